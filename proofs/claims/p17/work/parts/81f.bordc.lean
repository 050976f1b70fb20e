set_option maxRecDepth 20000 in
theorem c_has {d : Nat} {n : Nat} {hp : px_H} {W V : Nat} {le rc : Int32} {s : Int64} {x y : Int32} (hW : W ≤ 6) (hV : V ≤ 6) (ho : hp[34 + n]? = some (2, [.int (nI W), .int (nI V), .ref (35 + n), .ref (36 + n), .ref (37 + n), .int le, .int rc, .long s])) {b : Bool} (hb : x_T W V s x.toInt y.toInt = b) : px_Go d 37 (0, [(0, .ref (34 + n)), (1, .int x), (2, .int y)], [], hp) (.inl (some (.int (if b = true then 1 else 0))), hp) := by
  have e0 : (0 : Int32).toInt = 0 := rfl
  have wt : (nI W).toInt = W := nI_toInt (by omega)
  have vt : (nI V).toInt = V := nI_toInt (by omega)
  by_cases h1 : x < 0
  · rw [x_T_o (by rw [Int32.lt_iff_toInt_lt] at h1; omega)] at hb
    subst hb
    show px_Go d 37 (0, [(0, .ref (34 + n)), (1, .int x), (2, .int y)], [], hp) (.inl (some (.int 0)), hp)
    refine px_a 1 (f' := (1, [(0, .ref (34 + n)), (1, .int x), (2, .int y)], [.int x], hp)) rfl ?_
    refine px_b1 true 48 rfl rfl (decide_eq_true h1) ?_
    show px_Go _ _ (48, [(0, .ref (34 + n)), (1, .int x), (2, .int y)], [], hp) _
    refine px_a 1 (f' := (49, [(0, .ref (34 + n)), (1, .int x), (2, .int y)], [.int 0], hp)) rfl ?_
    exact px_ri rfl rfl rfl
  by_cases h2 : nI W ≤ x
  · rw [x_T_o (by rw [Int32.le_iff_toInt_le] at h2; omega)] at hb
    subst hb
    show px_Go d 37 (0, [(0, .ref (34 + n)), (1, .int x), (2, .int y)], [], hp) (.inl (some (.int 0)), hp)
    refine px_a 1 (f' := (1, [(0, .ref (34 + n)), (1, .int x), (2, .int y)], [.int x], hp)) rfl ?_
    refine px_b1 false 48 rfl rfl (decide_eq_false h1) ?_
    show px_Go _ _ (4, [(0, .ref (34 + n)), (1, .int x), (2, .int y)], [], hp) _
    refine px_a 2 (f' := (6, [(0, .ref (34 + n)), (1, .int x), (2, .int y)], [.ref (34 + n), .int x], hp)) rfl ?_
    refine px_gf (34 + n) 7 2 0 (.int (nI W)) rfl rfl ho rfl ?_
    show px_Go _ _ (9, [(0, .ref (34 + n)), (1, .int x), (2, .int y)], [.int (nI W), .int x], hp) _
    refine px_b2 true 48 rfl rfl (decide_eq_true h2) ?_
    show px_Go _ _ (48, [(0, .ref (34 + n)), (1, .int x), (2, .int y)], [], hp) _
    refine px_a 1 (f' := (49, [(0, .ref (34 + n)), (1, .int x), (2, .int y)], [.int 0], hp)) rfl ?_
    exact px_ri rfl rfl rfl
  by_cases h3 : y < 0
  · rw [x_T_o (by rw [Int32.lt_iff_toInt_lt] at h3; omega)] at hb
    subst hb
    show px_Go d 37 (0, [(0, .ref (34 + n)), (1, .int x), (2, .int y)], [], hp) (.inl (some (.int 0)), hp)
    refine px_a 1 (f' := (1, [(0, .ref (34 + n)), (1, .int x), (2, .int y)], [.int x], hp)) rfl ?_
    refine px_b1 false 48 rfl rfl (decide_eq_false h1) ?_
    show px_Go _ _ (4, [(0, .ref (34 + n)), (1, .int x), (2, .int y)], [], hp) _
    refine px_a 2 (f' := (6, [(0, .ref (34 + n)), (1, .int x), (2, .int y)], [.ref (34 + n), .int x], hp)) rfl ?_
    refine px_gf (34 + n) 7 2 0 (.int (nI W)) rfl rfl ho rfl ?_
    show px_Go _ _ (9, [(0, .ref (34 + n)), (1, .int x), (2, .int y)], [.int (nI W), .int x], hp) _
    refine px_b2 false 48 rfl rfl (decide_eq_false h2) ?_
    show px_Go _ _ (12, [(0, .ref (34 + n)), (1, .int x), (2, .int y)], [], hp) _
    refine px_a 1 (f' := (13, [(0, .ref (34 + n)), (1, .int x), (2, .int y)], [.int y], hp)) rfl ?_
    refine px_b1 true 48 rfl rfl (decide_eq_true h3) ?_
    show px_Go _ _ (48, [(0, .ref (34 + n)), (1, .int x), (2, .int y)], [], hp) _
    refine px_a 1 (f' := (49, [(0, .ref (34 + n)), (1, .int x), (2, .int y)], [.int 0], hp)) rfl ?_
    exact px_ri rfl rfl rfl
  by_cases h4 : nI V ≤ y
  · rw [x_T_o (by rw [Int32.le_iff_toInt_le] at h4; omega)] at hb
    subst hb
    show px_Go d 37 (0, [(0, .ref (34 + n)), (1, .int x), (2, .int y)], [], hp) (.inl (some (.int 0)), hp)
    refine px_a 1 (f' := (1, [(0, .ref (34 + n)), (1, .int x), (2, .int y)], [.int x], hp)) rfl ?_
    refine px_b1 false 48 rfl rfl (decide_eq_false h1) ?_
    show px_Go _ _ (4, [(0, .ref (34 + n)), (1, .int x), (2, .int y)], [], hp) _
    refine px_a 2 (f' := (6, [(0, .ref (34 + n)), (1, .int x), (2, .int y)], [.ref (34 + n), .int x], hp)) rfl ?_
    refine px_gf (34 + n) 7 2 0 (.int (nI W)) rfl rfl ho rfl ?_
    show px_Go _ _ (9, [(0, .ref (34 + n)), (1, .int x), (2, .int y)], [.int (nI W), .int x], hp) _
    refine px_b2 false 48 rfl rfl (decide_eq_false h2) ?_
    show px_Go _ _ (12, [(0, .ref (34 + n)), (1, .int x), (2, .int y)], [], hp) _
    refine px_a 1 (f' := (13, [(0, .ref (34 + n)), (1, .int x), (2, .int y)], [.int y], hp)) rfl ?_
    refine px_b1 false 48 rfl rfl (decide_eq_false h3) ?_
    show px_Go _ _ (16, [(0, .ref (34 + n)), (1, .int x), (2, .int y)], [], hp) _
    refine px_a 2 (f' := (18, [(0, .ref (34 + n)), (1, .int x), (2, .int y)], [.ref (34 + n), .int y], hp)) rfl ?_
    refine px_gf (34 + n) 13 2 1 (.int (nI V)) rfl rfl ho rfl ?_
    show px_Go _ _ (21, [(0, .ref (34 + n)), (1, .int x), (2, .int y)], [.int (nI V), .int y], hp) _
    refine px_b2 true 48 rfl rfl (decide_eq_true h4) ?_
    show px_Go _ _ (48, [(0, .ref (34 + n)), (1, .int x), (2, .int y)], [], hp) _
    refine px_a 1 (f' := (49, [(0, .ref (34 + n)), (1, .int x), (2, .int y)], [.int 0], hp)) rfl ?_
    exact px_ri rfl rfl rfl
  obtain ⟨X, Y, hX, hY, rfl, rfl, c1, h5, c2⟩ := px_cixc hW hV (x := x) (y := y) (fun z => z.elim h1 (fun z => z.elim h2 (fun z => z.elim h3 h4)))
  rw [x_T_i (c := W * Y + X) (by rw [nI_toInt (by omega), nI_toInt (by omega)]; omega) (by rw [nI_toInt (by omega), nI_toInt (by omega), ← Int.natCast_mul, ← Int.natCast_add]; rfl)] at hb
  cases b
  · show px_Go d 37 (0, [(0, .ref (34 + n)), (1, .int (nI X)), (2, .int (nI Y))], [], hp) (.inl (some (.int 0)), hp)
    refine px_a 1 (f' := (1, [(0, .ref (34 + n)), (1, .int (nI X)), (2, .int (nI Y))], [.int (nI X)], hp)) rfl ?_
    refine px_b1 false 48 rfl rfl (decide_eq_false h1) ?_
    show px_Go _ _ (4, [(0, .ref (34 + n)), (1, .int (nI X)), (2, .int (nI Y))], [], hp) _
    refine px_a 2 (f' := (6, [(0, .ref (34 + n)), (1, .int (nI X)), (2, .int (nI Y))], [.ref (34 + n), .int (nI X)], hp)) rfl ?_
    refine px_gf (34 + n) 7 2 0 (.int (nI W)) rfl rfl ho rfl ?_
    show px_Go _ _ (9, [(0, .ref (34 + n)), (1, .int (nI X)), (2, .int (nI Y))], [.int (nI W), .int (nI X)], hp) _
    refine px_b2 false 48 rfl rfl (decide_eq_false h2) ?_
    show px_Go _ _ (12, [(0, .ref (34 + n)), (1, .int (nI X)), (2, .int (nI Y))], [], hp) _
    refine px_a 1 (f' := (13, [(0, .ref (34 + n)), (1, .int (nI X)), (2, .int (nI Y))], [.int (nI Y)], hp)) rfl ?_
    refine px_b1 false 48 rfl rfl (decide_eq_false h3) ?_
    show px_Go _ _ (16, [(0, .ref (34 + n)), (1, .int (nI X)), (2, .int (nI Y))], [], hp) _
    refine px_a 2 (f' := (18, [(0, .ref (34 + n)), (1, .int (nI X)), (2, .int (nI Y))], [.ref (34 + n), .int (nI Y)], hp)) rfl ?_
    refine px_gf (34 + n) 13 2 1 (.int (nI V)) rfl rfl ho rfl ?_
    show px_Go _ _ (21, [(0, .ref (34 + n)), (1, .int (nI X)), (2, .int (nI Y))], [.int (nI V), .int (nI Y)], hp) _
    refine px_b2 false 48 rfl rfl (decide_eq_false h4) ?_
    show px_Go _ _ (24, [(0, .ref (34 + n)), (1, .int (nI X)), (2, .int (nI Y))], [], hp) _
    refine px_a 1 (f' := (25, [(0, .ref (34 + n)), (1, .int (nI X)), (2, .int (nI Y))], [.ref (34 + n)], hp)) rfl ?_
    refine px_gf (34 + n) 26 2 7 (.long s) rfl rfl ho rfl ?_
    show px_Go _ _ (28, [(0, .ref (34 + n)), (1, .int (nI X)), (2, .int (nI Y))], [.long s], hp) _
    refine px_a 1 (f' := (29, [(0, .ref (34 + n)), (1, .int (nI X)), (2, .int (nI Y))], [.ref (34 + n), .long s], hp)) rfl ?_
    refine px_gf (34 + n) 7 2 0 (.int (nI W)) rfl rfl ho rfl ?_
    show px_Go _ _ (32, [(0, .ref (34 + n)), (1, .int (nI X)), (2, .int (nI Y))], [.int (nI W), .long s], hp) _
    refine px_a 9 (f' := (41, [(0, .ref (34 + n)), (1, .int (nI X)), (2, .int (nI Y))], [.int (lg_cmp ((s >>> (Int32.toInt64 (((nI W) * (nI Y)) + (nI X)) &&& 63)) &&& 1) 0)], hp)) rfl ?_
    refine px_b1 true 48 rfl rfl (decide_eq_true (x_cmp0.mpr (by rw [h5]; exact (x_bit (by omega) s).mpr hb))) ?_
    show px_Go _ _ (48, [(0, .ref (34 + n)), (1, .int (nI X)), (2, .int (nI Y))], [], hp) _
    refine px_a 1 (f' := (49, [(0, .ref (34 + n)), (1, .int (nI X)), (2, .int (nI Y))], [.int 0], hp)) rfl ?_
    exact px_ri rfl rfl rfl
  · show px_Go d 37 (0, [(0, .ref (34 + n)), (1, .int (nI X)), (2, .int (nI Y))], [], hp) (.inl (some (.int 1)), hp)
    refine px_a 1 (f' := (1, [(0, .ref (34 + n)), (1, .int (nI X)), (2, .int (nI Y))], [.int (nI X)], hp)) rfl ?_
    refine px_b1 false 48 rfl rfl (decide_eq_false h1) ?_
    show px_Go _ _ (4, [(0, .ref (34 + n)), (1, .int (nI X)), (2, .int (nI Y))], [], hp) _
    refine px_a 2 (f' := (6, [(0, .ref (34 + n)), (1, .int (nI X)), (2, .int (nI Y))], [.ref (34 + n), .int (nI X)], hp)) rfl ?_
    refine px_gf (34 + n) 7 2 0 (.int (nI W)) rfl rfl ho rfl ?_
    show px_Go _ _ (9, [(0, .ref (34 + n)), (1, .int (nI X)), (2, .int (nI Y))], [.int (nI W), .int (nI X)], hp) _
    refine px_b2 false 48 rfl rfl (decide_eq_false h2) ?_
    show px_Go _ _ (12, [(0, .ref (34 + n)), (1, .int (nI X)), (2, .int (nI Y))], [], hp) _
    refine px_a 1 (f' := (13, [(0, .ref (34 + n)), (1, .int (nI X)), (2, .int (nI Y))], [.int (nI Y)], hp)) rfl ?_
    refine px_b1 false 48 rfl rfl (decide_eq_false h3) ?_
    show px_Go _ _ (16, [(0, .ref (34 + n)), (1, .int (nI X)), (2, .int (nI Y))], [], hp) _
    refine px_a 2 (f' := (18, [(0, .ref (34 + n)), (1, .int (nI X)), (2, .int (nI Y))], [.ref (34 + n), .int (nI Y)], hp)) rfl ?_
    refine px_gf (34 + n) 13 2 1 (.int (nI V)) rfl rfl ho rfl ?_
    show px_Go _ _ (21, [(0, .ref (34 + n)), (1, .int (nI X)), (2, .int (nI Y))], [.int (nI V), .int (nI Y)], hp) _
    refine px_b2 false 48 rfl rfl (decide_eq_false h4) ?_
    show px_Go _ _ (24, [(0, .ref (34 + n)), (1, .int (nI X)), (2, .int (nI Y))], [], hp) _
    refine px_a 1 (f' := (25, [(0, .ref (34 + n)), (1, .int (nI X)), (2, .int (nI Y))], [.ref (34 + n)], hp)) rfl ?_
    refine px_gf (34 + n) 26 2 7 (.long s) rfl rfl ho rfl ?_
    show px_Go _ _ (28, [(0, .ref (34 + n)), (1, .int (nI X)), (2, .int (nI Y))], [.long s], hp) _
    refine px_a 1 (f' := (29, [(0, .ref (34 + n)), (1, .int (nI X)), (2, .int (nI Y))], [.ref (34 + n), .long s], hp)) rfl ?_
    refine px_gf (34 + n) 7 2 0 (.int (nI W)) rfl rfl ho rfl ?_
    show px_Go _ _ (32, [(0, .ref (34 + n)), (1, .int (nI X)), (2, .int (nI Y))], [.int (nI W), .long s], hp) _
    refine px_a 9 (f' := (41, [(0, .ref (34 + n)), (1, .int (nI X)), (2, .int (nI Y))], [.int (lg_cmp ((s >>> (Int32.toInt64 (((nI W) * (nI Y)) + (nI X)) &&& 63)) &&& 1) 0)], hp)) rfl ?_
    refine px_b1 false 48 rfl rfl (decide_eq_false (fun z => by have z2 := x_cmp0.mp z; rw [h5] at z2; have := (x_bit (by omega) s).mp z2; rw [hb] at this; cases this)) ?_
    show px_Go _ _ (44, [(0, .ref (34 + n)), (1, .int (nI X)), (2, .int (nI Y))], [], hp) _
    refine px_a 2 (f' := (49, [(0, .ref (34 + n)), (1, .int (nI X)), (2, .int (nI Y))], [.int 1], hp)) rfl ?_
    exact px_ri rfl rfl rfl
def c_St (hp : px_H) : Prop := ∀ k, k < 6 → hp[k + 1]? = some (px_sarr (k + 1))
theorem c_St_set {hp : px_H} {a : Nat} {c : px_C} (h : c_St hp) (ha : 8 ≤ a) : c_St (hp.set a c) := by
  intro k hk
  rw [List.getElem?_set_ne (by omega)]
  exact h k hk
set_option maxRecDepth 20000 in
theorem c_mg_0 {d : Nat} {n : Nat} {hp : px_H} {W V : Nat} {le rc : Int32} {s : Int64} {x y : Int32} (hW : W ≤ 6) (hV : V ≤ 6) (ho : hp[34 + n]? = some (2, [.int (nI W), .int (nI V), .ref (35 + n), .ref (36 + n), .ref (37 + n), .int le, .int rc, .long s])) (hs : c_St hp) (x1 : -9 ≤ x.toInt) (x2 : x.toInt ≤ 9) (y1 : -9 ≤ y.toInt) (y2 : y.toInt ≤ 9) {b : Bool} (hb : m_sd (x_T W V s) x.toInt y.toInt 0 = b) : px_Go (d + 1) 39 (0, [(0, .ref (34 + n)), (1, .int x), (2, .int y), (3, .int 0)], [], hp) (.inl (some (.int (if b = true then 1 else 0))), hp) := by
  have hs1 : hp[(1 : Nat)]? = some (20, [.int 1, .int 0, .int (-1), .int 0]) := hs 0 (by decide)
  have hs2 : hp[(2 : Nat)]? = some (20, [.int 0, .int 1, .int 0, .int (-1)]) := hs 1 (by decide)
  have hs3 : hp[(3 : Nat)]? = some (20, [.int 0, .int (-1), .int (-1), .int 0]) := hs 2 (by decide)
  have hs4 : hp[(4 : Nat)]? = some (20, [.int 0, .int 0, .int (-1), .int (-1)]) := hs 3 (by decide)
  have hs5 : hp[(5 : Nat)]? = some (20, [.int 0, .int 0, .int (-1), .int (-1)]) := hs 4 (by decide)
  have hs6 : hp[(6 : Nat)]? = some (20, [.int (-1), .int 0, .int 0, .int (-1)]) := hs 5 (by decide)
  have er1 : (x + 0).toInt = x.toInt := by
    have e1 : Int32.toInt 0 = 0 := rfl
    rw [i32_add (by omega) (by omega), e1]; omega
  have er2 : (y + 0).toInt = y.toInt := by
    have e1 : Int32.toInt 0 = 0 := rfl
    rw [i32_add (by omega) (by omega), e1]; omega
  have el1 : (x + 0).toInt = x.toInt := by
    have e1 : Int32.toInt 0 = 0 := rfl
    rw [i32_add (by omega) (by omega), e1]; omega
  have el2 : (y + (-1)).toInt = (y.toInt - 1) := by
    have e1 : Int32.toInt (-1) = -1 := rfl
    rw [i32_add (by omega) (by omega), e1]; omega
  rcases Bool.eq_false_or_eq_true (x_T W V s x.toInt y.toInt) with g1 | g1
  · have hr : x_T W V s (x + 0).toInt (y + 0).toInt = true := by rw [er1, er2]; exact g1
    rcases Bool.eq_false_or_eq_true (x_T W V s x.toInt (y.toInt - 1)) with g2 | g2
    · have hl : x_T W V s (x + 0).toInt (y + (-1)).toInt = true := by rw [el1, el2]; exact g2
      obtain rfl : b = false := by rw [← hb]; unfold m_sd; rw [g1, g2]; rfl
      show px_Go (d + 1) 39 (0, [(0, .ref (34 + n)), (1, .int x), (2, .int y), (3, .int 0)], [], hp) (.inl (some (.int 0)), hp)
      refine px_a 4 (f' := (6, [(0, .ref (34 + n)), (1, .int x), (2, .int y), (3, .int 0)], [.int 0, .ref 3, .int x, .ref (34 + n)], hp)) rfl ?_
      refine px_al 3 (.int 0) rfl hs3 (Or.inl ⟨rfl, Or.inr rfl⟩) (by decide) (rfl) ?_
      show px_Go _ _ (7, [(0, .ref (34 + n)), (1, .int x), (2, .int y), (3, .int 0)], [.int 0, .int x, .ref (34 + n)], hp) _
      refine px_a 4 (f' := (13, [(0, .ref (34 + n)), (1, .int x), (2, .int y), (3, .int 0)], [.int 0, .ref 4, .int y, .int (x + 0), .ref (34 + n)], hp)) rfl ?_
      refine px_al 4 (.int 0) rfl hs4 (Or.inl ⟨rfl, Or.inr rfl⟩) (by decide) (rfl) ?_
      show px_Go _ _ (14, [(0, .ref (34 + n)), (1, .int x), (2, .int y), (3, .int 0)], [.int 0, .int y, .int (x + 0), .ref (34 + n)], hp) _
      refine px_a 1 (f' := (15, [(0, .ref (34 + n)), (1, .int x), (2, .int y), (3, .int 0)], [.int (y + 0), .int (x + 0), .ref (34 + n)], hp)) rfl ?_
      refine px_cv (34 + n) (as := [.int (x + 0), .int (y + 0)]) (rest := []) rfl rfl ho rfl rfl rfl rfl (Nat.le_of_ble_eq_true rfl) (c_has hW hV ho hr) ?_
      show px_Go _ _ (18, [(0, .ref (34 + n)), (1, .int x), (2, .int y), (3, .int 0)], [.int 1], hp) _
      refine px_a 5 (f' := (27, [(0, .ref (34 + n)), (1, .int x), (2, .int y), (3, .int 0)], [.int 0, .ref 5, .int x, .ref (34 + n)], hp)) rfl ?_
      refine px_al 5 (.int 0) rfl hs5 (Or.inl ⟨rfl, Or.inr rfl⟩) (by decide) (rfl) ?_
      show px_Go _ _ (28, [(0, .ref (34 + n)), (1, .int x), (2, .int y), (3, .int 0)], [.int 0, .int x, .ref (34 + n)], hp) _
      refine px_a 4 (f' := (34, [(0, .ref (34 + n)), (1, .int x), (2, .int y), (3, .int 0)], [.int 0, .ref 6, .int y, .int (x + 0), .ref (34 + n)], hp)) rfl ?_
      refine px_al 6 (.int (-1)) rfl hs6 (Or.inl ⟨rfl, Or.inr rfl⟩) (by decide) (rfl) ?_
      show px_Go _ _ (35, [(0, .ref (34 + n)), (1, .int x), (2, .int y), (3, .int 0)], [.int (-1), .int y, .int (x + 0), .ref (34 + n)], hp) _
      refine px_a 1 (f' := (36, [(0, .ref (34 + n)), (1, .int x), (2, .int y), (3, .int 0)], [.int (y + (-1)), .int (x + 0), .ref (34 + n)], hp)) rfl ?_
      refine px_cv (34 + n) (as := [.int (x + 0), .int (y + (-1))]) (rest := []) rfl rfl ho rfl rfl rfl rfl (Nat.le_of_ble_eq_true rfl) (c_has hW hV ho hl) ?_
      show px_Go _ _ (39, [(0, .ref (34 + n)), (1, .int x), (2, .int y), (3, .int 0)], [.int 1], hp) _
      refine px_a 2 (f' := (47, [(0, .ref (34 + n)), (1, .int x), (2, .int y), (3, .int 0)], [.int 0], hp)) rfl ?_
      exact px_ri rfl rfl rfl
    · have hl : x_T W V s (x + 0).toInt (y + (-1)).toInt = false := by rw [el1, el2]; exact g2
      obtain rfl : b = true := by rw [← hb]; unfold m_sd; rw [g1, g2]; rfl
      show px_Go (d + 1) 39 (0, [(0, .ref (34 + n)), (1, .int x), (2, .int y), (3, .int 0)], [], hp) (.inl (some (.int 1)), hp)
      refine px_a 4 (f' := (6, [(0, .ref (34 + n)), (1, .int x), (2, .int y), (3, .int 0)], [.int 0, .ref 3, .int x, .ref (34 + n)], hp)) rfl ?_
      refine px_al 3 (.int 0) rfl hs3 (Or.inl ⟨rfl, Or.inr rfl⟩) (by decide) (rfl) ?_
      show px_Go _ _ (7, [(0, .ref (34 + n)), (1, .int x), (2, .int y), (3, .int 0)], [.int 0, .int x, .ref (34 + n)], hp) _
      refine px_a 4 (f' := (13, [(0, .ref (34 + n)), (1, .int x), (2, .int y), (3, .int 0)], [.int 0, .ref 4, .int y, .int (x + 0), .ref (34 + n)], hp)) rfl ?_
      refine px_al 4 (.int 0) rfl hs4 (Or.inl ⟨rfl, Or.inr rfl⟩) (by decide) (rfl) ?_
      show px_Go _ _ (14, [(0, .ref (34 + n)), (1, .int x), (2, .int y), (3, .int 0)], [.int 0, .int y, .int (x + 0), .ref (34 + n)], hp) _
      refine px_a 1 (f' := (15, [(0, .ref (34 + n)), (1, .int x), (2, .int y), (3, .int 0)], [.int (y + 0), .int (x + 0), .ref (34 + n)], hp)) rfl ?_
      refine px_cv (34 + n) (as := [.int (x + 0), .int (y + 0)]) (rest := []) rfl rfl ho rfl rfl rfl rfl (Nat.le_of_ble_eq_true rfl) (c_has hW hV ho hr) ?_
      show px_Go _ _ (18, [(0, .ref (34 + n)), (1, .int x), (2, .int y), (3, .int 0)], [.int 1], hp) _
      refine px_a 5 (f' := (27, [(0, .ref (34 + n)), (1, .int x), (2, .int y), (3, .int 0)], [.int 0, .ref 5, .int x, .ref (34 + n)], hp)) rfl ?_
      refine px_al 5 (.int 0) rfl hs5 (Or.inl ⟨rfl, Or.inr rfl⟩) (by decide) (rfl) ?_
      show px_Go _ _ (28, [(0, .ref (34 + n)), (1, .int x), (2, .int y), (3, .int 0)], [.int 0, .int x, .ref (34 + n)], hp) _
      refine px_a 4 (f' := (34, [(0, .ref (34 + n)), (1, .int x), (2, .int y), (3, .int 0)], [.int 0, .ref 6, .int y, .int (x + 0), .ref (34 + n)], hp)) rfl ?_
      refine px_al 6 (.int (-1)) rfl hs6 (Or.inl ⟨rfl, Or.inr rfl⟩) (by decide) (rfl) ?_
      show px_Go _ _ (35, [(0, .ref (34 + n)), (1, .int x), (2, .int y), (3, .int 0)], [.int (-1), .int y, .int (x + 0), .ref (34 + n)], hp) _
      refine px_a 1 (f' := (36, [(0, .ref (34 + n)), (1, .int x), (2, .int y), (3, .int 0)], [.int (y + (-1)), .int (x + 0), .ref (34 + n)], hp)) rfl ?_
      refine px_cv (34 + n) (as := [.int (x + 0), .int (y + (-1))]) (rest := []) rfl rfl ho rfl rfl rfl rfl (Nat.le_of_ble_eq_true rfl) (c_has hW hV ho hl) ?_
      show px_Go _ _ (39, [(0, .ref (34 + n)), (1, .int x), (2, .int y), (3, .int 0)], [.int 0], hp) _
      refine px_a 3 (f' := (47, [(0, .ref (34 + n)), (1, .int x), (2, .int y), (3, .int 0)], [.int 1], hp)) rfl ?_
      exact px_ri rfl rfl rfl
  · have hr : x_T W V s (x + 0).toInt (y + 0).toInt = false := by rw [er1, er2]; exact g1
    obtain rfl : b = false := by rw [← hb]; unfold m_sd; rw [g1]; rfl
    show px_Go (d + 1) 39 (0, [(0, .ref (34 + n)), (1, .int x), (2, .int y), (3, .int 0)], [], hp) (.inl (some (.int 0)), hp)
    refine px_a 4 (f' := (6, [(0, .ref (34 + n)), (1, .int x), (2, .int y), (3, .int 0)], [.int 0, .ref 3, .int x, .ref (34 + n)], hp)) rfl ?_
    refine px_al 3 (.int 0) rfl hs3 (Or.inl ⟨rfl, Or.inr rfl⟩) (by decide) (rfl) ?_
    show px_Go _ _ (7, [(0, .ref (34 + n)), (1, .int x), (2, .int y), (3, .int 0)], [.int 0, .int x, .ref (34 + n)], hp) _
    refine px_a 4 (f' := (13, [(0, .ref (34 + n)), (1, .int x), (2, .int y), (3, .int 0)], [.int 0, .ref 4, .int y, .int (x + 0), .ref (34 + n)], hp)) rfl ?_
    refine px_al 4 (.int 0) rfl hs4 (Or.inl ⟨rfl, Or.inr rfl⟩) (by decide) (rfl) ?_
    show px_Go _ _ (14, [(0, .ref (34 + n)), (1, .int x), (2, .int y), (3, .int 0)], [.int 0, .int y, .int (x + 0), .ref (34 + n)], hp) _
    refine px_a 1 (f' := (15, [(0, .ref (34 + n)), (1, .int x), (2, .int y), (3, .int 0)], [.int (y + 0), .int (x + 0), .ref (34 + n)], hp)) rfl ?_
    refine px_cv (34 + n) (as := [.int (x + 0), .int (y + 0)]) (rest := []) rfl rfl ho rfl rfl rfl rfl (Nat.le_of_ble_eq_true rfl) (c_has hW hV ho hr) ?_
    show px_Go _ _ (18, [(0, .ref (34 + n)), (1, .int x), (2, .int y), (3, .int 0)], [.int 0], hp) _
    refine px_a 2 (f' := (47, [(0, .ref (34 + n)), (1, .int x), (2, .int y), (3, .int 0)], [.int 0], hp)) rfl ?_
    exact px_ri rfl rfl rfl
set_option maxRecDepth 20000 in
theorem c_mg_1 {d : Nat} {n : Nat} {hp : px_H} {W V : Nat} {le rc : Int32} {s : Int64} {x y : Int32} (hW : W ≤ 6) (hV : V ≤ 6) (ho : hp[34 + n]? = some (2, [.int (nI W), .int (nI V), .ref (35 + n), .ref (36 + n), .ref (37 + n), .int le, .int rc, .long s])) (hs : c_St hp) (x1 : -9 ≤ x.toInt) (x2 : x.toInt ≤ 9) (y1 : -9 ≤ y.toInt) (y2 : y.toInt ≤ 9) {b : Bool} (hb : m_sd (x_T W V s) x.toInt y.toInt 1 = b) : px_Go (d + 1) 39 (0, [(0, .ref (34 + n)), (1, .int x), (2, .int y), (3, .int 1)], [], hp) (.inl (some (.int (if b = true then 1 else 0))), hp) := by
  have hs1 : hp[(1 : Nat)]? = some (20, [.int 1, .int 0, .int (-1), .int 0]) := hs 0 (by decide)
  have hs2 : hp[(2 : Nat)]? = some (20, [.int 0, .int 1, .int 0, .int (-1)]) := hs 1 (by decide)
  have hs3 : hp[(3 : Nat)]? = some (20, [.int 0, .int (-1), .int (-1), .int 0]) := hs 2 (by decide)
  have hs4 : hp[(4 : Nat)]? = some (20, [.int 0, .int 0, .int (-1), .int (-1)]) := hs 3 (by decide)
  have hs5 : hp[(5 : Nat)]? = some (20, [.int 0, .int 0, .int (-1), .int (-1)]) := hs 4 (by decide)
  have hs6 : hp[(6 : Nat)]? = some (20, [.int (-1), .int 0, .int 0, .int (-1)]) := hs 5 (by decide)
  have er1 : (x + (-1)).toInt = (x.toInt - 1) := by
    have e1 : Int32.toInt (-1) = -1 := rfl
    rw [i32_add (by omega) (by omega), e1]; omega
  have er2 : (y + 0).toInt = y.toInt := by
    have e1 : Int32.toInt 0 = 0 := rfl
    rw [i32_add (by omega) (by omega), e1]; omega
  have el1 : (x + 0).toInt = x.toInt := by
    have e1 : Int32.toInt 0 = 0 := rfl
    rw [i32_add (by omega) (by omega), e1]; omega
  have el2 : (y + 0).toInt = y.toInt := by
    have e1 : Int32.toInt 0 = 0 := rfl
    rw [i32_add (by omega) (by omega), e1]; omega
  rcases Bool.eq_false_or_eq_true (x_T W V s (x.toInt - 1) y.toInt) with g1 | g1
  · have hr : x_T W V s (x + (-1)).toInt (y + 0).toInt = true := by rw [er1, er2]; exact g1
    rcases Bool.eq_false_or_eq_true (x_T W V s x.toInt y.toInt) with g2 | g2
    · have hl : x_T W V s (x + 0).toInt (y + 0).toInt = true := by rw [el1, el2]; exact g2
      obtain rfl : b = false := by rw [← hb]; unfold m_sd; rw [g1, g2]; rfl
      show px_Go (d + 1) 39 (0, [(0, .ref (34 + n)), (1, .int x), (2, .int y), (3, .int 1)], [], hp) (.inl (some (.int 0)), hp)
      refine px_a 4 (f' := (6, [(0, .ref (34 + n)), (1, .int x), (2, .int y), (3, .int 1)], [.int 1, .ref 3, .int x, .ref (34 + n)], hp)) rfl ?_
      refine px_al 3 (.int (-1)) rfl hs3 (Or.inl ⟨rfl, Or.inr rfl⟩) (by decide) (rfl) ?_
      show px_Go _ _ (7, [(0, .ref (34 + n)), (1, .int x), (2, .int y), (3, .int 1)], [.int (-1), .int x, .ref (34 + n)], hp) _
      refine px_a 4 (f' := (13, [(0, .ref (34 + n)), (1, .int x), (2, .int y), (3, .int 1)], [.int 1, .ref 4, .int y, .int (x + (-1)), .ref (34 + n)], hp)) rfl ?_
      refine px_al 4 (.int 0) rfl hs4 (Or.inl ⟨rfl, Or.inr rfl⟩) (by decide) (rfl) ?_
      show px_Go _ _ (14, [(0, .ref (34 + n)), (1, .int x), (2, .int y), (3, .int 1)], [.int 0, .int y, .int (x + (-1)), .ref (34 + n)], hp) _
      refine px_a 1 (f' := (15, [(0, .ref (34 + n)), (1, .int x), (2, .int y), (3, .int 1)], [.int (y + 0), .int (x + (-1)), .ref (34 + n)], hp)) rfl ?_
      refine px_cv (34 + n) (as := [.int (x + (-1)), .int (y + 0)]) (rest := []) rfl rfl ho rfl rfl rfl rfl (Nat.le_of_ble_eq_true rfl) (c_has hW hV ho hr) ?_
      show px_Go _ _ (18, [(0, .ref (34 + n)), (1, .int x), (2, .int y), (3, .int 1)], [.int 1], hp) _
      refine px_a 5 (f' := (27, [(0, .ref (34 + n)), (1, .int x), (2, .int y), (3, .int 1)], [.int 1, .ref 5, .int x, .ref (34 + n)], hp)) rfl ?_
      refine px_al 5 (.int 0) rfl hs5 (Or.inl ⟨rfl, Or.inr rfl⟩) (by decide) (rfl) ?_
      show px_Go _ _ (28, [(0, .ref (34 + n)), (1, .int x), (2, .int y), (3, .int 1)], [.int 0, .int x, .ref (34 + n)], hp) _
      refine px_a 4 (f' := (34, [(0, .ref (34 + n)), (1, .int x), (2, .int y), (3, .int 1)], [.int 1, .ref 6, .int y, .int (x + 0), .ref (34 + n)], hp)) rfl ?_
      refine px_al 6 (.int 0) rfl hs6 (Or.inl ⟨rfl, Or.inr rfl⟩) (by decide) (rfl) ?_
      show px_Go _ _ (35, [(0, .ref (34 + n)), (1, .int x), (2, .int y), (3, .int 1)], [.int 0, .int y, .int (x + 0), .ref (34 + n)], hp) _
      refine px_a 1 (f' := (36, [(0, .ref (34 + n)), (1, .int x), (2, .int y), (3, .int 1)], [.int (y + 0), .int (x + 0), .ref (34 + n)], hp)) rfl ?_
      refine px_cv (34 + n) (as := [.int (x + 0), .int (y + 0)]) (rest := []) rfl rfl ho rfl rfl rfl rfl (Nat.le_of_ble_eq_true rfl) (c_has hW hV ho hl) ?_
      show px_Go _ _ (39, [(0, .ref (34 + n)), (1, .int x), (2, .int y), (3, .int 1)], [.int 1], hp) _
      refine px_a 2 (f' := (47, [(0, .ref (34 + n)), (1, .int x), (2, .int y), (3, .int 1)], [.int 0], hp)) rfl ?_
      exact px_ri rfl rfl rfl
    · have hl : x_T W V s (x + 0).toInt (y + 0).toInt = false := by rw [el1, el2]; exact g2
      obtain rfl : b = true := by rw [← hb]; unfold m_sd; rw [g1, g2]; rfl
      show px_Go (d + 1) 39 (0, [(0, .ref (34 + n)), (1, .int x), (2, .int y), (3, .int 1)], [], hp) (.inl (some (.int 1)), hp)
      refine px_a 4 (f' := (6, [(0, .ref (34 + n)), (1, .int x), (2, .int y), (3, .int 1)], [.int 1, .ref 3, .int x, .ref (34 + n)], hp)) rfl ?_
      refine px_al 3 (.int (-1)) rfl hs3 (Or.inl ⟨rfl, Or.inr rfl⟩) (by decide) (rfl) ?_
      show px_Go _ _ (7, [(0, .ref (34 + n)), (1, .int x), (2, .int y), (3, .int 1)], [.int (-1), .int x, .ref (34 + n)], hp) _
      refine px_a 4 (f' := (13, [(0, .ref (34 + n)), (1, .int x), (2, .int y), (3, .int 1)], [.int 1, .ref 4, .int y, .int (x + (-1)), .ref (34 + n)], hp)) rfl ?_
      refine px_al 4 (.int 0) rfl hs4 (Or.inl ⟨rfl, Or.inr rfl⟩) (by decide) (rfl) ?_
      show px_Go _ _ (14, [(0, .ref (34 + n)), (1, .int x), (2, .int y), (3, .int 1)], [.int 0, .int y, .int (x + (-1)), .ref (34 + n)], hp) _
      refine px_a 1 (f' := (15, [(0, .ref (34 + n)), (1, .int x), (2, .int y), (3, .int 1)], [.int (y + 0), .int (x + (-1)), .ref (34 + n)], hp)) rfl ?_
      refine px_cv (34 + n) (as := [.int (x + (-1)), .int (y + 0)]) (rest := []) rfl rfl ho rfl rfl rfl rfl (Nat.le_of_ble_eq_true rfl) (c_has hW hV ho hr) ?_
      show px_Go _ _ (18, [(0, .ref (34 + n)), (1, .int x), (2, .int y), (3, .int 1)], [.int 1], hp) _
      refine px_a 5 (f' := (27, [(0, .ref (34 + n)), (1, .int x), (2, .int y), (3, .int 1)], [.int 1, .ref 5, .int x, .ref (34 + n)], hp)) rfl ?_
      refine px_al 5 (.int 0) rfl hs5 (Or.inl ⟨rfl, Or.inr rfl⟩) (by decide) (rfl) ?_
      show px_Go _ _ (28, [(0, .ref (34 + n)), (1, .int x), (2, .int y), (3, .int 1)], [.int 0, .int x, .ref (34 + n)], hp) _
      refine px_a 4 (f' := (34, [(0, .ref (34 + n)), (1, .int x), (2, .int y), (3, .int 1)], [.int 1, .ref 6, .int y, .int (x + 0), .ref (34 + n)], hp)) rfl ?_
      refine px_al 6 (.int 0) rfl hs6 (Or.inl ⟨rfl, Or.inr rfl⟩) (by decide) (rfl) ?_
      show px_Go _ _ (35, [(0, .ref (34 + n)), (1, .int x), (2, .int y), (3, .int 1)], [.int 0, .int y, .int (x + 0), .ref (34 + n)], hp) _
      refine px_a 1 (f' := (36, [(0, .ref (34 + n)), (1, .int x), (2, .int y), (3, .int 1)], [.int (y + 0), .int (x + 0), .ref (34 + n)], hp)) rfl ?_
      refine px_cv (34 + n) (as := [.int (x + 0), .int (y + 0)]) (rest := []) rfl rfl ho rfl rfl rfl rfl (Nat.le_of_ble_eq_true rfl) (c_has hW hV ho hl) ?_
      show px_Go _ _ (39, [(0, .ref (34 + n)), (1, .int x), (2, .int y), (3, .int 1)], [.int 0], hp) _
      refine px_a 3 (f' := (47, [(0, .ref (34 + n)), (1, .int x), (2, .int y), (3, .int 1)], [.int 1], hp)) rfl ?_
      exact px_ri rfl rfl rfl
  · have hr : x_T W V s (x + (-1)).toInt (y + 0).toInt = false := by rw [er1, er2]; exact g1
    obtain rfl : b = false := by rw [← hb]; unfold m_sd; rw [g1]; rfl
    show px_Go (d + 1) 39 (0, [(0, .ref (34 + n)), (1, .int x), (2, .int y), (3, .int 1)], [], hp) (.inl (some (.int 0)), hp)
    refine px_a 4 (f' := (6, [(0, .ref (34 + n)), (1, .int x), (2, .int y), (3, .int 1)], [.int 1, .ref 3, .int x, .ref (34 + n)], hp)) rfl ?_
    refine px_al 3 (.int (-1)) rfl hs3 (Or.inl ⟨rfl, Or.inr rfl⟩) (by decide) (rfl) ?_
    show px_Go _ _ (7, [(0, .ref (34 + n)), (1, .int x), (2, .int y), (3, .int 1)], [.int (-1), .int x, .ref (34 + n)], hp) _
    refine px_a 4 (f' := (13, [(0, .ref (34 + n)), (1, .int x), (2, .int y), (3, .int 1)], [.int 1, .ref 4, .int y, .int (x + (-1)), .ref (34 + n)], hp)) rfl ?_
    refine px_al 4 (.int 0) rfl hs4 (Or.inl ⟨rfl, Or.inr rfl⟩) (by decide) (rfl) ?_
    show px_Go _ _ (14, [(0, .ref (34 + n)), (1, .int x), (2, .int y), (3, .int 1)], [.int 0, .int y, .int (x + (-1)), .ref (34 + n)], hp) _
    refine px_a 1 (f' := (15, [(0, .ref (34 + n)), (1, .int x), (2, .int y), (3, .int 1)], [.int (y + 0), .int (x + (-1)), .ref (34 + n)], hp)) rfl ?_
    refine px_cv (34 + n) (as := [.int (x + (-1)), .int (y + 0)]) (rest := []) rfl rfl ho rfl rfl rfl rfl (Nat.le_of_ble_eq_true rfl) (c_has hW hV ho hr) ?_
    show px_Go _ _ (18, [(0, .ref (34 + n)), (1, .int x), (2, .int y), (3, .int 1)], [.int 0], hp) _
    refine px_a 2 (f' := (47, [(0, .ref (34 + n)), (1, .int x), (2, .int y), (3, .int 1)], [.int 0], hp)) rfl ?_
    exact px_ri rfl rfl rfl
set_option maxRecDepth 20000 in
theorem c_mg_2 {d : Nat} {n : Nat} {hp : px_H} {W V : Nat} {le rc : Int32} {s : Int64} {x y : Int32} (hW : W ≤ 6) (hV : V ≤ 6) (ho : hp[34 + n]? = some (2, [.int (nI W), .int (nI V), .ref (35 + n), .ref (36 + n), .ref (37 + n), .int le, .int rc, .long s])) (hs : c_St hp) (x1 : -9 ≤ x.toInt) (x2 : x.toInt ≤ 9) (y1 : -9 ≤ y.toInt) (y2 : y.toInt ≤ 9) {b : Bool} (hb : m_sd (x_T W V s) x.toInt y.toInt 2 = b) : px_Go (d + 1) 39 (0, [(0, .ref (34 + n)), (1, .int x), (2, .int y), (3, .int 2)], [], hp) (.inl (some (.int (if b = true then 1 else 0))), hp) := by
  have hs1 : hp[(1 : Nat)]? = some (20, [.int 1, .int 0, .int (-1), .int 0]) := hs 0 (by decide)
  have hs2 : hp[(2 : Nat)]? = some (20, [.int 0, .int 1, .int 0, .int (-1)]) := hs 1 (by decide)
  have hs3 : hp[(3 : Nat)]? = some (20, [.int 0, .int (-1), .int (-1), .int 0]) := hs 2 (by decide)
  have hs4 : hp[(4 : Nat)]? = some (20, [.int 0, .int 0, .int (-1), .int (-1)]) := hs 3 (by decide)
  have hs5 : hp[(5 : Nat)]? = some (20, [.int 0, .int 0, .int (-1), .int (-1)]) := hs 4 (by decide)
  have hs6 : hp[(6 : Nat)]? = some (20, [.int (-1), .int 0, .int 0, .int (-1)]) := hs 5 (by decide)
  have er1 : (x + (-1)).toInt = (x.toInt - 1) := by
    have e1 : Int32.toInt (-1) = -1 := rfl
    rw [i32_add (by omega) (by omega), e1]; omega
  have er2 : (y + (-1)).toInt = (y.toInt - 1) := by
    have e1 : Int32.toInt (-1) = -1 := rfl
    rw [i32_add (by omega) (by omega), e1]; omega
  have el1 : (x + (-1)).toInt = (x.toInt - 1) := by
    have e1 : Int32.toInt (-1) = -1 := rfl
    rw [i32_add (by omega) (by omega), e1]; omega
  have el2 : (y + 0).toInt = y.toInt := by
    have e1 : Int32.toInt 0 = 0 := rfl
    rw [i32_add (by omega) (by omega), e1]; omega
  rcases Bool.eq_false_or_eq_true (x_T W V s (x.toInt - 1) (y.toInt - 1)) with g1 | g1
  · have hr : x_T W V s (x + (-1)).toInt (y + (-1)).toInt = true := by rw [er1, er2]; exact g1
    rcases Bool.eq_false_or_eq_true (x_T W V s (x.toInt - 1) y.toInt) with g2 | g2
    · have hl : x_T W V s (x + (-1)).toInt (y + 0).toInt = true := by rw [el1, el2]; exact g2
      obtain rfl : b = false := by rw [← hb]; unfold m_sd; rw [g1, g2]; rfl
      show px_Go (d + 1) 39 (0, [(0, .ref (34 + n)), (1, .int x), (2, .int y), (3, .int 2)], [], hp) (.inl (some (.int 0)), hp)
      refine px_a 4 (f' := (6, [(0, .ref (34 + n)), (1, .int x), (2, .int y), (3, .int 2)], [.int 2, .ref 3, .int x, .ref (34 + n)], hp)) rfl ?_
      refine px_al 3 (.int (-1)) rfl hs3 (Or.inl ⟨rfl, Or.inr rfl⟩) (by decide) (rfl) ?_
      show px_Go _ _ (7, [(0, .ref (34 + n)), (1, .int x), (2, .int y), (3, .int 2)], [.int (-1), .int x, .ref (34 + n)], hp) _
      refine px_a 4 (f' := (13, [(0, .ref (34 + n)), (1, .int x), (2, .int y), (3, .int 2)], [.int 2, .ref 4, .int y, .int (x + (-1)), .ref (34 + n)], hp)) rfl ?_
      refine px_al 4 (.int (-1)) rfl hs4 (Or.inl ⟨rfl, Or.inr rfl⟩) (by decide) (rfl) ?_
      show px_Go _ _ (14, [(0, .ref (34 + n)), (1, .int x), (2, .int y), (3, .int 2)], [.int (-1), .int y, .int (x + (-1)), .ref (34 + n)], hp) _
      refine px_a 1 (f' := (15, [(0, .ref (34 + n)), (1, .int x), (2, .int y), (3, .int 2)], [.int (y + (-1)), .int (x + (-1)), .ref (34 + n)], hp)) rfl ?_
      refine px_cv (34 + n) (as := [.int (x + (-1)), .int (y + (-1))]) (rest := []) rfl rfl ho rfl rfl rfl rfl (Nat.le_of_ble_eq_true rfl) (c_has hW hV ho hr) ?_
      show px_Go _ _ (18, [(0, .ref (34 + n)), (1, .int x), (2, .int y), (3, .int 2)], [.int 1], hp) _
      refine px_a 5 (f' := (27, [(0, .ref (34 + n)), (1, .int x), (2, .int y), (3, .int 2)], [.int 2, .ref 5, .int x, .ref (34 + n)], hp)) rfl ?_
      refine px_al 5 (.int (-1)) rfl hs5 (Or.inl ⟨rfl, Or.inr rfl⟩) (by decide) (rfl) ?_
      show px_Go _ _ (28, [(0, .ref (34 + n)), (1, .int x), (2, .int y), (3, .int 2)], [.int (-1), .int x, .ref (34 + n)], hp) _
      refine px_a 4 (f' := (34, [(0, .ref (34 + n)), (1, .int x), (2, .int y), (3, .int 2)], [.int 2, .ref 6, .int y, .int (x + (-1)), .ref (34 + n)], hp)) rfl ?_
      refine px_al 6 (.int 0) rfl hs6 (Or.inl ⟨rfl, Or.inr rfl⟩) (by decide) (rfl) ?_
      show px_Go _ _ (35, [(0, .ref (34 + n)), (1, .int x), (2, .int y), (3, .int 2)], [.int 0, .int y, .int (x + (-1)), .ref (34 + n)], hp) _
      refine px_a 1 (f' := (36, [(0, .ref (34 + n)), (1, .int x), (2, .int y), (3, .int 2)], [.int (y + 0), .int (x + (-1)), .ref (34 + n)], hp)) rfl ?_
      refine px_cv (34 + n) (as := [.int (x + (-1)), .int (y + 0)]) (rest := []) rfl rfl ho rfl rfl rfl rfl (Nat.le_of_ble_eq_true rfl) (c_has hW hV ho hl) ?_
      show px_Go _ _ (39, [(0, .ref (34 + n)), (1, .int x), (2, .int y), (3, .int 2)], [.int 1], hp) _
      refine px_a 2 (f' := (47, [(0, .ref (34 + n)), (1, .int x), (2, .int y), (3, .int 2)], [.int 0], hp)) rfl ?_
      exact px_ri rfl rfl rfl
    · have hl : x_T W V s (x + (-1)).toInt (y + 0).toInt = false := by rw [el1, el2]; exact g2
      obtain rfl : b = true := by rw [← hb]; unfold m_sd; rw [g1, g2]; rfl
      show px_Go (d + 1) 39 (0, [(0, .ref (34 + n)), (1, .int x), (2, .int y), (3, .int 2)], [], hp) (.inl (some (.int 1)), hp)
      refine px_a 4 (f' := (6, [(0, .ref (34 + n)), (1, .int x), (2, .int y), (3, .int 2)], [.int 2, .ref 3, .int x, .ref (34 + n)], hp)) rfl ?_
      refine px_al 3 (.int (-1)) rfl hs3 (Or.inl ⟨rfl, Or.inr rfl⟩) (by decide) (rfl) ?_
      show px_Go _ _ (7, [(0, .ref (34 + n)), (1, .int x), (2, .int y), (3, .int 2)], [.int (-1), .int x, .ref (34 + n)], hp) _
      refine px_a 4 (f' := (13, [(0, .ref (34 + n)), (1, .int x), (2, .int y), (3, .int 2)], [.int 2, .ref 4, .int y, .int (x + (-1)), .ref (34 + n)], hp)) rfl ?_
      refine px_al 4 (.int (-1)) rfl hs4 (Or.inl ⟨rfl, Or.inr rfl⟩) (by decide) (rfl) ?_
      show px_Go _ _ (14, [(0, .ref (34 + n)), (1, .int x), (2, .int y), (3, .int 2)], [.int (-1), .int y, .int (x + (-1)), .ref (34 + n)], hp) _
      refine px_a 1 (f' := (15, [(0, .ref (34 + n)), (1, .int x), (2, .int y), (3, .int 2)], [.int (y + (-1)), .int (x + (-1)), .ref (34 + n)], hp)) rfl ?_
      refine px_cv (34 + n) (as := [.int (x + (-1)), .int (y + (-1))]) (rest := []) rfl rfl ho rfl rfl rfl rfl (Nat.le_of_ble_eq_true rfl) (c_has hW hV ho hr) ?_
      show px_Go _ _ (18, [(0, .ref (34 + n)), (1, .int x), (2, .int y), (3, .int 2)], [.int 1], hp) _
      refine px_a 5 (f' := (27, [(0, .ref (34 + n)), (1, .int x), (2, .int y), (3, .int 2)], [.int 2, .ref 5, .int x, .ref (34 + n)], hp)) rfl ?_
      refine px_al 5 (.int (-1)) rfl hs5 (Or.inl ⟨rfl, Or.inr rfl⟩) (by decide) (rfl) ?_
      show px_Go _ _ (28, [(0, .ref (34 + n)), (1, .int x), (2, .int y), (3, .int 2)], [.int (-1), .int x, .ref (34 + n)], hp) _
      refine px_a 4 (f' := (34, [(0, .ref (34 + n)), (1, .int x), (2, .int y), (3, .int 2)], [.int 2, .ref 6, .int y, .int (x + (-1)), .ref (34 + n)], hp)) rfl ?_
      refine px_al 6 (.int 0) rfl hs6 (Or.inl ⟨rfl, Or.inr rfl⟩) (by decide) (rfl) ?_
      show px_Go _ _ (35, [(0, .ref (34 + n)), (1, .int x), (2, .int y), (3, .int 2)], [.int 0, .int y, .int (x + (-1)), .ref (34 + n)], hp) _
      refine px_a 1 (f' := (36, [(0, .ref (34 + n)), (1, .int x), (2, .int y), (3, .int 2)], [.int (y + 0), .int (x + (-1)), .ref (34 + n)], hp)) rfl ?_
      refine px_cv (34 + n) (as := [.int (x + (-1)), .int (y + 0)]) (rest := []) rfl rfl ho rfl rfl rfl rfl (Nat.le_of_ble_eq_true rfl) (c_has hW hV ho hl) ?_
      show px_Go _ _ (39, [(0, .ref (34 + n)), (1, .int x), (2, .int y), (3, .int 2)], [.int 0], hp) _
      refine px_a 3 (f' := (47, [(0, .ref (34 + n)), (1, .int x), (2, .int y), (3, .int 2)], [.int 1], hp)) rfl ?_
      exact px_ri rfl rfl rfl
  · have hr : x_T W V s (x + (-1)).toInt (y + (-1)).toInt = false := by rw [er1, er2]; exact g1
    obtain rfl : b = false := by rw [← hb]; unfold m_sd; rw [g1]; rfl
    show px_Go (d + 1) 39 (0, [(0, .ref (34 + n)), (1, .int x), (2, .int y), (3, .int 2)], [], hp) (.inl (some (.int 0)), hp)
    refine px_a 4 (f' := (6, [(0, .ref (34 + n)), (1, .int x), (2, .int y), (3, .int 2)], [.int 2, .ref 3, .int x, .ref (34 + n)], hp)) rfl ?_
    refine px_al 3 (.int (-1)) rfl hs3 (Or.inl ⟨rfl, Or.inr rfl⟩) (by decide) (rfl) ?_
    show px_Go _ _ (7, [(0, .ref (34 + n)), (1, .int x), (2, .int y), (3, .int 2)], [.int (-1), .int x, .ref (34 + n)], hp) _
    refine px_a 4 (f' := (13, [(0, .ref (34 + n)), (1, .int x), (2, .int y), (3, .int 2)], [.int 2, .ref 4, .int y, .int (x + (-1)), .ref (34 + n)], hp)) rfl ?_
    refine px_al 4 (.int (-1)) rfl hs4 (Or.inl ⟨rfl, Or.inr rfl⟩) (by decide) (rfl) ?_
    show px_Go _ _ (14, [(0, .ref (34 + n)), (1, .int x), (2, .int y), (3, .int 2)], [.int (-1), .int y, .int (x + (-1)), .ref (34 + n)], hp) _
    refine px_a 1 (f' := (15, [(0, .ref (34 + n)), (1, .int x), (2, .int y), (3, .int 2)], [.int (y + (-1)), .int (x + (-1)), .ref (34 + n)], hp)) rfl ?_
    refine px_cv (34 + n) (as := [.int (x + (-1)), .int (y + (-1))]) (rest := []) rfl rfl ho rfl rfl rfl rfl (Nat.le_of_ble_eq_true rfl) (c_has hW hV ho hr) ?_
    show px_Go _ _ (18, [(0, .ref (34 + n)), (1, .int x), (2, .int y), (3, .int 2)], [.int 0], hp) _
    refine px_a 2 (f' := (47, [(0, .ref (34 + n)), (1, .int x), (2, .int y), (3, .int 2)], [.int 0], hp)) rfl ?_
    exact px_ri rfl rfl rfl
set_option maxRecDepth 20000 in
theorem c_mg_3 {d : Nat} {n : Nat} {hp : px_H} {W V : Nat} {le rc : Int32} {s : Int64} {x y : Int32} (hW : W ≤ 6) (hV : V ≤ 6) (ho : hp[34 + n]? = some (2, [.int (nI W), .int (nI V), .ref (35 + n), .ref (36 + n), .ref (37 + n), .int le, .int rc, .long s])) (hs : c_St hp) (x1 : -9 ≤ x.toInt) (x2 : x.toInt ≤ 9) (y1 : -9 ≤ y.toInt) (y2 : y.toInt ≤ 9) {b : Bool} (hb : m_sd (x_T W V s) x.toInt y.toInt 3 = b) : px_Go (d + 1) 39 (0, [(0, .ref (34 + n)), (1, .int x), (2, .int y), (3, .int 3)], [], hp) (.inl (some (.int (if b = true then 1 else 0))), hp) := by
  have hs1 : hp[(1 : Nat)]? = some (20, [.int 1, .int 0, .int (-1), .int 0]) := hs 0 (by decide)
  have hs2 : hp[(2 : Nat)]? = some (20, [.int 0, .int 1, .int 0, .int (-1)]) := hs 1 (by decide)
  have hs3 : hp[(3 : Nat)]? = some (20, [.int 0, .int (-1), .int (-1), .int 0]) := hs 2 (by decide)
  have hs4 : hp[(4 : Nat)]? = some (20, [.int 0, .int 0, .int (-1), .int (-1)]) := hs 3 (by decide)
  have hs5 : hp[(5 : Nat)]? = some (20, [.int 0, .int 0, .int (-1), .int (-1)]) := hs 4 (by decide)
  have hs6 : hp[(6 : Nat)]? = some (20, [.int (-1), .int 0, .int 0, .int (-1)]) := hs 5 (by decide)
  have er1 : (x + 0).toInt = x.toInt := by
    have e1 : Int32.toInt 0 = 0 := rfl
    rw [i32_add (by omega) (by omega), e1]; omega
  have er2 : (y + (-1)).toInt = (y.toInt - 1) := by
    have e1 : Int32.toInt (-1) = -1 := rfl
    rw [i32_add (by omega) (by omega), e1]; omega
  have el1 : (x + (-1)).toInt = (x.toInt - 1) := by
    have e1 : Int32.toInt (-1) = -1 := rfl
    rw [i32_add (by omega) (by omega), e1]; omega
  have el2 : (y + (-1)).toInt = (y.toInt - 1) := by
    have e1 : Int32.toInt (-1) = -1 := rfl
    rw [i32_add (by omega) (by omega), e1]; omega
  rcases Bool.eq_false_or_eq_true (x_T W V s x.toInt (y.toInt - 1)) with g1 | g1
  · have hr : x_T W V s (x + 0).toInt (y + (-1)).toInt = true := by rw [er1, er2]; exact g1
    rcases Bool.eq_false_or_eq_true (x_T W V s (x.toInt - 1) (y.toInt - 1)) with g2 | g2
    · have hl : x_T W V s (x + (-1)).toInt (y + (-1)).toInt = true := by rw [el1, el2]; exact g2
      obtain rfl : b = false := by rw [← hb]; unfold m_sd; rw [g1, g2]; rfl
      show px_Go (d + 1) 39 (0, [(0, .ref (34 + n)), (1, .int x), (2, .int y), (3, .int 3)], [], hp) (.inl (some (.int 0)), hp)
      refine px_a 4 (f' := (6, [(0, .ref (34 + n)), (1, .int x), (2, .int y), (3, .int 3)], [.int 3, .ref 3, .int x, .ref (34 + n)], hp)) rfl ?_
      refine px_al 3 (.int 0) rfl hs3 (Or.inl ⟨rfl, Or.inr rfl⟩) (by decide) (rfl) ?_
      show px_Go _ _ (7, [(0, .ref (34 + n)), (1, .int x), (2, .int y), (3, .int 3)], [.int 0, .int x, .ref (34 + n)], hp) _
      refine px_a 4 (f' := (13, [(0, .ref (34 + n)), (1, .int x), (2, .int y), (3, .int 3)], [.int 3, .ref 4, .int y, .int (x + 0), .ref (34 + n)], hp)) rfl ?_
      refine px_al 4 (.int (-1)) rfl hs4 (Or.inl ⟨rfl, Or.inr rfl⟩) (by decide) (rfl) ?_
      show px_Go _ _ (14, [(0, .ref (34 + n)), (1, .int x), (2, .int y), (3, .int 3)], [.int (-1), .int y, .int (x + 0), .ref (34 + n)], hp) _
      refine px_a 1 (f' := (15, [(0, .ref (34 + n)), (1, .int x), (2, .int y), (3, .int 3)], [.int (y + (-1)), .int (x + 0), .ref (34 + n)], hp)) rfl ?_
      refine px_cv (34 + n) (as := [.int (x + 0), .int (y + (-1))]) (rest := []) rfl rfl ho rfl rfl rfl rfl (Nat.le_of_ble_eq_true rfl) (c_has hW hV ho hr) ?_
      show px_Go _ _ (18, [(0, .ref (34 + n)), (1, .int x), (2, .int y), (3, .int 3)], [.int 1], hp) _
      refine px_a 5 (f' := (27, [(0, .ref (34 + n)), (1, .int x), (2, .int y), (3, .int 3)], [.int 3, .ref 5, .int x, .ref (34 + n)], hp)) rfl ?_
      refine px_al 5 (.int (-1)) rfl hs5 (Or.inl ⟨rfl, Or.inr rfl⟩) (by decide) (rfl) ?_
      show px_Go _ _ (28, [(0, .ref (34 + n)), (1, .int x), (2, .int y), (3, .int 3)], [.int (-1), .int x, .ref (34 + n)], hp) _
      refine px_a 4 (f' := (34, [(0, .ref (34 + n)), (1, .int x), (2, .int y), (3, .int 3)], [.int 3, .ref 6, .int y, .int (x + (-1)), .ref (34 + n)], hp)) rfl ?_
      refine px_al 6 (.int (-1)) rfl hs6 (Or.inl ⟨rfl, Or.inr rfl⟩) (by decide) (rfl) ?_
      show px_Go _ _ (35, [(0, .ref (34 + n)), (1, .int x), (2, .int y), (3, .int 3)], [.int (-1), .int y, .int (x + (-1)), .ref (34 + n)], hp) _
      refine px_a 1 (f' := (36, [(0, .ref (34 + n)), (1, .int x), (2, .int y), (3, .int 3)], [.int (y + (-1)), .int (x + (-1)), .ref (34 + n)], hp)) rfl ?_
      refine px_cv (34 + n) (as := [.int (x + (-1)), .int (y + (-1))]) (rest := []) rfl rfl ho rfl rfl rfl rfl (Nat.le_of_ble_eq_true rfl) (c_has hW hV ho hl) ?_
      show px_Go _ _ (39, [(0, .ref (34 + n)), (1, .int x), (2, .int y), (3, .int 3)], [.int 1], hp) _
      refine px_a 2 (f' := (47, [(0, .ref (34 + n)), (1, .int x), (2, .int y), (3, .int 3)], [.int 0], hp)) rfl ?_
      exact px_ri rfl rfl rfl
    · have hl : x_T W V s (x + (-1)).toInt (y + (-1)).toInt = false := by rw [el1, el2]; exact g2
      obtain rfl : b = true := by rw [← hb]; unfold m_sd; rw [g1, g2]; rfl
      show px_Go (d + 1) 39 (0, [(0, .ref (34 + n)), (1, .int x), (2, .int y), (3, .int 3)], [], hp) (.inl (some (.int 1)), hp)
      refine px_a 4 (f' := (6, [(0, .ref (34 + n)), (1, .int x), (2, .int y), (3, .int 3)], [.int 3, .ref 3, .int x, .ref (34 + n)], hp)) rfl ?_
      refine px_al 3 (.int 0) rfl hs3 (Or.inl ⟨rfl, Or.inr rfl⟩) (by decide) (rfl) ?_
      show px_Go _ _ (7, [(0, .ref (34 + n)), (1, .int x), (2, .int y), (3, .int 3)], [.int 0, .int x, .ref (34 + n)], hp) _
      refine px_a 4 (f' := (13, [(0, .ref (34 + n)), (1, .int x), (2, .int y), (3, .int 3)], [.int 3, .ref 4, .int y, .int (x + 0), .ref (34 + n)], hp)) rfl ?_
      refine px_al 4 (.int (-1)) rfl hs4 (Or.inl ⟨rfl, Or.inr rfl⟩) (by decide) (rfl) ?_
      show px_Go _ _ (14, [(0, .ref (34 + n)), (1, .int x), (2, .int y), (3, .int 3)], [.int (-1), .int y, .int (x + 0), .ref (34 + n)], hp) _
      refine px_a 1 (f' := (15, [(0, .ref (34 + n)), (1, .int x), (2, .int y), (3, .int 3)], [.int (y + (-1)), .int (x + 0), .ref (34 + n)], hp)) rfl ?_
      refine px_cv (34 + n) (as := [.int (x + 0), .int (y + (-1))]) (rest := []) rfl rfl ho rfl rfl rfl rfl (Nat.le_of_ble_eq_true rfl) (c_has hW hV ho hr) ?_
      show px_Go _ _ (18, [(0, .ref (34 + n)), (1, .int x), (2, .int y), (3, .int 3)], [.int 1], hp) _
      refine px_a 5 (f' := (27, [(0, .ref (34 + n)), (1, .int x), (2, .int y), (3, .int 3)], [.int 3, .ref 5, .int x, .ref (34 + n)], hp)) rfl ?_
      refine px_al 5 (.int (-1)) rfl hs5 (Or.inl ⟨rfl, Or.inr rfl⟩) (by decide) (rfl) ?_
      show px_Go _ _ (28, [(0, .ref (34 + n)), (1, .int x), (2, .int y), (3, .int 3)], [.int (-1), .int x, .ref (34 + n)], hp) _
      refine px_a 4 (f' := (34, [(0, .ref (34 + n)), (1, .int x), (2, .int y), (3, .int 3)], [.int 3, .ref 6, .int y, .int (x + (-1)), .ref (34 + n)], hp)) rfl ?_
      refine px_al 6 (.int (-1)) rfl hs6 (Or.inl ⟨rfl, Or.inr rfl⟩) (by decide) (rfl) ?_
      show px_Go _ _ (35, [(0, .ref (34 + n)), (1, .int x), (2, .int y), (3, .int 3)], [.int (-1), .int y, .int (x + (-1)), .ref (34 + n)], hp) _
      refine px_a 1 (f' := (36, [(0, .ref (34 + n)), (1, .int x), (2, .int y), (3, .int 3)], [.int (y + (-1)), .int (x + (-1)), .ref (34 + n)], hp)) rfl ?_
      refine px_cv (34 + n) (as := [.int (x + (-1)), .int (y + (-1))]) (rest := []) rfl rfl ho rfl rfl rfl rfl (Nat.le_of_ble_eq_true rfl) (c_has hW hV ho hl) ?_
      show px_Go _ _ (39, [(0, .ref (34 + n)), (1, .int x), (2, .int y), (3, .int 3)], [.int 0], hp) _
      refine px_a 3 (f' := (47, [(0, .ref (34 + n)), (1, .int x), (2, .int y), (3, .int 3)], [.int 1], hp)) rfl ?_
      exact px_ri rfl rfl rfl
  · have hr : x_T W V s (x + 0).toInt (y + (-1)).toInt = false := by rw [er1, er2]; exact g1
    obtain rfl : b = false := by rw [← hb]; unfold m_sd; rw [g1]; rfl
    show px_Go (d + 1) 39 (0, [(0, .ref (34 + n)), (1, .int x), (2, .int y), (3, .int 3)], [], hp) (.inl (some (.int 0)), hp)
    refine px_a 4 (f' := (6, [(0, .ref (34 + n)), (1, .int x), (2, .int y), (3, .int 3)], [.int 3, .ref 3, .int x, .ref (34 + n)], hp)) rfl ?_
    refine px_al 3 (.int 0) rfl hs3 (Or.inl ⟨rfl, Or.inr rfl⟩) (by decide) (rfl) ?_
    show px_Go _ _ (7, [(0, .ref (34 + n)), (1, .int x), (2, .int y), (3, .int 3)], [.int 0, .int x, .ref (34 + n)], hp) _
    refine px_a 4 (f' := (13, [(0, .ref (34 + n)), (1, .int x), (2, .int y), (3, .int 3)], [.int 3, .ref 4, .int y, .int (x + 0), .ref (34 + n)], hp)) rfl ?_
    refine px_al 4 (.int (-1)) rfl hs4 (Or.inl ⟨rfl, Or.inr rfl⟩) (by decide) (rfl) ?_
    show px_Go _ _ (14, [(0, .ref (34 + n)), (1, .int x), (2, .int y), (3, .int 3)], [.int (-1), .int y, .int (x + 0), .ref (34 + n)], hp) _
    refine px_a 1 (f' := (15, [(0, .ref (34 + n)), (1, .int x), (2, .int y), (3, .int 3)], [.int (y + (-1)), .int (x + 0), .ref (34 + n)], hp)) rfl ?_
    refine px_cv (34 + n) (as := [.int (x + 0), .int (y + (-1))]) (rest := []) rfl rfl ho rfl rfl rfl rfl (Nat.le_of_ble_eq_true rfl) (c_has hW hV ho hr) ?_
    show px_Go _ _ (18, [(0, .ref (34 + n)), (1, .int x), (2, .int y), (3, .int 3)], [.int 0], hp) _
    refine px_a 2 (f' := (47, [(0, .ref (34 + n)), (1, .int x), (2, .int y), (3, .int 3)], [.int 0], hp)) rfl ?_
    exact px_ri rfl rfl rfl
set_option maxRecDepth 20000 in
theorem c_nl_0r {d : Nat} {n : Nat} {hp : px_H} {W V : Nat} {le rc : Int32} {s : Int64} {x y : Int32} (hW : W ≤ 6) (hV : V ≤ 6) (ho : hp[34 + n]? = some (2, [.int (nI W), .int (nI V), .ref (35 + n), .ref (36 + n), .ref (37 + n), .int le, .int rc, .long s])) (hs : c_St hp) (x1 : -9 ≤ x.toInt) (x2 : x.toInt ≤ 9) (y1 : -9 ≤ y.toInt) (y2 : y.toInt ≤ 9) (ha : m_sd (x_T W V s) x.toInt y.toInt 1 = true) : px_Go (d + 2) 40 (0, [(0, .ref (34 + n)), (1, .int x), (2, .int y), (3, .int 0)], [], hp) (.inl (some (.int 1)), hp) := by
  refine px_a 10 (f' := (12, [(4, .int 1), (0, .ref (34 + n)), (1, .int x), (2, .int y), (3, .int 0)], [.int 1, .int y, .int x, .ref (34 + n)], hp)) rfl ?_
  refine px_cv (34 + n) (as := [.int x, .int y, .int 1]) (rest := []) rfl rfl ho rfl rfl rfl rfl (Nat.le_of_ble_eq_true rfl) (c_mg_1 hW hV ho hs x1 x2 y1 y2 ha) ?_
  show px_Go _ _ (15, [(4, .int 1), (0, .ref (34 + n)), (1, .int x), (2, .int y), (3, .int 0)], [.int 1], hp) _
  refine px_a 2 (f' := (20, [(4, .int 1), (0, .ref (34 + n)), (1, .int x), (2, .int y), (3, .int 0)], [.int 1], hp)) rfl ?_
  exact px_ri rfl rfl rfl
set_option maxRecDepth 20000 in
theorem c_nl_0s {d : Nat} {n : Nat} {hp : px_H} {W V : Nat} {le rc : Int32} {s : Int64} {x y : Int32} (hW : W ≤ 6) (hV : V ≤ 6) (ho : hp[34 + n]? = some (2, [.int (nI W), .int (nI V), .ref (35 + n), .ref (36 + n), .ref (37 + n), .int le, .int rc, .long s])) (hs : c_St hp) (x1 : -9 ≤ x.toInt) (x2 : x.toInt ≤ 9) (y1 : -9 ≤ y.toInt) (y2 : y.toInt ≤ 9) (ha : m_sd (x_T W V s) x.toInt y.toInt 1 = false) (hb : m_sd (x_T W V s) x.toInt y.toInt 0 = true) : px_Go (d + 2) 40 (0, [(0, .ref (34 + n)), (1, .int x), (2, .int y), (3, .int 0)], [], hp) (.inl (some (.int 0)), hp) := by
  refine px_a 10 (f' := (12, [(4, .int 1), (0, .ref (34 + n)), (1, .int x), (2, .int y), (3, .int 0)], [.int 1, .int y, .int x, .ref (34 + n)], hp)) rfl ?_
  refine px_cv (34 + n) (as := [.int x, .int y, .int 1]) (rest := []) rfl rfl ho rfl rfl rfl rfl (Nat.le_of_ble_eq_true rfl) (c_mg_1 hW hV ho hs x1 x2 y1 y2 ha) ?_
  show px_Go _ _ (15, [(4, .int 1), (0, .ref (34 + n)), (1, .int x), (2, .int y), (3, .int 0)], [.int 0], hp) _
  refine px_a 5 (f' := (25, [(4, .int 1), (0, .ref (34 + n)), (1, .int x), (2, .int y), (3, .int 0)], [.int 0, .int y, .int x, .ref (34 + n)], hp)) rfl ?_
  refine px_cv (34 + n) (as := [.int x, .int y, .int 0]) (rest := []) rfl rfl ho rfl rfl rfl rfl (Nat.le_of_ble_eq_true rfl) (c_mg_0 hW hV ho hs x1 x2 y1 y2 hb) ?_
  show px_Go _ _ (28, [(4, .int 1), (0, .ref (34 + n)), (1, .int x), (2, .int y), (3, .int 0)], [.int 1], hp) _
  refine px_a 3 (f' := (40, [(4, .int 1), (0, .ref (34 + n)), (1, .int x), (2, .int y), (3, .int 0)], [.int 0], hp)) rfl ?_
  exact px_ri rfl rfl rfl
set_option maxRecDepth 20000 in
theorem c_nl_0l {d : Nat} {n : Nat} {hp : px_H} {W V : Nat} {le rc : Int32} {s : Int64} {x y : Int32} (hW : W ≤ 6) (hV : V ≤ 6) (ho : hp[34 + n]? = some (2, [.int (nI W), .int (nI V), .ref (35 + n), .ref (36 + n), .ref (37 + n), .int le, .int rc, .long s])) (hs : c_St hp) (x1 : -9 ≤ x.toInt) (x2 : x.toInt ≤ 9) (y1 : -9 ≤ y.toInt) (y2 : y.toInt ≤ 9) (ha : m_sd (x_T W V s) x.toInt y.toInt 1 = false) (hb : m_sd (x_T W V s) x.toInt y.toInt 0 = false) : px_Go (d + 2) 40 (0, [(0, .ref (34 + n)), (1, .int x), (2, .int y), (3, .int 0)], [], hp) (.inl (some (.int 3)), hp) := by
  refine px_a 10 (f' := (12, [(4, .int 1), (0, .ref (34 + n)), (1, .int x), (2, .int y), (3, .int 0)], [.int 1, .int y, .int x, .ref (34 + n)], hp)) rfl ?_
  refine px_cv (34 + n) (as := [.int x, .int y, .int 1]) (rest := []) rfl rfl ho rfl rfl rfl rfl (Nat.le_of_ble_eq_true rfl) (c_mg_1 hW hV ho hs x1 x2 y1 y2 ha) ?_
  show px_Go _ _ (15, [(4, .int 1), (0, .ref (34 + n)), (1, .int x), (2, .int y), (3, .int 0)], [.int 0], hp) _
  refine px_a 5 (f' := (25, [(4, .int 1), (0, .ref (34 + n)), (1, .int x), (2, .int y), (3, .int 0)], [.int 0, .int y, .int x, .ref (34 + n)], hp)) rfl ?_
  refine px_cv (34 + n) (as := [.int x, .int y, .int 0]) (rest := []) rfl rfl ho rfl rfl rfl rfl (Nat.le_of_ble_eq_true rfl) (c_mg_0 hW hV ho hs x1 x2 y1 y2 hb) ?_
  show px_Go _ _ (28, [(4, .int 1), (0, .ref (34 + n)), (1, .int x), (2, .int y), (3, .int 0)], [.int 0], hp) _
  refine px_a 6 (f' := (40, [(4, .int 1), (0, .ref (34 + n)), (1, .int x), (2, .int y), (3, .int 0)], [.int 3], hp)) rfl ?_
  exact px_ri rfl rfl rfl
set_option maxRecDepth 20000 in
theorem c_nl_1r {d : Nat} {n : Nat} {hp : px_H} {W V : Nat} {le rc : Int32} {s : Int64} {x y : Int32} (hW : W ≤ 6) (hV : V ≤ 6) (ho : hp[34 + n]? = some (2, [.int (nI W), .int (nI V), .ref (35 + n), .ref (36 + n), .ref (37 + n), .int le, .int rc, .long s])) (hs : c_St hp) (x1 : -9 ≤ x.toInt) (x2 : x.toInt ≤ 9) (y1 : -9 ≤ y.toInt) (y2 : y.toInt ≤ 9) (ha : m_sd (x_T W V s) x.toInt y.toInt 2 = true) : px_Go (d + 2) 40 (0, [(0, .ref (34 + n)), (1, .int x), (2, .int y), (3, .int 1)], [], hp) (.inl (some (.int 2)), hp) := by
  refine px_a 10 (f' := (12, [(4, .int 2), (0, .ref (34 + n)), (1, .int x), (2, .int y), (3, .int 1)], [.int 2, .int y, .int x, .ref (34 + n)], hp)) rfl ?_
  refine px_cv (34 + n) (as := [.int x, .int y, .int 2]) (rest := []) rfl rfl ho rfl rfl rfl rfl (Nat.le_of_ble_eq_true rfl) (c_mg_2 hW hV ho hs x1 x2 y1 y2 ha) ?_
  show px_Go _ _ (15, [(4, .int 2), (0, .ref (34 + n)), (1, .int x), (2, .int y), (3, .int 1)], [.int 1], hp) _
  refine px_a 2 (f' := (20, [(4, .int 2), (0, .ref (34 + n)), (1, .int x), (2, .int y), (3, .int 1)], [.int 2], hp)) rfl ?_
  exact px_ri rfl rfl rfl
set_option maxRecDepth 20000 in
theorem c_nl_1s {d : Nat} {n : Nat} {hp : px_H} {W V : Nat} {le rc : Int32} {s : Int64} {x y : Int32} (hW : W ≤ 6) (hV : V ≤ 6) (ho : hp[34 + n]? = some (2, [.int (nI W), .int (nI V), .ref (35 + n), .ref (36 + n), .ref (37 + n), .int le, .int rc, .long s])) (hs : c_St hp) (x1 : -9 ≤ x.toInt) (x2 : x.toInt ≤ 9) (y1 : -9 ≤ y.toInt) (y2 : y.toInt ≤ 9) (ha : m_sd (x_T W V s) x.toInt y.toInt 2 = false) (hb : m_sd (x_T W V s) x.toInt y.toInt 1 = true) : px_Go (d + 2) 40 (0, [(0, .ref (34 + n)), (1, .int x), (2, .int y), (3, .int 1)], [], hp) (.inl (some (.int 1)), hp) := by
  refine px_a 10 (f' := (12, [(4, .int 2), (0, .ref (34 + n)), (1, .int x), (2, .int y), (3, .int 1)], [.int 2, .int y, .int x, .ref (34 + n)], hp)) rfl ?_
  refine px_cv (34 + n) (as := [.int x, .int y, .int 2]) (rest := []) rfl rfl ho rfl rfl rfl rfl (Nat.le_of_ble_eq_true rfl) (c_mg_2 hW hV ho hs x1 x2 y1 y2 ha) ?_
  show px_Go _ _ (15, [(4, .int 2), (0, .ref (34 + n)), (1, .int x), (2, .int y), (3, .int 1)], [.int 0], hp) _
  refine px_a 5 (f' := (25, [(4, .int 2), (0, .ref (34 + n)), (1, .int x), (2, .int y), (3, .int 1)], [.int 1, .int y, .int x, .ref (34 + n)], hp)) rfl ?_
  refine px_cv (34 + n) (as := [.int x, .int y, .int 1]) (rest := []) rfl rfl ho rfl rfl rfl rfl (Nat.le_of_ble_eq_true rfl) (c_mg_1 hW hV ho hs x1 x2 y1 y2 hb) ?_
  show px_Go _ _ (28, [(4, .int 2), (0, .ref (34 + n)), (1, .int x), (2, .int y), (3, .int 1)], [.int 1], hp) _
  refine px_a 3 (f' := (40, [(4, .int 2), (0, .ref (34 + n)), (1, .int x), (2, .int y), (3, .int 1)], [.int 1], hp)) rfl ?_
  exact px_ri rfl rfl rfl
set_option maxRecDepth 20000 in
theorem c_nl_1l {d : Nat} {n : Nat} {hp : px_H} {W V : Nat} {le rc : Int32} {s : Int64} {x y : Int32} (hW : W ≤ 6) (hV : V ≤ 6) (ho : hp[34 + n]? = some (2, [.int (nI W), .int (nI V), .ref (35 + n), .ref (36 + n), .ref (37 + n), .int le, .int rc, .long s])) (hs : c_St hp) (x1 : -9 ≤ x.toInt) (x2 : x.toInt ≤ 9) (y1 : -9 ≤ y.toInt) (y2 : y.toInt ≤ 9) (ha : m_sd (x_T W V s) x.toInt y.toInt 2 = false) (hb : m_sd (x_T W V s) x.toInt y.toInt 1 = false) : px_Go (d + 2) 40 (0, [(0, .ref (34 + n)), (1, .int x), (2, .int y), (3, .int 1)], [], hp) (.inl (some (.int 0)), hp) := by
  refine px_a 10 (f' := (12, [(4, .int 2), (0, .ref (34 + n)), (1, .int x), (2, .int y), (3, .int 1)], [.int 2, .int y, .int x, .ref (34 + n)], hp)) rfl ?_
  refine px_cv (34 + n) (as := [.int x, .int y, .int 2]) (rest := []) rfl rfl ho rfl rfl rfl rfl (Nat.le_of_ble_eq_true rfl) (c_mg_2 hW hV ho hs x1 x2 y1 y2 ha) ?_
  show px_Go _ _ (15, [(4, .int 2), (0, .ref (34 + n)), (1, .int x), (2, .int y), (3, .int 1)], [.int 0], hp) _
  refine px_a 5 (f' := (25, [(4, .int 2), (0, .ref (34 + n)), (1, .int x), (2, .int y), (3, .int 1)], [.int 1, .int y, .int x, .ref (34 + n)], hp)) rfl ?_
  refine px_cv (34 + n) (as := [.int x, .int y, .int 1]) (rest := []) rfl rfl ho rfl rfl rfl rfl (Nat.le_of_ble_eq_true rfl) (c_mg_1 hW hV ho hs x1 x2 y1 y2 hb) ?_
  show px_Go _ _ (28, [(4, .int 2), (0, .ref (34 + n)), (1, .int x), (2, .int y), (3, .int 1)], [.int 0], hp) _
  refine px_a 6 (f' := (40, [(4, .int 2), (0, .ref (34 + n)), (1, .int x), (2, .int y), (3, .int 1)], [.int 0], hp)) rfl ?_
  exact px_ri rfl rfl rfl
set_option maxRecDepth 20000 in
theorem c_nl_2r {d : Nat} {n : Nat} {hp : px_H} {W V : Nat} {le rc : Int32} {s : Int64} {x y : Int32} (hW : W ≤ 6) (hV : V ≤ 6) (ho : hp[34 + n]? = some (2, [.int (nI W), .int (nI V), .ref (35 + n), .ref (36 + n), .ref (37 + n), .int le, .int rc, .long s])) (hs : c_St hp) (x1 : -9 ≤ x.toInt) (x2 : x.toInt ≤ 9) (y1 : -9 ≤ y.toInt) (y2 : y.toInt ≤ 9) (ha : m_sd (x_T W V s) x.toInt y.toInt 3 = true) : px_Go (d + 2) 40 (0, [(0, .ref (34 + n)), (1, .int x), (2, .int y), (3, .int 2)], [], hp) (.inl (some (.int 3)), hp) := by
  refine px_a 10 (f' := (12, [(4, .int 3), (0, .ref (34 + n)), (1, .int x), (2, .int y), (3, .int 2)], [.int 3, .int y, .int x, .ref (34 + n)], hp)) rfl ?_
  refine px_cv (34 + n) (as := [.int x, .int y, .int 3]) (rest := []) rfl rfl ho rfl rfl rfl rfl (Nat.le_of_ble_eq_true rfl) (c_mg_3 hW hV ho hs x1 x2 y1 y2 ha) ?_
  show px_Go _ _ (15, [(4, .int 3), (0, .ref (34 + n)), (1, .int x), (2, .int y), (3, .int 2)], [.int 1], hp) _
  refine px_a 2 (f' := (20, [(4, .int 3), (0, .ref (34 + n)), (1, .int x), (2, .int y), (3, .int 2)], [.int 3], hp)) rfl ?_
  exact px_ri rfl rfl rfl
set_option maxRecDepth 20000 in
theorem c_nl_2s {d : Nat} {n : Nat} {hp : px_H} {W V : Nat} {le rc : Int32} {s : Int64} {x y : Int32} (hW : W ≤ 6) (hV : V ≤ 6) (ho : hp[34 + n]? = some (2, [.int (nI W), .int (nI V), .ref (35 + n), .ref (36 + n), .ref (37 + n), .int le, .int rc, .long s])) (hs : c_St hp) (x1 : -9 ≤ x.toInt) (x2 : x.toInt ≤ 9) (y1 : -9 ≤ y.toInt) (y2 : y.toInt ≤ 9) (ha : m_sd (x_T W V s) x.toInt y.toInt 3 = false) (hb : m_sd (x_T W V s) x.toInt y.toInt 2 = true) : px_Go (d + 2) 40 (0, [(0, .ref (34 + n)), (1, .int x), (2, .int y), (3, .int 2)], [], hp) (.inl (some (.int 2)), hp) := by
  refine px_a 10 (f' := (12, [(4, .int 3), (0, .ref (34 + n)), (1, .int x), (2, .int y), (3, .int 2)], [.int 3, .int y, .int x, .ref (34 + n)], hp)) rfl ?_
  refine px_cv (34 + n) (as := [.int x, .int y, .int 3]) (rest := []) rfl rfl ho rfl rfl rfl rfl (Nat.le_of_ble_eq_true rfl) (c_mg_3 hW hV ho hs x1 x2 y1 y2 ha) ?_
  show px_Go _ _ (15, [(4, .int 3), (0, .ref (34 + n)), (1, .int x), (2, .int y), (3, .int 2)], [.int 0], hp) _
  refine px_a 5 (f' := (25, [(4, .int 3), (0, .ref (34 + n)), (1, .int x), (2, .int y), (3, .int 2)], [.int 2, .int y, .int x, .ref (34 + n)], hp)) rfl ?_
  refine px_cv (34 + n) (as := [.int x, .int y, .int 2]) (rest := []) rfl rfl ho rfl rfl rfl rfl (Nat.le_of_ble_eq_true rfl) (c_mg_2 hW hV ho hs x1 x2 y1 y2 hb) ?_
  show px_Go _ _ (28, [(4, .int 3), (0, .ref (34 + n)), (1, .int x), (2, .int y), (3, .int 2)], [.int 1], hp) _
  refine px_a 3 (f' := (40, [(4, .int 3), (0, .ref (34 + n)), (1, .int x), (2, .int y), (3, .int 2)], [.int 2], hp)) rfl ?_
  exact px_ri rfl rfl rfl
set_option maxRecDepth 20000 in
theorem c_nl_2l {d : Nat} {n : Nat} {hp : px_H} {W V : Nat} {le rc : Int32} {s : Int64} {x y : Int32} (hW : W ≤ 6) (hV : V ≤ 6) (ho : hp[34 + n]? = some (2, [.int (nI W), .int (nI V), .ref (35 + n), .ref (36 + n), .ref (37 + n), .int le, .int rc, .long s])) (hs : c_St hp) (x1 : -9 ≤ x.toInt) (x2 : x.toInt ≤ 9) (y1 : -9 ≤ y.toInt) (y2 : y.toInt ≤ 9) (ha : m_sd (x_T W V s) x.toInt y.toInt 3 = false) (hb : m_sd (x_T W V s) x.toInt y.toInt 2 = false) : px_Go (d + 2) 40 (0, [(0, .ref (34 + n)), (1, .int x), (2, .int y), (3, .int 2)], [], hp) (.inl (some (.int 1)), hp) := by
  refine px_a 10 (f' := (12, [(4, .int 3), (0, .ref (34 + n)), (1, .int x), (2, .int y), (3, .int 2)], [.int 3, .int y, .int x, .ref (34 + n)], hp)) rfl ?_
  refine px_cv (34 + n) (as := [.int x, .int y, .int 3]) (rest := []) rfl rfl ho rfl rfl rfl rfl (Nat.le_of_ble_eq_true rfl) (c_mg_3 hW hV ho hs x1 x2 y1 y2 ha) ?_
  show px_Go _ _ (15, [(4, .int 3), (0, .ref (34 + n)), (1, .int x), (2, .int y), (3, .int 2)], [.int 0], hp) _
  refine px_a 5 (f' := (25, [(4, .int 3), (0, .ref (34 + n)), (1, .int x), (2, .int y), (3, .int 2)], [.int 2, .int y, .int x, .ref (34 + n)], hp)) rfl ?_
  refine px_cv (34 + n) (as := [.int x, .int y, .int 2]) (rest := []) rfl rfl ho rfl rfl rfl rfl (Nat.le_of_ble_eq_true rfl) (c_mg_2 hW hV ho hs x1 x2 y1 y2 hb) ?_
  show px_Go _ _ (28, [(4, .int 3), (0, .ref (34 + n)), (1, .int x), (2, .int y), (3, .int 2)], [.int 0], hp) _
  refine px_a 6 (f' := (40, [(4, .int 3), (0, .ref (34 + n)), (1, .int x), (2, .int y), (3, .int 2)], [.int 1], hp)) rfl ?_
  exact px_ri rfl rfl rfl
set_option maxRecDepth 20000 in
theorem c_nl_3r {d : Nat} {n : Nat} {hp : px_H} {W V : Nat} {le rc : Int32} {s : Int64} {x y : Int32} (hW : W ≤ 6) (hV : V ≤ 6) (ho : hp[34 + n]? = some (2, [.int (nI W), .int (nI V), .ref (35 + n), .ref (36 + n), .ref (37 + n), .int le, .int rc, .long s])) (hs : c_St hp) (x1 : -9 ≤ x.toInt) (x2 : x.toInt ≤ 9) (y1 : -9 ≤ y.toInt) (y2 : y.toInt ≤ 9) (ha : m_sd (x_T W V s) x.toInt y.toInt 0 = true) : px_Go (d + 2) 40 (0, [(0, .ref (34 + n)), (1, .int x), (2, .int y), (3, .int 3)], [], hp) (.inl (some (.int 0)), hp) := by
  refine px_a 10 (f' := (12, [(4, .int 0), (0, .ref (34 + n)), (1, .int x), (2, .int y), (3, .int 3)], [.int 0, .int y, .int x, .ref (34 + n)], hp)) rfl ?_
  refine px_cv (34 + n) (as := [.int x, .int y, .int 0]) (rest := []) rfl rfl ho rfl rfl rfl rfl (Nat.le_of_ble_eq_true rfl) (c_mg_0 hW hV ho hs x1 x2 y1 y2 ha) ?_
  show px_Go _ _ (15, [(4, .int 0), (0, .ref (34 + n)), (1, .int x), (2, .int y), (3, .int 3)], [.int 1], hp) _
  refine px_a 2 (f' := (20, [(4, .int 0), (0, .ref (34 + n)), (1, .int x), (2, .int y), (3, .int 3)], [.int 0], hp)) rfl ?_
  exact px_ri rfl rfl rfl
set_option maxRecDepth 20000 in
theorem c_nl_3s {d : Nat} {n : Nat} {hp : px_H} {W V : Nat} {le rc : Int32} {s : Int64} {x y : Int32} (hW : W ≤ 6) (hV : V ≤ 6) (ho : hp[34 + n]? = some (2, [.int (nI W), .int (nI V), .ref (35 + n), .ref (36 + n), .ref (37 + n), .int le, .int rc, .long s])) (hs : c_St hp) (x1 : -9 ≤ x.toInt) (x2 : x.toInt ≤ 9) (y1 : -9 ≤ y.toInt) (y2 : y.toInt ≤ 9) (ha : m_sd (x_T W V s) x.toInt y.toInt 0 = false) (hb : m_sd (x_T W V s) x.toInt y.toInt 3 = true) : px_Go (d + 2) 40 (0, [(0, .ref (34 + n)), (1, .int x), (2, .int y), (3, .int 3)], [], hp) (.inl (some (.int 3)), hp) := by
  refine px_a 10 (f' := (12, [(4, .int 0), (0, .ref (34 + n)), (1, .int x), (2, .int y), (3, .int 3)], [.int 0, .int y, .int x, .ref (34 + n)], hp)) rfl ?_
  refine px_cv (34 + n) (as := [.int x, .int y, .int 0]) (rest := []) rfl rfl ho rfl rfl rfl rfl (Nat.le_of_ble_eq_true rfl) (c_mg_0 hW hV ho hs x1 x2 y1 y2 ha) ?_
  show px_Go _ _ (15, [(4, .int 0), (0, .ref (34 + n)), (1, .int x), (2, .int y), (3, .int 3)], [.int 0], hp) _
  refine px_a 5 (f' := (25, [(4, .int 0), (0, .ref (34 + n)), (1, .int x), (2, .int y), (3, .int 3)], [.int 3, .int y, .int x, .ref (34 + n)], hp)) rfl ?_
  refine px_cv (34 + n) (as := [.int x, .int y, .int 3]) (rest := []) rfl rfl ho rfl rfl rfl rfl (Nat.le_of_ble_eq_true rfl) (c_mg_3 hW hV ho hs x1 x2 y1 y2 hb) ?_
  show px_Go _ _ (28, [(4, .int 0), (0, .ref (34 + n)), (1, .int x), (2, .int y), (3, .int 3)], [.int 1], hp) _
  refine px_a 3 (f' := (40, [(4, .int 0), (0, .ref (34 + n)), (1, .int x), (2, .int y), (3, .int 3)], [.int 3], hp)) rfl ?_
  exact px_ri rfl rfl rfl
set_option maxRecDepth 20000 in
theorem c_nl_3l {d : Nat} {n : Nat} {hp : px_H} {W V : Nat} {le rc : Int32} {s : Int64} {x y : Int32} (hW : W ≤ 6) (hV : V ≤ 6) (ho : hp[34 + n]? = some (2, [.int (nI W), .int (nI V), .ref (35 + n), .ref (36 + n), .ref (37 + n), .int le, .int rc, .long s])) (hs : c_St hp) (x1 : -9 ≤ x.toInt) (x2 : x.toInt ≤ 9) (y1 : -9 ≤ y.toInt) (y2 : y.toInt ≤ 9) (ha : m_sd (x_T W V s) x.toInt y.toInt 0 = false) (hb : m_sd (x_T W V s) x.toInt y.toInt 3 = false) : px_Go (d + 2) 40 (0, [(0, .ref (34 + n)), (1, .int x), (2, .int y), (3, .int 3)], [], hp) (.inl (some (.int 2)), hp) := by
  refine px_a 10 (f' := (12, [(4, .int 0), (0, .ref (34 + n)), (1, .int x), (2, .int y), (3, .int 3)], [.int 0, .int y, .int x, .ref (34 + n)], hp)) rfl ?_
  refine px_cv (34 + n) (as := [.int x, .int y, .int 0]) (rest := []) rfl rfl ho rfl rfl rfl rfl (Nat.le_of_ble_eq_true rfl) (c_mg_0 hW hV ho hs x1 x2 y1 y2 ha) ?_
  show px_Go _ _ (15, [(4, .int 0), (0, .ref (34 + n)), (1, .int x), (2, .int y), (3, .int 3)], [.int 0], hp) _
  refine px_a 5 (f' := (25, [(4, .int 0), (0, .ref (34 + n)), (1, .int x), (2, .int y), (3, .int 3)], [.int 3, .int y, .int x, .ref (34 + n)], hp)) rfl ?_
  refine px_cv (34 + n) (as := [.int x, .int y, .int 3]) (rest := []) rfl rfl ho rfl rfl rfl rfl (Nat.le_of_ble_eq_true rfl) (c_mg_3 hW hV ho hs x1 x2 y1 y2 hb) ?_
  show px_Go _ _ (28, [(4, .int 0), (0, .ref (34 + n)), (1, .int x), (2, .int y), (3, .int 3)], [.int 0], hp) _
  refine px_a 6 (f' := (40, [(4, .int 0), (0, .ref (34 + n)), (1, .int x), (2, .int y), (3, .int 3)], [.int 2], hp)) rfl ?_
  exact px_ri rfl rfl rfl
theorem c_lsx {T : Int → Int → Bool} {s0 : m_P} {k : Nat} {z : Int32} {ls : List Value} (hw : ∀ i, i < k → ls[i]? = some (.int (nI (m_st T s0 i).2.2))) (h1 : k < 84) (h2 : k < ls.length) (e : nI (m_st T s0 k).2.2 = z) : ∀ i, i < k + 1 → (ls.set (nI k).toNatClampNeg (.int z))[i]? = some (.int (nI (m_st T s0 i).2.2)) := by
  intro i hi
  rw [nI_clamp (by omega)]
  by_cases q : k = i
  · subst q
    rw [List.getElem?_set_self h2, e]
  · rw [List.getElem?_set_ne q]
    exact hw i (by omega)
set_option maxRecDepth 20000 in
set_option maxHeartbeats 4000000 in
theorem c_fs_0 {d : Nat} {n : Nat} {hp : px_H} {W V : Nat} {le rc : Int32} {s : Int64} {k : Nat} {x0 y0 x y : Int32} {ls : List Value} {P : px_O → px_H → Prop} (hW : W ≤ 6) (hV : V ≤ 6) (hk : k < 84) (bx1 : 0 ≤ x.toInt) (bx2 : x.toInt ≤ 6) (by1 : 0 ≤ y.toInt) (by2 : y.toInt ≤ 6) (ho : hp[34 + n]? = some (2, [.int (nI W), .int (nI V), .ref (35 + n), .ref (36 + n), .ref (37 + n), .int le, .int rc, .long s])) (hls : hp[35 + n]? = some (10, ls)) (hs : c_St hp) (hll : ls.length = 84) (hst : m_st (x_T W V s) (x0.toInt, y0.toInt, 0) k = (x.toInt, y.toInt, 0))
    (KA : ∀ (w2 : Nat) (x2 y2 : Int32) (hp2 : px_H), w2 < 4 → m_st (x_T W V s) (x0.toInt, y0.toInt, 0) (k + 1) = (x2.toInt, y2.toInt, w2) → ¬ (x2 = x0 ∧ y2 = y0 ∧ w2 = 0) → hp2[34 + n]? = some (2, [.int (nI W), .int (nI V), .ref (35 + n), .ref (36 + n), .ref (37 + n), .int (nI (k + 1)), .int rc, .long s]) → hp2[35 + n]? = some (10, ls.set (nI k).toNatClampNeg (.int 0)) → c_St hp2 → px_Gx (d + 3) 36 (11, [(6, .int (nI (k + 1))), (5, .int (nI w2)), (4, .int y2), (3, .int x2), (0, .ref (34 + n)), (1, .int x0), (2, .int y0)], [], hp2) P)
    (KE : ∀ hp2 : px_H, m_st (x_T W V s) (x0.toInt, y0.toInt, 0) (k + 1) = (x0.toInt, y0.toInt, 0) → hp2[34 + n]? = some (2, [.int (nI W), .int (nI V), .ref (35 + n), .ref (36 + n), .ref (37 + n), .int (nI (k + 1)), .int rc, .long s]) → hp2[35 + n]? = some (10, ls.set (nI k).toNatClampNeg (.int 0)) → P (.inl none) hp2) : px_Gx (d + 3) 36 (11, [(6, .int (nI k)), (5, .int 0), (4, .int y), (3, .int x), (0, .ref (34 + n)), (1, .int x0), (2, .int y0)], [], hp) P := by
  have hs1 : hp[(1 : Nat)]? = some (20, [.int 1, .int 0, .int (-1), .int 0]) := hs 0 (by decide)
  have hs2 : hp[(2 : Nat)]? = some (20, [.int 0, .int 1, .int 0, .int (-1)]) := hs 1 (by decide)
  refine px_gx (fun _ K => px_a 2 (f' := (15, [(6, .int (nI k)), (5, .int 0), (4, .int y), (3, .int x), (0, .ref (34 + n)), (1, .int x0), (2, .int y0)], [.int 84, .int (nI k)], hp)) rfl K) ?_
  refine px_gx (fun _ K => px_b2 false 89 rfl rfl (decide_eq_false (Int32.not_le.mpr (nI_lt (b := 84) (by omega) (by decide)))) K) ?_
  show px_Gx _ _ (18, [(6, .int (nI k)), (5, .int 0), (4, .int y), (3, .int x), (0, .ref (34 + n)), (1, .int x0), (2, .int y0)], [], hp) _
  refine px_gx (fun _ K => px_a 1 (f' := (19, [(6, .int (nI k)), (5, .int 0), (4, .int y), (3, .int x), (0, .ref (34 + n)), (1, .int x0), (2, .int y0)], [.ref (34 + n)], hp)) rfl K) ?_
  refine px_gx (fun _ K => px_gf (34 + n) 16 2 2 (.ref (35 + n)) rfl rfl ho rfl K) ?_
  show px_Gx _ _ (22, [(6, .int (nI k)), (5, .int 0), (4, .int y), (3, .int x), (0, .ref (34 + n)), (1, .int x0), (2, .int y0)], [.ref (35 + n)], hp) _
  refine px_gx (fun _ K => px_a 2 (f' := (26, [(6, .int (nI k)), (5, .int 0), (4, .int y), (3, .int x), (0, .ref (34 + n)), (1, .int x0), (2, .int y0)], [.int 0, .int (nI k), .ref (35 + n)], hp)) rfl K) ?_
  refine px_gx (fun _ K => px_ias (35 + n) rfl hls (by omega) (nI_pos (by omega)) (by rw [nI_clamp (by omega)]; omega) K) ?_
  have hf1__34___n_ : (hp.set (35 + n) (10, ls.set (nI k).toNatClampNeg (.int 0)))[(34 + n)]? = some (2, [.int (nI W), .int (nI V), .ref (35 + n), .ref (36 + n), .ref (37 + n), .int le, .int rc, .long s]) := px_ne ho (by omega)
  have hf1__35___n_ : (hp.set (35 + n) (10, ls.set (nI k).toNatClampNeg (.int 0)))[(35 + n)]? = some (10, ls.set (nI k).toNatClampNeg (.int 0)) := px_self hls
  have hf1_1 : (hp.set (35 + n) (10, ls.set (nI k).toNatClampNeg (.int 0)))[(1 : Nat)]? = some (20, [.int 1, .int 0, .int (-1), .int 0]) := px_ne hs1 (by omega)
  have hf1_2 : (hp.set (35 + n) (10, ls.set (nI k).toNatClampNeg (.int 0)))[(2 : Nat)]? = some (20, [.int 0, .int 1, .int 0, .int (-1)]) := px_ne hs2 (by omega)
  show px_Gx _ _ (27, [(6, .int (nI k)), (5, .int 0), (4, .int y), (3, .int x), (0, .ref (34 + n)), (1, .int x0), (2, .int y0)], [], (hp.set (35 + n) (10, ls.set (nI k).toNatClampNeg (.int 0)))) _
  refine px_gx (fun _ K => px_a 4 (f' := (32, [(6, .int (nI k)), (5, .int 0), (4, .int y), (3, .int x), (0, .ref (34 + n)), (1, .int x0), (2, .int y0)], [.int ((nI k) + 1), .ref (34 + n)], (hp.set (35 + n) (10, ls.set (nI k).toNatClampNeg (.int 0))))) rfl K) ?_
  refine px_gx (fun _ K => px_pf (34 + n) 30 2 5 rfl rfl hf1__34___n_ (by omega) (by simp) rfl rfl (by decide) K) ?_
  have hf2__34___n_ : (((hp.set (35 + n) (10, ls.set (nI k).toNatClampNeg (.int 0)))).set (34 + n) (2, [.int (nI W), .int (nI V), .ref (35 + n), .ref (36 + n), .ref (37 + n), .int ((nI k) + 1), .int rc, .long s]))[(34 + n)]? = some (2, [.int (nI W), .int (nI V), .ref (35 + n), .ref (36 + n), .ref (37 + n), .int ((nI k) + 1), .int rc, .long s]) := px_self hf1__34___n_
  have hf2__35___n_ : (((hp.set (35 + n) (10, ls.set (nI k).toNatClampNeg (.int 0)))).set (34 + n) (2, [.int (nI W), .int (nI V), .ref (35 + n), .ref (36 + n), .ref (37 + n), .int ((nI k) + 1), .int rc, .long s]))[(35 + n)]? = some (10, ls.set (nI k).toNatClampNeg (.int 0)) := px_ne hf1__35___n_ (by omega)
  have hf2_1 : (((hp.set (35 + n) (10, ls.set (nI k).toNatClampNeg (.int 0)))).set (34 + n) (2, [.int (nI W), .int (nI V), .ref (35 + n), .ref (36 + n), .ref (37 + n), .int ((nI k) + 1), .int rc, .long s]))[(1 : Nat)]? = some (20, [.int 1, .int 0, .int (-1), .int 0]) := px_ne hf1_1 (by omega)
  have hf2_2 : (((hp.set (35 + n) (10, ls.set (nI k).toNatClampNeg (.int 0)))).set (34 + n) (2, [.int (nI W), .int (nI V), .ref (35 + n), .ref (36 + n), .ref (37 + n), .int ((nI k) + 1), .int rc, .long s]))[(2 : Nat)]? = some (20, [.int 0, .int 1, .int 0, .int (-1)]) := px_ne hf1_2 (by omega)
  show px_Gx _ _ (35, [(6, .int (nI k)), (5, .int 0), (4, .int y), (3, .int x), (0, .ref (34 + n)), (1, .int x0), (2, .int y0)], [], (((hp.set (35 + n) (10, ls.set (nI k).toNatClampNeg (.int 0)))).set (34 + n) (2, [.int (nI W), .int (nI V), .ref (35 + n), .ref (36 + n), .ref (37 + n), .int ((nI k) + 1), .int rc, .long s]))) _
  refine px_gx (fun _ K => px_a 3 (f' := (41, [(6, .int (nI k)), (5, .int 0), (4, .int y), (3, .int x), (0, .ref (34 + n)), (1, .int x0), (2, .int y0)], [.int 0, .ref 1, .int x], (((hp.set (35 + n) (10, ls.set (nI k).toNatClampNeg (.int 0)))).set (34 + n) (2, [.int (nI W), .int (nI V), .ref (35 + n), .ref (36 + n), .ref (37 + n), .int ((nI k) + 1), .int rc, .long s])))) rfl K) ?_
  refine px_gx (fun _ K => px_al 1 (.int 1) rfl hf2_1 (Or.inl ⟨rfl, Or.inr rfl⟩) (by decide) (rfl) K) ?_
  show px_Gx _ _ (42, [(6, .int (nI k)), (5, .int 0), (4, .int y), (3, .int x), (0, .ref (34 + n)), (1, .int x0), (2, .int y0)], [.int 1, .int x], (((hp.set (35 + n) (10, ls.set (nI k).toNatClampNeg (.int 0)))).set (34 + n) (2, [.int (nI W), .int (nI V), .ref (35 + n), .ref (36 + n), .ref (37 + n), .int ((nI k) + 1), .int rc, .long s]))) _
  refine px_gx (fun _ K => px_a 5 (f' := (51, [(3, .int (x + 1)), (6, .int (nI k)), (5, .int 0), (4, .int y), (0, .ref (34 + n)), (1, .int x0), (2, .int y0)], [.int 0, .ref 2, .int y], (((hp.set (35 + n) (10, ls.set (nI k).toNatClampNeg (.int 0)))).set (34 + n) (2, [.int (nI W), .int (nI V), .ref (35 + n), .ref (36 + n), .ref (37 + n), .int ((nI k) + 1), .int rc, .long s])))) rfl K) ?_
  refine px_gx (fun _ K => px_al 2 (.int 0) rfl hf2_2 (Or.inl ⟨rfl, Or.inr rfl⟩) (by decide) (rfl) K) ?_
  show px_Gx _ _ (52, [(3, .int (x + 1)), (6, .int (nI k)), (5, .int 0), (4, .int y), (0, .ref (34 + n)), (1, .int x0), (2, .int y0)], [.int 0, .int y], (((hp.set (35 + n) (10, ls.set (nI k).toNatClampNeg (.int 0)))).set (34 + n) (2, [.int (nI W), .int (nI V), .ref (35 + n), .ref (36 + n), .ref (37 + n), .int ((nI k) + 1), .int rc, .long s]))) _
  refine px_gx (fun _ K => px_a 6 (f' := (61, [(4, .int (y + 0)), (3, .int (x + 1)), (6, .int (nI k)), (5, .int 0), (0, .ref (34 + n)), (1, .int x0), (2, .int y0)], [.int 0, .int (y + 0), .int (x + 1), .ref (34 + n)], (((hp.set (35 + n) (10, ls.set (nI k).toNatClampNeg (.int 0)))).set (34 + n) (2, [.int (nI W), .int (nI V), .ref (35 + n), .ref (36 + n), .ref (37 + n), .int ((nI k) + 1), .int rc, .long s])))) rfl K) ?_
  have hsx : c_St ((((hp.set (35 + n) (10, ls.set (nI k).toNatClampNeg (.int 0)))).set (34 + n) (2, [.int (nI W), .int (nI V), .ref (35 + n), .ref (36 + n), .ref (37 + n), .int ((nI k) + 1), .int rc, .long s]))) := c_St_set (c_St_set hs (by omega)) (by omega)
  have hox := hf2__34___n_
  have hlx := hf2__35___n_
  rw [nI_1] at hox hlx hsx ⊢
  generalize (((hp.set (35 + n) (10, ls.set (nI k).toNatClampNeg (.int 0)))).set (34 + n) (2, [.int (nI W), .int (nI V), .ref (35 + n), .ref (36 + n), .ref (37 + n), .int (nI (k + 1)), .int rc, .long s])) = hp2 at hox hlx hsx ⊢
  obtain ⟨x2, ex0, ex⟩ : ∃ q : Int32, q = x + 1 ∧ q.toInt = x.toInt + m_dx 0 := ⟨_, rfl, by
    have e1 : Int32.toInt 1 = 1 := rfl
    have e2 : m_dx 0 = 1 := rfl
    rw [i32_add (by omega) (by omega), e1, e2]⟩
  obtain ⟨y2, ey0, ey⟩ : ∃ q : Int32, q = y + 0 ∧ q.toInt = y.toInt + m_dy 0 := ⟨_, rfl, by
    have e1 : Int32.toInt 0 = 0 := rfl
    have e2 : m_dy 0 = 0 := rfl
    rw [i32_add (by omega) (by omega), e1, e2]⟩
  have e2x : m_dx 0 = 1 := rfl
  have e2y : m_dy 0 = 0 := rfl
  rw [← ex0, ← ey0]
  rcases Bool.eq_false_or_eq_true (m_sd (x_T W V s) x2.toInt y2.toInt 1) with ha | ha
  · have hn : m_st (x_T W V s) (x0.toInt, y0.toInt, 0) (k + 1) = (x2.toInt, y2.toInt, 1) := by
      show m_nx _ (m_st (x_T W V s) (x0.toInt, y0.toInt, 0) k) = _
      rw [hst]
      exact m_nx_r ex ey ha
    by_cases q1 : x2 = x0
    · by_cases q2 : y2 = y0
      · refine px_gx (fun _ K => px_cv (34 + n) (as := [.int x2, .int y2, .int 0]) (rest := []) rfl rfl hox rfl rfl rfl rfl (Nat.le_of_ble_eq_true rfl) (c_nl_0r (d := d) hW hV hox hsx (by omega) (by omega) (by omega) (by omega) ha) K) ?_
        show px_Gx _ _ (64, [(4, .int y2), (3, .int x2), (6, .int (nI k)), (5, .int 0), (0, .ref (34 + n)), (1, .int x0), (2, .int y0)], [.int 1], hp2) _
        refine px_gx (fun _ K => px_a 3 (f' := (68, [(5, .int 1), (4, .int y2), (3, .int x2), (6, .int (nI k)), (0, .ref (34 + n)), (1, .int x0), (2, .int y0)], [.int x0, .int x2], hp2)) rfl K) ?_
        refine px_gx (fun _ K => px_b2 false 83 rfl rfl (decide_eq_false (not_not_intro q1)) K) ?_
        show px_Gx _ _ (71, [(5, .int 1), (4, .int y2), (3, .int x2), (6, .int (nI k)), (0, .ref (34 + n)), (1, .int x0), (2, .int y0)], [], hp2) _
        refine px_gx (fun _ K => px_a 2 (f' := (74, [(5, .int 1), (4, .int y2), (3, .int x2), (6, .int (nI k)), (0, .ref (34 + n)), (1, .int x0), (2, .int y0)], [.int y0, .int y2], hp2)) rfl K) ?_
        refine px_gx (fun _ K => px_b2 false 83 rfl rfl (decide_eq_false (not_not_intro q2)) K) ?_
        show px_Gx _ _ (77, [(5, .int 1), (4, .int y2), (3, .int x2), (6, .int (nI k)), (0, .ref (34 + n)), (1, .int x0), (2, .int y0)], [], hp2) _
        refine px_gx (fun _ K => px_a 4 (f' := (11, [(6, .int ((nI k) + 1)), (5, .int 1), (4, .int y2), (3, .int x2), (0, .ref (34 + n)), (1, .int x0), (2, .int y0)], [], hp2)) rfl K) ?_
        rw [nI_1]
        refine px_wk [(6, .int (nI (k + 1))), (5, .int (nI 1)), (4, .int y2), (3, .int x2), (0, .ref (34 + n)), (1, .int x0), (2, .int y0)] ⟨rfl, rfl, rfl, rfl, rfl, rfl, rfl, trivial⟩ ?_
        exact KA 1 x2 y2 hp2 (by decide) hn (fun z => absurd z.2.2 (by decide)) hox hlx hsx
      · refine px_gx (fun _ K => px_cv (34 + n) (as := [.int x2, .int y2, .int 0]) (rest := []) rfl rfl hox rfl rfl rfl rfl (Nat.le_of_ble_eq_true rfl) (c_nl_0r (d := d) hW hV hox hsx (by omega) (by omega) (by omega) (by omega) ha) K) ?_
        show px_Gx _ _ (64, [(4, .int y2), (3, .int x2), (6, .int (nI k)), (5, .int 0), (0, .ref (34 + n)), (1, .int x0), (2, .int y0)], [.int 1], hp2) _
        refine px_gx (fun _ K => px_a 3 (f' := (68, [(5, .int 1), (4, .int y2), (3, .int x2), (6, .int (nI k)), (0, .ref (34 + n)), (1, .int x0), (2, .int y0)], [.int x0, .int x2], hp2)) rfl K) ?_
        refine px_gx (fun _ K => px_b2 false 83 rfl rfl (decide_eq_false (not_not_intro q1)) K) ?_
        show px_Gx _ _ (71, [(5, .int 1), (4, .int y2), (3, .int x2), (6, .int (nI k)), (0, .ref (34 + n)), (1, .int x0), (2, .int y0)], [], hp2) _
        refine px_gx (fun _ K => px_a 2 (f' := (74, [(5, .int 1), (4, .int y2), (3, .int x2), (6, .int (nI k)), (0, .ref (34 + n)), (1, .int x0), (2, .int y0)], [.int y0, .int y2], hp2)) rfl K) ?_
        refine px_gx (fun _ K => px_b2 true 83 rfl rfl (decide_eq_true q2) K) ?_
        show px_Gx _ _ (83, [(5, .int 1), (4, .int y2), (3, .int x2), (6, .int (nI k)), (0, .ref (34 + n)), (1, .int x0), (2, .int y0)], [], hp2) _
        refine px_gx (fun _ K => px_a 2 (f' := (11, [(6, .int ((nI k) + 1)), (5, .int 1), (4, .int y2), (3, .int x2), (0, .ref (34 + n)), (1, .int x0), (2, .int y0)], [], hp2)) rfl K) ?_
        rw [nI_1]
        refine px_wk [(6, .int (nI (k + 1))), (5, .int (nI 1)), (4, .int y2), (3, .int x2), (0, .ref (34 + n)), (1, .int x0), (2, .int y0)] ⟨rfl, rfl, rfl, rfl, rfl, rfl, rfl, trivial⟩ ?_
        exact KA 1 x2 y2 hp2 (by decide) hn (fun z => q2 z.2.1) hox hlx hsx
    · refine px_gx (fun _ K => px_cv (34 + n) (as := [.int x2, .int y2, .int 0]) (rest := []) rfl rfl hox rfl rfl rfl rfl (Nat.le_of_ble_eq_true rfl) (c_nl_0r (d := d) hW hV hox hsx (by omega) (by omega) (by omega) (by omega) ha) K) ?_
      show px_Gx _ _ (64, [(4, .int y2), (3, .int x2), (6, .int (nI k)), (5, .int 0), (0, .ref (34 + n)), (1, .int x0), (2, .int y0)], [.int 1], hp2) _
      refine px_gx (fun _ K => px_a 3 (f' := (68, [(5, .int 1), (4, .int y2), (3, .int x2), (6, .int (nI k)), (0, .ref (34 + n)), (1, .int x0), (2, .int y0)], [.int x0, .int x2], hp2)) rfl K) ?_
      refine px_gx (fun _ K => px_b2 true 83 rfl rfl (decide_eq_true q1) K) ?_
      show px_Gx _ _ (83, [(5, .int 1), (4, .int y2), (3, .int x2), (6, .int (nI k)), (0, .ref (34 + n)), (1, .int x0), (2, .int y0)], [], hp2) _
      refine px_gx (fun _ K => px_a 2 (f' := (11, [(6, .int ((nI k) + 1)), (5, .int 1), (4, .int y2), (3, .int x2), (0, .ref (34 + n)), (1, .int x0), (2, .int y0)], [], hp2)) rfl K) ?_
      rw [nI_1]
      refine px_wk [(6, .int (nI (k + 1))), (5, .int (nI 1)), (4, .int y2), (3, .int x2), (0, .ref (34 + n)), (1, .int x0), (2, .int y0)] ⟨rfl, rfl, rfl, rfl, rfl, rfl, rfl, trivial⟩ ?_
      exact KA 1 x2 y2 hp2 (by decide) hn (fun z => q1 z.1) hox hlx hsx
  · rcases Bool.eq_false_or_eq_true (m_sd (x_T W V s) x2.toInt y2.toInt 0) with hb | hb
    · have hn : m_st (x_T W V s) (x0.toInt, y0.toInt, 0) (k + 1) = (x2.toInt, y2.toInt, 0) := by
        show m_nx _ (m_st (x_T W V s) (x0.toInt, y0.toInt, 0) k) = _
        rw [hst]
        exact m_nx_s ex ey ha hb
      by_cases q1 : x2 = x0
      · by_cases q2 : y2 = y0
        · refine px_gx (fun _ K => px_cv (34 + n) (as := [.int x2, .int y2, .int 0]) (rest := []) rfl rfl hox rfl rfl rfl rfl (Nat.le_of_ble_eq_true rfl) (c_nl_0s (d := d) hW hV hox hsx (by omega) (by omega) (by omega) (by omega) ha hb) K) ?_
          show px_Gx _ _ (64, [(4, .int y2), (3, .int x2), (6, .int (nI k)), (5, .int 0), (0, .ref (34 + n)), (1, .int x0), (2, .int y0)], [.int 0], hp2) _
          refine px_gx (fun _ K => px_a 3 (f' := (68, [(5, .int 0), (4, .int y2), (3, .int x2), (6, .int (nI k)), (0, .ref (34 + n)), (1, .int x0), (2, .int y0)], [.int x0, .int x2], hp2)) rfl K) ?_
          refine px_gx (fun _ K => px_b2 false 83 rfl rfl (decide_eq_false (not_not_intro q1)) K) ?_
          show px_Gx _ _ (71, [(5, .int 0), (4, .int y2), (3, .int x2), (6, .int (nI k)), (0, .ref (34 + n)), (1, .int x0), (2, .int y0)], [], hp2) _
          refine px_gx (fun _ K => px_a 2 (f' := (74, [(5, .int 0), (4, .int y2), (3, .int x2), (6, .int (nI k)), (0, .ref (34 + n)), (1, .int x0), (2, .int y0)], [.int y0, .int y2], hp2)) rfl K) ?_
          refine px_gx (fun _ K => px_b2 false 83 rfl rfl (decide_eq_false (not_not_intro q2)) K) ?_
          show px_Gx _ _ (77, [(5, .int 0), (4, .int y2), (3, .int x2), (6, .int (nI k)), (0, .ref (34 + n)), (1, .int x0), (2, .int y0)], [], hp2) _
          refine px_gx (fun _ K => px_a 2 (f' := (82, [(5, .int 0), (4, .int y2), (3, .int x2), (6, .int (nI k)), (0, .ref (34 + n)), (1, .int x0), (2, .int y0)], [], hp2)) rfl K) ?_
          exact ⟨_, _, px_e rfl rfl, KE hp2 (by rw [hn, q1, q2]) hox hlx⟩
        · refine px_gx (fun _ K => px_cv (34 + n) (as := [.int x2, .int y2, .int 0]) (rest := []) rfl rfl hox rfl rfl rfl rfl (Nat.le_of_ble_eq_true rfl) (c_nl_0s (d := d) hW hV hox hsx (by omega) (by omega) (by omega) (by omega) ha hb) K) ?_
          show px_Gx _ _ (64, [(4, .int y2), (3, .int x2), (6, .int (nI k)), (5, .int 0), (0, .ref (34 + n)), (1, .int x0), (2, .int y0)], [.int 0], hp2) _
          refine px_gx (fun _ K => px_a 3 (f' := (68, [(5, .int 0), (4, .int y2), (3, .int x2), (6, .int (nI k)), (0, .ref (34 + n)), (1, .int x0), (2, .int y0)], [.int x0, .int x2], hp2)) rfl K) ?_
          refine px_gx (fun _ K => px_b2 false 83 rfl rfl (decide_eq_false (not_not_intro q1)) K) ?_
          show px_Gx _ _ (71, [(5, .int 0), (4, .int y2), (3, .int x2), (6, .int (nI k)), (0, .ref (34 + n)), (1, .int x0), (2, .int y0)], [], hp2) _
          refine px_gx (fun _ K => px_a 2 (f' := (74, [(5, .int 0), (4, .int y2), (3, .int x2), (6, .int (nI k)), (0, .ref (34 + n)), (1, .int x0), (2, .int y0)], [.int y0, .int y2], hp2)) rfl K) ?_
          refine px_gx (fun _ K => px_b2 true 83 rfl rfl (decide_eq_true q2) K) ?_
          show px_Gx _ _ (83, [(5, .int 0), (4, .int y2), (3, .int x2), (6, .int (nI k)), (0, .ref (34 + n)), (1, .int x0), (2, .int y0)], [], hp2) _
          refine px_gx (fun _ K => px_a 2 (f' := (11, [(6, .int ((nI k) + 1)), (5, .int 0), (4, .int y2), (3, .int x2), (0, .ref (34 + n)), (1, .int x0), (2, .int y0)], [], hp2)) rfl K) ?_
          rw [nI_1]
          refine px_wk [(6, .int (nI (k + 1))), (5, .int (nI 0)), (4, .int y2), (3, .int x2), (0, .ref (34 + n)), (1, .int x0), (2, .int y0)] ⟨rfl, rfl, rfl, rfl, rfl, rfl, rfl, trivial⟩ ?_
          exact KA 0 x2 y2 hp2 (by decide) hn (fun z => q2 z.2.1) hox hlx hsx
      · refine px_gx (fun _ K => px_cv (34 + n) (as := [.int x2, .int y2, .int 0]) (rest := []) rfl rfl hox rfl rfl rfl rfl (Nat.le_of_ble_eq_true rfl) (c_nl_0s (d := d) hW hV hox hsx (by omega) (by omega) (by omega) (by omega) ha hb) K) ?_
        show px_Gx _ _ (64, [(4, .int y2), (3, .int x2), (6, .int (nI k)), (5, .int 0), (0, .ref (34 + n)), (1, .int x0), (2, .int y0)], [.int 0], hp2) _
        refine px_gx (fun _ K => px_a 3 (f' := (68, [(5, .int 0), (4, .int y2), (3, .int x2), (6, .int (nI k)), (0, .ref (34 + n)), (1, .int x0), (2, .int y0)], [.int x0, .int x2], hp2)) rfl K) ?_
        refine px_gx (fun _ K => px_b2 true 83 rfl rfl (decide_eq_true q1) K) ?_
        show px_Gx _ _ (83, [(5, .int 0), (4, .int y2), (3, .int x2), (6, .int (nI k)), (0, .ref (34 + n)), (1, .int x0), (2, .int y0)], [], hp2) _
        refine px_gx (fun _ K => px_a 2 (f' := (11, [(6, .int ((nI k) + 1)), (5, .int 0), (4, .int y2), (3, .int x2), (0, .ref (34 + n)), (1, .int x0), (2, .int y0)], [], hp2)) rfl K) ?_
        rw [nI_1]
        refine px_wk [(6, .int (nI (k + 1))), (5, .int (nI 0)), (4, .int y2), (3, .int x2), (0, .ref (34 + n)), (1, .int x0), (2, .int y0)] ⟨rfl, rfl, rfl, rfl, rfl, rfl, rfl, trivial⟩ ?_
        exact KA 0 x2 y2 hp2 (by decide) hn (fun z => q1 z.1) hox hlx hsx
    · have hn : m_st (x_T W V s) (x0.toInt, y0.toInt, 0) (k + 1) = (x2.toInt, y2.toInt, 3) := by
        show m_nx _ (m_st (x_T W V s) (x0.toInt, y0.toInt, 0) k) = _
        rw [hst]
        exact m_nx_l ex ey ha hb
      by_cases q1 : x2 = x0
      · by_cases q2 : y2 = y0
        · refine px_gx (fun _ K => px_cv (34 + n) (as := [.int x2, .int y2, .int 0]) (rest := []) rfl rfl hox rfl rfl rfl rfl (Nat.le_of_ble_eq_true rfl) (c_nl_0l (d := d) hW hV hox hsx (by omega) (by omega) (by omega) (by omega) ha hb) K) ?_
          show px_Gx _ _ (64, [(4, .int y2), (3, .int x2), (6, .int (nI k)), (5, .int 0), (0, .ref (34 + n)), (1, .int x0), (2, .int y0)], [.int 3], hp2) _
          refine px_gx (fun _ K => px_a 3 (f' := (68, [(5, .int 3), (4, .int y2), (3, .int x2), (6, .int (nI k)), (0, .ref (34 + n)), (1, .int x0), (2, .int y0)], [.int x0, .int x2], hp2)) rfl K) ?_
          refine px_gx (fun _ K => px_b2 false 83 rfl rfl (decide_eq_false (not_not_intro q1)) K) ?_
          show px_Gx _ _ (71, [(5, .int 3), (4, .int y2), (3, .int x2), (6, .int (nI k)), (0, .ref (34 + n)), (1, .int x0), (2, .int y0)], [], hp2) _
          refine px_gx (fun _ K => px_a 2 (f' := (74, [(5, .int 3), (4, .int y2), (3, .int x2), (6, .int (nI k)), (0, .ref (34 + n)), (1, .int x0), (2, .int y0)], [.int y0, .int y2], hp2)) rfl K) ?_
          refine px_gx (fun _ K => px_b2 false 83 rfl rfl (decide_eq_false (not_not_intro q2)) K) ?_
          show px_Gx _ _ (77, [(5, .int 3), (4, .int y2), (3, .int x2), (6, .int (nI k)), (0, .ref (34 + n)), (1, .int x0), (2, .int y0)], [], hp2) _
          refine px_gx (fun _ K => px_a 4 (f' := (11, [(6, .int ((nI k) + 1)), (5, .int 3), (4, .int y2), (3, .int x2), (0, .ref (34 + n)), (1, .int x0), (2, .int y0)], [], hp2)) rfl K) ?_
          rw [nI_1]
          refine px_wk [(6, .int (nI (k + 1))), (5, .int (nI 3)), (4, .int y2), (3, .int x2), (0, .ref (34 + n)), (1, .int x0), (2, .int y0)] ⟨rfl, rfl, rfl, rfl, rfl, rfl, rfl, trivial⟩ ?_
          exact KA 3 x2 y2 hp2 (by decide) hn (fun z => absurd z.2.2 (by decide)) hox hlx hsx
        · refine px_gx (fun _ K => px_cv (34 + n) (as := [.int x2, .int y2, .int 0]) (rest := []) rfl rfl hox rfl rfl rfl rfl (Nat.le_of_ble_eq_true rfl) (c_nl_0l (d := d) hW hV hox hsx (by omega) (by omega) (by omega) (by omega) ha hb) K) ?_
          show px_Gx _ _ (64, [(4, .int y2), (3, .int x2), (6, .int (nI k)), (5, .int 0), (0, .ref (34 + n)), (1, .int x0), (2, .int y0)], [.int 3], hp2) _
          refine px_gx (fun _ K => px_a 3 (f' := (68, [(5, .int 3), (4, .int y2), (3, .int x2), (6, .int (nI k)), (0, .ref (34 + n)), (1, .int x0), (2, .int y0)], [.int x0, .int x2], hp2)) rfl K) ?_
          refine px_gx (fun _ K => px_b2 false 83 rfl rfl (decide_eq_false (not_not_intro q1)) K) ?_
          show px_Gx _ _ (71, [(5, .int 3), (4, .int y2), (3, .int x2), (6, .int (nI k)), (0, .ref (34 + n)), (1, .int x0), (2, .int y0)], [], hp2) _
          refine px_gx (fun _ K => px_a 2 (f' := (74, [(5, .int 3), (4, .int y2), (3, .int x2), (6, .int (nI k)), (0, .ref (34 + n)), (1, .int x0), (2, .int y0)], [.int y0, .int y2], hp2)) rfl K) ?_
          refine px_gx (fun _ K => px_b2 true 83 rfl rfl (decide_eq_true q2) K) ?_
          show px_Gx _ _ (83, [(5, .int 3), (4, .int y2), (3, .int x2), (6, .int (nI k)), (0, .ref (34 + n)), (1, .int x0), (2, .int y0)], [], hp2) _
          refine px_gx (fun _ K => px_a 2 (f' := (11, [(6, .int ((nI k) + 1)), (5, .int 3), (4, .int y2), (3, .int x2), (0, .ref (34 + n)), (1, .int x0), (2, .int y0)], [], hp2)) rfl K) ?_
          rw [nI_1]
          refine px_wk [(6, .int (nI (k + 1))), (5, .int (nI 3)), (4, .int y2), (3, .int x2), (0, .ref (34 + n)), (1, .int x0), (2, .int y0)] ⟨rfl, rfl, rfl, rfl, rfl, rfl, rfl, trivial⟩ ?_
          exact KA 3 x2 y2 hp2 (by decide) hn (fun z => q2 z.2.1) hox hlx hsx
      · refine px_gx (fun _ K => px_cv (34 + n) (as := [.int x2, .int y2, .int 0]) (rest := []) rfl rfl hox rfl rfl rfl rfl (Nat.le_of_ble_eq_true rfl) (c_nl_0l (d := d) hW hV hox hsx (by omega) (by omega) (by omega) (by omega) ha hb) K) ?_
        show px_Gx _ _ (64, [(4, .int y2), (3, .int x2), (6, .int (nI k)), (5, .int 0), (0, .ref (34 + n)), (1, .int x0), (2, .int y0)], [.int 3], hp2) _
        refine px_gx (fun _ K => px_a 3 (f' := (68, [(5, .int 3), (4, .int y2), (3, .int x2), (6, .int (nI k)), (0, .ref (34 + n)), (1, .int x0), (2, .int y0)], [.int x0, .int x2], hp2)) rfl K) ?_
        refine px_gx (fun _ K => px_b2 true 83 rfl rfl (decide_eq_true q1) K) ?_
        show px_Gx _ _ (83, [(5, .int 3), (4, .int y2), (3, .int x2), (6, .int (nI k)), (0, .ref (34 + n)), (1, .int x0), (2, .int y0)], [], hp2) _
        refine px_gx (fun _ K => px_a 2 (f' := (11, [(6, .int ((nI k) + 1)), (5, .int 3), (4, .int y2), (3, .int x2), (0, .ref (34 + n)), (1, .int x0), (2, .int y0)], [], hp2)) rfl K) ?_
        rw [nI_1]
        refine px_wk [(6, .int (nI (k + 1))), (5, .int (nI 3)), (4, .int y2), (3, .int x2), (0, .ref (34 + n)), (1, .int x0), (2, .int y0)] ⟨rfl, rfl, rfl, rfl, rfl, rfl, rfl, trivial⟩ ?_
        exact KA 3 x2 y2 hp2 (by decide) hn (fun z => q1 z.1) hox hlx hsx
set_option maxRecDepth 20000 in
set_option maxHeartbeats 4000000 in
theorem c_fs_1 {d : Nat} {n : Nat} {hp : px_H} {W V : Nat} {le rc : Int32} {s : Int64} {k : Nat} {x0 y0 x y : Int32} {ls : List Value} {P : px_O → px_H → Prop} (hW : W ≤ 6) (hV : V ≤ 6) (hk : k < 84) (bx1 : 0 ≤ x.toInt) (bx2 : x.toInt ≤ 6) (by1 : 0 ≤ y.toInt) (by2 : y.toInt ≤ 6) (ho : hp[34 + n]? = some (2, [.int (nI W), .int (nI V), .ref (35 + n), .ref (36 + n), .ref (37 + n), .int le, .int rc, .long s])) (hls : hp[35 + n]? = some (10, ls)) (hs : c_St hp) (hll : ls.length = 84) (hst : m_st (x_T W V s) (x0.toInt, y0.toInt, 0) k = (x.toInt, y.toInt, 1))
    (KA : ∀ (w2 : Nat) (x2 y2 : Int32) (hp2 : px_H), w2 < 4 → m_st (x_T W V s) (x0.toInt, y0.toInt, 0) (k + 1) = (x2.toInt, y2.toInt, w2) → ¬ (x2 = x0 ∧ y2 = y0 ∧ w2 = 0) → hp2[34 + n]? = some (2, [.int (nI W), .int (nI V), .ref (35 + n), .ref (36 + n), .ref (37 + n), .int (nI (k + 1)), .int rc, .long s]) → hp2[35 + n]? = some (10, ls.set (nI k).toNatClampNeg (.int 1)) → c_St hp2 → px_Gx (d + 3) 36 (11, [(6, .int (nI (k + 1))), (5, .int (nI w2)), (4, .int y2), (3, .int x2), (0, .ref (34 + n)), (1, .int x0), (2, .int y0)], [], hp2) P)
    (KE : ∀ hp2 : px_H, m_st (x_T W V s) (x0.toInt, y0.toInt, 0) (k + 1) = (x0.toInt, y0.toInt, 0) → hp2[34 + n]? = some (2, [.int (nI W), .int (nI V), .ref (35 + n), .ref (36 + n), .ref (37 + n), .int (nI (k + 1)), .int rc, .long s]) → hp2[35 + n]? = some (10, ls.set (nI k).toNatClampNeg (.int 1)) → P (.inl none) hp2) : px_Gx (d + 3) 36 (11, [(6, .int (nI k)), (5, .int 1), (4, .int y), (3, .int x), (0, .ref (34 + n)), (1, .int x0), (2, .int y0)], [], hp) P := by
  have hs1 : hp[(1 : Nat)]? = some (20, [.int 1, .int 0, .int (-1), .int 0]) := hs 0 (by decide)
  have hs2 : hp[(2 : Nat)]? = some (20, [.int 0, .int 1, .int 0, .int (-1)]) := hs 1 (by decide)
  refine px_gx (fun _ K => px_a 2 (f' := (15, [(6, .int (nI k)), (5, .int 1), (4, .int y), (3, .int x), (0, .ref (34 + n)), (1, .int x0), (2, .int y0)], [.int 84, .int (nI k)], hp)) rfl K) ?_
  refine px_gx (fun _ K => px_b2 false 89 rfl rfl (decide_eq_false (Int32.not_le.mpr (nI_lt (b := 84) (by omega) (by decide)))) K) ?_
  show px_Gx _ _ (18, [(6, .int (nI k)), (5, .int 1), (4, .int y), (3, .int x), (0, .ref (34 + n)), (1, .int x0), (2, .int y0)], [], hp) _
  refine px_gx (fun _ K => px_a 1 (f' := (19, [(6, .int (nI k)), (5, .int 1), (4, .int y), (3, .int x), (0, .ref (34 + n)), (1, .int x0), (2, .int y0)], [.ref (34 + n)], hp)) rfl K) ?_
  refine px_gx (fun _ K => px_gf (34 + n) 16 2 2 (.ref (35 + n)) rfl rfl ho rfl K) ?_
  show px_Gx _ _ (22, [(6, .int (nI k)), (5, .int 1), (4, .int y), (3, .int x), (0, .ref (34 + n)), (1, .int x0), (2, .int y0)], [.ref (35 + n)], hp) _
  refine px_gx (fun _ K => px_a 2 (f' := (26, [(6, .int (nI k)), (5, .int 1), (4, .int y), (3, .int x), (0, .ref (34 + n)), (1, .int x0), (2, .int y0)], [.int 1, .int (nI k), .ref (35 + n)], hp)) rfl K) ?_
  refine px_gx (fun _ K => px_ias (35 + n) rfl hls (by omega) (nI_pos (by omega)) (by rw [nI_clamp (by omega)]; omega) K) ?_
  have hf1__34___n_ : (hp.set (35 + n) (10, ls.set (nI k).toNatClampNeg (.int 1)))[(34 + n)]? = some (2, [.int (nI W), .int (nI V), .ref (35 + n), .ref (36 + n), .ref (37 + n), .int le, .int rc, .long s]) := px_ne ho (by omega)
  have hf1__35___n_ : (hp.set (35 + n) (10, ls.set (nI k).toNatClampNeg (.int 1)))[(35 + n)]? = some (10, ls.set (nI k).toNatClampNeg (.int 1)) := px_self hls
  have hf1_1 : (hp.set (35 + n) (10, ls.set (nI k).toNatClampNeg (.int 1)))[(1 : Nat)]? = some (20, [.int 1, .int 0, .int (-1), .int 0]) := px_ne hs1 (by omega)
  have hf1_2 : (hp.set (35 + n) (10, ls.set (nI k).toNatClampNeg (.int 1)))[(2 : Nat)]? = some (20, [.int 0, .int 1, .int 0, .int (-1)]) := px_ne hs2 (by omega)
  show px_Gx _ _ (27, [(6, .int (nI k)), (5, .int 1), (4, .int y), (3, .int x), (0, .ref (34 + n)), (1, .int x0), (2, .int y0)], [], (hp.set (35 + n) (10, ls.set (nI k).toNatClampNeg (.int 1)))) _
  refine px_gx (fun _ K => px_a 4 (f' := (32, [(6, .int (nI k)), (5, .int 1), (4, .int y), (3, .int x), (0, .ref (34 + n)), (1, .int x0), (2, .int y0)], [.int ((nI k) + 1), .ref (34 + n)], (hp.set (35 + n) (10, ls.set (nI k).toNatClampNeg (.int 1))))) rfl K) ?_
  refine px_gx (fun _ K => px_pf (34 + n) 30 2 5 rfl rfl hf1__34___n_ (by omega) (by simp) rfl rfl (by decide) K) ?_
  have hf2__34___n_ : (((hp.set (35 + n) (10, ls.set (nI k).toNatClampNeg (.int 1)))).set (34 + n) (2, [.int (nI W), .int (nI V), .ref (35 + n), .ref (36 + n), .ref (37 + n), .int ((nI k) + 1), .int rc, .long s]))[(34 + n)]? = some (2, [.int (nI W), .int (nI V), .ref (35 + n), .ref (36 + n), .ref (37 + n), .int ((nI k) + 1), .int rc, .long s]) := px_self hf1__34___n_
  have hf2__35___n_ : (((hp.set (35 + n) (10, ls.set (nI k).toNatClampNeg (.int 1)))).set (34 + n) (2, [.int (nI W), .int (nI V), .ref (35 + n), .ref (36 + n), .ref (37 + n), .int ((nI k) + 1), .int rc, .long s]))[(35 + n)]? = some (10, ls.set (nI k).toNatClampNeg (.int 1)) := px_ne hf1__35___n_ (by omega)
  have hf2_1 : (((hp.set (35 + n) (10, ls.set (nI k).toNatClampNeg (.int 1)))).set (34 + n) (2, [.int (nI W), .int (nI V), .ref (35 + n), .ref (36 + n), .ref (37 + n), .int ((nI k) + 1), .int rc, .long s]))[(1 : Nat)]? = some (20, [.int 1, .int 0, .int (-1), .int 0]) := px_ne hf1_1 (by omega)
  have hf2_2 : (((hp.set (35 + n) (10, ls.set (nI k).toNatClampNeg (.int 1)))).set (34 + n) (2, [.int (nI W), .int (nI V), .ref (35 + n), .ref (36 + n), .ref (37 + n), .int ((nI k) + 1), .int rc, .long s]))[(2 : Nat)]? = some (20, [.int 0, .int 1, .int 0, .int (-1)]) := px_ne hf1_2 (by omega)
  show px_Gx _ _ (35, [(6, .int (nI k)), (5, .int 1), (4, .int y), (3, .int x), (0, .ref (34 + n)), (1, .int x0), (2, .int y0)], [], (((hp.set (35 + n) (10, ls.set (nI k).toNatClampNeg (.int 1)))).set (34 + n) (2, [.int (nI W), .int (nI V), .ref (35 + n), .ref (36 + n), .ref (37 + n), .int ((nI k) + 1), .int rc, .long s]))) _
  refine px_gx (fun _ K => px_a 3 (f' := (41, [(6, .int (nI k)), (5, .int 1), (4, .int y), (3, .int x), (0, .ref (34 + n)), (1, .int x0), (2, .int y0)], [.int 1, .ref 1, .int x], (((hp.set (35 + n) (10, ls.set (nI k).toNatClampNeg (.int 1)))).set (34 + n) (2, [.int (nI W), .int (nI V), .ref (35 + n), .ref (36 + n), .ref (37 + n), .int ((nI k) + 1), .int rc, .long s])))) rfl K) ?_
  refine px_gx (fun _ K => px_al 1 (.int 0) rfl hf2_1 (Or.inl ⟨rfl, Or.inr rfl⟩) (by decide) (rfl) K) ?_
  show px_Gx _ _ (42, [(6, .int (nI k)), (5, .int 1), (4, .int y), (3, .int x), (0, .ref (34 + n)), (1, .int x0), (2, .int y0)], [.int 0, .int x], (((hp.set (35 + n) (10, ls.set (nI k).toNatClampNeg (.int 1)))).set (34 + n) (2, [.int (nI W), .int (nI V), .ref (35 + n), .ref (36 + n), .ref (37 + n), .int ((nI k) + 1), .int rc, .long s]))) _
  refine px_gx (fun _ K => px_a 5 (f' := (51, [(3, .int (x + 0)), (6, .int (nI k)), (5, .int 1), (4, .int y), (0, .ref (34 + n)), (1, .int x0), (2, .int y0)], [.int 1, .ref 2, .int y], (((hp.set (35 + n) (10, ls.set (nI k).toNatClampNeg (.int 1)))).set (34 + n) (2, [.int (nI W), .int (nI V), .ref (35 + n), .ref (36 + n), .ref (37 + n), .int ((nI k) + 1), .int rc, .long s])))) rfl K) ?_
  refine px_gx (fun _ K => px_al 2 (.int 1) rfl hf2_2 (Or.inl ⟨rfl, Or.inr rfl⟩) (by decide) (rfl) K) ?_
  show px_Gx _ _ (52, [(3, .int (x + 0)), (6, .int (nI k)), (5, .int 1), (4, .int y), (0, .ref (34 + n)), (1, .int x0), (2, .int y0)], [.int 1, .int y], (((hp.set (35 + n) (10, ls.set (nI k).toNatClampNeg (.int 1)))).set (34 + n) (2, [.int (nI W), .int (nI V), .ref (35 + n), .ref (36 + n), .ref (37 + n), .int ((nI k) + 1), .int rc, .long s]))) _
  refine px_gx (fun _ K => px_a 6 (f' := (61, [(4, .int (y + 1)), (3, .int (x + 0)), (6, .int (nI k)), (5, .int 1), (0, .ref (34 + n)), (1, .int x0), (2, .int y0)], [.int 1, .int (y + 1), .int (x + 0), .ref (34 + n)], (((hp.set (35 + n) (10, ls.set (nI k).toNatClampNeg (.int 1)))).set (34 + n) (2, [.int (nI W), .int (nI V), .ref (35 + n), .ref (36 + n), .ref (37 + n), .int ((nI k) + 1), .int rc, .long s])))) rfl K) ?_
  have hsx : c_St ((((hp.set (35 + n) (10, ls.set (nI k).toNatClampNeg (.int 1)))).set (34 + n) (2, [.int (nI W), .int (nI V), .ref (35 + n), .ref (36 + n), .ref (37 + n), .int ((nI k) + 1), .int rc, .long s]))) := c_St_set (c_St_set hs (by omega)) (by omega)
  have hox := hf2__34___n_
  have hlx := hf2__35___n_
  rw [nI_1] at hox hlx hsx ⊢
  generalize (((hp.set (35 + n) (10, ls.set (nI k).toNatClampNeg (.int 1)))).set (34 + n) (2, [.int (nI W), .int (nI V), .ref (35 + n), .ref (36 + n), .ref (37 + n), .int (nI (k + 1)), .int rc, .long s])) = hp2 at hox hlx hsx ⊢
  obtain ⟨x2, ex0, ex⟩ : ∃ q : Int32, q = x + 0 ∧ q.toInt = x.toInt + m_dx 1 := ⟨_, rfl, by
    have e1 : Int32.toInt 0 = 0 := rfl
    have e2 : m_dx 1 = 0 := rfl
    rw [i32_add (by omega) (by omega), e1, e2]⟩
  obtain ⟨y2, ey0, ey⟩ : ∃ q : Int32, q = y + 1 ∧ q.toInt = y.toInt + m_dy 1 := ⟨_, rfl, by
    have e1 : Int32.toInt 1 = 1 := rfl
    have e2 : m_dy 1 = 1 := rfl
    rw [i32_add (by omega) (by omega), e1, e2]⟩
  have e2x : m_dx 1 = 0 := rfl
  have e2y : m_dy 1 = 1 := rfl
  rw [← ex0, ← ey0]
  rcases Bool.eq_false_or_eq_true (m_sd (x_T W V s) x2.toInt y2.toInt 2) with ha | ha
  · have hn : m_st (x_T W V s) (x0.toInt, y0.toInt, 0) (k + 1) = (x2.toInt, y2.toInt, 2) := by
      show m_nx _ (m_st (x_T W V s) (x0.toInt, y0.toInt, 0) k) = _
      rw [hst]
      exact m_nx_r ex ey ha
    by_cases q1 : x2 = x0
    · by_cases q2 : y2 = y0
      · refine px_gx (fun _ K => px_cv (34 + n) (as := [.int x2, .int y2, .int 1]) (rest := []) rfl rfl hox rfl rfl rfl rfl (Nat.le_of_ble_eq_true rfl) (c_nl_1r (d := d) hW hV hox hsx (by omega) (by omega) (by omega) (by omega) ha) K) ?_
        show px_Gx _ _ (64, [(4, .int y2), (3, .int x2), (6, .int (nI k)), (5, .int 1), (0, .ref (34 + n)), (1, .int x0), (2, .int y0)], [.int 2], hp2) _
        refine px_gx (fun _ K => px_a 3 (f' := (68, [(5, .int 2), (4, .int y2), (3, .int x2), (6, .int (nI k)), (0, .ref (34 + n)), (1, .int x0), (2, .int y0)], [.int x0, .int x2], hp2)) rfl K) ?_
        refine px_gx (fun _ K => px_b2 false 83 rfl rfl (decide_eq_false (not_not_intro q1)) K) ?_
        show px_Gx _ _ (71, [(5, .int 2), (4, .int y2), (3, .int x2), (6, .int (nI k)), (0, .ref (34 + n)), (1, .int x0), (2, .int y0)], [], hp2) _
        refine px_gx (fun _ K => px_a 2 (f' := (74, [(5, .int 2), (4, .int y2), (3, .int x2), (6, .int (nI k)), (0, .ref (34 + n)), (1, .int x0), (2, .int y0)], [.int y0, .int y2], hp2)) rfl K) ?_
        refine px_gx (fun _ K => px_b2 false 83 rfl rfl (decide_eq_false (not_not_intro q2)) K) ?_
        show px_Gx _ _ (77, [(5, .int 2), (4, .int y2), (3, .int x2), (6, .int (nI k)), (0, .ref (34 + n)), (1, .int x0), (2, .int y0)], [], hp2) _
        refine px_gx (fun _ K => px_a 4 (f' := (11, [(6, .int ((nI k) + 1)), (5, .int 2), (4, .int y2), (3, .int x2), (0, .ref (34 + n)), (1, .int x0), (2, .int y0)], [], hp2)) rfl K) ?_
        rw [nI_1]
        refine px_wk [(6, .int (nI (k + 1))), (5, .int (nI 2)), (4, .int y2), (3, .int x2), (0, .ref (34 + n)), (1, .int x0), (2, .int y0)] ⟨rfl, rfl, rfl, rfl, rfl, rfl, rfl, trivial⟩ ?_
        exact KA 2 x2 y2 hp2 (by decide) hn (fun z => absurd z.2.2 (by decide)) hox hlx hsx
      · refine px_gx (fun _ K => px_cv (34 + n) (as := [.int x2, .int y2, .int 1]) (rest := []) rfl rfl hox rfl rfl rfl rfl (Nat.le_of_ble_eq_true rfl) (c_nl_1r (d := d) hW hV hox hsx (by omega) (by omega) (by omega) (by omega) ha) K) ?_
        show px_Gx _ _ (64, [(4, .int y2), (3, .int x2), (6, .int (nI k)), (5, .int 1), (0, .ref (34 + n)), (1, .int x0), (2, .int y0)], [.int 2], hp2) _
        refine px_gx (fun _ K => px_a 3 (f' := (68, [(5, .int 2), (4, .int y2), (3, .int x2), (6, .int (nI k)), (0, .ref (34 + n)), (1, .int x0), (2, .int y0)], [.int x0, .int x2], hp2)) rfl K) ?_
        refine px_gx (fun _ K => px_b2 false 83 rfl rfl (decide_eq_false (not_not_intro q1)) K) ?_
        show px_Gx _ _ (71, [(5, .int 2), (4, .int y2), (3, .int x2), (6, .int (nI k)), (0, .ref (34 + n)), (1, .int x0), (2, .int y0)], [], hp2) _
        refine px_gx (fun _ K => px_a 2 (f' := (74, [(5, .int 2), (4, .int y2), (3, .int x2), (6, .int (nI k)), (0, .ref (34 + n)), (1, .int x0), (2, .int y0)], [.int y0, .int y2], hp2)) rfl K) ?_
        refine px_gx (fun _ K => px_b2 true 83 rfl rfl (decide_eq_true q2) K) ?_
        show px_Gx _ _ (83, [(5, .int 2), (4, .int y2), (3, .int x2), (6, .int (nI k)), (0, .ref (34 + n)), (1, .int x0), (2, .int y0)], [], hp2) _
        refine px_gx (fun _ K => px_a 2 (f' := (11, [(6, .int ((nI k) + 1)), (5, .int 2), (4, .int y2), (3, .int x2), (0, .ref (34 + n)), (1, .int x0), (2, .int y0)], [], hp2)) rfl K) ?_
        rw [nI_1]
        refine px_wk [(6, .int (nI (k + 1))), (5, .int (nI 2)), (4, .int y2), (3, .int x2), (0, .ref (34 + n)), (1, .int x0), (2, .int y0)] ⟨rfl, rfl, rfl, rfl, rfl, rfl, rfl, trivial⟩ ?_
        exact KA 2 x2 y2 hp2 (by decide) hn (fun z => q2 z.2.1) hox hlx hsx
    · refine px_gx (fun _ K => px_cv (34 + n) (as := [.int x2, .int y2, .int 1]) (rest := []) rfl rfl hox rfl rfl rfl rfl (Nat.le_of_ble_eq_true rfl) (c_nl_1r (d := d) hW hV hox hsx (by omega) (by omega) (by omega) (by omega) ha) K) ?_
      show px_Gx _ _ (64, [(4, .int y2), (3, .int x2), (6, .int (nI k)), (5, .int 1), (0, .ref (34 + n)), (1, .int x0), (2, .int y0)], [.int 2], hp2) _
      refine px_gx (fun _ K => px_a 3 (f' := (68, [(5, .int 2), (4, .int y2), (3, .int x2), (6, .int (nI k)), (0, .ref (34 + n)), (1, .int x0), (2, .int y0)], [.int x0, .int x2], hp2)) rfl K) ?_
      refine px_gx (fun _ K => px_b2 true 83 rfl rfl (decide_eq_true q1) K) ?_
      show px_Gx _ _ (83, [(5, .int 2), (4, .int y2), (3, .int x2), (6, .int (nI k)), (0, .ref (34 + n)), (1, .int x0), (2, .int y0)], [], hp2) _
      refine px_gx (fun _ K => px_a 2 (f' := (11, [(6, .int ((nI k) + 1)), (5, .int 2), (4, .int y2), (3, .int x2), (0, .ref (34 + n)), (1, .int x0), (2, .int y0)], [], hp2)) rfl K) ?_
      rw [nI_1]
      refine px_wk [(6, .int (nI (k + 1))), (5, .int (nI 2)), (4, .int y2), (3, .int x2), (0, .ref (34 + n)), (1, .int x0), (2, .int y0)] ⟨rfl, rfl, rfl, rfl, rfl, rfl, rfl, trivial⟩ ?_
      exact KA 2 x2 y2 hp2 (by decide) hn (fun z => q1 z.1) hox hlx hsx
  · rcases Bool.eq_false_or_eq_true (m_sd (x_T W V s) x2.toInt y2.toInt 1) with hb | hb
    · have hn : m_st (x_T W V s) (x0.toInt, y0.toInt, 0) (k + 1) = (x2.toInt, y2.toInt, 1) := by
        show m_nx _ (m_st (x_T W V s) (x0.toInt, y0.toInt, 0) k) = _
        rw [hst]
        exact m_nx_s ex ey ha hb
      by_cases q1 : x2 = x0
      · by_cases q2 : y2 = y0
        · refine px_gx (fun _ K => px_cv (34 + n) (as := [.int x2, .int y2, .int 1]) (rest := []) rfl rfl hox rfl rfl rfl rfl (Nat.le_of_ble_eq_true rfl) (c_nl_1s (d := d) hW hV hox hsx (by omega) (by omega) (by omega) (by omega) ha hb) K) ?_
          show px_Gx _ _ (64, [(4, .int y2), (3, .int x2), (6, .int (nI k)), (5, .int 1), (0, .ref (34 + n)), (1, .int x0), (2, .int y0)], [.int 1], hp2) _
          refine px_gx (fun _ K => px_a 3 (f' := (68, [(5, .int 1), (4, .int y2), (3, .int x2), (6, .int (nI k)), (0, .ref (34 + n)), (1, .int x0), (2, .int y0)], [.int x0, .int x2], hp2)) rfl K) ?_
          refine px_gx (fun _ K => px_b2 false 83 rfl rfl (decide_eq_false (not_not_intro q1)) K) ?_
          show px_Gx _ _ (71, [(5, .int 1), (4, .int y2), (3, .int x2), (6, .int (nI k)), (0, .ref (34 + n)), (1, .int x0), (2, .int y0)], [], hp2) _
          refine px_gx (fun _ K => px_a 2 (f' := (74, [(5, .int 1), (4, .int y2), (3, .int x2), (6, .int (nI k)), (0, .ref (34 + n)), (1, .int x0), (2, .int y0)], [.int y0, .int y2], hp2)) rfl K) ?_
          refine px_gx (fun _ K => px_b2 false 83 rfl rfl (decide_eq_false (not_not_intro q2)) K) ?_
          show px_Gx _ _ (77, [(5, .int 1), (4, .int y2), (3, .int x2), (6, .int (nI k)), (0, .ref (34 + n)), (1, .int x0), (2, .int y0)], [], hp2) _
          refine px_gx (fun _ K => px_a 4 (f' := (11, [(6, .int ((nI k) + 1)), (5, .int 1), (4, .int y2), (3, .int x2), (0, .ref (34 + n)), (1, .int x0), (2, .int y0)], [], hp2)) rfl K) ?_
          rw [nI_1]
          refine px_wk [(6, .int (nI (k + 1))), (5, .int (nI 1)), (4, .int y2), (3, .int x2), (0, .ref (34 + n)), (1, .int x0), (2, .int y0)] ⟨rfl, rfl, rfl, rfl, rfl, rfl, rfl, trivial⟩ ?_
          exact KA 1 x2 y2 hp2 (by decide) hn (fun z => absurd z.2.2 (by decide)) hox hlx hsx
        · refine px_gx (fun _ K => px_cv (34 + n) (as := [.int x2, .int y2, .int 1]) (rest := []) rfl rfl hox rfl rfl rfl rfl (Nat.le_of_ble_eq_true rfl) (c_nl_1s (d := d) hW hV hox hsx (by omega) (by omega) (by omega) (by omega) ha hb) K) ?_
          show px_Gx _ _ (64, [(4, .int y2), (3, .int x2), (6, .int (nI k)), (5, .int 1), (0, .ref (34 + n)), (1, .int x0), (2, .int y0)], [.int 1], hp2) _
          refine px_gx (fun _ K => px_a 3 (f' := (68, [(5, .int 1), (4, .int y2), (3, .int x2), (6, .int (nI k)), (0, .ref (34 + n)), (1, .int x0), (2, .int y0)], [.int x0, .int x2], hp2)) rfl K) ?_
          refine px_gx (fun _ K => px_b2 false 83 rfl rfl (decide_eq_false (not_not_intro q1)) K) ?_
          show px_Gx _ _ (71, [(5, .int 1), (4, .int y2), (3, .int x2), (6, .int (nI k)), (0, .ref (34 + n)), (1, .int x0), (2, .int y0)], [], hp2) _
          refine px_gx (fun _ K => px_a 2 (f' := (74, [(5, .int 1), (4, .int y2), (3, .int x2), (6, .int (nI k)), (0, .ref (34 + n)), (1, .int x0), (2, .int y0)], [.int y0, .int y2], hp2)) rfl K) ?_
          refine px_gx (fun _ K => px_b2 true 83 rfl rfl (decide_eq_true q2) K) ?_
          show px_Gx _ _ (83, [(5, .int 1), (4, .int y2), (3, .int x2), (6, .int (nI k)), (0, .ref (34 + n)), (1, .int x0), (2, .int y0)], [], hp2) _
          refine px_gx (fun _ K => px_a 2 (f' := (11, [(6, .int ((nI k) + 1)), (5, .int 1), (4, .int y2), (3, .int x2), (0, .ref (34 + n)), (1, .int x0), (2, .int y0)], [], hp2)) rfl K) ?_
          rw [nI_1]
          refine px_wk [(6, .int (nI (k + 1))), (5, .int (nI 1)), (4, .int y2), (3, .int x2), (0, .ref (34 + n)), (1, .int x0), (2, .int y0)] ⟨rfl, rfl, rfl, rfl, rfl, rfl, rfl, trivial⟩ ?_
          exact KA 1 x2 y2 hp2 (by decide) hn (fun z => q2 z.2.1) hox hlx hsx
      · refine px_gx (fun _ K => px_cv (34 + n) (as := [.int x2, .int y2, .int 1]) (rest := []) rfl rfl hox rfl rfl rfl rfl (Nat.le_of_ble_eq_true rfl) (c_nl_1s (d := d) hW hV hox hsx (by omega) (by omega) (by omega) (by omega) ha hb) K) ?_
        show px_Gx _ _ (64, [(4, .int y2), (3, .int x2), (6, .int (nI k)), (5, .int 1), (0, .ref (34 + n)), (1, .int x0), (2, .int y0)], [.int 1], hp2) _
        refine px_gx (fun _ K => px_a 3 (f' := (68, [(5, .int 1), (4, .int y2), (3, .int x2), (6, .int (nI k)), (0, .ref (34 + n)), (1, .int x0), (2, .int y0)], [.int x0, .int x2], hp2)) rfl K) ?_
        refine px_gx (fun _ K => px_b2 true 83 rfl rfl (decide_eq_true q1) K) ?_
        show px_Gx _ _ (83, [(5, .int 1), (4, .int y2), (3, .int x2), (6, .int (nI k)), (0, .ref (34 + n)), (1, .int x0), (2, .int y0)], [], hp2) _
        refine px_gx (fun _ K => px_a 2 (f' := (11, [(6, .int ((nI k) + 1)), (5, .int 1), (4, .int y2), (3, .int x2), (0, .ref (34 + n)), (1, .int x0), (2, .int y0)], [], hp2)) rfl K) ?_
        rw [nI_1]
        refine px_wk [(6, .int (nI (k + 1))), (5, .int (nI 1)), (4, .int y2), (3, .int x2), (0, .ref (34 + n)), (1, .int x0), (2, .int y0)] ⟨rfl, rfl, rfl, rfl, rfl, rfl, rfl, trivial⟩ ?_
        exact KA 1 x2 y2 hp2 (by decide) hn (fun z => q1 z.1) hox hlx hsx
    · have hn : m_st (x_T W V s) (x0.toInt, y0.toInt, 0) (k + 1) = (x2.toInt, y2.toInt, 0) := by
        show m_nx _ (m_st (x_T W V s) (x0.toInt, y0.toInt, 0) k) = _
        rw [hst]
        exact m_nx_l ex ey ha hb
      by_cases q1 : x2 = x0
      · by_cases q2 : y2 = y0
        · refine px_gx (fun _ K => px_cv (34 + n) (as := [.int x2, .int y2, .int 1]) (rest := []) rfl rfl hox rfl rfl rfl rfl (Nat.le_of_ble_eq_true rfl) (c_nl_1l (d := d) hW hV hox hsx (by omega) (by omega) (by omega) (by omega) ha hb) K) ?_
          show px_Gx _ _ (64, [(4, .int y2), (3, .int x2), (6, .int (nI k)), (5, .int 1), (0, .ref (34 + n)), (1, .int x0), (2, .int y0)], [.int 0], hp2) _
          refine px_gx (fun _ K => px_a 3 (f' := (68, [(5, .int 0), (4, .int y2), (3, .int x2), (6, .int (nI k)), (0, .ref (34 + n)), (1, .int x0), (2, .int y0)], [.int x0, .int x2], hp2)) rfl K) ?_
          refine px_gx (fun _ K => px_b2 false 83 rfl rfl (decide_eq_false (not_not_intro q1)) K) ?_
          show px_Gx _ _ (71, [(5, .int 0), (4, .int y2), (3, .int x2), (6, .int (nI k)), (0, .ref (34 + n)), (1, .int x0), (2, .int y0)], [], hp2) _
          refine px_gx (fun _ K => px_a 2 (f' := (74, [(5, .int 0), (4, .int y2), (3, .int x2), (6, .int (nI k)), (0, .ref (34 + n)), (1, .int x0), (2, .int y0)], [.int y0, .int y2], hp2)) rfl K) ?_
          refine px_gx (fun _ K => px_b2 false 83 rfl rfl (decide_eq_false (not_not_intro q2)) K) ?_
          show px_Gx _ _ (77, [(5, .int 0), (4, .int y2), (3, .int x2), (6, .int (nI k)), (0, .ref (34 + n)), (1, .int x0), (2, .int y0)], [], hp2) _
          refine px_gx (fun _ K => px_a 2 (f' := (82, [(5, .int 0), (4, .int y2), (3, .int x2), (6, .int (nI k)), (0, .ref (34 + n)), (1, .int x0), (2, .int y0)], [], hp2)) rfl K) ?_
          exact ⟨_, _, px_e rfl rfl, KE hp2 (by rw [hn, q1, q2]) hox hlx⟩
        · refine px_gx (fun _ K => px_cv (34 + n) (as := [.int x2, .int y2, .int 1]) (rest := []) rfl rfl hox rfl rfl rfl rfl (Nat.le_of_ble_eq_true rfl) (c_nl_1l (d := d) hW hV hox hsx (by omega) (by omega) (by omega) (by omega) ha hb) K) ?_
          show px_Gx _ _ (64, [(4, .int y2), (3, .int x2), (6, .int (nI k)), (5, .int 1), (0, .ref (34 + n)), (1, .int x0), (2, .int y0)], [.int 0], hp2) _
          refine px_gx (fun _ K => px_a 3 (f' := (68, [(5, .int 0), (4, .int y2), (3, .int x2), (6, .int (nI k)), (0, .ref (34 + n)), (1, .int x0), (2, .int y0)], [.int x0, .int x2], hp2)) rfl K) ?_
          refine px_gx (fun _ K => px_b2 false 83 rfl rfl (decide_eq_false (not_not_intro q1)) K) ?_
          show px_Gx _ _ (71, [(5, .int 0), (4, .int y2), (3, .int x2), (6, .int (nI k)), (0, .ref (34 + n)), (1, .int x0), (2, .int y0)], [], hp2) _
          refine px_gx (fun _ K => px_a 2 (f' := (74, [(5, .int 0), (4, .int y2), (3, .int x2), (6, .int (nI k)), (0, .ref (34 + n)), (1, .int x0), (2, .int y0)], [.int y0, .int y2], hp2)) rfl K) ?_
          refine px_gx (fun _ K => px_b2 true 83 rfl rfl (decide_eq_true q2) K) ?_
          show px_Gx _ _ (83, [(5, .int 0), (4, .int y2), (3, .int x2), (6, .int (nI k)), (0, .ref (34 + n)), (1, .int x0), (2, .int y0)], [], hp2) _
          refine px_gx (fun _ K => px_a 2 (f' := (11, [(6, .int ((nI k) + 1)), (5, .int 0), (4, .int y2), (3, .int x2), (0, .ref (34 + n)), (1, .int x0), (2, .int y0)], [], hp2)) rfl K) ?_
          rw [nI_1]
          refine px_wk [(6, .int (nI (k + 1))), (5, .int (nI 0)), (4, .int y2), (3, .int x2), (0, .ref (34 + n)), (1, .int x0), (2, .int y0)] ⟨rfl, rfl, rfl, rfl, rfl, rfl, rfl, trivial⟩ ?_
          exact KA 0 x2 y2 hp2 (by decide) hn (fun z => q2 z.2.1) hox hlx hsx
      · refine px_gx (fun _ K => px_cv (34 + n) (as := [.int x2, .int y2, .int 1]) (rest := []) rfl rfl hox rfl rfl rfl rfl (Nat.le_of_ble_eq_true rfl) (c_nl_1l (d := d) hW hV hox hsx (by omega) (by omega) (by omega) (by omega) ha hb) K) ?_
        show px_Gx _ _ (64, [(4, .int y2), (3, .int x2), (6, .int (nI k)), (5, .int 1), (0, .ref (34 + n)), (1, .int x0), (2, .int y0)], [.int 0], hp2) _
        refine px_gx (fun _ K => px_a 3 (f' := (68, [(5, .int 0), (4, .int y2), (3, .int x2), (6, .int (nI k)), (0, .ref (34 + n)), (1, .int x0), (2, .int y0)], [.int x0, .int x2], hp2)) rfl K) ?_
        refine px_gx (fun _ K => px_b2 true 83 rfl rfl (decide_eq_true q1) K) ?_
        show px_Gx _ _ (83, [(5, .int 0), (4, .int y2), (3, .int x2), (6, .int (nI k)), (0, .ref (34 + n)), (1, .int x0), (2, .int y0)], [], hp2) _
        refine px_gx (fun _ K => px_a 2 (f' := (11, [(6, .int ((nI k) + 1)), (5, .int 0), (4, .int y2), (3, .int x2), (0, .ref (34 + n)), (1, .int x0), (2, .int y0)], [], hp2)) rfl K) ?_
        rw [nI_1]
        refine px_wk [(6, .int (nI (k + 1))), (5, .int (nI 0)), (4, .int y2), (3, .int x2), (0, .ref (34 + n)), (1, .int x0), (2, .int y0)] ⟨rfl, rfl, rfl, rfl, rfl, rfl, rfl, trivial⟩ ?_
        exact KA 0 x2 y2 hp2 (by decide) hn (fun z => q1 z.1) hox hlx hsx
set_option maxRecDepth 20000 in
set_option maxHeartbeats 4000000 in
theorem c_fs_2 {d : Nat} {n : Nat} {hp : px_H} {W V : Nat} {le rc : Int32} {s : Int64} {k : Nat} {x0 y0 x y : Int32} {ls : List Value} {P : px_O → px_H → Prop} (hW : W ≤ 6) (hV : V ≤ 6) (hk : k < 84) (bx1 : 0 ≤ x.toInt) (bx2 : x.toInt ≤ 6) (by1 : 0 ≤ y.toInt) (by2 : y.toInt ≤ 6) (ho : hp[34 + n]? = some (2, [.int (nI W), .int (nI V), .ref (35 + n), .ref (36 + n), .ref (37 + n), .int le, .int rc, .long s])) (hls : hp[35 + n]? = some (10, ls)) (hs : c_St hp) (hll : ls.length = 84) (hst : m_st (x_T W V s) (x0.toInt, y0.toInt, 0) k = (x.toInt, y.toInt, 2))
    (KA : ∀ (w2 : Nat) (x2 y2 : Int32) (hp2 : px_H), w2 < 4 → m_st (x_T W V s) (x0.toInt, y0.toInt, 0) (k + 1) = (x2.toInt, y2.toInt, w2) → ¬ (x2 = x0 ∧ y2 = y0 ∧ w2 = 0) → hp2[34 + n]? = some (2, [.int (nI W), .int (nI V), .ref (35 + n), .ref (36 + n), .ref (37 + n), .int (nI (k + 1)), .int rc, .long s]) → hp2[35 + n]? = some (10, ls.set (nI k).toNatClampNeg (.int 2)) → c_St hp2 → px_Gx (d + 3) 36 (11, [(6, .int (nI (k + 1))), (5, .int (nI w2)), (4, .int y2), (3, .int x2), (0, .ref (34 + n)), (1, .int x0), (2, .int y0)], [], hp2) P)
    (KE : ∀ hp2 : px_H, m_st (x_T W V s) (x0.toInt, y0.toInt, 0) (k + 1) = (x0.toInt, y0.toInt, 0) → hp2[34 + n]? = some (2, [.int (nI W), .int (nI V), .ref (35 + n), .ref (36 + n), .ref (37 + n), .int (nI (k + 1)), .int rc, .long s]) → hp2[35 + n]? = some (10, ls.set (nI k).toNatClampNeg (.int 2)) → P (.inl none) hp2) : px_Gx (d + 3) 36 (11, [(6, .int (nI k)), (5, .int 2), (4, .int y), (3, .int x), (0, .ref (34 + n)), (1, .int x0), (2, .int y0)], [], hp) P := by
  have hs1 : hp[(1 : Nat)]? = some (20, [.int 1, .int 0, .int (-1), .int 0]) := hs 0 (by decide)
  have hs2 : hp[(2 : Nat)]? = some (20, [.int 0, .int 1, .int 0, .int (-1)]) := hs 1 (by decide)
  refine px_gx (fun _ K => px_a 2 (f' := (15, [(6, .int (nI k)), (5, .int 2), (4, .int y), (3, .int x), (0, .ref (34 + n)), (1, .int x0), (2, .int y0)], [.int 84, .int (nI k)], hp)) rfl K) ?_
  refine px_gx (fun _ K => px_b2 false 89 rfl rfl (decide_eq_false (Int32.not_le.mpr (nI_lt (b := 84) (by omega) (by decide)))) K) ?_
  show px_Gx _ _ (18, [(6, .int (nI k)), (5, .int 2), (4, .int y), (3, .int x), (0, .ref (34 + n)), (1, .int x0), (2, .int y0)], [], hp) _
  refine px_gx (fun _ K => px_a 1 (f' := (19, [(6, .int (nI k)), (5, .int 2), (4, .int y), (3, .int x), (0, .ref (34 + n)), (1, .int x0), (2, .int y0)], [.ref (34 + n)], hp)) rfl K) ?_
  refine px_gx (fun _ K => px_gf (34 + n) 16 2 2 (.ref (35 + n)) rfl rfl ho rfl K) ?_
  show px_Gx _ _ (22, [(6, .int (nI k)), (5, .int 2), (4, .int y), (3, .int x), (0, .ref (34 + n)), (1, .int x0), (2, .int y0)], [.ref (35 + n)], hp) _
  refine px_gx (fun _ K => px_a 2 (f' := (26, [(6, .int (nI k)), (5, .int 2), (4, .int y), (3, .int x), (0, .ref (34 + n)), (1, .int x0), (2, .int y0)], [.int 2, .int (nI k), .ref (35 + n)], hp)) rfl K) ?_
  refine px_gx (fun _ K => px_ias (35 + n) rfl hls (by omega) (nI_pos (by omega)) (by rw [nI_clamp (by omega)]; omega) K) ?_
  have hf1__34___n_ : (hp.set (35 + n) (10, ls.set (nI k).toNatClampNeg (.int 2)))[(34 + n)]? = some (2, [.int (nI W), .int (nI V), .ref (35 + n), .ref (36 + n), .ref (37 + n), .int le, .int rc, .long s]) := px_ne ho (by omega)
  have hf1__35___n_ : (hp.set (35 + n) (10, ls.set (nI k).toNatClampNeg (.int 2)))[(35 + n)]? = some (10, ls.set (nI k).toNatClampNeg (.int 2)) := px_self hls
  have hf1_1 : (hp.set (35 + n) (10, ls.set (nI k).toNatClampNeg (.int 2)))[(1 : Nat)]? = some (20, [.int 1, .int 0, .int (-1), .int 0]) := px_ne hs1 (by omega)
  have hf1_2 : (hp.set (35 + n) (10, ls.set (nI k).toNatClampNeg (.int 2)))[(2 : Nat)]? = some (20, [.int 0, .int 1, .int 0, .int (-1)]) := px_ne hs2 (by omega)
  show px_Gx _ _ (27, [(6, .int (nI k)), (5, .int 2), (4, .int y), (3, .int x), (0, .ref (34 + n)), (1, .int x0), (2, .int y0)], [], (hp.set (35 + n) (10, ls.set (nI k).toNatClampNeg (.int 2)))) _
  refine px_gx (fun _ K => px_a 4 (f' := (32, [(6, .int (nI k)), (5, .int 2), (4, .int y), (3, .int x), (0, .ref (34 + n)), (1, .int x0), (2, .int y0)], [.int ((nI k) + 1), .ref (34 + n)], (hp.set (35 + n) (10, ls.set (nI k).toNatClampNeg (.int 2))))) rfl K) ?_
  refine px_gx (fun _ K => px_pf (34 + n) 30 2 5 rfl rfl hf1__34___n_ (by omega) (by simp) rfl rfl (by decide) K) ?_
  have hf2__34___n_ : (((hp.set (35 + n) (10, ls.set (nI k).toNatClampNeg (.int 2)))).set (34 + n) (2, [.int (nI W), .int (nI V), .ref (35 + n), .ref (36 + n), .ref (37 + n), .int ((nI k) + 1), .int rc, .long s]))[(34 + n)]? = some (2, [.int (nI W), .int (nI V), .ref (35 + n), .ref (36 + n), .ref (37 + n), .int ((nI k) + 1), .int rc, .long s]) := px_self hf1__34___n_
  have hf2__35___n_ : (((hp.set (35 + n) (10, ls.set (nI k).toNatClampNeg (.int 2)))).set (34 + n) (2, [.int (nI W), .int (nI V), .ref (35 + n), .ref (36 + n), .ref (37 + n), .int ((nI k) + 1), .int rc, .long s]))[(35 + n)]? = some (10, ls.set (nI k).toNatClampNeg (.int 2)) := px_ne hf1__35___n_ (by omega)
  have hf2_1 : (((hp.set (35 + n) (10, ls.set (nI k).toNatClampNeg (.int 2)))).set (34 + n) (2, [.int (nI W), .int (nI V), .ref (35 + n), .ref (36 + n), .ref (37 + n), .int ((nI k) + 1), .int rc, .long s]))[(1 : Nat)]? = some (20, [.int 1, .int 0, .int (-1), .int 0]) := px_ne hf1_1 (by omega)
  have hf2_2 : (((hp.set (35 + n) (10, ls.set (nI k).toNatClampNeg (.int 2)))).set (34 + n) (2, [.int (nI W), .int (nI V), .ref (35 + n), .ref (36 + n), .ref (37 + n), .int ((nI k) + 1), .int rc, .long s]))[(2 : Nat)]? = some (20, [.int 0, .int 1, .int 0, .int (-1)]) := px_ne hf1_2 (by omega)
  show px_Gx _ _ (35, [(6, .int (nI k)), (5, .int 2), (4, .int y), (3, .int x), (0, .ref (34 + n)), (1, .int x0), (2, .int y0)], [], (((hp.set (35 + n) (10, ls.set (nI k).toNatClampNeg (.int 2)))).set (34 + n) (2, [.int (nI W), .int (nI V), .ref (35 + n), .ref (36 + n), .ref (37 + n), .int ((nI k) + 1), .int rc, .long s]))) _
  refine px_gx (fun _ K => px_a 3 (f' := (41, [(6, .int (nI k)), (5, .int 2), (4, .int y), (3, .int x), (0, .ref (34 + n)), (1, .int x0), (2, .int y0)], [.int 2, .ref 1, .int x], (((hp.set (35 + n) (10, ls.set (nI k).toNatClampNeg (.int 2)))).set (34 + n) (2, [.int (nI W), .int (nI V), .ref (35 + n), .ref (36 + n), .ref (37 + n), .int ((nI k) + 1), .int rc, .long s])))) rfl K) ?_
  refine px_gx (fun _ K => px_al 1 (.int (-1)) rfl hf2_1 (Or.inl ⟨rfl, Or.inr rfl⟩) (by decide) (rfl) K) ?_
  show px_Gx _ _ (42, [(6, .int (nI k)), (5, .int 2), (4, .int y), (3, .int x), (0, .ref (34 + n)), (1, .int x0), (2, .int y0)], [.int (-1), .int x], (((hp.set (35 + n) (10, ls.set (nI k).toNatClampNeg (.int 2)))).set (34 + n) (2, [.int (nI W), .int (nI V), .ref (35 + n), .ref (36 + n), .ref (37 + n), .int ((nI k) + 1), .int rc, .long s]))) _
  refine px_gx (fun _ K => px_a 5 (f' := (51, [(3, .int (x + (-1))), (6, .int (nI k)), (5, .int 2), (4, .int y), (0, .ref (34 + n)), (1, .int x0), (2, .int y0)], [.int 2, .ref 2, .int y], (((hp.set (35 + n) (10, ls.set (nI k).toNatClampNeg (.int 2)))).set (34 + n) (2, [.int (nI W), .int (nI V), .ref (35 + n), .ref (36 + n), .ref (37 + n), .int ((nI k) + 1), .int rc, .long s])))) rfl K) ?_
  refine px_gx (fun _ K => px_al 2 (.int 0) rfl hf2_2 (Or.inl ⟨rfl, Or.inr rfl⟩) (by decide) (rfl) K) ?_
  show px_Gx _ _ (52, [(3, .int (x + (-1))), (6, .int (nI k)), (5, .int 2), (4, .int y), (0, .ref (34 + n)), (1, .int x0), (2, .int y0)], [.int 0, .int y], (((hp.set (35 + n) (10, ls.set (nI k).toNatClampNeg (.int 2)))).set (34 + n) (2, [.int (nI W), .int (nI V), .ref (35 + n), .ref (36 + n), .ref (37 + n), .int ((nI k) + 1), .int rc, .long s]))) _
  refine px_gx (fun _ K => px_a 6 (f' := (61, [(4, .int (y + 0)), (3, .int (x + (-1))), (6, .int (nI k)), (5, .int 2), (0, .ref (34 + n)), (1, .int x0), (2, .int y0)], [.int 2, .int (y + 0), .int (x + (-1)), .ref (34 + n)], (((hp.set (35 + n) (10, ls.set (nI k).toNatClampNeg (.int 2)))).set (34 + n) (2, [.int (nI W), .int (nI V), .ref (35 + n), .ref (36 + n), .ref (37 + n), .int ((nI k) + 1), .int rc, .long s])))) rfl K) ?_
  have hsx : c_St ((((hp.set (35 + n) (10, ls.set (nI k).toNatClampNeg (.int 2)))).set (34 + n) (2, [.int (nI W), .int (nI V), .ref (35 + n), .ref (36 + n), .ref (37 + n), .int ((nI k) + 1), .int rc, .long s]))) := c_St_set (c_St_set hs (by omega)) (by omega)
  have hox := hf2__34___n_
  have hlx := hf2__35___n_
  rw [nI_1] at hox hlx hsx ⊢
  generalize (((hp.set (35 + n) (10, ls.set (nI k).toNatClampNeg (.int 2)))).set (34 + n) (2, [.int (nI W), .int (nI V), .ref (35 + n), .ref (36 + n), .ref (37 + n), .int (nI (k + 1)), .int rc, .long s])) = hp2 at hox hlx hsx ⊢
  obtain ⟨x2, ex0, ex⟩ : ∃ q : Int32, q = x + (-1) ∧ q.toInt = x.toInt + m_dx 2 := ⟨_, rfl, by
    have e1 : Int32.toInt (-1) = -1 := rfl
    have e2 : m_dx 2 = -1 := rfl
    rw [i32_add (by omega) (by omega), e1, e2]⟩
  obtain ⟨y2, ey0, ey⟩ : ∃ q : Int32, q = y + 0 ∧ q.toInt = y.toInt + m_dy 2 := ⟨_, rfl, by
    have e1 : Int32.toInt 0 = 0 := rfl
    have e2 : m_dy 2 = 0 := rfl
    rw [i32_add (by omega) (by omega), e1, e2]⟩
  have e2x : m_dx 2 = -1 := rfl
  have e2y : m_dy 2 = 0 := rfl
  rw [← ex0, ← ey0]
  rcases Bool.eq_false_or_eq_true (m_sd (x_T W V s) x2.toInt y2.toInt 3) with ha | ha
  · have hn : m_st (x_T W V s) (x0.toInt, y0.toInt, 0) (k + 1) = (x2.toInt, y2.toInt, 3) := by
      show m_nx _ (m_st (x_T W V s) (x0.toInt, y0.toInt, 0) k) = _
      rw [hst]
      exact m_nx_r ex ey ha
    by_cases q1 : x2 = x0
    · by_cases q2 : y2 = y0
      · refine px_gx (fun _ K => px_cv (34 + n) (as := [.int x2, .int y2, .int 2]) (rest := []) rfl rfl hox rfl rfl rfl rfl (Nat.le_of_ble_eq_true rfl) (c_nl_2r (d := d) hW hV hox hsx (by omega) (by omega) (by omega) (by omega) ha) K) ?_
        show px_Gx _ _ (64, [(4, .int y2), (3, .int x2), (6, .int (nI k)), (5, .int 2), (0, .ref (34 + n)), (1, .int x0), (2, .int y0)], [.int 3], hp2) _
        refine px_gx (fun _ K => px_a 3 (f' := (68, [(5, .int 3), (4, .int y2), (3, .int x2), (6, .int (nI k)), (0, .ref (34 + n)), (1, .int x0), (2, .int y0)], [.int x0, .int x2], hp2)) rfl K) ?_
        refine px_gx (fun _ K => px_b2 false 83 rfl rfl (decide_eq_false (not_not_intro q1)) K) ?_
        show px_Gx _ _ (71, [(5, .int 3), (4, .int y2), (3, .int x2), (6, .int (nI k)), (0, .ref (34 + n)), (1, .int x0), (2, .int y0)], [], hp2) _
        refine px_gx (fun _ K => px_a 2 (f' := (74, [(5, .int 3), (4, .int y2), (3, .int x2), (6, .int (nI k)), (0, .ref (34 + n)), (1, .int x0), (2, .int y0)], [.int y0, .int y2], hp2)) rfl K) ?_
        refine px_gx (fun _ K => px_b2 false 83 rfl rfl (decide_eq_false (not_not_intro q2)) K) ?_
        show px_Gx _ _ (77, [(5, .int 3), (4, .int y2), (3, .int x2), (6, .int (nI k)), (0, .ref (34 + n)), (1, .int x0), (2, .int y0)], [], hp2) _
        refine px_gx (fun _ K => px_a 4 (f' := (11, [(6, .int ((nI k) + 1)), (5, .int 3), (4, .int y2), (3, .int x2), (0, .ref (34 + n)), (1, .int x0), (2, .int y0)], [], hp2)) rfl K) ?_
        rw [nI_1]
        refine px_wk [(6, .int (nI (k + 1))), (5, .int (nI 3)), (4, .int y2), (3, .int x2), (0, .ref (34 + n)), (1, .int x0), (2, .int y0)] ⟨rfl, rfl, rfl, rfl, rfl, rfl, rfl, trivial⟩ ?_
        exact KA 3 x2 y2 hp2 (by decide) hn (fun z => absurd z.2.2 (by decide)) hox hlx hsx
      · refine px_gx (fun _ K => px_cv (34 + n) (as := [.int x2, .int y2, .int 2]) (rest := []) rfl rfl hox rfl rfl rfl rfl (Nat.le_of_ble_eq_true rfl) (c_nl_2r (d := d) hW hV hox hsx (by omega) (by omega) (by omega) (by omega) ha) K) ?_
        show px_Gx _ _ (64, [(4, .int y2), (3, .int x2), (6, .int (nI k)), (5, .int 2), (0, .ref (34 + n)), (1, .int x0), (2, .int y0)], [.int 3], hp2) _
        refine px_gx (fun _ K => px_a 3 (f' := (68, [(5, .int 3), (4, .int y2), (3, .int x2), (6, .int (nI k)), (0, .ref (34 + n)), (1, .int x0), (2, .int y0)], [.int x0, .int x2], hp2)) rfl K) ?_
        refine px_gx (fun _ K => px_b2 false 83 rfl rfl (decide_eq_false (not_not_intro q1)) K) ?_
        show px_Gx _ _ (71, [(5, .int 3), (4, .int y2), (3, .int x2), (6, .int (nI k)), (0, .ref (34 + n)), (1, .int x0), (2, .int y0)], [], hp2) _
        refine px_gx (fun _ K => px_a 2 (f' := (74, [(5, .int 3), (4, .int y2), (3, .int x2), (6, .int (nI k)), (0, .ref (34 + n)), (1, .int x0), (2, .int y0)], [.int y0, .int y2], hp2)) rfl K) ?_
        refine px_gx (fun _ K => px_b2 true 83 rfl rfl (decide_eq_true q2) K) ?_
        show px_Gx _ _ (83, [(5, .int 3), (4, .int y2), (3, .int x2), (6, .int (nI k)), (0, .ref (34 + n)), (1, .int x0), (2, .int y0)], [], hp2) _
        refine px_gx (fun _ K => px_a 2 (f' := (11, [(6, .int ((nI k) + 1)), (5, .int 3), (4, .int y2), (3, .int x2), (0, .ref (34 + n)), (1, .int x0), (2, .int y0)], [], hp2)) rfl K) ?_
        rw [nI_1]
        refine px_wk [(6, .int (nI (k + 1))), (5, .int (nI 3)), (4, .int y2), (3, .int x2), (0, .ref (34 + n)), (1, .int x0), (2, .int y0)] ⟨rfl, rfl, rfl, rfl, rfl, rfl, rfl, trivial⟩ ?_
        exact KA 3 x2 y2 hp2 (by decide) hn (fun z => q2 z.2.1) hox hlx hsx
    · refine px_gx (fun _ K => px_cv (34 + n) (as := [.int x2, .int y2, .int 2]) (rest := []) rfl rfl hox rfl rfl rfl rfl (Nat.le_of_ble_eq_true rfl) (c_nl_2r (d := d) hW hV hox hsx (by omega) (by omega) (by omega) (by omega) ha) K) ?_
      show px_Gx _ _ (64, [(4, .int y2), (3, .int x2), (6, .int (nI k)), (5, .int 2), (0, .ref (34 + n)), (1, .int x0), (2, .int y0)], [.int 3], hp2) _
      refine px_gx (fun _ K => px_a 3 (f' := (68, [(5, .int 3), (4, .int y2), (3, .int x2), (6, .int (nI k)), (0, .ref (34 + n)), (1, .int x0), (2, .int y0)], [.int x0, .int x2], hp2)) rfl K) ?_
      refine px_gx (fun _ K => px_b2 true 83 rfl rfl (decide_eq_true q1) K) ?_
      show px_Gx _ _ (83, [(5, .int 3), (4, .int y2), (3, .int x2), (6, .int (nI k)), (0, .ref (34 + n)), (1, .int x0), (2, .int y0)], [], hp2) _
      refine px_gx (fun _ K => px_a 2 (f' := (11, [(6, .int ((nI k) + 1)), (5, .int 3), (4, .int y2), (3, .int x2), (0, .ref (34 + n)), (1, .int x0), (2, .int y0)], [], hp2)) rfl K) ?_
      rw [nI_1]
      refine px_wk [(6, .int (nI (k + 1))), (5, .int (nI 3)), (4, .int y2), (3, .int x2), (0, .ref (34 + n)), (1, .int x0), (2, .int y0)] ⟨rfl, rfl, rfl, rfl, rfl, rfl, rfl, trivial⟩ ?_
      exact KA 3 x2 y2 hp2 (by decide) hn (fun z => q1 z.1) hox hlx hsx
  · rcases Bool.eq_false_or_eq_true (m_sd (x_T W V s) x2.toInt y2.toInt 2) with hb | hb
    · have hn : m_st (x_T W V s) (x0.toInt, y0.toInt, 0) (k + 1) = (x2.toInt, y2.toInt, 2) := by
        show m_nx _ (m_st (x_T W V s) (x0.toInt, y0.toInt, 0) k) = _
        rw [hst]
        exact m_nx_s ex ey ha hb
      by_cases q1 : x2 = x0
      · by_cases q2 : y2 = y0
        · refine px_gx (fun _ K => px_cv (34 + n) (as := [.int x2, .int y2, .int 2]) (rest := []) rfl rfl hox rfl rfl rfl rfl (Nat.le_of_ble_eq_true rfl) (c_nl_2s (d := d) hW hV hox hsx (by omega) (by omega) (by omega) (by omega) ha hb) K) ?_
          show px_Gx _ _ (64, [(4, .int y2), (3, .int x2), (6, .int (nI k)), (5, .int 2), (0, .ref (34 + n)), (1, .int x0), (2, .int y0)], [.int 2], hp2) _
          refine px_gx (fun _ K => px_a 3 (f' := (68, [(5, .int 2), (4, .int y2), (3, .int x2), (6, .int (nI k)), (0, .ref (34 + n)), (1, .int x0), (2, .int y0)], [.int x0, .int x2], hp2)) rfl K) ?_
          refine px_gx (fun _ K => px_b2 false 83 rfl rfl (decide_eq_false (not_not_intro q1)) K) ?_
          show px_Gx _ _ (71, [(5, .int 2), (4, .int y2), (3, .int x2), (6, .int (nI k)), (0, .ref (34 + n)), (1, .int x0), (2, .int y0)], [], hp2) _
          refine px_gx (fun _ K => px_a 2 (f' := (74, [(5, .int 2), (4, .int y2), (3, .int x2), (6, .int (nI k)), (0, .ref (34 + n)), (1, .int x0), (2, .int y0)], [.int y0, .int y2], hp2)) rfl K) ?_
          refine px_gx (fun _ K => px_b2 false 83 rfl rfl (decide_eq_false (not_not_intro q2)) K) ?_
          show px_Gx _ _ (77, [(5, .int 2), (4, .int y2), (3, .int x2), (6, .int (nI k)), (0, .ref (34 + n)), (1, .int x0), (2, .int y0)], [], hp2) _
          refine px_gx (fun _ K => px_a 4 (f' := (11, [(6, .int ((nI k) + 1)), (5, .int 2), (4, .int y2), (3, .int x2), (0, .ref (34 + n)), (1, .int x0), (2, .int y0)], [], hp2)) rfl K) ?_
          rw [nI_1]
          refine px_wk [(6, .int (nI (k + 1))), (5, .int (nI 2)), (4, .int y2), (3, .int x2), (0, .ref (34 + n)), (1, .int x0), (2, .int y0)] ⟨rfl, rfl, rfl, rfl, rfl, rfl, rfl, trivial⟩ ?_
          exact KA 2 x2 y2 hp2 (by decide) hn (fun z => absurd z.2.2 (by decide)) hox hlx hsx
        · refine px_gx (fun _ K => px_cv (34 + n) (as := [.int x2, .int y2, .int 2]) (rest := []) rfl rfl hox rfl rfl rfl rfl (Nat.le_of_ble_eq_true rfl) (c_nl_2s (d := d) hW hV hox hsx (by omega) (by omega) (by omega) (by omega) ha hb) K) ?_
          show px_Gx _ _ (64, [(4, .int y2), (3, .int x2), (6, .int (nI k)), (5, .int 2), (0, .ref (34 + n)), (1, .int x0), (2, .int y0)], [.int 2], hp2) _
          refine px_gx (fun _ K => px_a 3 (f' := (68, [(5, .int 2), (4, .int y2), (3, .int x2), (6, .int (nI k)), (0, .ref (34 + n)), (1, .int x0), (2, .int y0)], [.int x0, .int x2], hp2)) rfl K) ?_
          refine px_gx (fun _ K => px_b2 false 83 rfl rfl (decide_eq_false (not_not_intro q1)) K) ?_
          show px_Gx _ _ (71, [(5, .int 2), (4, .int y2), (3, .int x2), (6, .int (nI k)), (0, .ref (34 + n)), (1, .int x0), (2, .int y0)], [], hp2) _
          refine px_gx (fun _ K => px_a 2 (f' := (74, [(5, .int 2), (4, .int y2), (3, .int x2), (6, .int (nI k)), (0, .ref (34 + n)), (1, .int x0), (2, .int y0)], [.int y0, .int y2], hp2)) rfl K) ?_
          refine px_gx (fun _ K => px_b2 true 83 rfl rfl (decide_eq_true q2) K) ?_
          show px_Gx _ _ (83, [(5, .int 2), (4, .int y2), (3, .int x2), (6, .int (nI k)), (0, .ref (34 + n)), (1, .int x0), (2, .int y0)], [], hp2) _
          refine px_gx (fun _ K => px_a 2 (f' := (11, [(6, .int ((nI k) + 1)), (5, .int 2), (4, .int y2), (3, .int x2), (0, .ref (34 + n)), (1, .int x0), (2, .int y0)], [], hp2)) rfl K) ?_
          rw [nI_1]
          refine px_wk [(6, .int (nI (k + 1))), (5, .int (nI 2)), (4, .int y2), (3, .int x2), (0, .ref (34 + n)), (1, .int x0), (2, .int y0)] ⟨rfl, rfl, rfl, rfl, rfl, rfl, rfl, trivial⟩ ?_
          exact KA 2 x2 y2 hp2 (by decide) hn (fun z => q2 z.2.1) hox hlx hsx
      · refine px_gx (fun _ K => px_cv (34 + n) (as := [.int x2, .int y2, .int 2]) (rest := []) rfl rfl hox rfl rfl rfl rfl (Nat.le_of_ble_eq_true rfl) (c_nl_2s (d := d) hW hV hox hsx (by omega) (by omega) (by omega) (by omega) ha hb) K) ?_
        show px_Gx _ _ (64, [(4, .int y2), (3, .int x2), (6, .int (nI k)), (5, .int 2), (0, .ref (34 + n)), (1, .int x0), (2, .int y0)], [.int 2], hp2) _
        refine px_gx (fun _ K => px_a 3 (f' := (68, [(5, .int 2), (4, .int y2), (3, .int x2), (6, .int (nI k)), (0, .ref (34 + n)), (1, .int x0), (2, .int y0)], [.int x0, .int x2], hp2)) rfl K) ?_
        refine px_gx (fun _ K => px_b2 true 83 rfl rfl (decide_eq_true q1) K) ?_
        show px_Gx _ _ (83, [(5, .int 2), (4, .int y2), (3, .int x2), (6, .int (nI k)), (0, .ref (34 + n)), (1, .int x0), (2, .int y0)], [], hp2) _
        refine px_gx (fun _ K => px_a 2 (f' := (11, [(6, .int ((nI k) + 1)), (5, .int 2), (4, .int y2), (3, .int x2), (0, .ref (34 + n)), (1, .int x0), (2, .int y0)], [], hp2)) rfl K) ?_
        rw [nI_1]
        refine px_wk [(6, .int (nI (k + 1))), (5, .int (nI 2)), (4, .int y2), (3, .int x2), (0, .ref (34 + n)), (1, .int x0), (2, .int y0)] ⟨rfl, rfl, rfl, rfl, rfl, rfl, rfl, trivial⟩ ?_
        exact KA 2 x2 y2 hp2 (by decide) hn (fun z => q1 z.1) hox hlx hsx
    · have hn : m_st (x_T W V s) (x0.toInt, y0.toInt, 0) (k + 1) = (x2.toInt, y2.toInt, 1) := by
        show m_nx _ (m_st (x_T W V s) (x0.toInt, y0.toInt, 0) k) = _
        rw [hst]
        exact m_nx_l ex ey ha hb
      by_cases q1 : x2 = x0
      · by_cases q2 : y2 = y0
        · refine px_gx (fun _ K => px_cv (34 + n) (as := [.int x2, .int y2, .int 2]) (rest := []) rfl rfl hox rfl rfl rfl rfl (Nat.le_of_ble_eq_true rfl) (c_nl_2l (d := d) hW hV hox hsx (by omega) (by omega) (by omega) (by omega) ha hb) K) ?_
          show px_Gx _ _ (64, [(4, .int y2), (3, .int x2), (6, .int (nI k)), (5, .int 2), (0, .ref (34 + n)), (1, .int x0), (2, .int y0)], [.int 1], hp2) _
          refine px_gx (fun _ K => px_a 3 (f' := (68, [(5, .int 1), (4, .int y2), (3, .int x2), (6, .int (nI k)), (0, .ref (34 + n)), (1, .int x0), (2, .int y0)], [.int x0, .int x2], hp2)) rfl K) ?_
          refine px_gx (fun _ K => px_b2 false 83 rfl rfl (decide_eq_false (not_not_intro q1)) K) ?_
          show px_Gx _ _ (71, [(5, .int 1), (4, .int y2), (3, .int x2), (6, .int (nI k)), (0, .ref (34 + n)), (1, .int x0), (2, .int y0)], [], hp2) _
          refine px_gx (fun _ K => px_a 2 (f' := (74, [(5, .int 1), (4, .int y2), (3, .int x2), (6, .int (nI k)), (0, .ref (34 + n)), (1, .int x0), (2, .int y0)], [.int y0, .int y2], hp2)) rfl K) ?_
          refine px_gx (fun _ K => px_b2 false 83 rfl rfl (decide_eq_false (not_not_intro q2)) K) ?_
          show px_Gx _ _ (77, [(5, .int 1), (4, .int y2), (3, .int x2), (6, .int (nI k)), (0, .ref (34 + n)), (1, .int x0), (2, .int y0)], [], hp2) _
          refine px_gx (fun _ K => px_a 4 (f' := (11, [(6, .int ((nI k) + 1)), (5, .int 1), (4, .int y2), (3, .int x2), (0, .ref (34 + n)), (1, .int x0), (2, .int y0)], [], hp2)) rfl K) ?_
          rw [nI_1]
          refine px_wk [(6, .int (nI (k + 1))), (5, .int (nI 1)), (4, .int y2), (3, .int x2), (0, .ref (34 + n)), (1, .int x0), (2, .int y0)] ⟨rfl, rfl, rfl, rfl, rfl, rfl, rfl, trivial⟩ ?_
          exact KA 1 x2 y2 hp2 (by decide) hn (fun z => absurd z.2.2 (by decide)) hox hlx hsx
        · refine px_gx (fun _ K => px_cv (34 + n) (as := [.int x2, .int y2, .int 2]) (rest := []) rfl rfl hox rfl rfl rfl rfl (Nat.le_of_ble_eq_true rfl) (c_nl_2l (d := d) hW hV hox hsx (by omega) (by omega) (by omega) (by omega) ha hb) K) ?_
          show px_Gx _ _ (64, [(4, .int y2), (3, .int x2), (6, .int (nI k)), (5, .int 2), (0, .ref (34 + n)), (1, .int x0), (2, .int y0)], [.int 1], hp2) _
          refine px_gx (fun _ K => px_a 3 (f' := (68, [(5, .int 1), (4, .int y2), (3, .int x2), (6, .int (nI k)), (0, .ref (34 + n)), (1, .int x0), (2, .int y0)], [.int x0, .int x2], hp2)) rfl K) ?_
          refine px_gx (fun _ K => px_b2 false 83 rfl rfl (decide_eq_false (not_not_intro q1)) K) ?_
          show px_Gx _ _ (71, [(5, .int 1), (4, .int y2), (3, .int x2), (6, .int (nI k)), (0, .ref (34 + n)), (1, .int x0), (2, .int y0)], [], hp2) _
          refine px_gx (fun _ K => px_a 2 (f' := (74, [(5, .int 1), (4, .int y2), (3, .int x2), (6, .int (nI k)), (0, .ref (34 + n)), (1, .int x0), (2, .int y0)], [.int y0, .int y2], hp2)) rfl K) ?_
          refine px_gx (fun _ K => px_b2 true 83 rfl rfl (decide_eq_true q2) K) ?_
          show px_Gx _ _ (83, [(5, .int 1), (4, .int y2), (3, .int x2), (6, .int (nI k)), (0, .ref (34 + n)), (1, .int x0), (2, .int y0)], [], hp2) _
          refine px_gx (fun _ K => px_a 2 (f' := (11, [(6, .int ((nI k) + 1)), (5, .int 1), (4, .int y2), (3, .int x2), (0, .ref (34 + n)), (1, .int x0), (2, .int y0)], [], hp2)) rfl K) ?_
          rw [nI_1]
          refine px_wk [(6, .int (nI (k + 1))), (5, .int (nI 1)), (4, .int y2), (3, .int x2), (0, .ref (34 + n)), (1, .int x0), (2, .int y0)] ⟨rfl, rfl, rfl, rfl, rfl, rfl, rfl, trivial⟩ ?_
          exact KA 1 x2 y2 hp2 (by decide) hn (fun z => q2 z.2.1) hox hlx hsx
      · refine px_gx (fun _ K => px_cv (34 + n) (as := [.int x2, .int y2, .int 2]) (rest := []) rfl rfl hox rfl rfl rfl rfl (Nat.le_of_ble_eq_true rfl) (c_nl_2l (d := d) hW hV hox hsx (by omega) (by omega) (by omega) (by omega) ha hb) K) ?_
        show px_Gx _ _ (64, [(4, .int y2), (3, .int x2), (6, .int (nI k)), (5, .int 2), (0, .ref (34 + n)), (1, .int x0), (2, .int y0)], [.int 1], hp2) _
        refine px_gx (fun _ K => px_a 3 (f' := (68, [(5, .int 1), (4, .int y2), (3, .int x2), (6, .int (nI k)), (0, .ref (34 + n)), (1, .int x0), (2, .int y0)], [.int x0, .int x2], hp2)) rfl K) ?_
        refine px_gx (fun _ K => px_b2 true 83 rfl rfl (decide_eq_true q1) K) ?_
        show px_Gx _ _ (83, [(5, .int 1), (4, .int y2), (3, .int x2), (6, .int (nI k)), (0, .ref (34 + n)), (1, .int x0), (2, .int y0)], [], hp2) _
        refine px_gx (fun _ K => px_a 2 (f' := (11, [(6, .int ((nI k) + 1)), (5, .int 1), (4, .int y2), (3, .int x2), (0, .ref (34 + n)), (1, .int x0), (2, .int y0)], [], hp2)) rfl K) ?_
        rw [nI_1]
        refine px_wk [(6, .int (nI (k + 1))), (5, .int (nI 1)), (4, .int y2), (3, .int x2), (0, .ref (34 + n)), (1, .int x0), (2, .int y0)] ⟨rfl, rfl, rfl, rfl, rfl, rfl, rfl, trivial⟩ ?_
        exact KA 1 x2 y2 hp2 (by decide) hn (fun z => q1 z.1) hox hlx hsx
set_option maxRecDepth 20000 in
set_option maxHeartbeats 4000000 in
theorem c_fs_3 {d : Nat} {n : Nat} {hp : px_H} {W V : Nat} {le rc : Int32} {s : Int64} {k : Nat} {x0 y0 x y : Int32} {ls : List Value} {P : px_O → px_H → Prop} (hW : W ≤ 6) (hV : V ≤ 6) (hk : k < 84) (bx1 : 0 ≤ x.toInt) (bx2 : x.toInt ≤ 6) (by1 : 0 ≤ y.toInt) (by2 : y.toInt ≤ 6) (ho : hp[34 + n]? = some (2, [.int (nI W), .int (nI V), .ref (35 + n), .ref (36 + n), .ref (37 + n), .int le, .int rc, .long s])) (hls : hp[35 + n]? = some (10, ls)) (hs : c_St hp) (hll : ls.length = 84) (hst : m_st (x_T W V s) (x0.toInt, y0.toInt, 0) k = (x.toInt, y.toInt, 3))
    (KA : ∀ (w2 : Nat) (x2 y2 : Int32) (hp2 : px_H), w2 < 4 → m_st (x_T W V s) (x0.toInt, y0.toInt, 0) (k + 1) = (x2.toInt, y2.toInt, w2) → ¬ (x2 = x0 ∧ y2 = y0 ∧ w2 = 0) → hp2[34 + n]? = some (2, [.int (nI W), .int (nI V), .ref (35 + n), .ref (36 + n), .ref (37 + n), .int (nI (k + 1)), .int rc, .long s]) → hp2[35 + n]? = some (10, ls.set (nI k).toNatClampNeg (.int 3)) → c_St hp2 → px_Gx (d + 3) 36 (11, [(6, .int (nI (k + 1))), (5, .int (nI w2)), (4, .int y2), (3, .int x2), (0, .ref (34 + n)), (1, .int x0), (2, .int y0)], [], hp2) P)
    (KE : ∀ hp2 : px_H, m_st (x_T W V s) (x0.toInt, y0.toInt, 0) (k + 1) = (x0.toInt, y0.toInt, 0) → hp2[34 + n]? = some (2, [.int (nI W), .int (nI V), .ref (35 + n), .ref (36 + n), .ref (37 + n), .int (nI (k + 1)), .int rc, .long s]) → hp2[35 + n]? = some (10, ls.set (nI k).toNatClampNeg (.int 3)) → P (.inl none) hp2) : px_Gx (d + 3) 36 (11, [(6, .int (nI k)), (5, .int 3), (4, .int y), (3, .int x), (0, .ref (34 + n)), (1, .int x0), (2, .int y0)], [], hp) P := by
  have hs1 : hp[(1 : Nat)]? = some (20, [.int 1, .int 0, .int (-1), .int 0]) := hs 0 (by decide)
  have hs2 : hp[(2 : Nat)]? = some (20, [.int 0, .int 1, .int 0, .int (-1)]) := hs 1 (by decide)
  refine px_gx (fun _ K => px_a 2 (f' := (15, [(6, .int (nI k)), (5, .int 3), (4, .int y), (3, .int x), (0, .ref (34 + n)), (1, .int x0), (2, .int y0)], [.int 84, .int (nI k)], hp)) rfl K) ?_
  refine px_gx (fun _ K => px_b2 false 89 rfl rfl (decide_eq_false (Int32.not_le.mpr (nI_lt (b := 84) (by omega) (by decide)))) K) ?_
  show px_Gx _ _ (18, [(6, .int (nI k)), (5, .int 3), (4, .int y), (3, .int x), (0, .ref (34 + n)), (1, .int x0), (2, .int y0)], [], hp) _
  refine px_gx (fun _ K => px_a 1 (f' := (19, [(6, .int (nI k)), (5, .int 3), (4, .int y), (3, .int x), (0, .ref (34 + n)), (1, .int x0), (2, .int y0)], [.ref (34 + n)], hp)) rfl K) ?_
  refine px_gx (fun _ K => px_gf (34 + n) 16 2 2 (.ref (35 + n)) rfl rfl ho rfl K) ?_
  show px_Gx _ _ (22, [(6, .int (nI k)), (5, .int 3), (4, .int y), (3, .int x), (0, .ref (34 + n)), (1, .int x0), (2, .int y0)], [.ref (35 + n)], hp) _
  refine px_gx (fun _ K => px_a 2 (f' := (26, [(6, .int (nI k)), (5, .int 3), (4, .int y), (3, .int x), (0, .ref (34 + n)), (1, .int x0), (2, .int y0)], [.int 3, .int (nI k), .ref (35 + n)], hp)) rfl K) ?_
  refine px_gx (fun _ K => px_ias (35 + n) rfl hls (by omega) (nI_pos (by omega)) (by rw [nI_clamp (by omega)]; omega) K) ?_
  have hf1__34___n_ : (hp.set (35 + n) (10, ls.set (nI k).toNatClampNeg (.int 3)))[(34 + n)]? = some (2, [.int (nI W), .int (nI V), .ref (35 + n), .ref (36 + n), .ref (37 + n), .int le, .int rc, .long s]) := px_ne ho (by omega)
  have hf1__35___n_ : (hp.set (35 + n) (10, ls.set (nI k).toNatClampNeg (.int 3)))[(35 + n)]? = some (10, ls.set (nI k).toNatClampNeg (.int 3)) := px_self hls
  have hf1_1 : (hp.set (35 + n) (10, ls.set (nI k).toNatClampNeg (.int 3)))[(1 : Nat)]? = some (20, [.int 1, .int 0, .int (-1), .int 0]) := px_ne hs1 (by omega)
  have hf1_2 : (hp.set (35 + n) (10, ls.set (nI k).toNatClampNeg (.int 3)))[(2 : Nat)]? = some (20, [.int 0, .int 1, .int 0, .int (-1)]) := px_ne hs2 (by omega)
  show px_Gx _ _ (27, [(6, .int (nI k)), (5, .int 3), (4, .int y), (3, .int x), (0, .ref (34 + n)), (1, .int x0), (2, .int y0)], [], (hp.set (35 + n) (10, ls.set (nI k).toNatClampNeg (.int 3)))) _
  refine px_gx (fun _ K => px_a 4 (f' := (32, [(6, .int (nI k)), (5, .int 3), (4, .int y), (3, .int x), (0, .ref (34 + n)), (1, .int x0), (2, .int y0)], [.int ((nI k) + 1), .ref (34 + n)], (hp.set (35 + n) (10, ls.set (nI k).toNatClampNeg (.int 3))))) rfl K) ?_
  refine px_gx (fun _ K => px_pf (34 + n) 30 2 5 rfl rfl hf1__34___n_ (by omega) (by simp) rfl rfl (by decide) K) ?_
  have hf2__34___n_ : (((hp.set (35 + n) (10, ls.set (nI k).toNatClampNeg (.int 3)))).set (34 + n) (2, [.int (nI W), .int (nI V), .ref (35 + n), .ref (36 + n), .ref (37 + n), .int ((nI k) + 1), .int rc, .long s]))[(34 + n)]? = some (2, [.int (nI W), .int (nI V), .ref (35 + n), .ref (36 + n), .ref (37 + n), .int ((nI k) + 1), .int rc, .long s]) := px_self hf1__34___n_
  have hf2__35___n_ : (((hp.set (35 + n) (10, ls.set (nI k).toNatClampNeg (.int 3)))).set (34 + n) (2, [.int (nI W), .int (nI V), .ref (35 + n), .ref (36 + n), .ref (37 + n), .int ((nI k) + 1), .int rc, .long s]))[(35 + n)]? = some (10, ls.set (nI k).toNatClampNeg (.int 3)) := px_ne hf1__35___n_ (by omega)
  have hf2_1 : (((hp.set (35 + n) (10, ls.set (nI k).toNatClampNeg (.int 3)))).set (34 + n) (2, [.int (nI W), .int (nI V), .ref (35 + n), .ref (36 + n), .ref (37 + n), .int ((nI k) + 1), .int rc, .long s]))[(1 : Nat)]? = some (20, [.int 1, .int 0, .int (-1), .int 0]) := px_ne hf1_1 (by omega)
  have hf2_2 : (((hp.set (35 + n) (10, ls.set (nI k).toNatClampNeg (.int 3)))).set (34 + n) (2, [.int (nI W), .int (nI V), .ref (35 + n), .ref (36 + n), .ref (37 + n), .int ((nI k) + 1), .int rc, .long s]))[(2 : Nat)]? = some (20, [.int 0, .int 1, .int 0, .int (-1)]) := px_ne hf1_2 (by omega)
  show px_Gx _ _ (35, [(6, .int (nI k)), (5, .int 3), (4, .int y), (3, .int x), (0, .ref (34 + n)), (1, .int x0), (2, .int y0)], [], (((hp.set (35 + n) (10, ls.set (nI k).toNatClampNeg (.int 3)))).set (34 + n) (2, [.int (nI W), .int (nI V), .ref (35 + n), .ref (36 + n), .ref (37 + n), .int ((nI k) + 1), .int rc, .long s]))) _
  refine px_gx (fun _ K => px_a 3 (f' := (41, [(6, .int (nI k)), (5, .int 3), (4, .int y), (3, .int x), (0, .ref (34 + n)), (1, .int x0), (2, .int y0)], [.int 3, .ref 1, .int x], (((hp.set (35 + n) (10, ls.set (nI k).toNatClampNeg (.int 3)))).set (34 + n) (2, [.int (nI W), .int (nI V), .ref (35 + n), .ref (36 + n), .ref (37 + n), .int ((nI k) + 1), .int rc, .long s])))) rfl K) ?_
  refine px_gx (fun _ K => px_al 1 (.int 0) rfl hf2_1 (Or.inl ⟨rfl, Or.inr rfl⟩) (by decide) (rfl) K) ?_
  show px_Gx _ _ (42, [(6, .int (nI k)), (5, .int 3), (4, .int y), (3, .int x), (0, .ref (34 + n)), (1, .int x0), (2, .int y0)], [.int 0, .int x], (((hp.set (35 + n) (10, ls.set (nI k).toNatClampNeg (.int 3)))).set (34 + n) (2, [.int (nI W), .int (nI V), .ref (35 + n), .ref (36 + n), .ref (37 + n), .int ((nI k) + 1), .int rc, .long s]))) _
  refine px_gx (fun _ K => px_a 5 (f' := (51, [(3, .int (x + 0)), (6, .int (nI k)), (5, .int 3), (4, .int y), (0, .ref (34 + n)), (1, .int x0), (2, .int y0)], [.int 3, .ref 2, .int y], (((hp.set (35 + n) (10, ls.set (nI k).toNatClampNeg (.int 3)))).set (34 + n) (2, [.int (nI W), .int (nI V), .ref (35 + n), .ref (36 + n), .ref (37 + n), .int ((nI k) + 1), .int rc, .long s])))) rfl K) ?_
  refine px_gx (fun _ K => px_al 2 (.int (-1)) rfl hf2_2 (Or.inl ⟨rfl, Or.inr rfl⟩) (by decide) (rfl) K) ?_
  show px_Gx _ _ (52, [(3, .int (x + 0)), (6, .int (nI k)), (5, .int 3), (4, .int y), (0, .ref (34 + n)), (1, .int x0), (2, .int y0)], [.int (-1), .int y], (((hp.set (35 + n) (10, ls.set (nI k).toNatClampNeg (.int 3)))).set (34 + n) (2, [.int (nI W), .int (nI V), .ref (35 + n), .ref (36 + n), .ref (37 + n), .int ((nI k) + 1), .int rc, .long s]))) _
  refine px_gx (fun _ K => px_a 6 (f' := (61, [(4, .int (y + (-1))), (3, .int (x + 0)), (6, .int (nI k)), (5, .int 3), (0, .ref (34 + n)), (1, .int x0), (2, .int y0)], [.int 3, .int (y + (-1)), .int (x + 0), .ref (34 + n)], (((hp.set (35 + n) (10, ls.set (nI k).toNatClampNeg (.int 3)))).set (34 + n) (2, [.int (nI W), .int (nI V), .ref (35 + n), .ref (36 + n), .ref (37 + n), .int ((nI k) + 1), .int rc, .long s])))) rfl K) ?_
  have hsx : c_St ((((hp.set (35 + n) (10, ls.set (nI k).toNatClampNeg (.int 3)))).set (34 + n) (2, [.int (nI W), .int (nI V), .ref (35 + n), .ref (36 + n), .ref (37 + n), .int ((nI k) + 1), .int rc, .long s]))) := c_St_set (c_St_set hs (by omega)) (by omega)
  have hox := hf2__34___n_
  have hlx := hf2__35___n_
  rw [nI_1] at hox hlx hsx ⊢
  generalize (((hp.set (35 + n) (10, ls.set (nI k).toNatClampNeg (.int 3)))).set (34 + n) (2, [.int (nI W), .int (nI V), .ref (35 + n), .ref (36 + n), .ref (37 + n), .int (nI (k + 1)), .int rc, .long s])) = hp2 at hox hlx hsx ⊢
  obtain ⟨x2, ex0, ex⟩ : ∃ q : Int32, q = x + 0 ∧ q.toInt = x.toInt + m_dx 3 := ⟨_, rfl, by
    have e1 : Int32.toInt 0 = 0 := rfl
    have e2 : m_dx 3 = 0 := rfl
    rw [i32_add (by omega) (by omega), e1, e2]⟩
  obtain ⟨y2, ey0, ey⟩ : ∃ q : Int32, q = y + (-1) ∧ q.toInt = y.toInt + m_dy 3 := ⟨_, rfl, by
    have e1 : Int32.toInt (-1) = -1 := rfl
    have e2 : m_dy 3 = -1 := rfl
    rw [i32_add (by omega) (by omega), e1, e2]⟩
  have e2x : m_dx 3 = 0 := rfl
  have e2y : m_dy 3 = -1 := rfl
  rw [← ex0, ← ey0]
  rcases Bool.eq_false_or_eq_true (m_sd (x_T W V s) x2.toInt y2.toInt 0) with ha | ha
  · have hn : m_st (x_T W V s) (x0.toInt, y0.toInt, 0) (k + 1) = (x2.toInt, y2.toInt, 0) := by
      show m_nx _ (m_st (x_T W V s) (x0.toInt, y0.toInt, 0) k) = _
      rw [hst]
      exact m_nx_r ex ey ha
    by_cases q1 : x2 = x0
    · by_cases q2 : y2 = y0
      · refine px_gx (fun _ K => px_cv (34 + n) (as := [.int x2, .int y2, .int 3]) (rest := []) rfl rfl hox rfl rfl rfl rfl (Nat.le_of_ble_eq_true rfl) (c_nl_3r (d := d) hW hV hox hsx (by omega) (by omega) (by omega) (by omega) ha) K) ?_
        show px_Gx _ _ (64, [(4, .int y2), (3, .int x2), (6, .int (nI k)), (5, .int 3), (0, .ref (34 + n)), (1, .int x0), (2, .int y0)], [.int 0], hp2) _
        refine px_gx (fun _ K => px_a 3 (f' := (68, [(5, .int 0), (4, .int y2), (3, .int x2), (6, .int (nI k)), (0, .ref (34 + n)), (1, .int x0), (2, .int y0)], [.int x0, .int x2], hp2)) rfl K) ?_
        refine px_gx (fun _ K => px_b2 false 83 rfl rfl (decide_eq_false (not_not_intro q1)) K) ?_
        show px_Gx _ _ (71, [(5, .int 0), (4, .int y2), (3, .int x2), (6, .int (nI k)), (0, .ref (34 + n)), (1, .int x0), (2, .int y0)], [], hp2) _
        refine px_gx (fun _ K => px_a 2 (f' := (74, [(5, .int 0), (4, .int y2), (3, .int x2), (6, .int (nI k)), (0, .ref (34 + n)), (1, .int x0), (2, .int y0)], [.int y0, .int y2], hp2)) rfl K) ?_
        refine px_gx (fun _ K => px_b2 false 83 rfl rfl (decide_eq_false (not_not_intro q2)) K) ?_
        show px_Gx _ _ (77, [(5, .int 0), (4, .int y2), (3, .int x2), (6, .int (nI k)), (0, .ref (34 + n)), (1, .int x0), (2, .int y0)], [], hp2) _
        refine px_gx (fun _ K => px_a 2 (f' := (82, [(5, .int 0), (4, .int y2), (3, .int x2), (6, .int (nI k)), (0, .ref (34 + n)), (1, .int x0), (2, .int y0)], [], hp2)) rfl K) ?_
        exact ⟨_, _, px_e rfl rfl, KE hp2 (by rw [hn, q1, q2]) hox hlx⟩
      · refine px_gx (fun _ K => px_cv (34 + n) (as := [.int x2, .int y2, .int 3]) (rest := []) rfl rfl hox rfl rfl rfl rfl (Nat.le_of_ble_eq_true rfl) (c_nl_3r (d := d) hW hV hox hsx (by omega) (by omega) (by omega) (by omega) ha) K) ?_
        show px_Gx _ _ (64, [(4, .int y2), (3, .int x2), (6, .int (nI k)), (5, .int 3), (0, .ref (34 + n)), (1, .int x0), (2, .int y0)], [.int 0], hp2) _
        refine px_gx (fun _ K => px_a 3 (f' := (68, [(5, .int 0), (4, .int y2), (3, .int x2), (6, .int (nI k)), (0, .ref (34 + n)), (1, .int x0), (2, .int y0)], [.int x0, .int x2], hp2)) rfl K) ?_
        refine px_gx (fun _ K => px_b2 false 83 rfl rfl (decide_eq_false (not_not_intro q1)) K) ?_
        show px_Gx _ _ (71, [(5, .int 0), (4, .int y2), (3, .int x2), (6, .int (nI k)), (0, .ref (34 + n)), (1, .int x0), (2, .int y0)], [], hp2) _
        refine px_gx (fun _ K => px_a 2 (f' := (74, [(5, .int 0), (4, .int y2), (3, .int x2), (6, .int (nI k)), (0, .ref (34 + n)), (1, .int x0), (2, .int y0)], [.int y0, .int y2], hp2)) rfl K) ?_
        refine px_gx (fun _ K => px_b2 true 83 rfl rfl (decide_eq_true q2) K) ?_
        show px_Gx _ _ (83, [(5, .int 0), (4, .int y2), (3, .int x2), (6, .int (nI k)), (0, .ref (34 + n)), (1, .int x0), (2, .int y0)], [], hp2) _
        refine px_gx (fun _ K => px_a 2 (f' := (11, [(6, .int ((nI k) + 1)), (5, .int 0), (4, .int y2), (3, .int x2), (0, .ref (34 + n)), (1, .int x0), (2, .int y0)], [], hp2)) rfl K) ?_
        rw [nI_1]
        refine px_wk [(6, .int (nI (k + 1))), (5, .int (nI 0)), (4, .int y2), (3, .int x2), (0, .ref (34 + n)), (1, .int x0), (2, .int y0)] ⟨rfl, rfl, rfl, rfl, rfl, rfl, rfl, trivial⟩ ?_
        exact KA 0 x2 y2 hp2 (by decide) hn (fun z => q2 z.2.1) hox hlx hsx
    · refine px_gx (fun _ K => px_cv (34 + n) (as := [.int x2, .int y2, .int 3]) (rest := []) rfl rfl hox rfl rfl rfl rfl (Nat.le_of_ble_eq_true rfl) (c_nl_3r (d := d) hW hV hox hsx (by omega) (by omega) (by omega) (by omega) ha) K) ?_
      show px_Gx _ _ (64, [(4, .int y2), (3, .int x2), (6, .int (nI k)), (5, .int 3), (0, .ref (34 + n)), (1, .int x0), (2, .int y0)], [.int 0], hp2) _
      refine px_gx (fun _ K => px_a 3 (f' := (68, [(5, .int 0), (4, .int y2), (3, .int x2), (6, .int (nI k)), (0, .ref (34 + n)), (1, .int x0), (2, .int y0)], [.int x0, .int x2], hp2)) rfl K) ?_
      refine px_gx (fun _ K => px_b2 true 83 rfl rfl (decide_eq_true q1) K) ?_
      show px_Gx _ _ (83, [(5, .int 0), (4, .int y2), (3, .int x2), (6, .int (nI k)), (0, .ref (34 + n)), (1, .int x0), (2, .int y0)], [], hp2) _
      refine px_gx (fun _ K => px_a 2 (f' := (11, [(6, .int ((nI k) + 1)), (5, .int 0), (4, .int y2), (3, .int x2), (0, .ref (34 + n)), (1, .int x0), (2, .int y0)], [], hp2)) rfl K) ?_
      rw [nI_1]
      refine px_wk [(6, .int (nI (k + 1))), (5, .int (nI 0)), (4, .int y2), (3, .int x2), (0, .ref (34 + n)), (1, .int x0), (2, .int y0)] ⟨rfl, rfl, rfl, rfl, rfl, rfl, rfl, trivial⟩ ?_
      exact KA 0 x2 y2 hp2 (by decide) hn (fun z => q1 z.1) hox hlx hsx
  · rcases Bool.eq_false_or_eq_true (m_sd (x_T W V s) x2.toInt y2.toInt 3) with hb | hb
    · have hn : m_st (x_T W V s) (x0.toInt, y0.toInt, 0) (k + 1) = (x2.toInt, y2.toInt, 3) := by
        show m_nx _ (m_st (x_T W V s) (x0.toInt, y0.toInt, 0) k) = _
        rw [hst]
        exact m_nx_s ex ey ha hb
      by_cases q1 : x2 = x0
      · by_cases q2 : y2 = y0
        · refine px_gx (fun _ K => px_cv (34 + n) (as := [.int x2, .int y2, .int 3]) (rest := []) rfl rfl hox rfl rfl rfl rfl (Nat.le_of_ble_eq_true rfl) (c_nl_3s (d := d) hW hV hox hsx (by omega) (by omega) (by omega) (by omega) ha hb) K) ?_
          show px_Gx _ _ (64, [(4, .int y2), (3, .int x2), (6, .int (nI k)), (5, .int 3), (0, .ref (34 + n)), (1, .int x0), (2, .int y0)], [.int 3], hp2) _
          refine px_gx (fun _ K => px_a 3 (f' := (68, [(5, .int 3), (4, .int y2), (3, .int x2), (6, .int (nI k)), (0, .ref (34 + n)), (1, .int x0), (2, .int y0)], [.int x0, .int x2], hp2)) rfl K) ?_
          refine px_gx (fun _ K => px_b2 false 83 rfl rfl (decide_eq_false (not_not_intro q1)) K) ?_
          show px_Gx _ _ (71, [(5, .int 3), (4, .int y2), (3, .int x2), (6, .int (nI k)), (0, .ref (34 + n)), (1, .int x0), (2, .int y0)], [], hp2) _
          refine px_gx (fun _ K => px_a 2 (f' := (74, [(5, .int 3), (4, .int y2), (3, .int x2), (6, .int (nI k)), (0, .ref (34 + n)), (1, .int x0), (2, .int y0)], [.int y0, .int y2], hp2)) rfl K) ?_
          refine px_gx (fun _ K => px_b2 false 83 rfl rfl (decide_eq_false (not_not_intro q2)) K) ?_
          show px_Gx _ _ (77, [(5, .int 3), (4, .int y2), (3, .int x2), (6, .int (nI k)), (0, .ref (34 + n)), (1, .int x0), (2, .int y0)], [], hp2) _
          refine px_gx (fun _ K => px_a 4 (f' := (11, [(6, .int ((nI k) + 1)), (5, .int 3), (4, .int y2), (3, .int x2), (0, .ref (34 + n)), (1, .int x0), (2, .int y0)], [], hp2)) rfl K) ?_
          rw [nI_1]
          refine px_wk [(6, .int (nI (k + 1))), (5, .int (nI 3)), (4, .int y2), (3, .int x2), (0, .ref (34 + n)), (1, .int x0), (2, .int y0)] ⟨rfl, rfl, rfl, rfl, rfl, rfl, rfl, trivial⟩ ?_
          exact KA 3 x2 y2 hp2 (by decide) hn (fun z => absurd z.2.2 (by decide)) hox hlx hsx
        · refine px_gx (fun _ K => px_cv (34 + n) (as := [.int x2, .int y2, .int 3]) (rest := []) rfl rfl hox rfl rfl rfl rfl (Nat.le_of_ble_eq_true rfl) (c_nl_3s (d := d) hW hV hox hsx (by omega) (by omega) (by omega) (by omega) ha hb) K) ?_
          show px_Gx _ _ (64, [(4, .int y2), (3, .int x2), (6, .int (nI k)), (5, .int 3), (0, .ref (34 + n)), (1, .int x0), (2, .int y0)], [.int 3], hp2) _
          refine px_gx (fun _ K => px_a 3 (f' := (68, [(5, .int 3), (4, .int y2), (3, .int x2), (6, .int (nI k)), (0, .ref (34 + n)), (1, .int x0), (2, .int y0)], [.int x0, .int x2], hp2)) rfl K) ?_
          refine px_gx (fun _ K => px_b2 false 83 rfl rfl (decide_eq_false (not_not_intro q1)) K) ?_
          show px_Gx _ _ (71, [(5, .int 3), (4, .int y2), (3, .int x2), (6, .int (nI k)), (0, .ref (34 + n)), (1, .int x0), (2, .int y0)], [], hp2) _
          refine px_gx (fun _ K => px_a 2 (f' := (74, [(5, .int 3), (4, .int y2), (3, .int x2), (6, .int (nI k)), (0, .ref (34 + n)), (1, .int x0), (2, .int y0)], [.int y0, .int y2], hp2)) rfl K) ?_
          refine px_gx (fun _ K => px_b2 true 83 rfl rfl (decide_eq_true q2) K) ?_
          show px_Gx _ _ (83, [(5, .int 3), (4, .int y2), (3, .int x2), (6, .int (nI k)), (0, .ref (34 + n)), (1, .int x0), (2, .int y0)], [], hp2) _
          refine px_gx (fun _ K => px_a 2 (f' := (11, [(6, .int ((nI k) + 1)), (5, .int 3), (4, .int y2), (3, .int x2), (0, .ref (34 + n)), (1, .int x0), (2, .int y0)], [], hp2)) rfl K) ?_
          rw [nI_1]
          refine px_wk [(6, .int (nI (k + 1))), (5, .int (nI 3)), (4, .int y2), (3, .int x2), (0, .ref (34 + n)), (1, .int x0), (2, .int y0)] ⟨rfl, rfl, rfl, rfl, rfl, rfl, rfl, trivial⟩ ?_
          exact KA 3 x2 y2 hp2 (by decide) hn (fun z => q2 z.2.1) hox hlx hsx
      · refine px_gx (fun _ K => px_cv (34 + n) (as := [.int x2, .int y2, .int 3]) (rest := []) rfl rfl hox rfl rfl rfl rfl (Nat.le_of_ble_eq_true rfl) (c_nl_3s (d := d) hW hV hox hsx (by omega) (by omega) (by omega) (by omega) ha hb) K) ?_
        show px_Gx _ _ (64, [(4, .int y2), (3, .int x2), (6, .int (nI k)), (5, .int 3), (0, .ref (34 + n)), (1, .int x0), (2, .int y0)], [.int 3], hp2) _
        refine px_gx (fun _ K => px_a 3 (f' := (68, [(5, .int 3), (4, .int y2), (3, .int x2), (6, .int (nI k)), (0, .ref (34 + n)), (1, .int x0), (2, .int y0)], [.int x0, .int x2], hp2)) rfl K) ?_
        refine px_gx (fun _ K => px_b2 true 83 rfl rfl (decide_eq_true q1) K) ?_
        show px_Gx _ _ (83, [(5, .int 3), (4, .int y2), (3, .int x2), (6, .int (nI k)), (0, .ref (34 + n)), (1, .int x0), (2, .int y0)], [], hp2) _
        refine px_gx (fun _ K => px_a 2 (f' := (11, [(6, .int ((nI k) + 1)), (5, .int 3), (4, .int y2), (3, .int x2), (0, .ref (34 + n)), (1, .int x0), (2, .int y0)], [], hp2)) rfl K) ?_
        rw [nI_1]
        refine px_wk [(6, .int (nI (k + 1))), (5, .int (nI 3)), (4, .int y2), (3, .int x2), (0, .ref (34 + n)), (1, .int x0), (2, .int y0)] ⟨rfl, rfl, rfl, rfl, rfl, rfl, rfl, trivial⟩ ?_
        exact KA 3 x2 y2 hp2 (by decide) hn (fun z => q1 z.1) hox hlx hsx
    · have hn : m_st (x_T W V s) (x0.toInt, y0.toInt, 0) (k + 1) = (x2.toInt, y2.toInt, 2) := by
        show m_nx _ (m_st (x_T W V s) (x0.toInt, y0.toInt, 0) k) = _
        rw [hst]
        exact m_nx_l ex ey ha hb
      by_cases q1 : x2 = x0
      · by_cases q2 : y2 = y0
        · refine px_gx (fun _ K => px_cv (34 + n) (as := [.int x2, .int y2, .int 3]) (rest := []) rfl rfl hox rfl rfl rfl rfl (Nat.le_of_ble_eq_true rfl) (c_nl_3l (d := d) hW hV hox hsx (by omega) (by omega) (by omega) (by omega) ha hb) K) ?_
          show px_Gx _ _ (64, [(4, .int y2), (3, .int x2), (6, .int (nI k)), (5, .int 3), (0, .ref (34 + n)), (1, .int x0), (2, .int y0)], [.int 2], hp2) _
          refine px_gx (fun _ K => px_a 3 (f' := (68, [(5, .int 2), (4, .int y2), (3, .int x2), (6, .int (nI k)), (0, .ref (34 + n)), (1, .int x0), (2, .int y0)], [.int x0, .int x2], hp2)) rfl K) ?_
          refine px_gx (fun _ K => px_b2 false 83 rfl rfl (decide_eq_false (not_not_intro q1)) K) ?_
          show px_Gx _ _ (71, [(5, .int 2), (4, .int y2), (3, .int x2), (6, .int (nI k)), (0, .ref (34 + n)), (1, .int x0), (2, .int y0)], [], hp2) _
          refine px_gx (fun _ K => px_a 2 (f' := (74, [(5, .int 2), (4, .int y2), (3, .int x2), (6, .int (nI k)), (0, .ref (34 + n)), (1, .int x0), (2, .int y0)], [.int y0, .int y2], hp2)) rfl K) ?_
          refine px_gx (fun _ K => px_b2 false 83 rfl rfl (decide_eq_false (not_not_intro q2)) K) ?_
          show px_Gx _ _ (77, [(5, .int 2), (4, .int y2), (3, .int x2), (6, .int (nI k)), (0, .ref (34 + n)), (1, .int x0), (2, .int y0)], [], hp2) _
          refine px_gx (fun _ K => px_a 4 (f' := (11, [(6, .int ((nI k) + 1)), (5, .int 2), (4, .int y2), (3, .int x2), (0, .ref (34 + n)), (1, .int x0), (2, .int y0)], [], hp2)) rfl K) ?_
          rw [nI_1]
          refine px_wk [(6, .int (nI (k + 1))), (5, .int (nI 2)), (4, .int y2), (3, .int x2), (0, .ref (34 + n)), (1, .int x0), (2, .int y0)] ⟨rfl, rfl, rfl, rfl, rfl, rfl, rfl, trivial⟩ ?_
          exact KA 2 x2 y2 hp2 (by decide) hn (fun z => absurd z.2.2 (by decide)) hox hlx hsx
        · refine px_gx (fun _ K => px_cv (34 + n) (as := [.int x2, .int y2, .int 3]) (rest := []) rfl rfl hox rfl rfl rfl rfl (Nat.le_of_ble_eq_true rfl) (c_nl_3l (d := d) hW hV hox hsx (by omega) (by omega) (by omega) (by omega) ha hb) K) ?_
          show px_Gx _ _ (64, [(4, .int y2), (3, .int x2), (6, .int (nI k)), (5, .int 3), (0, .ref (34 + n)), (1, .int x0), (2, .int y0)], [.int 2], hp2) _
          refine px_gx (fun _ K => px_a 3 (f' := (68, [(5, .int 2), (4, .int y2), (3, .int x2), (6, .int (nI k)), (0, .ref (34 + n)), (1, .int x0), (2, .int y0)], [.int x0, .int x2], hp2)) rfl K) ?_
          refine px_gx (fun _ K => px_b2 false 83 rfl rfl (decide_eq_false (not_not_intro q1)) K) ?_
          show px_Gx _ _ (71, [(5, .int 2), (4, .int y2), (3, .int x2), (6, .int (nI k)), (0, .ref (34 + n)), (1, .int x0), (2, .int y0)], [], hp2) _
          refine px_gx (fun _ K => px_a 2 (f' := (74, [(5, .int 2), (4, .int y2), (3, .int x2), (6, .int (nI k)), (0, .ref (34 + n)), (1, .int x0), (2, .int y0)], [.int y0, .int y2], hp2)) rfl K) ?_
          refine px_gx (fun _ K => px_b2 true 83 rfl rfl (decide_eq_true q2) K) ?_
          show px_Gx _ _ (83, [(5, .int 2), (4, .int y2), (3, .int x2), (6, .int (nI k)), (0, .ref (34 + n)), (1, .int x0), (2, .int y0)], [], hp2) _
          refine px_gx (fun _ K => px_a 2 (f' := (11, [(6, .int ((nI k) + 1)), (5, .int 2), (4, .int y2), (3, .int x2), (0, .ref (34 + n)), (1, .int x0), (2, .int y0)], [], hp2)) rfl K) ?_
          rw [nI_1]
          refine px_wk [(6, .int (nI (k + 1))), (5, .int (nI 2)), (4, .int y2), (3, .int x2), (0, .ref (34 + n)), (1, .int x0), (2, .int y0)] ⟨rfl, rfl, rfl, rfl, rfl, rfl, rfl, trivial⟩ ?_
          exact KA 2 x2 y2 hp2 (by decide) hn (fun z => q2 z.2.1) hox hlx hsx
      · refine px_gx (fun _ K => px_cv (34 + n) (as := [.int x2, .int y2, .int 3]) (rest := []) rfl rfl hox rfl rfl rfl rfl (Nat.le_of_ble_eq_true rfl) (c_nl_3l (d := d) hW hV hox hsx (by omega) (by omega) (by omega) (by omega) ha hb) K) ?_
        show px_Gx _ _ (64, [(4, .int y2), (3, .int x2), (6, .int (nI k)), (5, .int 3), (0, .ref (34 + n)), (1, .int x0), (2, .int y0)], [.int 2], hp2) _
        refine px_gx (fun _ K => px_a 3 (f' := (68, [(5, .int 2), (4, .int y2), (3, .int x2), (6, .int (nI k)), (0, .ref (34 + n)), (1, .int x0), (2, .int y0)], [.int x0, .int x2], hp2)) rfl K) ?_
        refine px_gx (fun _ K => px_b2 true 83 rfl rfl (decide_eq_true q1) K) ?_
        show px_Gx _ _ (83, [(5, .int 2), (4, .int y2), (3, .int x2), (6, .int (nI k)), (0, .ref (34 + n)), (1, .int x0), (2, .int y0)], [], hp2) _
        refine px_gx (fun _ K => px_a 2 (f' := (11, [(6, .int ((nI k) + 1)), (5, .int 2), (4, .int y2), (3, .int x2), (0, .ref (34 + n)), (1, .int x0), (2, .int y0)], [], hp2)) rfl K) ?_
        rw [nI_1]
        refine px_wk [(6, .int (nI (k + 1))), (5, .int (nI 2)), (4, .int y2), (3, .int x2), (0, .ref (34 + n)), (1, .int x0), (2, .int y0)] ⟨rfl, rfl, rfl, rfl, rfl, rfl, rfl, trivial⟩ ?_
        exact KA 2 x2 y2 hp2 (by decide) hn (fun z => q1 z.1) hox hlx hsx
theorem c_follow_l {d n : Nat} {W V : Nat} {rc : Int32} {s : Int64} {x0 y0 : Int32} (hW : W ≤ 6) (hV : V ≤ 6) (hs0 : m_ok (x_T W V s) (x0.toInt, y0.toInt, 0)) {K0 : Nat} (hK2 : K0 ≤ 84) (hK : m_st (x_T W V s) (x0.toInt, y0.toInt, 0) K0 = (x0.toInt, y0.toInt, 0)) (hmin : ∀ k, 1 ≤ k → k < K0 → m_st (x_T W V s) (x0.toInt, y0.toInt, 0) k ≠ (x0.toInt, y0.toInt, 0)) : ∀ (m k : Nat) (wa : Nat) (y x : Int32) (hp : px_H) (ls : List Value) (le : Int32) (ho : hp[34 + n]? = some (2, [.int (nI W), .int (nI V), .ref (35 + n), .ref (36 + n), .ref (37 + n), .int le, .int rc, .long s])) (hls : hp[35 + n]? = some (10, ls)) (hs : c_St hp) (hll : ls.length = 84), k + m = K0 → 1 ≤ m → m_st (x_T W V s) (x0.toInt, y0.toInt, 0) k = (x.toInt, y.toInt, wa) → (∀ i, i < k → ls[i]? = some (.int (nI (m_st (x_T W V s) (x0.toInt, y0.toInt, 0) i).2.2))) → px_Gx (d + 3) 36 (11, [(6, .int (nI k)), (5, .int (nI wa)), (4, .int y), (3, .int x), (0, .ref (34 + n)), (1, .int x0), (2, .int y0)], [], hp) (fun o hp' => o = .inl none ∧ hp'[34 + n]? = some (2, [.int (nI W), .int (nI V), .ref (35 + n), .ref (36 + n), .ref (37 + n), .int (nI K0), .int rc, .long s]) ∧ ∃ ls', hp'[35 + n]? = some (10, ls') ∧ ∀ i, i < K0 → ls'[i]? = some (.int (nI (m_st (x_T W V s) (x0.toInt, y0.toInt, 0) i).2.2))) := by
  intro m
  induction m with
  | zero =>
    intro k wa y x hp ls le ho hls hs hll g1 g2
    omega
  | succ m ih =>
    intro k wa y x hp ls le ho hls hs hll g1 g2 hst hw
    have hok := m_st_ok hs0 k
    rw [hst] at hok
    obtain ⟨hw4, hsd⟩ := hok
    have hrr := m_sd_r (x_T6 hW hV) hsd
    dsimp only at hw4 hrr
    have KA : ∀ (z : Int32), nI wa = z → ∀ (w2 : Nat) (x2 y2 : Int32) (hp2 : px_H), w2 < 4 → m_st (x_T W V s) (x0.toInt, y0.toInt, 0) (k + 1) = (x2.toInt, y2.toInt, w2) → ¬ (x2 = x0 ∧ y2 = y0 ∧ w2 = 0) → hp2[34 + n]? = some (2, [.int (nI W), .int (nI V), .ref (35 + n), .ref (36 + n), .ref (37 + n), .int (nI (k + 1)), .int rc, .long s]) → hp2[35 + n]? = some (10, ls.set (nI k).toNatClampNeg (.int z)) → c_St hp2 → px_Gx (d + 3) 36 (11, [(6, .int (nI (k + 1))), (5, .int (nI w2)), (4, .int y2), (3, .int x2), (0, .ref (34 + n)), (1, .int x0), (2, .int y0)], [], hp2) (fun o hp' => o = .inl none ∧ hp'[34 + n]? = some (2, [.int (nI W), .int (nI V), .ref (35 + n), .ref (36 + n), .ref (37 + n), .int (nI K0), .int rc, .long s]) ∧ ∃ ls', hp'[35 + n]? = some (10, ls') ∧ ∀ i, i < K0 → ls'[i]? = some (.int (nI (m_st (x_T W V s) (x0.toInt, y0.toInt, 0) i).2.2))) := by
      intro z hz w2 x2 y2 hp2 h4 hn hne a1 a2 a3
      have hk1 : k + 1 ≠ K0 := by
        intro e
        rw [e, hK] at hn
        have n1 : x0.toInt = x2.toInt := congrArg (fun q : m_P => q.1) hn
        have n2 : y0.toInt = y2.toInt := congrArg (fun q : m_P => q.2.1) hn
        have n3 : (0 : Nat) = w2 := congrArg (fun q : m_P => q.2.2) hn
        exact hne ⟨(Int32.toInt_inj.mp n1).symm, (Int32.toInt_inj.mp n2).symm, n3.symm⟩
      exact ih (k + 1) w2 y2 x2 hp2 _ _ a1 a2 a3 (by rw [List.length_set]; exact hll) (by omega) (by omega) hn (c_lsx hw (by omega) (by omega) (by rw [hst]; exact hz))
    have KE : ∀ (z : Int32), nI wa = z → ∀ hp2 : px_H, m_st (x_T W V s) (x0.toInt, y0.toInt, 0) (k + 1) = (x0.toInt, y0.toInt, 0) → hp2[34 + n]? = some (2, [.int (nI W), .int (nI V), .ref (35 + n), .ref (36 + n), .ref (37 + n), .int (nI (k + 1)), .int rc, .long s]) → hp2[35 + n]? = some (10, ls.set (nI k).toNatClampNeg (.int z)) → ((fun o hp' => o = .inl none ∧ hp'[34 + n]? = some (2, [.int (nI W), .int (nI V), .ref (35 + n), .ref (36 + n), .ref (37 + n), .int (nI K0), .int rc, .long s]) ∧ ∃ ls', hp'[35 + n]? = some (10, ls') ∧ ∀ i, i < K0 → ls'[i]? = some (.int (nI (m_st (x_T W V s) (x0.toInt, y0.toInt, 0) i).2.2))) : px_O → px_H → Prop) (.inl none) hp2 := by
      intro z hz hp2 hn a1 a2
      have hK1 : k + 1 = K0 := by
        rcases Nat.lt_or_ge (k + 1) K0 with q | q
        · exact absurd hn (hmin (k + 1) (by omega) q)
        · omega
      refine ⟨rfl, by rw [← hK1]; exact a1, _, a2, ?_⟩
      rw [← hK1]
      exact c_lsx hw (by omega) (by omega) (by rw [hst]; exact hz)
    rcases (show wa = 0 ∨ wa = 1 ∨ wa = 2 ∨ wa = 3 by omega) with rfl | rfl | rfl | rfl
    · exact c_fs_0 hW hV (by omega) (by omega) (by omega) (by omega) (by omega) ho hls hs hll hst (KA 0 rfl) (KE 0 rfl)
    · exact c_fs_1 hW hV (by omega) (by omega) (by omega) (by omega) (by omega) ho hls hs hll hst (KA 1 rfl) (KE 1 rfl)
    · exact c_fs_2 hW hV (by omega) (by omega) (by omega) (by omega) (by omega) ho hls hs hll hst (KA 2 rfl) (KE 2 rfl)
    · exact c_fs_3 hW hV (by omega) (by omega) (by omega) (by omega) (by omega) ho hls hs hll hst (KA 3 rfl) (KE 3 rfl)
