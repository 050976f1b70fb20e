set_option maxRecDepth 20000 in
theorem g_cell_t {d o : Nat} {hp hp1 : px_H} {x0 x1 x2 : Int32} {vc : List Value} (hc : hp[(8 : Nat)]? = some (3, vc)) (hA : px_Go d 46 (0, [(0, .ref 8), (1, .int x0), (2, .int x1), (3, .int x2)], [], hp) (.inr "java/lang/ArrayIndexOutOfBoundsException", hp1)) : px_Go (d + 1) 5 (0, [(0, .ref 8), (1, .int x0), (2, .int x1), (3, .int x2), (4, .ref o)], [], hp) (.inl (some (.int 1)), hp1) := by
  refine px_a 6 (f' := (7, [(0, .ref 8), (1, .int x0), (2, .int x1), (3, .int x2), (4, .ref o)], [.int x2, .int x1, .int x0, .ref 8, .int 0, .ref o], hp)) rfl ?_
  exact px_cvc 8 (as := [.int x0, .int x1, .int x2]) (rest := [.int 0, .ref o]) rfl rfl hc rfl rfl rfl rfl (Nat.le_of_ble_eq_true rfl) (hA) (px_hdA (by decide) (by decide))
set_option maxRecDepth 20000 in
theorem g_cell_0 {d o : Nat} {hp hp1 : px_H} {x0 x1 x2 : Int32} {z : Int64} {vc : List Value} (hc : hp[(8 : Nat)]? = some (3, vc)) (go : 8 ≤ o) (ho1 : hp1[o]? = some (11, [.long z])) (hA : px_Go d 46 (0, [(0, .ref 8), (1, .int x0), (2, .int x1), (3, .int x2)], [], hp) (.inl (some (.int 0)), hp1)) : px_Go (d + 1) 5 (0, [(0, .ref 8), (1, .int x0), (2, .int x1), (3, .int x2), (4, .ref o)], [], hp) (.inl (some (.int 0)), hp1.set o (11, [.long 0])) := by
  refine px_a 6 (f' := (7, [(0, .ref 8), (1, .int x0), (2, .int x1), (3, .int x2), (4, .ref o)], [.int x2, .int x1, .int x0, .ref 8, .int 0, .ref o], hp)) rfl ?_
  refine px_cv 8 (as := [.int x0, .int x1, .int x2]) (rest := [.int 0, .ref o]) rfl rfl hc rfl rfl rfl rfl (Nat.le_of_ble_eq_true rfl) (hA) ?_
  show px_Go _ _ (10, [(0, .ref 8), (1, .int x0), (2, .int x1), (3, .int x2), (4, .ref o)], [.int 0, .int 0, .ref o], hp1) _
  refine px_a 2 (f' := (18, [(0, .ref 8), (1, .int x0), (2, .int x1), (3, .int x2), (4, .ref o)], [.long 0, .int 0, .ref o], hp1)) rfl ?_
  refine px_las o rfl ho1 (by omega) (by decide) (show Int32.toNatClampNeg 0 < 1 by decide) ?_
  have hf1_o : (hp1.set o (11, [.long 0]))[o]? = some (11, [.long 0]) := px_self ho1
  show px_Go _ _ (19, [(0, .ref 8), (1, .int x0), (2, .int x1), (3, .int x2), (4, .ref o)], [], (hp1.set o (11, [.long 0]))) _
  refine px_a 2 (f' := (27, [(0, .ref 8), (1, .int x0), (2, .int x1), (3, .int x2), (4, .ref o)], [.int 0], (hp1.set o (11, [.long 0])))) rfl ?_
  exact px_ri rfl rfl rfl
set_option maxRecDepth 20000 in
theorem g_cell_1 {d o : Nat} {hp hp1 : px_H} {x0 x1 x2 : Int32} {z : Int64} {vc : List Value} (hc : hp[(8 : Nat)]? = some (3, vc)) (go : 8 ≤ o) (ho1 : hp1[o]? = some (11, [.long z])) (hA : px_Go d 46 (0, [(0, .ref 8), (1, .int x0), (2, .int x1), (3, .int x2)], [], hp) (.inl (some (.int 1)), hp1)) : px_Go (d + 1) 5 (0, [(0, .ref 8), (1, .int x0), (2, .int x1), (3, .int x2), (4, .ref o)], [], hp) (.inl (some (.int 0)), hp1.set o (11, [.long 1])) := by
  refine px_a 6 (f' := (7, [(0, .ref 8), (1, .int x0), (2, .int x1), (3, .int x2), (4, .ref o)], [.int x2, .int x1, .int x0, .ref 8, .int 0, .ref o], hp)) rfl ?_
  refine px_cv 8 (as := [.int x0, .int x1, .int x2]) (rest := [.int 0, .ref o]) rfl rfl hc rfl rfl rfl rfl (Nat.le_of_ble_eq_true rfl) (hA) ?_
  show px_Go _ _ (10, [(0, .ref 8), (1, .int x0), (2, .int x1), (3, .int x2), (4, .ref o)], [.int 1, .int 0, .ref o], hp1) _
  refine px_a 3 (f' := (18, [(0, .ref 8), (1, .int x0), (2, .int x1), (3, .int x2), (4, .ref o)], [.long 1, .int 0, .ref o], hp1)) rfl ?_
  refine px_las o rfl ho1 (by omega) (by decide) (show Int32.toNatClampNeg 0 < 1 by decide) ?_
  have hf1_o : (hp1.set o (11, [.long 1]))[o]? = some (11, [.long 1]) := px_self ho1
  show px_Go _ _ (19, [(0, .ref 8), (1, .int x0), (2, .int x1), (3, .int x2), (4, .ref o)], [], (hp1.set o (11, [.long 1]))) _
  refine px_a 2 (f' := (27, [(0, .ref 8), (1, .int x0), (2, .int x1), (3, .int x2), (4, .ref o)], [.int 0], (hp1.set o (11, [.long 1])))) rfl ?_
  exact px_ri rfl rfl rfl
set_option maxRecDepth 20000 in
theorem g_square_t {d o : Nat} {hp hp1 : px_H} {x0 x1 x2 : Int32} {vc : List Value} (hc : hp[(8 : Nat)]? = some (3, vc)) (hA : px_Go d 64 (0, [(0, .ref 8), (1, .int x0), (2, .int x1), (3, .int x2)], [], hp) (.inr "java/lang/ArrayIndexOutOfBoundsException", hp1)) : px_Go (d + 1) 10 (0, [(0, .ref 8), (1, .int x0), (2, .int x1), (3, .int x2), (4, .ref o)], [], hp) (.inl (some (.int 1)), hp1) := by
  refine px_a 6 (f' := (7, [(0, .ref 8), (1, .int x0), (2, .int x1), (3, .int x2), (4, .ref o)], [.int x2, .int x1, .int x0, .ref 8, .int 0, .ref o], hp)) rfl ?_
  exact px_cvc 8 (as := [.int x0, .int x1, .int x2]) (rest := [.int 0, .ref o]) rfl rfl hc rfl rfl rfl rfl (Nat.le_of_ble_eq_true rfl) (hA) (px_hdA (by decide) (by decide))
set_option maxRecDepth 20000 in
theorem g_square_0 {d o : Nat} {hp hp1 : px_H} {x0 x1 x2 : Int32} {z : Int64} {vc : List Value} (hc : hp[(8 : Nat)]? = some (3, vc)) (go : 8 ≤ o) (ho1 : hp1[o]? = some (11, [.long z])) (hA : px_Go d 64 (0, [(0, .ref 8), (1, .int x0), (2, .int x1), (3, .int x2)], [], hp) (.inl (some (.int 0)), hp1)) : px_Go (d + 1) 10 (0, [(0, .ref 8), (1, .int x0), (2, .int x1), (3, .int x2), (4, .ref o)], [], hp) (.inl (some (.int 0)), hp1.set o (11, [.long 0])) := by
  refine px_a 6 (f' := (7, [(0, .ref 8), (1, .int x0), (2, .int x1), (3, .int x2), (4, .ref o)], [.int x2, .int x1, .int x0, .ref 8, .int 0, .ref o], hp)) rfl ?_
  refine px_cv 8 (as := [.int x0, .int x1, .int x2]) (rest := [.int 0, .ref o]) rfl rfl hc rfl rfl rfl rfl (Nat.le_of_ble_eq_true rfl) (hA) ?_
  show px_Go _ _ (10, [(0, .ref 8), (1, .int x0), (2, .int x1), (3, .int x2), (4, .ref o)], [.int 0, .int 0, .ref o], hp1) _
  refine px_a 2 (f' := (18, [(0, .ref 8), (1, .int x0), (2, .int x1), (3, .int x2), (4, .ref o)], [.long 0, .int 0, .ref o], hp1)) rfl ?_
  refine px_las o rfl ho1 (by omega) (by decide) (show Int32.toNatClampNeg 0 < 1 by decide) ?_
  have hf1_o : (hp1.set o (11, [.long 0]))[o]? = some (11, [.long 0]) := px_self ho1
  show px_Go _ _ (19, [(0, .ref 8), (1, .int x0), (2, .int x1), (3, .int x2), (4, .ref o)], [], (hp1.set o (11, [.long 0]))) _
  refine px_a 2 (f' := (31, [(0, .ref 8), (1, .int x0), (2, .int x1), (3, .int x2), (4, .ref o)], [.int 0], (hp1.set o (11, [.long 0])))) rfl ?_
  exact px_ri rfl rfl rfl
set_option maxRecDepth 20000 in
theorem g_square_1 {d o : Nat} {hp hp1 : px_H} {x0 x1 x2 : Int32} {z : Int64} {vc : List Value} (hc : hp[(8 : Nat)]? = some (3, vc)) (go : 8 ≤ o) (ho1 : hp1[o]? = some (11, [.long z])) (hA : px_Go d 64 (0, [(0, .ref 8), (1, .int x0), (2, .int x1), (3, .int x2)], [], hp) (.inl (some (.int 1)), hp1)) : px_Go (d + 1) 10 (0, [(0, .ref 8), (1, .int x0), (2, .int x1), (3, .int x2), (4, .ref o)], [], hp) (.inl (some (.int 0)), hp1.set o (11, [.long 1])) := by
  refine px_a 6 (f' := (7, [(0, .ref 8), (1, .int x0), (2, .int x1), (3, .int x2), (4, .ref o)], [.int x2, .int x1, .int x0, .ref 8, .int 0, .ref o], hp)) rfl ?_
  refine px_cv 8 (as := [.int x0, .int x1, .int x2]) (rest := [.int 0, .ref o]) rfl rfl hc rfl rfl rfl rfl (Nat.le_of_ble_eq_true rfl) (hA) ?_
  show px_Go _ _ (10, [(0, .ref 8), (1, .int x0), (2, .int x1), (3, .int x2), (4, .ref o)], [.int 1, .int 0, .ref o], hp1) _
  refine px_a 3 (f' := (18, [(0, .ref 8), (1, .int x0), (2, .int x1), (3, .int x2), (4, .ref o)], [.long 1, .int 0, .ref o], hp1)) rfl ?_
  refine px_las o rfl ho1 (by omega) (by decide) (show Int32.toNatClampNeg 0 < 1 by decide) ?_
  have hf1_o : (hp1.set o (11, [.long 1]))[o]? = some (11, [.long 1]) := px_self ho1
  show px_Go _ _ (19, [(0, .ref 8), (1, .int x0), (2, .int x1), (3, .int x2), (4, .ref o)], [], (hp1.set o (11, [.long 1]))) _
  refine px_a 2 (f' := (31, [(0, .ref 8), (1, .int x0), (2, .int x1), (3, .int x2), (4, .ref o)], [.int 0], (hp1.set o (11, [.long 1])))) rfl ?_
  exact px_ri rfl rfl rfl
set_option maxRecDepth 20000 in
theorem g_placements_t {d o : Nat} {hp hp1 : px_H} {x0 : Int32} {vc : List Value} (hc : hp[(8 : Nat)]? = some (3, vc)) (hA : px_Go d 58 (0, [(0, .ref 8), (1, .int x0)], [], hp) (.inr "java/lang/ArrayIndexOutOfBoundsException", hp1)) : px_Go (d + 1) 9 (0, [(0, .ref 8), (1, .int x0), (2, .ref o)], [], hp) (.inl (some (.int 1)), hp1) := by
  refine px_a 4 (f' := (4, [(0, .ref 8), (1, .int x0), (2, .ref o)], [.int x0, .ref 8, .int 0, .ref o], hp)) rfl ?_
  exact px_cvc 8 (as := [.int x0]) (rest := [.int 0, .ref o]) rfl rfl hc rfl rfl rfl rfl (Nat.le_of_ble_eq_true rfl) (hA) (px_hdA (by decide) (by decide))
set_option maxRecDepth 20000 in
theorem g_placements_v {d o : Nat} {hp hp1 : px_H} {x0 v : Int32} {z : Int64} {vc : List Value} (hc : hp[(8 : Nat)]? = some (3, vc)) (go : 8 ≤ o) (ho1 : hp1[o]? = some (11, [.long z])) (hA : px_Go d 58 (0, [(0, .ref 8), (1, .int x0)], [], hp) (.inl (some (.int v)), hp1)) : px_Go (d + 1) 9 (0, [(0, .ref 8), (1, .int x0), (2, .ref o)], [], hp) (.inl (some (.int 0)), hp1.set o (11, [.long (Int32.toInt64 v)])) := by
  refine px_a 4 (f' := (4, [(0, .ref 8), (1, .int x0), (2, .ref o)], [.int x0, .ref 8, .int 0, .ref o], hp)) rfl ?_
  refine px_cv 8 (as := [.int x0]) (rest := [.int 0, .ref o]) rfl rfl hc rfl rfl rfl rfl (Nat.le_of_ble_eq_true rfl) (hA) ?_
  show px_Go _ _ (7, [(0, .ref 8), (1, .int x0), (2, .ref o)], [.int v, .int 0, .ref o], hp1) _
  refine px_a 1 (f' := (8, [(0, .ref 8), (1, .int x0), (2, .ref o)], [.long (Int32.toInt64 v), .int 0, .ref o], hp1)) rfl ?_
  refine px_las o rfl ho1 (by omega) (by decide) (show Int32.toNatClampNeg 0 < 1 by decide) ?_
  have hf1_o : (hp1.set o (11, [.long (Int32.toInt64 v)]))[o]? = some (11, [.long (Int32.toInt64 v)]) := px_self ho1
  show px_Go _ _ (9, [(0, .ref 8), (1, .int x0), (2, .ref o)], [], (hp1.set o (11, [.long (Int32.toInt64 v)]))) _
  refine px_a 2 (f' := (16, [(0, .ref 8), (1, .int x0), (2, .ref o)], [.int 0], (hp1.set o (11, [.long (Int32.toInt64 v)])))) rfl ?_
  exact px_ri rfl rfl rfl
set_option maxRecDepth 20000 in
theorem g_placement_t {d o : Nat} {hp hp1 : px_H} {x0 x1 x2 : Int32} {vc : List Value} (hc : hp[(8 : Nat)]? = some (3, vc)) (hA : px_Go d 57 (0, [(0, .ref 8), (1, .int x0), (2, .int x1), (3, .int x2)], [], hp) (.inr "java/lang/ArrayIndexOutOfBoundsException", hp1)) : px_Go (d + 1) 8 (0, [(0, .ref 8), (1, .int x0), (2, .int x1), (3, .int x2), (4, .ref o)], [], hp) (.inl (some (.int 1)), hp1) := by
  refine px_a 6 (f' := (7, [(0, .ref 8), (1, .int x0), (2, .int x1), (3, .int x2), (4, .ref o)], [.int x2, .int x1, .int x0, .ref 8, .int 0, .ref o], hp)) rfl ?_
  exact px_cvc 8 (as := [.int x0, .int x1, .int x2]) (rest := [.int 0, .ref o]) rfl rfl hc rfl rfl rfl rfl (Nat.le_of_ble_eq_true rfl) (hA) (px_hdA (by decide) (by decide))
set_option maxRecDepth 20000 in
theorem g_placement_v {d o : Nat} {hp hp1 : px_H} {x0 x1 x2 v : Int32} {z : Int64} {vc : List Value} (hc : hp[(8 : Nat)]? = some (3, vc)) (go : 8 ≤ o) (ho1 : hp1[o]? = some (11, [.long z])) (hA : px_Go d 57 (0, [(0, .ref 8), (1, .int x0), (2, .int x1), (3, .int x2)], [], hp) (.inl (some (.int v)), hp1)) : px_Go (d + 1) 8 (0, [(0, .ref 8), (1, .int x0), (2, .int x1), (3, .int x2), (4, .ref o)], [], hp) (.inl (some (.int 0)), hp1.set o (11, [.long (Int32.toInt64 v)])) := by
  refine px_a 6 (f' := (7, [(0, .ref 8), (1, .int x0), (2, .int x1), (3, .int x2), (4, .ref o)], [.int x2, .int x1, .int x0, .ref 8, .int 0, .ref o], hp)) rfl ?_
  refine px_cv 8 (as := [.int x0, .int x1, .int x2]) (rest := [.int 0, .ref o]) rfl rfl hc rfl rfl rfl rfl (Nat.le_of_ble_eq_true rfl) (hA) ?_
  show px_Go _ _ (10, [(0, .ref 8), (1, .int x0), (2, .int x1), (3, .int x2), (4, .ref o)], [.int v, .int 0, .ref o], hp1) _
  refine px_a 1 (f' := (11, [(0, .ref 8), (1, .int x0), (2, .int x1), (3, .int x2), (4, .ref o)], [.long (Int32.toInt64 v), .int 0, .ref o], hp1)) rfl ?_
  refine px_las o rfl ho1 (by omega) (by decide) (show Int32.toNatClampNeg 0 < 1 by decide) ?_
  have hf1_o : (hp1.set o (11, [.long (Int32.toInt64 v)]))[o]? = some (11, [.long (Int32.toInt64 v)]) := px_self ho1
  show px_Go _ _ (12, [(0, .ref 8), (1, .int x0), (2, .int x1), (3, .int x2), (4, .ref o)], [], (hp1.set o (11, [.long (Int32.toInt64 v)]))) _
  refine px_a 2 (f' := (20, [(0, .ref 8), (1, .int x0), (2, .int x1), (3, .int x2), (4, .ref o)], [.int 0], (hp1.set o (11, [.long (Int32.toInt64 v)])))) rfl ?_
  exact px_ri rfl rfl rfl
set_option maxRecDepth 20000 in
theorem g_weight_t {d o : Nat} {hp hp1 : px_H} {x0 x1 : Int32} {vc : List Value} (hc : hp[(8 : Nat)]? = some (3, vc)) (hA : px_Go d 67 (0, [(0, .ref 8), (1, .int x0), (2, .int x1)], [], hp) (.inr "java/lang/ArrayIndexOutOfBoundsException", hp1)) : px_Go (d + 1) 11 (0, [(0, .ref 8), (1, .int x0), (2, .int x1), (3, .ref o)], [], hp) (.inl (some (.int 1)), hp1) := by
  refine px_a 5 (f' := (5, [(0, .ref 8), (1, .int x0), (2, .int x1), (3, .ref o)], [.int x1, .int x0, .ref 8, .int 0, .ref o], hp)) rfl ?_
  exact px_cvc 8 (as := [.int x0, .int x1]) (rest := [.int 0, .ref o]) rfl rfl hc rfl rfl rfl rfl (Nat.le_of_ble_eq_true rfl) (hA) (px_hdA (by decide) (by decide))
set_option maxRecDepth 20000 in
theorem g_weight_v {d o : Nat} {hp hp1 : px_H} {x0 x1 v : Int32} {z : Int64} {vc : List Value} (hc : hp[(8 : Nat)]? = some (3, vc)) (go : 8 ≤ o) (ho1 : hp1[o]? = some (11, [.long z])) (hA : px_Go d 67 (0, [(0, .ref 8), (1, .int x0), (2, .int x1)], [], hp) (.inl (some (.int v)), hp1)) : px_Go (d + 1) 11 (0, [(0, .ref 8), (1, .int x0), (2, .int x1), (3, .ref o)], [], hp) (.inl (some (.int 0)), hp1.set o (11, [.long (Int32.toInt64 v)])) := by
  refine px_a 5 (f' := (5, [(0, .ref 8), (1, .int x0), (2, .int x1), (3, .ref o)], [.int x1, .int x0, .ref 8, .int 0, .ref o], hp)) rfl ?_
  refine px_cv 8 (as := [.int x0, .int x1]) (rest := [.int 0, .ref o]) rfl rfl hc rfl rfl rfl rfl (Nat.le_of_ble_eq_true rfl) (hA) ?_
  show px_Go _ _ (8, [(0, .ref 8), (1, .int x0), (2, .int x1), (3, .ref o)], [.int v, .int 0, .ref o], hp1) _
  refine px_a 1 (f' := (9, [(0, .ref 8), (1, .int x0), (2, .int x1), (3, .ref o)], [.long (Int32.toInt64 v), .int 0, .ref o], hp1)) rfl ?_
  refine px_las o rfl ho1 (by omega) (by decide) (show Int32.toNatClampNeg 0 < 1 by decide) ?_
  have hf1_o : (hp1.set o (11, [.long (Int32.toInt64 v)]))[o]? = some (11, [.long (Int32.toInt64 v)]) := px_self ho1
  show px_Go _ _ (10, [(0, .ref 8), (1, .int x0), (2, .int x1), (3, .ref o)], [], (hp1.set o (11, [.long (Int32.toInt64 v)]))) _
  refine px_a 2 (f' := (18, [(0, .ref 8), (1, .int x0), (2, .int x1), (3, .ref o)], [.int 0], (hp1.set o (11, [.long (Int32.toInt64 v)])))) rfl ?_
  exact px_ri rfl rfl rfl
set_option maxRecDepth 20000 in
theorem g_own_t {d o : Nat} {hp hp1 : px_H} {x0 x1 x2 : Int32} {vc : List Value} (hc : hp[(8 : Nat)]? = some (3, vc)) (hA : px_Go d 54 (0, [(0, .ref 8), (1, .int x0), (2, .int x1), (3, .int x2)], [], hp) (.inr "java/lang/ArrayIndexOutOfBoundsException", hp1)) : px_Go (d + 1) 7 (0, [(0, .ref 8), (1, .int x0), (2, .int x1), (3, .int x2), (4, .ref o)], [], hp) (.inl (some (.int 1)), hp1) := by
  refine px_a 6 (f' := (7, [(0, .ref 8), (1, .int x0), (2, .int x1), (3, .int x2), (4, .ref o)], [.int x2, .int x1, .int x0, .ref 8, .int 0, .ref o], hp)) rfl ?_
  exact px_cvc 8 (as := [.int x0, .int x1, .int x2]) (rest := [.int 0, .ref o]) rfl rfl hc rfl rfl rfl rfl (Nat.le_of_ble_eq_true rfl) (hA) (px_hdA (by decide) (by decide))
set_option maxRecDepth 20000 in
theorem g_own_0 {d o : Nat} {hp hp1 : px_H} {x0 x1 x2 : Int32} {z : Int64} {vc : List Value} (hc : hp[(8 : Nat)]? = some (3, vc)) (go : 8 ≤ o) (ho1 : hp1[o]? = some (11, [.long z])) (hA : px_Go d 54 (0, [(0, .ref 8), (1, .int x0), (2, .int x1), (3, .int x2)], [], hp) (.inl (some (.int 0)), hp1)) : px_Go (d + 1) 7 (0, [(0, .ref 8), (1, .int x0), (2, .int x1), (3, .int x2), (4, .ref o)], [], hp) (.inl (some (.int 0)), hp1.set o (11, [.long 0])) := by
  refine px_a 6 (f' := (7, [(0, .ref 8), (1, .int x0), (2, .int x1), (3, .int x2), (4, .ref o)], [.int x2, .int x1, .int x0, .ref 8, .int 0, .ref o], hp)) rfl ?_
  refine px_cv 8 (as := [.int x0, .int x1, .int x2]) (rest := [.int 0, .ref o]) rfl rfl hc rfl rfl rfl rfl (Nat.le_of_ble_eq_true rfl) (hA) ?_
  show px_Go _ _ (10, [(0, .ref 8), (1, .int x0), (2, .int x1), (3, .int x2), (4, .ref o)], [.int 0, .int 0, .ref o], hp1) _
  refine px_a 2 (f' := (18, [(0, .ref 8), (1, .int x0), (2, .int x1), (3, .int x2), (4, .ref o)], [.long 0, .int 0, .ref o], hp1)) rfl ?_
  refine px_las o rfl ho1 (by omega) (by decide) (show Int32.toNatClampNeg 0 < 1 by decide) ?_
  have hf1_o : (hp1.set o (11, [.long 0]))[o]? = some (11, [.long 0]) := px_self ho1
  show px_Go _ _ (19, [(0, .ref 8), (1, .int x0), (2, .int x1), (3, .int x2), (4, .ref o)], [], (hp1.set o (11, [.long 0]))) _
  refine px_a 2 (f' := (27, [(0, .ref 8), (1, .int x0), (2, .int x1), (3, .int x2), (4, .ref o)], [.int 0], (hp1.set o (11, [.long 0])))) rfl ?_
  exact px_ri rfl rfl rfl
set_option maxRecDepth 20000 in
theorem g_own_1 {d o : Nat} {hp hp1 : px_H} {x0 x1 x2 : Int32} {z : Int64} {vc : List Value} (hc : hp[(8 : Nat)]? = some (3, vc)) (go : 8 ≤ o) (ho1 : hp1[o]? = some (11, [.long z])) (hA : px_Go d 54 (0, [(0, .ref 8), (1, .int x0), (2, .int x1), (3, .int x2)], [], hp) (.inl (some (.int 1)), hp1)) : px_Go (d + 1) 7 (0, [(0, .ref 8), (1, .int x0), (2, .int x1), (3, .int x2), (4, .ref o)], [], hp) (.inl (some (.int 0)), hp1.set o (11, [.long 1])) := by
  refine px_a 6 (f' := (7, [(0, .ref 8), (1, .int x0), (2, .int x1), (3, .int x2), (4, .ref o)], [.int x2, .int x1, .int x0, .ref 8, .int 0, .ref o], hp)) rfl ?_
  refine px_cv 8 (as := [.int x0, .int x1, .int x2]) (rest := [.int 0, .ref o]) rfl rfl hc rfl rfl rfl rfl (Nat.le_of_ble_eq_true rfl) (hA) ?_
  show px_Go _ _ (10, [(0, .ref 8), (1, .int x0), (2, .int x1), (3, .int x2), (4, .ref o)], [.int 1, .int 0, .ref o], hp1) _
  refine px_a 3 (f' := (18, [(0, .ref 8), (1, .int x0), (2, .int x1), (3, .int x2), (4, .ref o)], [.long 1, .int 0, .ref o], hp1)) rfl ?_
  refine px_las o rfl ho1 (by omega) (by decide) (show Int32.toNatClampNeg 0 < 1 by decide) ?_
  have hf1_o : (hp1.set o (11, [.long 1]))[o]? = some (11, [.long 1]) := px_self ho1
  show px_Go _ _ (19, [(0, .ref 8), (1, .int x0), (2, .int x1), (3, .int x2), (4, .ref o)], [], (hp1.set o (11, [.long 1]))) _
  refine px_a 2 (f' := (27, [(0, .ref 8), (1, .int x0), (2, .int x1), (3, .int x2), (4, .ref o)], [.int 0], (hp1.set o (11, [.long 1])))) rfl ?_
  exact px_ri rfl rfl rfl
