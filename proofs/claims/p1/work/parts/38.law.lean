theorem px_lg0 (x : Int64) : lg_cmp x x = 0 := by
  unfold lg_cmp
  simp
set_option maxRecDepth 20000 in
theorem q_end {d m o : Nat} {hp : px_H} {a0 a1 a2 a3 a4 a5 : Int32} (h0 : hp[(0 : Nat)]? = some (20, [.int a0, .int a1, .int a2, .int a3, .int a4, .int a5])) : px_Go d 6 (843, [(4, .int 2), (3, .ref o), (2, .ref m), (1, .ref 8), (0, .ref 0)], [], hp) (.inl (some (.int 1)), hp) := by
  refine px_a 4 (f' := (46, [(4, .int 6), (3, .ref o), (2, .ref m), (1, .ref 8), (0, .ref 0)], [.ref 0, .int 6], hp)) rfl ?_
  refine px_len_ 0 rfl h0 (by decide) (by decide) ?_
  show px_Go _ _ (47, [(4, .int 6), (3, .ref o), (2, .ref m), (1, .ref 8), (0, .ref 0)], [.int 6, .int 6], hp) _
  refine px_a 4 (f' := (850, [(4, .int 6), (3, .ref o), (2, .ref m), (1, .ref 8), (0, .ref 0)], [.int 1], hp)) rfl ?_
  exact px_ri rfl rfl rfl
set_option maxRecDepth 20000 in
theorem q_end2 {d m o : Nat} {hp : px_H} {a0 a1 a2 a3 a4 a5 v t : Int32} (h0 : hp[(0 : Nat)]? = some (20, [.int a0, .int a1, .int a2, .int a3, .int a4, .int a5])) : px_Go d 6 (843, [(6, .int v), (5, .int t), (4, .int 2), (3, .ref o), (2, .ref m), (1, .ref 8), (0, .ref 0)], [], hp) (.inl (some (.int 1)), hp) := by
  refine px_a 4 (f' := (46, [(4, .int 6), (6, .int v), (5, .int t), (3, .ref o), (2, .ref m), (1, .ref 8), (0, .ref 0)], [.ref 0, .int 6], hp)) rfl ?_
  refine px_len_ 0 rfl h0 (by decide) (by decide) ?_
  show px_Go _ _ (47, [(4, .int 6), (6, .int v), (5, .int t), (3, .ref o), (2, .ref m), (1, .ref 8), (0, .ref 0)], [.int 6, .int 6], hp) _
  refine px_a 4 (f' := (850, [(4, .int 6), (6, .int v), (5, .int t), (3, .ref o), (2, .ref m), (1, .ref 8), (0, .ref 0)], [.int 1], hp)) rfl ?_
  exact px_ri rfl rfl rfl
set_option maxRecDepth 20000 in
theorem q_op0 {d m o : Nat} {hp : px_H} {a0 a1 a2 a3 a4 a5 : Int32} {r : px_E} (h0 : hp[(0 : Nat)]? = some (20, [.int a0, .int a1, .int a2, .int a3, .int a4, .int a5])) (hop : a2 &&& 15 = 0) (K : px_Go d 6 (136, [(4, .int 2), (3, .ref o), (2, .ref m), (1, .ref 8), (0, .ref 0)], [], hp) r) : px_Go d 6 (43, [(4, .int 2), (3, .ref o), (2, .ref m), (1, .ref 8), (0, .ref 0)], [], hp) r := by
  refine px_a 2 (f' := (46, [(4, .int 2), (3, .ref o), (2, .ref m), (1, .ref 8), (0, .ref 0)], [.ref 0, .int 2], hp)) rfl ?_
  refine px_len_ 0 rfl h0 (by decide) (by decide) ?_
  show px_Go _ _ (47, [(4, .int 2), (3, .ref o), (2, .ref m), (1, .ref 8), (0, .ref 0)], [.int 6, .int 2], hp) _
  refine px_a 5 (f' := (55, [(4, .int 2), (3, .ref o), (2, .ref m), (1, .ref 8), (0, .ref 0)], [.int 2, .ref 0], hp)) rfl ?_
  refine px_al 0 (.int a2) rfl h0 (Or.inl ⟨rfl, Or.inr rfl⟩) (by decide) (rfl) ?_
  show px_Go _ _ (56, [(4, .int 2), (3, .ref o), (2, .ref m), (1, .ref 8), (0, .ref 0)], [.int a2], hp) _
  refine px_a 2 (f' := (59, [(4, .int 2), (3, .ref o), (2, .ref m), (1, .ref 8), (0, .ref 0)], [.int (a2 &&& 15)], hp)) rfl ?_
  rw [hop]
  show px_Go _ _ (59, [(4, .int 2), (3, .ref o), (2, .ref m), (1, .ref 8), (0, .ref 0)], [.int 0], hp) _
  refine px_a 1 (f' := (136, [(4, .int 2), (3, .ref o), (2, .ref m), (1, .ref 8), (0, .ref 0)], [], hp)) rfl ?_
  exact K
set_option maxRecDepth 20000 in
theorem q_op1 {d m o : Nat} {hp : px_H} {a0 a1 a2 a3 a4 a5 : Int32} {r : px_E} (h0 : hp[(0 : Nat)]? = some (20, [.int a0, .int a1, .int a2, .int a3, .int a4, .int a5])) (hop : a2 &&& 15 = 1) (K : px_Go d 6 (239, [(4, .int 2), (3, .ref o), (2, .ref m), (1, .ref 8), (0, .ref 0)], [], hp) r) : px_Go d 6 (43, [(4, .int 2), (3, .ref o), (2, .ref m), (1, .ref 8), (0, .ref 0)], [], hp) r := by
  refine px_a 2 (f' := (46, [(4, .int 2), (3, .ref o), (2, .ref m), (1, .ref 8), (0, .ref 0)], [.ref 0, .int 2], hp)) rfl ?_
  refine px_len_ 0 rfl h0 (by decide) (by decide) ?_
  show px_Go _ _ (47, [(4, .int 2), (3, .ref o), (2, .ref m), (1, .ref 8), (0, .ref 0)], [.int 6, .int 2], hp) _
  refine px_a 5 (f' := (55, [(4, .int 2), (3, .ref o), (2, .ref m), (1, .ref 8), (0, .ref 0)], [.int 2, .ref 0], hp)) rfl ?_
  refine px_al 0 (.int a2) rfl h0 (Or.inl ⟨rfl, Or.inr rfl⟩) (by decide) (rfl) ?_
  show px_Go _ _ (56, [(4, .int 2), (3, .ref o), (2, .ref m), (1, .ref 8), (0, .ref 0)], [.int a2], hp) _
  refine px_a 2 (f' := (59, [(4, .int 2), (3, .ref o), (2, .ref m), (1, .ref 8), (0, .ref 0)], [.int (a2 &&& 15)], hp)) rfl ?_
  rw [hop]
  show px_Go _ _ (59, [(4, .int 2), (3, .ref o), (2, .ref m), (1, .ref 8), (0, .ref 0)], [.int 1], hp) _
  refine px_a 1 (f' := (239, [(4, .int 2), (3, .ref o), (2, .ref m), (1, .ref 8), (0, .ref 0)], [], hp)) rfl ?_
  exact K
set_option maxRecDepth 20000 in
theorem q_op2 {d m o : Nat} {hp : px_H} {a0 a1 a2 a3 a4 a5 : Int32} {r : px_E} (h0 : hp[(0 : Nat)]? = some (20, [.int a0, .int a1, .int a2, .int a3, .int a4, .int a5])) (hop : a2 &&& 15 = 2) (K : px_Go d 6 (252, [(4, .int 2), (3, .ref o), (2, .ref m), (1, .ref 8), (0, .ref 0)], [], hp) r) : px_Go d 6 (43, [(4, .int 2), (3, .ref o), (2, .ref m), (1, .ref 8), (0, .ref 0)], [], hp) r := by
  refine px_a 2 (f' := (46, [(4, .int 2), (3, .ref o), (2, .ref m), (1, .ref 8), (0, .ref 0)], [.ref 0, .int 2], hp)) rfl ?_
  refine px_len_ 0 rfl h0 (by decide) (by decide) ?_
  show px_Go _ _ (47, [(4, .int 2), (3, .ref o), (2, .ref m), (1, .ref 8), (0, .ref 0)], [.int 6, .int 2], hp) _
  refine px_a 5 (f' := (55, [(4, .int 2), (3, .ref o), (2, .ref m), (1, .ref 8), (0, .ref 0)], [.int 2, .ref 0], hp)) rfl ?_
  refine px_al 0 (.int a2) rfl h0 (Or.inl ⟨rfl, Or.inr rfl⟩) (by decide) (rfl) ?_
  show px_Go _ _ (56, [(4, .int 2), (3, .ref o), (2, .ref m), (1, .ref 8), (0, .ref 0)], [.int a2], hp) _
  refine px_a 2 (f' := (59, [(4, .int 2), (3, .ref o), (2, .ref m), (1, .ref 8), (0, .ref 0)], [.int (a2 &&& 15)], hp)) rfl ?_
  rw [hop]
  show px_Go _ _ (59, [(4, .int 2), (3, .ref o), (2, .ref m), (1, .ref 8), (0, .ref 0)], [.int 2], hp) _
  refine px_a 1 (f' := (252, [(4, .int 2), (3, .ref o), (2, .ref m), (1, .ref 8), (0, .ref 0)], [], hp)) rfl ?_
  exact K
set_option maxRecDepth 20000 in
theorem q_op3 {d m o : Nat} {hp : px_H} {a0 a1 a2 a3 a4 a5 : Int32} {r : px_E} (h0 : hp[(0 : Nat)]? = some (20, [.int a0, .int a1, .int a2, .int a3, .int a4, .int a5])) (hop : a2 &&& 15 = 3) (K : px_Go d 6 (339, [(4, .int 2), (3, .ref o), (2, .ref m), (1, .ref 8), (0, .ref 0)], [], hp) r) : px_Go d 6 (43, [(4, .int 2), (3, .ref o), (2, .ref m), (1, .ref 8), (0, .ref 0)], [], hp) r := by
  refine px_a 2 (f' := (46, [(4, .int 2), (3, .ref o), (2, .ref m), (1, .ref 8), (0, .ref 0)], [.ref 0, .int 2], hp)) rfl ?_
  refine px_len_ 0 rfl h0 (by decide) (by decide) ?_
  show px_Go _ _ (47, [(4, .int 2), (3, .ref o), (2, .ref m), (1, .ref 8), (0, .ref 0)], [.int 6, .int 2], hp) _
  refine px_a 5 (f' := (55, [(4, .int 2), (3, .ref o), (2, .ref m), (1, .ref 8), (0, .ref 0)], [.int 2, .ref 0], hp)) rfl ?_
  refine px_al 0 (.int a2) rfl h0 (Or.inl ⟨rfl, Or.inr rfl⟩) (by decide) (rfl) ?_
  show px_Go _ _ (56, [(4, .int 2), (3, .ref o), (2, .ref m), (1, .ref 8), (0, .ref 0)], [.int a2], hp) _
  refine px_a 2 (f' := (59, [(4, .int 2), (3, .ref o), (2, .ref m), (1, .ref 8), (0, .ref 0)], [.int (a2 &&& 15)], hp)) rfl ?_
  rw [hop]
  show px_Go _ _ (59, [(4, .int 2), (3, .ref o), (2, .ref m), (1, .ref 8), (0, .ref 0)], [.int 3], hp) _
  refine px_a 1 (f' := (339, [(4, .int 2), (3, .ref o), (2, .ref m), (1, .ref 8), (0, .ref 0)], [], hp)) rfl ?_
  exact K
set_option maxRecDepth 20000 in
theorem q_op4 {d m o : Nat} {hp : px_H} {a0 a1 a2 a3 a4 a5 : Int32} {r : px_E} (h0 : hp[(0 : Nat)]? = some (20, [.int a0, .int a1, .int a2, .int a3, .int a4, .int a5])) (hop : a2 &&& 15 = 4) (K : px_Go d 6 (395, [(4, .int 2), (3, .ref o), (2, .ref m), (1, .ref 8), (0, .ref 0)], [], hp) r) : px_Go d 6 (43, [(4, .int 2), (3, .ref o), (2, .ref m), (1, .ref 8), (0, .ref 0)], [], hp) r := by
  refine px_a 2 (f' := (46, [(4, .int 2), (3, .ref o), (2, .ref m), (1, .ref 8), (0, .ref 0)], [.ref 0, .int 2], hp)) rfl ?_
  refine px_len_ 0 rfl h0 (by decide) (by decide) ?_
  show px_Go _ _ (47, [(4, .int 2), (3, .ref o), (2, .ref m), (1, .ref 8), (0, .ref 0)], [.int 6, .int 2], hp) _
  refine px_a 5 (f' := (55, [(4, .int 2), (3, .ref o), (2, .ref m), (1, .ref 8), (0, .ref 0)], [.int 2, .ref 0], hp)) rfl ?_
  refine px_al 0 (.int a2) rfl h0 (Or.inl ⟨rfl, Or.inr rfl⟩) (by decide) (rfl) ?_
  show px_Go _ _ (56, [(4, .int 2), (3, .ref o), (2, .ref m), (1, .ref 8), (0, .ref 0)], [.int a2], hp) _
  refine px_a 2 (f' := (59, [(4, .int 2), (3, .ref o), (2, .ref m), (1, .ref 8), (0, .ref 0)], [.int (a2 &&& 15)], hp)) rfl ?_
  rw [hop]
  show px_Go _ _ (59, [(4, .int 2), (3, .ref o), (2, .ref m), (1, .ref 8), (0, .ref 0)], [.int 4], hp) _
  refine px_a 1 (f' := (395, [(4, .int 2), (3, .ref o), (2, .ref m), (1, .ref 8), (0, .ref 0)], [], hp)) rfl ?_
  exact K
set_option maxRecDepth 20000 in
theorem q_op5 {d m o : Nat} {hp : px_H} {a0 a1 a2 a3 a4 a5 : Int32} {r : px_E} (h0 : hp[(0 : Nat)]? = some (20, [.int a0, .int a1, .int a2, .int a3, .int a4, .int a5])) (hop : a2 &&& 15 = 5) (K : px_Go d 6 (475, [(4, .int 2), (3, .ref o), (2, .ref m), (1, .ref 8), (0, .ref 0)], [], hp) r) : px_Go d 6 (43, [(4, .int 2), (3, .ref o), (2, .ref m), (1, .ref 8), (0, .ref 0)], [], hp) r := by
  refine px_a 2 (f' := (46, [(4, .int 2), (3, .ref o), (2, .ref m), (1, .ref 8), (0, .ref 0)], [.ref 0, .int 2], hp)) rfl ?_
  refine px_len_ 0 rfl h0 (by decide) (by decide) ?_
  show px_Go _ _ (47, [(4, .int 2), (3, .ref o), (2, .ref m), (1, .ref 8), (0, .ref 0)], [.int 6, .int 2], hp) _
  refine px_a 5 (f' := (55, [(4, .int 2), (3, .ref o), (2, .ref m), (1, .ref 8), (0, .ref 0)], [.int 2, .ref 0], hp)) rfl ?_
  refine px_al 0 (.int a2) rfl h0 (Or.inl ⟨rfl, Or.inr rfl⟩) (by decide) (rfl) ?_
  show px_Go _ _ (56, [(4, .int 2), (3, .ref o), (2, .ref m), (1, .ref 8), (0, .ref 0)], [.int a2], hp) _
  refine px_a 2 (f' := (59, [(4, .int 2), (3, .ref o), (2, .ref m), (1, .ref 8), (0, .ref 0)], [.int (a2 &&& 15)], hp)) rfl ?_
  rw [hop]
  show px_Go _ _ (59, [(4, .int 2), (3, .ref o), (2, .ref m), (1, .ref 8), (0, .ref 0)], [.int 5], hp) _
  refine px_a 1 (f' := (475, [(4, .int 2), (3, .ref o), (2, .ref m), (1, .ref 8), (0, .ref 0)], [], hp)) rfl ?_
  exact K
set_option maxRecDepth 20000 in
theorem q_op6 {d m o : Nat} {hp : px_H} {a0 a1 a2 a3 a4 a5 : Int32} {r : px_E} (h0 : hp[(0 : Nat)]? = some (20, [.int a0, .int a1, .int a2, .int a3, .int a4, .int a5])) (hop : a2 &&& 15 = 6) (K : px_Go d 6 (488, [(4, .int 2), (3, .ref o), (2, .ref m), (1, .ref 8), (0, .ref 0)], [], hp) r) : px_Go d 6 (43, [(4, .int 2), (3, .ref o), (2, .ref m), (1, .ref 8), (0, .ref 0)], [], hp) r := by
  refine px_a 2 (f' := (46, [(4, .int 2), (3, .ref o), (2, .ref m), (1, .ref 8), (0, .ref 0)], [.ref 0, .int 2], hp)) rfl ?_
  refine px_len_ 0 rfl h0 (by decide) (by decide) ?_
  show px_Go _ _ (47, [(4, .int 2), (3, .ref o), (2, .ref m), (1, .ref 8), (0, .ref 0)], [.int 6, .int 2], hp) _
  refine px_a 5 (f' := (55, [(4, .int 2), (3, .ref o), (2, .ref m), (1, .ref 8), (0, .ref 0)], [.int 2, .ref 0], hp)) rfl ?_
  refine px_al 0 (.int a2) rfl h0 (Or.inl ⟨rfl, Or.inr rfl⟩) (by decide) (rfl) ?_
  show px_Go _ _ (56, [(4, .int 2), (3, .ref o), (2, .ref m), (1, .ref 8), (0, .ref 0)], [.int a2], hp) _
  refine px_a 2 (f' := (59, [(4, .int 2), (3, .ref o), (2, .ref m), (1, .ref 8), (0, .ref 0)], [.int (a2 &&& 15)], hp)) rfl ?_
  rw [hop]
  show px_Go _ _ (59, [(4, .int 2), (3, .ref o), (2, .ref m), (1, .ref 8), (0, .ref 0)], [.int 6], hp) _
  refine px_a 1 (f' := (488, [(4, .int 2), (3, .ref o), (2, .ref m), (1, .ref 8), (0, .ref 0)], [], hp)) rfl ?_
  exact K
set_option maxRecDepth 20000 in
theorem q_op7 {d m o : Nat} {hp : px_H} {a0 a1 a2 a3 a4 a5 : Int32} {r : px_E} (h0 : hp[(0 : Nat)]? = some (20, [.int a0, .int a1, .int a2, .int a3, .int a4, .int a5])) (hop : a2 &&& 15 = 7) (K : px_Go d 6 (513, [(4, .int 2), (3, .ref o), (2, .ref m), (1, .ref 8), (0, .ref 0)], [], hp) r) : px_Go d 6 (43, [(4, .int 2), (3, .ref o), (2, .ref m), (1, .ref 8), (0, .ref 0)], [], hp) r := by
  refine px_a 2 (f' := (46, [(4, .int 2), (3, .ref o), (2, .ref m), (1, .ref 8), (0, .ref 0)], [.ref 0, .int 2], hp)) rfl ?_
  refine px_len_ 0 rfl h0 (by decide) (by decide) ?_
  show px_Go _ _ (47, [(4, .int 2), (3, .ref o), (2, .ref m), (1, .ref 8), (0, .ref 0)], [.int 6, .int 2], hp) _
  refine px_a 5 (f' := (55, [(4, .int 2), (3, .ref o), (2, .ref m), (1, .ref 8), (0, .ref 0)], [.int 2, .ref 0], hp)) rfl ?_
  refine px_al 0 (.int a2) rfl h0 (Or.inl ⟨rfl, Or.inr rfl⟩) (by decide) (rfl) ?_
  show px_Go _ _ (56, [(4, .int 2), (3, .ref o), (2, .ref m), (1, .ref 8), (0, .ref 0)], [.int a2], hp) _
  refine px_a 2 (f' := (59, [(4, .int 2), (3, .ref o), (2, .ref m), (1, .ref 8), (0, .ref 0)], [.int (a2 &&& 15)], hp)) rfl ?_
  rw [hop]
  show px_Go _ _ (59, [(4, .int 2), (3, .ref o), (2, .ref m), (1, .ref 8), (0, .ref 0)], [.int 7], hp) _
  refine px_a 1 (f' := (513, [(4, .int 2), (3, .ref o), (2, .ref m), (1, .ref 8), (0, .ref 0)], [], hp)) rfl ?_
  exact K
set_option maxRecDepth 20000 in
theorem q_op8 {d m o : Nat} {hp : px_H} {a0 a1 a2 a3 a4 a5 : Int32} {r : px_E} (h0 : hp[(0 : Nat)]? = some (20, [.int a0, .int a1, .int a2, .int a3, .int a4, .int a5])) (hop : a2 &&& 15 = 8) (K : px_Go d 6 (581, [(4, .int 2), (3, .ref o), (2, .ref m), (1, .ref 8), (0, .ref 0)], [], hp) r) : px_Go d 6 (43, [(4, .int 2), (3, .ref o), (2, .ref m), (1, .ref 8), (0, .ref 0)], [], hp) r := by
  refine px_a 2 (f' := (46, [(4, .int 2), (3, .ref o), (2, .ref m), (1, .ref 8), (0, .ref 0)], [.ref 0, .int 2], hp)) rfl ?_
  refine px_len_ 0 rfl h0 (by decide) (by decide) ?_
  show px_Go _ _ (47, [(4, .int 2), (3, .ref o), (2, .ref m), (1, .ref 8), (0, .ref 0)], [.int 6, .int 2], hp) _
  refine px_a 5 (f' := (55, [(4, .int 2), (3, .ref o), (2, .ref m), (1, .ref 8), (0, .ref 0)], [.int 2, .ref 0], hp)) rfl ?_
  refine px_al 0 (.int a2) rfl h0 (Or.inl ⟨rfl, Or.inr rfl⟩) (by decide) (rfl) ?_
  show px_Go _ _ (56, [(4, .int 2), (3, .ref o), (2, .ref m), (1, .ref 8), (0, .ref 0)], [.int a2], hp) _
  refine px_a 2 (f' := (59, [(4, .int 2), (3, .ref o), (2, .ref m), (1, .ref 8), (0, .ref 0)], [.int (a2 &&& 15)], hp)) rfl ?_
  rw [hop]
  show px_Go _ _ (59, [(4, .int 2), (3, .ref o), (2, .ref m), (1, .ref 8), (0, .ref 0)], [.int 8], hp) _
  refine px_a 1 (f' := (581, [(4, .int 2), (3, .ref o), (2, .ref m), (1, .ref 8), (0, .ref 0)], [], hp)) rfl ?_
  exact K
set_option maxRecDepth 20000 in
theorem q_op9 {d m o : Nat} {hp : px_H} {a0 a1 a2 a3 a4 a5 : Int32} {r : px_E} (h0 : hp[(0 : Nat)]? = some (20, [.int a0, .int a1, .int a2, .int a3, .int a4, .int a5])) (hop : a2 &&& 15 = 9) (K : px_Go d 6 (606, [(4, .int 2), (3, .ref o), (2, .ref m), (1, .ref 8), (0, .ref 0)], [], hp) r) : px_Go d 6 (43, [(4, .int 2), (3, .ref o), (2, .ref m), (1, .ref 8), (0, .ref 0)], [], hp) r := by
  refine px_a 2 (f' := (46, [(4, .int 2), (3, .ref o), (2, .ref m), (1, .ref 8), (0, .ref 0)], [.ref 0, .int 2], hp)) rfl ?_
  refine px_len_ 0 rfl h0 (by decide) (by decide) ?_
  show px_Go _ _ (47, [(4, .int 2), (3, .ref o), (2, .ref m), (1, .ref 8), (0, .ref 0)], [.int 6, .int 2], hp) _
  refine px_a 5 (f' := (55, [(4, .int 2), (3, .ref o), (2, .ref m), (1, .ref 8), (0, .ref 0)], [.int 2, .ref 0], hp)) rfl ?_
  refine px_al 0 (.int a2) rfl h0 (Or.inl ⟨rfl, Or.inr rfl⟩) (by decide) (rfl) ?_
  show px_Go _ _ (56, [(4, .int 2), (3, .ref o), (2, .ref m), (1, .ref 8), (0, .ref 0)], [.int a2], hp) _
  refine px_a 2 (f' := (59, [(4, .int 2), (3, .ref o), (2, .ref m), (1, .ref 8), (0, .ref 0)], [.int (a2 &&& 15)], hp)) rfl ?_
  rw [hop]
  show px_Go _ _ (59, [(4, .int 2), (3, .ref o), (2, .ref m), (1, .ref 8), (0, .ref 0)], [.int 9], hp) _
  refine px_a 1 (f' := (606, [(4, .int 2), (3, .ref o), (2, .ref m), (1, .ref 8), (0, .ref 0)], [], hp)) rfl ?_
  exact K
set_option maxRecDepth 20000 in
theorem q_op10 {d m o : Nat} {hp : px_H} {a0 a1 a2 a3 a4 a5 : Int32} {r : px_E} (h0 : hp[(0 : Nat)]? = some (20, [.int a0, .int a1, .int a2, .int a3, .int a4, .int a5])) (hop : a2 &&& 15 = 10) (K : px_Go d 6 (693, [(4, .int 2), (3, .ref o), (2, .ref m), (1, .ref 8), (0, .ref 0)], [], hp) r) : px_Go d 6 (43, [(4, .int 2), (3, .ref o), (2, .ref m), (1, .ref 8), (0, .ref 0)], [], hp) r := by
  refine px_a 2 (f' := (46, [(4, .int 2), (3, .ref o), (2, .ref m), (1, .ref 8), (0, .ref 0)], [.ref 0, .int 2], hp)) rfl ?_
  refine px_len_ 0 rfl h0 (by decide) (by decide) ?_
  show px_Go _ _ (47, [(4, .int 2), (3, .ref o), (2, .ref m), (1, .ref 8), (0, .ref 0)], [.int 6, .int 2], hp) _
  refine px_a 5 (f' := (55, [(4, .int 2), (3, .ref o), (2, .ref m), (1, .ref 8), (0, .ref 0)], [.int 2, .ref 0], hp)) rfl ?_
  refine px_al 0 (.int a2) rfl h0 (Or.inl ⟨rfl, Or.inr rfl⟩) (by decide) (rfl) ?_
  show px_Go _ _ (56, [(4, .int 2), (3, .ref o), (2, .ref m), (1, .ref 8), (0, .ref 0)], [.int a2], hp) _
  refine px_a 2 (f' := (59, [(4, .int 2), (3, .ref o), (2, .ref m), (1, .ref 8), (0, .ref 0)], [.int (a2 &&& 15)], hp)) rfl ?_
  rw [hop]
  show px_Go _ _ (59, [(4, .int 2), (3, .ref o), (2, .ref m), (1, .ref 8), (0, .ref 0)], [.int 10], hp) _
  refine px_a 1 (f' := (693, [(4, .int 2), (3, .ref o), (2, .ref m), (1, .ref 8), (0, .ref 0)], [], hp)) rfl ?_
  exact K
set_option maxRecDepth 20000 in
theorem q_op11 {d m o : Nat} {hp : px_H} {a0 a1 a2 a3 a4 a5 : Int32} {r : px_E} (h0 : hp[(0 : Nat)]? = some (20, [.int a0, .int a1, .int a2, .int a3, .int a4, .int a5])) (hop : a2 &&& 15 = 11) (K : px_Go d 6 (706, [(4, .int 2), (3, .ref o), (2, .ref m), (1, .ref 8), (0, .ref 0)], [], hp) r) : px_Go d 6 (43, [(4, .int 2), (3, .ref o), (2, .ref m), (1, .ref 8), (0, .ref 0)], [], hp) r := by
  refine px_a 2 (f' := (46, [(4, .int 2), (3, .ref o), (2, .ref m), (1, .ref 8), (0, .ref 0)], [.ref 0, .int 2], hp)) rfl ?_
  refine px_len_ 0 rfl h0 (by decide) (by decide) ?_
  show px_Go _ _ (47, [(4, .int 2), (3, .ref o), (2, .ref m), (1, .ref 8), (0, .ref 0)], [.int 6, .int 2], hp) _
  refine px_a 5 (f' := (55, [(4, .int 2), (3, .ref o), (2, .ref m), (1, .ref 8), (0, .ref 0)], [.int 2, .ref 0], hp)) rfl ?_
  refine px_al 0 (.int a2) rfl h0 (Or.inl ⟨rfl, Or.inr rfl⟩) (by decide) (rfl) ?_
  show px_Go _ _ (56, [(4, .int 2), (3, .ref o), (2, .ref m), (1, .ref 8), (0, .ref 0)], [.int a2], hp) _
  refine px_a 2 (f' := (59, [(4, .int 2), (3, .ref o), (2, .ref m), (1, .ref 8), (0, .ref 0)], [.int (a2 &&& 15)], hp)) rfl ?_
  rw [hop]
  show px_Go _ _ (59, [(4, .int 2), (3, .ref o), (2, .ref m), (1, .ref 8), (0, .ref 0)], [.int 11], hp) _
  refine px_a 1 (f' := (706, [(4, .int 2), (3, .ref o), (2, .ref m), (1, .ref 8), (0, .ref 0)], [], hp)) rfl ?_
  exact K
set_option maxRecDepth 20000 in
theorem q_op12 {d m o : Nat} {hp : px_H} {a0 a1 a2 a3 a4 a5 : Int32} {r : px_E} (h0 : hp[(0 : Nat)]? = some (20, [.int a0, .int a1, .int a2, .int a3, .int a4, .int a5])) (hop : a2 &&& 15 = 12) (K : px_Go d 6 (731, [(4, .int 2), (3, .ref o), (2, .ref m), (1, .ref 8), (0, .ref 0)], [], hp) r) : px_Go d 6 (43, [(4, .int 2), (3, .ref o), (2, .ref m), (1, .ref 8), (0, .ref 0)], [], hp) r := by
  refine px_a 2 (f' := (46, [(4, .int 2), (3, .ref o), (2, .ref m), (1, .ref 8), (0, .ref 0)], [.ref 0, .int 2], hp)) rfl ?_
  refine px_len_ 0 rfl h0 (by decide) (by decide) ?_
  show px_Go _ _ (47, [(4, .int 2), (3, .ref o), (2, .ref m), (1, .ref 8), (0, .ref 0)], [.int 6, .int 2], hp) _
  refine px_a 5 (f' := (55, [(4, .int 2), (3, .ref o), (2, .ref m), (1, .ref 8), (0, .ref 0)], [.int 2, .ref 0], hp)) rfl ?_
  refine px_al 0 (.int a2) rfl h0 (Or.inl ⟨rfl, Or.inr rfl⟩) (by decide) (rfl) ?_
  show px_Go _ _ (56, [(4, .int 2), (3, .ref o), (2, .ref m), (1, .ref 8), (0, .ref 0)], [.int a2], hp) _
  refine px_a 2 (f' := (59, [(4, .int 2), (3, .ref o), (2, .ref m), (1, .ref 8), (0, .ref 0)], [.int (a2 &&& 15)], hp)) rfl ?_
  rw [hop]
  show px_Go _ _ (59, [(4, .int 2), (3, .ref o), (2, .ref m), (1, .ref 8), (0, .ref 0)], [.int 12], hp) _
  refine px_a 1 (f' := (731, [(4, .int 2), (3, .ref o), (2, .ref m), (1, .ref 8), (0, .ref 0)], [], hp)) rfl ?_
  exact K
set_option maxRecDepth 20000 in
theorem q_op13 {d m o : Nat} {hp : px_H} {a0 a1 a2 a3 a4 a5 : Int32} {r : px_E} (h0 : hp[(0 : Nat)]? = some (20, [.int a0, .int a1, .int a2, .int a3, .int a4, .int a5])) (hop : a2 &&& 15 = 13) (K : px_Go d 6 (756, [(4, .int 2), (3, .ref o), (2, .ref m), (1, .ref 8), (0, .ref 0)], [], hp) r) : px_Go d 6 (43, [(4, .int 2), (3, .ref o), (2, .ref m), (1, .ref 8), (0, .ref 0)], [], hp) r := by
  refine px_a 2 (f' := (46, [(4, .int 2), (3, .ref o), (2, .ref m), (1, .ref 8), (0, .ref 0)], [.ref 0, .int 2], hp)) rfl ?_
  refine px_len_ 0 rfl h0 (by decide) (by decide) ?_
  show px_Go _ _ (47, [(4, .int 2), (3, .ref o), (2, .ref m), (1, .ref 8), (0, .ref 0)], [.int 6, .int 2], hp) _
  refine px_a 5 (f' := (55, [(4, .int 2), (3, .ref o), (2, .ref m), (1, .ref 8), (0, .ref 0)], [.int 2, .ref 0], hp)) rfl ?_
  refine px_al 0 (.int a2) rfl h0 (Or.inl ⟨rfl, Or.inr rfl⟩) (by decide) (rfl) ?_
  show px_Go _ _ (56, [(4, .int 2), (3, .ref o), (2, .ref m), (1, .ref 8), (0, .ref 0)], [.int a2], hp) _
  refine px_a 2 (f' := (59, [(4, .int 2), (3, .ref o), (2, .ref m), (1, .ref 8), (0, .ref 0)], [.int (a2 &&& 15)], hp)) rfl ?_
  rw [hop]
  show px_Go _ _ (59, [(4, .int 2), (3, .ref o), (2, .ref m), (1, .ref 8), (0, .ref 0)], [.int 13], hp) _
  refine px_a 1 (f' := (756, [(4, .int 2), (3, .ref o), (2, .ref m), (1, .ref 8), (0, .ref 0)], [], hp)) rfl ?_
  exact K
set_option maxRecDepth 20000 in
theorem q_op14 {d m o : Nat} {hp : px_H} {a0 a1 a2 a3 a4 a5 : Int32} {r : px_E} (h0 : hp[(0 : Nat)]? = some (20, [.int a0, .int a1, .int a2, .int a3, .int a4, .int a5])) (hop : a2 &&& 15 = 14) (K : px_Go d 6 (781, [(4, .int 2), (3, .ref o), (2, .ref m), (1, .ref 8), (0, .ref 0)], [], hp) r) : px_Go d 6 (43, [(4, .int 2), (3, .ref o), (2, .ref m), (1, .ref 8), (0, .ref 0)], [], hp) r := by
  refine px_a 2 (f' := (46, [(4, .int 2), (3, .ref o), (2, .ref m), (1, .ref 8), (0, .ref 0)], [.ref 0, .int 2], hp)) rfl ?_
  refine px_len_ 0 rfl h0 (by decide) (by decide) ?_
  show px_Go _ _ (47, [(4, .int 2), (3, .ref o), (2, .ref m), (1, .ref 8), (0, .ref 0)], [.int 6, .int 2], hp) _
  refine px_a 5 (f' := (55, [(4, .int 2), (3, .ref o), (2, .ref m), (1, .ref 8), (0, .ref 0)], [.int 2, .ref 0], hp)) rfl ?_
  refine px_al 0 (.int a2) rfl h0 (Or.inl ⟨rfl, Or.inr rfl⟩) (by decide) (rfl) ?_
  show px_Go _ _ (56, [(4, .int 2), (3, .ref o), (2, .ref m), (1, .ref 8), (0, .ref 0)], [.int a2], hp) _
  refine px_a 2 (f' := (59, [(4, .int 2), (3, .ref o), (2, .ref m), (1, .ref 8), (0, .ref 0)], [.int (a2 &&& 15)], hp)) rfl ?_
  rw [hop]
  show px_Go _ _ (59, [(4, .int 2), (3, .ref o), (2, .ref m), (1, .ref 8), (0, .ref 0)], [.int 14], hp) _
  refine px_a 1 (f' := (781, [(4, .int 2), (3, .ref o), (2, .ref m), (1, .ref 8), (0, .ref 0)], [], hp)) rfl ?_
  exact K
set_option maxRecDepth 20000 in
theorem q_op15 {d m o : Nat} {hp : px_H} {a0 a1 a2 a3 a4 a5 : Int32} {r : px_E} (h0 : hp[(0 : Nat)]? = some (20, [.int a0, .int a1, .int a2, .int a3, .int a4, .int a5])) (hop : a2 &&& 15 = 15) (K : px_Go d 6 (806, [(4, .int 2), (3, .ref o), (2, .ref m), (1, .ref 8), (0, .ref 0)], [], hp) r) : px_Go d 6 (43, [(4, .int 2), (3, .ref o), (2, .ref m), (1, .ref 8), (0, .ref 0)], [], hp) r := by
  refine px_a 2 (f' := (46, [(4, .int 2), (3, .ref o), (2, .ref m), (1, .ref 8), (0, .ref 0)], [.ref 0, .int 2], hp)) rfl ?_
  refine px_len_ 0 rfl h0 (by decide) (by decide) ?_
  show px_Go _ _ (47, [(4, .int 2), (3, .ref o), (2, .ref m), (1, .ref 8), (0, .ref 0)], [.int 6, .int 2], hp) _
  refine px_a 5 (f' := (55, [(4, .int 2), (3, .ref o), (2, .ref m), (1, .ref 8), (0, .ref 0)], [.int 2, .ref 0], hp)) rfl ?_
  refine px_al 0 (.int a2) rfl h0 (Or.inl ⟨rfl, Or.inr rfl⟩) (by decide) (rfl) ?_
  show px_Go _ _ (56, [(4, .int 2), (3, .ref o), (2, .ref m), (1, .ref 8), (0, .ref 0)], [.int a2], hp) _
  refine px_a 2 (f' := (59, [(4, .int 2), (3, .ref o), (2, .ref m), (1, .ref 8), (0, .ref 0)], [.int (a2 &&& 15)], hp)) rfl ?_
  rw [hop]
  show px_Go _ _ (59, [(4, .int 2), (3, .ref o), (2, .ref m), (1, .ref 8), (0, .ref 0)], [.int 15], hp) _
  refine px_a 1 (f' := (806, [(4, .int 2), (3, .ref o), (2, .ref m), (1, .ref 8), (0, .ref 0)], [], hp)) rfl ?_
  exact K
set_option maxRecDepth 20000 in
theorem q_short {d m o : Nat} {hp : px_H} {L : Nat} {xs : Nat → Int32} (h0 : hp[(0 : Nat)]? = some (20, px_s0 L xs)) (hL : L < 6) : px_Go d 6 (43, [(4, .int 2), (3, .ref o), (2, .ref m), (1, .ref 8), (0, .ref 0)], [], hp) (.inl (some (.int 1)), hp) := by
  refine px_a 2 (f' := (46, [(4, .int 2), (3, .ref o), (2, .ref m), (1, .ref 8), (0, .ref 0)], [.ref 0, .int 2], hp)) rfl ?_
  refine px_len_ 0 rfl h0 (by decide) (by decide) ?_
  rw [show (px_s0 L xs).length.toInt32 = nI L by rw [px_s0_len]; rfl]
  show px_Go _ _ (47, [(4, .int 2), (3, .ref o), (2, .ref m), (1, .ref 8), (0, .ref 0)], [.int (nI L), .int 2], hp) _
  refine px_a 2 (f' := (49, [(4, .int 2), (3, .ref o), (2, .ref m), (1, .ref 8), (0, .ref 0)], [.int ((nI L) - 4), .int 2], hp)) rfl ?_
  refine px_b2 true 849 rfl rfl (by rcases (show L = 0 ∨ L = 1 ∨ L = 2 ∨ L = 3 ∨ L = 4 ∨ L = 5 by omega) with rfl | rfl | rfl | rfl | rfl | rfl <;> decide) ?_
  show px_Go _ _ (849, [(4, .int 2), (3, .ref o), (2, .ref m), (1, .ref 8), (0, .ref 0)], [], hp) _
  refine px_a 1 (f' := (850, [(4, .int 2), (3, .ref o), (2, .ref m), (1, .ref 8), (0, .ref 0)], [.int 1], hp)) rfl ?_
  exact px_ri rfl rfl rfl
set_option maxRecDepth 20000 in
theorem q_piece {d m o : Nat} {hp hp1 hp2 : px_H} {a0 a1 a2 a3 a4 a5 : Int32} {v : Int32} (h0 : hp[(0 : Nat)]? = some (20, [.int a0, .int a1, .int a2, .int a3, .int a4, .int a5])) (h01 : hp1[(0 : Nat)]? = some (20, [.int a0, .int a1, .int a2, .int a3, .int a4, .int a5])) (h02 : hp2[(0 : Nat)]? = some (20, [.int a0, .int a1, .int a2, .int a3, .int a4, .int a5])) {vc vm : List Value} (hc : hp[(8 : Nat)]? = some (3, vc)) (hm1 : hp1[m]? = some (4, vm)) (hA : px_Go d 56 (0, [(0, .ref 8)], [], hp) (.inl (some (.int v)), hp1)) (hB : px_Go d 84 (0, [(0, .ref m)], [], hp1) (.inl (some (.int v)), hp2)) : px_Go (d + 1) 6 (239, [(4, .int 2), (3, .ref o), (2, .ref m), (1, .ref 8), (0, .ref 0)], [], hp) (.inl (some (.int 1)), hp2) := by
  refine px_a 1 (f' := (240, [(4, .int 2), (3, .ref o), (2, .ref m), (1, .ref 8), (0, .ref 0)], [.ref 8], hp)) rfl ?_
  refine px_cv 8 (as := []) (rest := []) rfl rfl hc rfl rfl rfl rfl (Nat.le_of_ble_eq_true rfl) (hA) ?_
  show px_Go _ _ (243, [(4, .int 2), (3, .ref o), (2, .ref m), (1, .ref 8), (0, .ref 0)], [.int v], hp1) _
  refine px_a 1 (f' := (244, [(4, .int 2), (3, .ref o), (2, .ref m), (1, .ref 8), (0, .ref 0)], [.ref m, .int v], hp1)) rfl ?_
  refine px_cv m (as := []) (rest := [.int v]) rfl rfl hm1 rfl rfl rfl rfl (Nat.le_of_ble_eq_true rfl) (hB) ?_
  show px_Go _ _ (247, [(4, .int 2), (3, .ref o), (2, .ref m), (1, .ref 8), (0, .ref 0)], [.int v, .int v], hp2) _
  refine px_b2 true 843 rfl rfl (decide_eq_true rfl) ?_
  show px_Go _ _ (843, [(4, .int 2), (3, .ref o), (2, .ref m), (1, .ref 8), (0, .ref 0)], [], hp2) _
  exact q_end h02
set_option maxRecDepth 20000 in
theorem q_sizes {d m o : Nat} {hp hp1 hp2 : px_H} {a0 a1 a2 a3 a4 a5 : Int32} {v : Int32} (h0 : hp[(0 : Nat)]? = some (20, [.int a0, .int a1, .int a2, .int a3, .int a4, .int a5])) (h01 : hp1[(0 : Nat)]? = some (20, [.int a0, .int a1, .int a2, .int a3, .int a4, .int a5])) (h02 : hp2[(0 : Nat)]? = some (20, [.int a0, .int a1, .int a2, .int a3, .int a4, .int a5])) {vc vm : List Value} (hc : hp[(8 : Nat)]? = some (3, vc)) (hm1 : hp1[m]? = some (4, vm)) (hA : px_Go d 63 (0, [(0, .ref 8)], [], hp) (.inl (some (.int v)), hp1)) (hB : px_Go d 93 (0, [(0, .ref m)], [], hp1) (.inl (some (.int v)), hp2)) : px_Go (d + 1) 6 (475, [(4, .int 2), (3, .ref o), (2, .ref m), (1, .ref 8), (0, .ref 0)], [], hp) (.inl (some (.int 1)), hp2) := by
  refine px_a 1 (f' := (476, [(4, .int 2), (3, .ref o), (2, .ref m), (1, .ref 8), (0, .ref 0)], [.ref 8], hp)) rfl ?_
  refine px_cv 8 (as := []) (rest := []) rfl rfl hc rfl rfl rfl rfl (Nat.le_of_ble_eq_true rfl) (hA) ?_
  show px_Go _ _ (479, [(4, .int 2), (3, .ref o), (2, .ref m), (1, .ref 8), (0, .ref 0)], [.int v], hp1) _
  refine px_a 1 (f' := (480, [(4, .int 2), (3, .ref o), (2, .ref m), (1, .ref 8), (0, .ref 0)], [.ref m, .int v], hp1)) rfl ?_
  refine px_cv m (as := []) (rest := [.int v]) rfl rfl hm1 rfl rfl rfl rfl (Nat.le_of_ble_eq_true rfl) (hB) ?_
  show px_Go _ _ (483, [(4, .int 2), (3, .ref o), (2, .ref m), (1, .ref 8), (0, .ref 0)], [.int v, .int v], hp2) _
  refine px_b2 true 843 rfl rfl (decide_eq_true rfl) ?_
  show px_Go _ _ (843, [(4, .int 2), (3, .ref o), (2, .ref m), (1, .ref 8), (0, .ref 0)], [], hp2) _
  exact q_end h02
set_option maxRecDepth 20000 in
theorem q_colour {d m o : Nat} {hp hp1 hp2 : px_H} {a0 a1 a2 a3 a4 a5 : Int32} {v : Int32} (h0 : hp[(0 : Nat)]? = some (20, [.int a0, .int a1, .int a2, .int a3, .int a4, .int a5])) (h01 : hp1[(0 : Nat)]? = some (20, [.int a0, .int a1, .int a2, .int a3, .int a4, .int a5])) (h02 : hp2[(0 : Nat)]? = some (20, [.int a0, .int a1, .int a2, .int a3, .int a4, .int a5])) {vc vm : List Value} (hc : hp[(8 : Nat)]? = some (3, vc)) (hm1 : hp1[m]? = some (4, vm)) (hA : px_Go d 48 (0, [(0, .ref 8), (1, .int a3)], [], hp) (.inl (some (.int v)), hp1)) (hB : px_Go d 73 (0, [(0, .ref m), (1, .int a3)], [], hp1) (.inl (some (.int v)), hp2)) : px_Go (d + 1) 6 (488, [(4, .int 2), (3, .ref o), (2, .ref m), (1, .ref 8), (0, .ref 0)], [], hp) (.inl (some (.int 1)), hp2) := by
  refine px_a 5 (f' := (494, [(4, .int 2), (3, .ref o), (2, .ref m), (1, .ref 8), (0, .ref 0)], [.int 3, .ref 0, .ref 8], hp)) rfl ?_
  refine px_al 0 (.int a3) rfl h0 (Or.inl ⟨rfl, Or.inr rfl⟩) (by decide) (rfl) ?_
  show px_Go _ _ (495, [(4, .int 2), (3, .ref o), (2, .ref m), (1, .ref 8), (0, .ref 0)], [.int a3, .ref 8], hp) _
  refine px_cv 8 (as := [.int a3]) (rest := []) rfl rfl hc rfl rfl rfl rfl (Nat.le_of_ble_eq_true rfl) (hA) ?_
  show px_Go _ _ (498, [(4, .int 2), (3, .ref o), (2, .ref m), (1, .ref 8), (0, .ref 0)], [.int v], hp1) _
  refine px_a 5 (f' := (504, [(4, .int 2), (3, .ref o), (2, .ref m), (1, .ref 8), (0, .ref 0)], [.int 3, .ref 0, .ref m, .int v], hp1)) rfl ?_
  refine px_al 0 (.int a3) rfl h01 (Or.inl ⟨rfl, Or.inr rfl⟩) (by decide) (rfl) ?_
  show px_Go _ _ (505, [(4, .int 2), (3, .ref o), (2, .ref m), (1, .ref 8), (0, .ref 0)], [.int a3, .ref m, .int v], hp1) _
  refine px_cv m (as := [.int a3]) (rest := [.int v]) rfl rfl hm1 rfl rfl rfl rfl (Nat.le_of_ble_eq_true rfl) (hB) ?_
  show px_Go _ _ (508, [(4, .int 2), (3, .ref o), (2, .ref m), (1, .ref 8), (0, .ref 0)], [.int v, .int v], hp2) _
  refine px_b2 true 843 rfl rfl (decide_eq_true rfl) ?_
  show px_Go _ _ (843, [(4, .int 2), (3, .ref o), (2, .ref m), (1, .ref 8), (0, .ref 0)], [], hp2) _
  exact q_end h02
set_option maxRecDepth 20000 in
theorem q_text {d m o : Nat} {hp hp1 hp2 : px_H} {a0 a1 a2 a3 a4 a5 : Int32} {v : Int32} (h0 : hp[(0 : Nat)]? = some (20, [.int a0, .int a1, .int a2, .int a3, .int a4, .int a5])) (h01 : hp1[(0 : Nat)]? = some (20, [.int a0, .int a1, .int a2, .int a3, .int a4, .int a5])) (h02 : hp2[(0 : Nat)]? = some (20, [.int a0, .int a1, .int a2, .int a3, .int a4, .int a5])) {vc vm : List Value} (hc : hp[(8 : Nat)]? = some (3, vc)) (hm1 : hp1[m]? = some (4, vm)) (hA : px_Go d 66 (0, [(0, .ref 8), (1, .int a3)], [], hp) (.inl (some (.int v)), hp1)) (hB : px_Go d 98 (0, [(0, .ref m), (1, .int a3)], [], hp1) (.inl (some (.int v)), hp2)) : px_Go (d + 1) 6 (581, [(4, .int 2), (3, .ref o), (2, .ref m), (1, .ref 8), (0, .ref 0)], [], hp) (.inl (some (.int 1)), hp2) := by
  refine px_a 5 (f' := (587, [(4, .int 2), (3, .ref o), (2, .ref m), (1, .ref 8), (0, .ref 0)], [.int 3, .ref 0, .ref 8], hp)) rfl ?_
  refine px_al 0 (.int a3) rfl h0 (Or.inl ⟨rfl, Or.inr rfl⟩) (by decide) (rfl) ?_
  show px_Go _ _ (588, [(4, .int 2), (3, .ref o), (2, .ref m), (1, .ref 8), (0, .ref 0)], [.int a3, .ref 8], hp) _
  refine px_cv 8 (as := [.int a3]) (rest := []) rfl rfl hc rfl rfl rfl rfl (Nat.le_of_ble_eq_true rfl) (hA) ?_
  show px_Go _ _ (591, [(4, .int 2), (3, .ref o), (2, .ref m), (1, .ref 8), (0, .ref 0)], [.int v], hp1) _
  refine px_a 5 (f' := (597, [(4, .int 2), (3, .ref o), (2, .ref m), (1, .ref 8), (0, .ref 0)], [.int 3, .ref 0, .ref m, .int v], hp1)) rfl ?_
  refine px_al 0 (.int a3) rfl h01 (Or.inl ⟨rfl, Or.inr rfl⟩) (by decide) (rfl) ?_
  show px_Go _ _ (598, [(4, .int 2), (3, .ref o), (2, .ref m), (1, .ref 8), (0, .ref 0)], [.int a3, .ref m, .int v], hp1) _
  refine px_cv m (as := [.int a3]) (rest := [.int v]) rfl rfl hm1 rfl rfl rfl rfl (Nat.le_of_ble_eq_true rfl) (hB) ?_
  show px_Go _ _ (601, [(4, .int 2), (3, .ref o), (2, .ref m), (1, .ref 8), (0, .ref 0)], [.int v, .int v], hp2) _
  refine px_b2 true 843 rfl rfl (decide_eq_true rfl) ?_
  show px_Go _ _ (843, [(4, .int 2), (3, .ref o), (2, .ref m), (1, .ref 8), (0, .ref 0)], [], hp2) _
  exact q_end h02
set_option maxRecDepth 20000 in
theorem q_sum {d m o : Nat} {hp hp1 hp2 : px_H} {a0 a1 a2 a3 a4 a5 : Int32} {v : Int32} (h0 : hp[(0 : Nat)]? = some (20, [.int a0, .int a1, .int a2, .int a3, .int a4, .int a5])) (h01 : hp1[(0 : Nat)]? = some (20, [.int a0, .int a1, .int a2, .int a3, .int a4, .int a5])) (h02 : hp2[(0 : Nat)]? = some (20, [.int a0, .int a1, .int a2, .int a3, .int a4, .int a5])) {vc vm : List Value} (hc : hp[(8 : Nat)]? = some (3, vc)) (hm1 : hp1[m]? = some (4, vm)) (hA : px_Go d 65 (0, [(0, .ref 8)], [], hp) (.inl (some (.int v)), hp1)) (hB : px_Go d 95 (0, [(0, .ref m)], [], hp1) (.inl (some (.int v)), hp2)) : px_Go (d + 1) 6 (693, [(4, .int 2), (3, .ref o), (2, .ref m), (1, .ref 8), (0, .ref 0)], [], hp) (.inl (some (.int 1)), hp2) := by
  refine px_a 1 (f' := (694, [(4, .int 2), (3, .ref o), (2, .ref m), (1, .ref 8), (0, .ref 0)], [.ref 8], hp)) rfl ?_
  refine px_cv 8 (as := []) (rest := []) rfl rfl hc rfl rfl rfl rfl (Nat.le_of_ble_eq_true rfl) (hA) ?_
  show px_Go _ _ (697, [(4, .int 2), (3, .ref o), (2, .ref m), (1, .ref 8), (0, .ref 0)], [.int v], hp1) _
  refine px_a 1 (f' := (698, [(4, .int 2), (3, .ref o), (2, .ref m), (1, .ref 8), (0, .ref 0)], [.ref m, .int v], hp1)) rfl ?_
  refine px_cv m (as := []) (rest := [.int v]) rfl rfl hm1 rfl rfl rfl rfl (Nat.le_of_ble_eq_true rfl) (hB) ?_
  show px_Go _ _ (701, [(4, .int 2), (3, .ref o), (2, .ref m), (1, .ref 8), (0, .ref 0)], [.int v, .int v], hp2) _
  refine px_b2 true 843 rfl rfl (decide_eq_true rfl) ?_
  show px_Go _ _ (843, [(4, .int 2), (3, .ref o), (2, .ref m), (1, .ref 8), (0, .ref 0)], [], hp2) _
  exact q_end h02
set_option maxRecDepth 20000 in
theorem q_bad {d m o : Nat} {hp hp1 hp2 : px_H} {a0 a1 a2 a3 a4 a5 : Int32} {v : Int32} (h0 : hp[(0 : Nat)]? = some (20, [.int a0, .int a1, .int a2, .int a3, .int a4, .int a5])) (h01 : hp1[(0 : Nat)]? = some (20, [.int a0, .int a1, .int a2, .int a3, .int a4, .int a5])) (h02 : hp2[(0 : Nat)]? = some (20, [.int a0, .int a1, .int a2, .int a3, .int a4, .int a5])) {vc vm : List Value} (hc : hp[(8 : Nat)]? = some (3, vc)) (hm1 : hp1[m]? = some (4, vm)) (hA : px_Go d 44 (0, [(0, .ref 8), (1, .int a3)], [], hp) (.inl (some (.int v)), hp1)) (hB : px_Go d 69 (0, [(0, .ref m), (1, .int a3)], [], hp1) (.inl (some (.int v)), hp2)) : px_Go (d + 1) 6 (706, [(4, .int 2), (3, .ref o), (2, .ref m), (1, .ref 8), (0, .ref 0)], [], hp) (.inl (some (.int 1)), hp2) := by
  refine px_a 5 (f' := (712, [(4, .int 2), (3, .ref o), (2, .ref m), (1, .ref 8), (0, .ref 0)], [.int 3, .ref 0, .ref 8], hp)) rfl ?_
  refine px_al 0 (.int a3) rfl h0 (Or.inl ⟨rfl, Or.inr rfl⟩) (by decide) (rfl) ?_
  show px_Go _ _ (713, [(4, .int 2), (3, .ref o), (2, .ref m), (1, .ref 8), (0, .ref 0)], [.int a3, .ref 8], hp) _
  refine px_cv 8 (as := [.int a3]) (rest := []) rfl rfl hc rfl rfl rfl rfl (Nat.le_of_ble_eq_true rfl) (hA) ?_
  show px_Go _ _ (716, [(4, .int 2), (3, .ref o), (2, .ref m), (1, .ref 8), (0, .ref 0)], [.int v], hp1) _
  refine px_a 5 (f' := (722, [(4, .int 2), (3, .ref o), (2, .ref m), (1, .ref 8), (0, .ref 0)], [.int 3, .ref 0, .ref m, .int v], hp1)) rfl ?_
  refine px_al 0 (.int a3) rfl h01 (Or.inl ⟨rfl, Or.inr rfl⟩) (by decide) (rfl) ?_
  show px_Go _ _ (723, [(4, .int 2), (3, .ref o), (2, .ref m), (1, .ref 8), (0, .ref 0)], [.int a3, .ref m, .int v], hp1) _
  refine px_cv m (as := [.int a3]) (rest := [.int v]) rfl rfl hm1 rfl rfl rfl rfl (Nat.le_of_ble_eq_true rfl) (hB) ?_
  show px_Go _ _ (726, [(4, .int 2), (3, .ref o), (2, .ref m), (1, .ref 8), (0, .ref 0)], [.int v, .int v], hp2) _
  refine px_b2 true 843 rfl rfl (decide_eq_true rfl) ?_
  show px_Go _ _ (843, [(4, .int 2), (3, .ref o), (2, .ref m), (1, .ref 8), (0, .ref 0)], [], hp2) _
  exact q_end h02
set_option maxRecDepth 20000 in
theorem q_proves {d m o : Nat} {hp hp1 hp2 : px_H} {a0 a1 a2 a3 a4 a5 : Int32} {v : Int32} (h0 : hp[(0 : Nat)]? = some (20, [.int a0, .int a1, .int a2, .int a3, .int a4, .int a5])) (h01 : hp1[(0 : Nat)]? = some (20, [.int a0, .int a1, .int a2, .int a3, .int a4, .int a5])) (h02 : hp2[(0 : Nat)]? = some (20, [.int a0, .int a1, .int a2, .int a3, .int a4, .int a5])) {vc vm : List Value} (hc : hp[(8 : Nat)]? = some (3, vc)) (hm1 : hp1[m]? = some (4, vm)) (hA : px_Go d 59 (0, [(0, .ref 8), (1, .int a3)], [], hp) (.inl (some (.int v)), hp1)) (hB : px_Go d 88 (0, [(0, .ref m), (1, .int a3)], [], hp1) (.inl (some (.int v)), hp2)) : px_Go (d + 1) 6 (731, [(4, .int 2), (3, .ref o), (2, .ref m), (1, .ref 8), (0, .ref 0)], [], hp) (.inl (some (.int 1)), hp2) := by
  refine px_a 5 (f' := (737, [(4, .int 2), (3, .ref o), (2, .ref m), (1, .ref 8), (0, .ref 0)], [.int 3, .ref 0, .ref 8], hp)) rfl ?_
  refine px_al 0 (.int a3) rfl h0 (Or.inl ⟨rfl, Or.inr rfl⟩) (by decide) (rfl) ?_
  show px_Go _ _ (738, [(4, .int 2), (3, .ref o), (2, .ref m), (1, .ref 8), (0, .ref 0)], [.int a3, .ref 8], hp) _
  refine px_cv 8 (as := [.int a3]) (rest := []) rfl rfl hc rfl rfl rfl rfl (Nat.le_of_ble_eq_true rfl) (hA) ?_
  show px_Go _ _ (741, [(4, .int 2), (3, .ref o), (2, .ref m), (1, .ref 8), (0, .ref 0)], [.int v], hp1) _
  refine px_a 5 (f' := (747, [(4, .int 2), (3, .ref o), (2, .ref m), (1, .ref 8), (0, .ref 0)], [.int 3, .ref 0, .ref m, .int v], hp1)) rfl ?_
  refine px_al 0 (.int a3) rfl h01 (Or.inl ⟨rfl, Or.inr rfl⟩) (by decide) (rfl) ?_
  show px_Go _ _ (748, [(4, .int 2), (3, .ref o), (2, .ref m), (1, .ref 8), (0, .ref 0)], [.int a3, .ref m, .int v], hp1) _
  refine px_cv m (as := [.int a3]) (rest := [.int v]) rfl rfl hm1 rfl rfl rfl rfl (Nat.le_of_ble_eq_true rfl) (hB) ?_
  show px_Go _ _ (751, [(4, .int 2), (3, .ref o), (2, .ref m), (1, .ref 8), (0, .ref 0)], [.int v, .int v], hp2) _
  refine px_b2 true 843 rfl rfl (decide_eq_true rfl) ?_
  show px_Go _ _ (843, [(4, .int 2), (3, .ref o), (2, .ref m), (1, .ref 8), (0, .ref 0)], [], hp2) _
  exact q_end h02
set_option maxRecDepth 20000 in
theorem q_border {d m o : Nat} {hp hp1 hp2 : px_H} {a0 a1 a2 a3 a4 a5 : Int32} {v : Int32} (h0 : hp[(0 : Nat)]? = some (20, [.int a0, .int a1, .int a2, .int a3, .int a4, .int a5])) (h01 : hp1[(0 : Nat)]? = some (20, [.int a0, .int a1, .int a2, .int a3, .int a4, .int a5])) (h02 : hp2[(0 : Nat)]? = some (20, [.int a0, .int a1, .int a2, .int a3, .int a4, .int a5])) {vc vm : List Value} (hc : hp[(8 : Nat)]? = some (3, vc)) (hm1 : hp1[m]? = some (4, vm)) (hA : px_Go d 45 (0, [(0, .ref 8), (1, .int a3)], [], hp) (.inl (some (.int v)), hp1)) (hB : px_Go d 70 (0, [(0, .ref m), (1, .int a3)], [], hp1) (.inl (some (.int v)), hp2)) : px_Go (d + 1) 6 (756, [(4, .int 2), (3, .ref o), (2, .ref m), (1, .ref 8), (0, .ref 0)], [], hp) (.inl (some (.int 1)), hp2) := by
  refine px_a 5 (f' := (762, [(4, .int 2), (3, .ref o), (2, .ref m), (1, .ref 8), (0, .ref 0)], [.int 3, .ref 0, .ref 8], hp)) rfl ?_
  refine px_al 0 (.int a3) rfl h0 (Or.inl ⟨rfl, Or.inr rfl⟩) (by decide) (rfl) ?_
  show px_Go _ _ (763, [(4, .int 2), (3, .ref o), (2, .ref m), (1, .ref 8), (0, .ref 0)], [.int a3, .ref 8], hp) _
  refine px_cv 8 (as := [.int a3]) (rest := []) rfl rfl hc rfl rfl rfl rfl (Nat.le_of_ble_eq_true rfl) (hA) ?_
  show px_Go _ _ (766, [(4, .int 2), (3, .ref o), (2, .ref m), (1, .ref 8), (0, .ref 0)], [.int v], hp1) _
  refine px_a 5 (f' := (772, [(4, .int 2), (3, .ref o), (2, .ref m), (1, .ref 8), (0, .ref 0)], [.int 3, .ref 0, .ref m, .int v], hp1)) rfl ?_
  refine px_al 0 (.int a3) rfl h01 (Or.inl ⟨rfl, Or.inr rfl⟩) (by decide) (rfl) ?_
  show px_Go _ _ (773, [(4, .int 2), (3, .ref o), (2, .ref m), (1, .ref 8), (0, .ref 0)], [.int a3, .ref m, .int v], hp1) _
  refine px_cv m (as := [.int a3]) (rest := [.int v]) rfl rfl hm1 rfl rfl rfl rfl (Nat.le_of_ble_eq_true rfl) (hB) ?_
  show px_Go _ _ (776, [(4, .int 2), (3, .ref o), (2, .ref m), (1, .ref 8), (0, .ref 0)], [.int v, .int v], hp2) _
  refine px_b2 true 843 rfl rfl (decide_eq_true rfl) ?_
  show px_Go _ _ (843, [(4, .int 2), (3, .ref o), (2, .ref m), (1, .ref 8), (0, .ref 0)], [], hp2) _
  exact q_end h02
set_option maxRecDepth 20000 in
theorem q_runs {d m o : Nat} {hp hp1 hp2 : px_H} {a0 a1 a2 a3 a4 a5 : Int32} {v : Int32} (h0 : hp[(0 : Nat)]? = some (20, [.int a0, .int a1, .int a2, .int a3, .int a4, .int a5])) (h01 : hp1[(0 : Nat)]? = some (20, [.int a0, .int a1, .int a2, .int a3, .int a4, .int a5])) (h02 : hp2[(0 : Nat)]? = some (20, [.int a0, .int a1, .int a2, .int a3, .int a4, .int a5])) {vc vm : List Value} (hc : hp[(8 : Nat)]? = some (3, vc)) (hm1 : hp1[m]? = some (4, vm)) (hA : px_Go d 62 (0, [(0, .ref 8), (1, .int a3)], [], hp) (.inl (some (.int v)), hp1)) (hB : px_Go d 90 (0, [(0, .ref m), (1, .int a3)], [], hp1) (.inl (some (.int v)), hp2)) : px_Go (d + 1) 6 (781, [(4, .int 2), (3, .ref o), (2, .ref m), (1, .ref 8), (0, .ref 0)], [], hp) (.inl (some (.int 1)), hp2) := by
  refine px_a 5 (f' := (787, [(4, .int 2), (3, .ref o), (2, .ref m), (1, .ref 8), (0, .ref 0)], [.int 3, .ref 0, .ref 8], hp)) rfl ?_
  refine px_al 0 (.int a3) rfl h0 (Or.inl ⟨rfl, Or.inr rfl⟩) (by decide) (rfl) ?_
  show px_Go _ _ (788, [(4, .int 2), (3, .ref o), (2, .ref m), (1, .ref 8), (0, .ref 0)], [.int a3, .ref 8], hp) _
  refine px_cv 8 (as := [.int a3]) (rest := []) rfl rfl hc rfl rfl rfl rfl (Nat.le_of_ble_eq_true rfl) (hA) ?_
  show px_Go _ _ (791, [(4, .int 2), (3, .ref o), (2, .ref m), (1, .ref 8), (0, .ref 0)], [.int v], hp1) _
  refine px_a 5 (f' := (797, [(4, .int 2), (3, .ref o), (2, .ref m), (1, .ref 8), (0, .ref 0)], [.int 3, .ref 0, .ref m, .int v], hp1)) rfl ?_
  refine px_al 0 (.int a3) rfl h01 (Or.inl ⟨rfl, Or.inr rfl⟩) (by decide) (rfl) ?_
  show px_Go _ _ (798, [(4, .int 2), (3, .ref o), (2, .ref m), (1, .ref 8), (0, .ref 0)], [.int a3, .ref m, .int v], hp1) _
  refine px_cv m (as := [.int a3]) (rest := [.int v]) rfl rfl hm1 rfl rfl rfl rfl (Nat.le_of_ble_eq_true rfl) (hB) ?_
  show px_Go _ _ (801, [(4, .int 2), (3, .ref o), (2, .ref m), (1, .ref 8), (0, .ref 0)], [.int v, .int v], hp2) _
  refine px_b2 true 843 rfl rfl (decide_eq_true rfl) ?_
  show px_Go _ _ (843, [(4, .int 2), (3, .ref o), (2, .ref m), (1, .ref 8), (0, .ref 0)], [], hp2) _
  exact q_end h02
set_option maxRecDepth 20000 in
theorem q_run {d m o : Nat} {hp hp1 hp2 : px_H} {a0 a1 a2 a3 a4 a5 : Int32} {v : Int32} (h0 : hp[(0 : Nat)]? = some (20, [.int a0, .int a1, .int a2, .int a3, .int a4, .int a5])) (h01 : hp1[(0 : Nat)]? = some (20, [.int a0, .int a1, .int a2, .int a3, .int a4, .int a5])) (h02 : hp2[(0 : Nat)]? = some (20, [.int a0, .int a1, .int a2, .int a3, .int a4, .int a5])) {vc vm : List Value} (hc : hp[(8 : Nat)]? = some (3, vc)) (hm1 : hp1[m]? = some (4, vm)) (hA : px_Go d 61 (0, [(0, .ref 8), (1, .int a3), (2, .int a4)], [], hp) (.inl (some (.int v)), hp1)) (hB : px_Go d 89 (0, [(0, .ref m), (1, .int a3), (2, .int a4)], [], hp1) (.inl (some (.int v)), hp2)) : px_Go (d + 1) 6 (806, [(4, .int 2), (3, .ref o), (2, .ref m), (1, .ref 8), (0, .ref 0)], [], hp) (.inl (some (.int 1)), hp2) := by
  refine px_a 5 (f' := (812, [(4, .int 2), (3, .ref o), (2, .ref m), (1, .ref 8), (0, .ref 0)], [.int 3, .ref 0, .ref 8], hp)) rfl ?_
  refine px_al 0 (.int a3) rfl h0 (Or.inl ⟨rfl, Or.inr rfl⟩) (by decide) (rfl) ?_
  show px_Go _ _ (813, [(4, .int 2), (3, .ref o), (2, .ref m), (1, .ref 8), (0, .ref 0)], [.int a3, .ref 8], hp) _
  refine px_a 4 (f' := (818, [(4, .int 2), (3, .ref o), (2, .ref m), (1, .ref 8), (0, .ref 0)], [.int 4, .ref 0, .int a3, .ref 8], hp)) rfl ?_
  refine px_al 0 (.int a4) rfl h0 (Or.inl ⟨rfl, Or.inr rfl⟩) (by decide) (rfl) ?_
  show px_Go _ _ (819, [(4, .int 2), (3, .ref o), (2, .ref m), (1, .ref 8), (0, .ref 0)], [.int a4, .int a3, .ref 8], hp) _
  refine px_cv 8 (as := [.int a3, .int a4]) (rest := []) rfl rfl hc rfl rfl rfl rfl (Nat.le_of_ble_eq_true rfl) (hA) ?_
  show px_Go _ _ (822, [(4, .int 2), (3, .ref o), (2, .ref m), (1, .ref 8), (0, .ref 0)], [.int v], hp1) _
  refine px_a 5 (f' := (828, [(4, .int 2), (3, .ref o), (2, .ref m), (1, .ref 8), (0, .ref 0)], [.int 3, .ref 0, .ref m, .int v], hp1)) rfl ?_
  refine px_al 0 (.int a3) rfl h01 (Or.inl ⟨rfl, Or.inr rfl⟩) (by decide) (rfl) ?_
  show px_Go _ _ (829, [(4, .int 2), (3, .ref o), (2, .ref m), (1, .ref 8), (0, .ref 0)], [.int a3, .ref m, .int v], hp1) _
  refine px_a 4 (f' := (834, [(4, .int 2), (3, .ref o), (2, .ref m), (1, .ref 8), (0, .ref 0)], [.int 4, .ref 0, .int a3, .ref m, .int v], hp1)) rfl ?_
  refine px_al 0 (.int a4) rfl h01 (Or.inl ⟨rfl, Or.inr rfl⟩) (by decide) (rfl) ?_
  show px_Go _ _ (835, [(4, .int 2), (3, .ref o), (2, .ref m), (1, .ref 8), (0, .ref 0)], [.int a4, .int a3, .ref m, .int v], hp1) _
  refine px_cv m (as := [.int a3, .int a4]) (rest := [.int v]) rfl rfl hm1 rfl rfl rfl rfl (Nat.le_of_ble_eq_true rfl) (hB) ?_
  show px_Go _ _ (838, [(4, .int 2), (3, .ref o), (2, .ref m), (1, .ref 8), (0, .ref 0)], [.int v, .int v], hp2) _
  refine px_b2 true 843 rfl rfl (decide_eq_true rfl) ?_
  show px_Go _ _ (843, [(4, .int 2), (3, .ref o), (2, .ref m), (1, .ref 8), (0, .ref 0)], [], hp2) _
  exact q_end h02
set_option maxRecDepth 20000 in
theorem q_cell0_t {d m o : Nat} {hp hp1 hp2 : px_H} {a0 a1 a2 a3 a4 a5 : Int32} {v : Int32} (h5 : a5 = 0) (h0 : hp[(0 : Nat)]? = some (20, [.int a0, .int a1, .int a2, .int a3, .int a4, .int a5])) (h01 : hp1[(0 : Nat)]? = some (20, [.int a0, .int a1, .int a2, .int a3, .int a4, .int a5])) (h02 : hp2[(0 : Nat)]? = some (20, [.int a0, .int a1, .int a2, .int a3, .int a4, .int a5])) {vm vm2 : List Value} (hm1 : hp1[m]? = some (4, vm)) (hm2 : hp2[m]? = some (4, vm2)) (hA : px_Go d 5 (0, [(0, .ref 8), (1, .int a3), (2, .int a4), (3, .int 0), (4, .ref o)], [], hp) (.inl (some (.int 1)), hp1)) (hB : px_Go d 71 (0, [(0, .ref m), (1, .int a3), (2, .int a4), (3, .int 0)], [], hp1) (.inl (some (.int v)), hp2)) (hT : px_Go d 99 (0, [(0, .ref m)], [], hp2) (.inl (some (.int 1)), hp2)) : px_Go (d + 1) 6 (136, [(4, .int 2), (3, .ref o), (2, .ref m), (1, .ref 8), (0, .ref 0)], [], hp) (.inl (some (.int 1)), hp2) := by
  refine px_a 5 (f' := (142, [(4, .int 2), (3, .ref o), (2, .ref m), (1, .ref 8), (0, .ref 0)], [.int 3, .ref 0, .ref 8], hp)) rfl ?_
  refine px_al 0 (.int a3) rfl h0 (Or.inl ⟨rfl, Or.inr rfl⟩) (by decide) (rfl) ?_
  show px_Go _ _ (143, [(4, .int 2), (3, .ref o), (2, .ref m), (1, .ref 8), (0, .ref 0)], [.int a3, .ref 8], hp) _
  refine px_a 4 (f' := (148, [(4, .int 2), (3, .ref o), (2, .ref m), (1, .ref 8), (0, .ref 0)], [.int 4, .ref 0, .int a3, .ref 8], hp)) rfl ?_
  refine px_al 0 (.int a4) rfl h0 (Or.inl ⟨rfl, Or.inr rfl⟩) (by decide) (rfl) ?_
  show px_Go _ _ (149, [(4, .int 2), (3, .ref o), (2, .ref m), (1, .ref 8), (0, .ref 0)], [.int a4, .int a3, .ref 8], hp) _
  refine px_a 4 (f' := (154, [(4, .int 2), (3, .ref o), (2, .ref m), (1, .ref 8), (0, .ref 0)], [.int 5, .ref 0, .int a4, .int a3, .ref 8], hp)) rfl ?_
  refine px_al 0 (.int a5) rfl h0 (Or.inl ⟨rfl, Or.inr rfl⟩) (by decide) (rfl) ?_
  show px_Go _ _ (155, [(4, .int 2), (3, .ref o), (2, .ref m), (1, .ref 8), (0, .ref 0)], [.int a5, .int a4, .int a3, .ref 8], hp) _
  refine px_b1 true 162 rfl rfl (decide_eq_true h5) ?_
  show px_Go _ _ (162, [(4, .int 2), (3, .ref o), (2, .ref m), (1, .ref 8), (0, .ref 0)], [.int a4, .int a3, .ref 8], hp) _
  refine px_a 2 (f' := (164, [(4, .int 2), (3, .ref o), (2, .ref m), (1, .ref 8), (0, .ref 0)], [.ref o, .int 0, .int a4, .int a3, .ref 8], hp)) rfl ?_
  refine px_cl (as := [.ref 8, .int a3, .int a4, .int 0, .ref o]) (rest := []) rfl rfl (hA) ?_
  show px_Go _ _ (167, [(4, .int 2), (3, .ref o), (2, .ref m), (1, .ref 8), (0, .ref 0)], [.int 1], hp1) _
  refine px_a 6 (f' := (175, [(5, .int 1), (4, .int 2), (3, .ref o), (2, .ref m), (1, .ref 8), (0, .ref 0)], [.int 3, .ref 0, .ref m], hp1)) rfl ?_
  refine px_al 0 (.int a3) rfl h01 (Or.inl ⟨rfl, Or.inr rfl⟩) (by decide) (rfl) ?_
  show px_Go _ _ (176, [(5, .int 1), (4, .int 2), (3, .ref o), (2, .ref m), (1, .ref 8), (0, .ref 0)], [.int a3, .ref m], hp1) _
  refine px_a 4 (f' := (181, [(5, .int 1), (4, .int 2), (3, .ref o), (2, .ref m), (1, .ref 8), (0, .ref 0)], [.int 4, .ref 0, .int a3, .ref m], hp1)) rfl ?_
  refine px_al 0 (.int a4) rfl h01 (Or.inl ⟨rfl, Or.inr rfl⟩) (by decide) (rfl) ?_
  show px_Go _ _ (182, [(5, .int 1), (4, .int 2), (3, .ref o), (2, .ref m), (1, .ref 8), (0, .ref 0)], [.int a4, .int a3, .ref m], hp1) _
  refine px_a 4 (f' := (187, [(5, .int 1), (4, .int 2), (3, .ref o), (2, .ref m), (1, .ref 8), (0, .ref 0)], [.int 5, .ref 0, .int a4, .int a3, .ref m], hp1)) rfl ?_
  refine px_al 0 (.int a5) rfl h01 (Or.inl ⟨rfl, Or.inr rfl⟩) (by decide) (rfl) ?_
  show px_Go _ _ (188, [(5, .int 1), (4, .int 2), (3, .ref o), (2, .ref m), (1, .ref 8), (0, .ref 0)], [.int a5, .int a4, .int a3, .ref m], hp1) _
  refine px_b1 true 195 rfl rfl (decide_eq_true h5) ?_
  show px_Go _ _ (195, [(5, .int 1), (4, .int 2), (3, .ref o), (2, .ref m), (1, .ref 8), (0, .ref 0)], [.int a4, .int a3, .ref m], hp1) _
  refine px_a 1 (f' := (196, [(5, .int 1), (4, .int 2), (3, .ref o), (2, .ref m), (1, .ref 8), (0, .ref 0)], [.int 0, .int a4, .int a3, .ref m], hp1)) rfl ?_
  refine px_cv m (as := [.int a3, .int a4, .int 0]) (rest := []) rfl rfl hm1 rfl rfl rfl rfl (Nat.le_of_ble_eq_true rfl) (hB) ?_
  show px_Go _ _ (199, [(5, .int 1), (4, .int 2), (3, .ref o), (2, .ref m), (1, .ref 8), (0, .ref 0)], [.int v], hp2) _
  refine px_a 2 (f' := (202, [(6, .int v), (5, .int 1), (4, .int 2), (3, .ref o), (2, .ref m), (1, .ref 8), (0, .ref 0)], [.ref m], hp2)) rfl ?_
  refine px_cv m (as := []) (rest := []) rfl rfl hm2 rfl rfl rfl rfl (Nat.le_of_ble_eq_true rfl) (hT) ?_
  show px_Go _ _ (205, [(6, .int v), (5, .int 1), (4, .int 2), (3, .ref o), (2, .ref m), (1, .ref 8), (0, .ref 0)], [.int 1], hp2) _
  refine px_a 5 (f' := (843, [(6, .int v), (5, .int 1), (4, .int 2), (3, .ref o), (2, .ref m), (1, .ref 8), (0, .ref 0)], [], hp2)) rfl ?_
  exact q_end2 h02
set_option maxRecDepth 20000 in
theorem q_cell0_0 {d m o : Nat} {hp hp1 hp2 : px_H} {a0 a1 a2 a3 a4 a5 : Int32}  (h5 : a5 = 0) (h0 : hp[(0 : Nat)]? = some (20, [.int a0, .int a1, .int a2, .int a3, .int a4, .int a5])) (h01 : hp1[(0 : Nat)]? = some (20, [.int a0, .int a1, .int a2, .int a3, .int a4, .int a5])) (h02 : hp2[(0 : Nat)]? = some (20, [.int a0, .int a1, .int a2, .int a3, .int a4, .int a5])) {vm vm2 : List Value} (hm1 : hp1[m]? = some (4, vm)) (hm2 : hp2[m]? = some (4, vm2)) (ho2 : hp2[o]? = some (11, [.long 0])) (hA : px_Go d 5 (0, [(0, .ref 8), (1, .int a3), (2, .int a4), (3, .int 0), (4, .ref o)], [], hp) (.inl (some (.int 0)), hp1)) (hB : px_Go d 71 (0, [(0, .ref m), (1, .int a3), (2, .int a4), (3, .int 0)], [], hp1) (.inl (some (.int 0)), hp2)) (hT : px_Go d 99 (0, [(0, .ref m)], [], hp2) (.inl (some (.int 0)), hp2)) : px_Go (d + 1) 6 (136, [(4, .int 2), (3, .ref o), (2, .ref m), (1, .ref 8), (0, .ref 0)], [], hp) (.inl (some (.int 1)), hp2) := by
  refine px_a 5 (f' := (142, [(4, .int 2), (3, .ref o), (2, .ref m), (1, .ref 8), (0, .ref 0)], [.int 3, .ref 0, .ref 8], hp)) rfl ?_
  refine px_al 0 (.int a3) rfl h0 (Or.inl ⟨rfl, Or.inr rfl⟩) (by decide) (rfl) ?_
  show px_Go _ _ (143, [(4, .int 2), (3, .ref o), (2, .ref m), (1, .ref 8), (0, .ref 0)], [.int a3, .ref 8], hp) _
  refine px_a 4 (f' := (148, [(4, .int 2), (3, .ref o), (2, .ref m), (1, .ref 8), (0, .ref 0)], [.int 4, .ref 0, .int a3, .ref 8], hp)) rfl ?_
  refine px_al 0 (.int a4) rfl h0 (Or.inl ⟨rfl, Or.inr rfl⟩) (by decide) (rfl) ?_
  show px_Go _ _ (149, [(4, .int 2), (3, .ref o), (2, .ref m), (1, .ref 8), (0, .ref 0)], [.int a4, .int a3, .ref 8], hp) _
  refine px_a 4 (f' := (154, [(4, .int 2), (3, .ref o), (2, .ref m), (1, .ref 8), (0, .ref 0)], [.int 5, .ref 0, .int a4, .int a3, .ref 8], hp)) rfl ?_
  refine px_al 0 (.int a5) rfl h0 (Or.inl ⟨rfl, Or.inr rfl⟩) (by decide) (rfl) ?_
  show px_Go _ _ (155, [(4, .int 2), (3, .ref o), (2, .ref m), (1, .ref 8), (0, .ref 0)], [.int a5, .int a4, .int a3, .ref 8], hp) _
  refine px_b1 true 162 rfl rfl (decide_eq_true h5) ?_
  show px_Go _ _ (162, [(4, .int 2), (3, .ref o), (2, .ref m), (1, .ref 8), (0, .ref 0)], [.int a4, .int a3, .ref 8], hp) _
  refine px_a 2 (f' := (164, [(4, .int 2), (3, .ref o), (2, .ref m), (1, .ref 8), (0, .ref 0)], [.ref o, .int 0, .int a4, .int a3, .ref 8], hp)) rfl ?_
  refine px_cl (as := [.ref 8, .int a3, .int a4, .int 0, .ref o]) (rest := []) rfl rfl (hA) ?_
  show px_Go _ _ (167, [(4, .int 2), (3, .ref o), (2, .ref m), (1, .ref 8), (0, .ref 0)], [.int 0], hp1) _
  refine px_a 6 (f' := (175, [(5, .int 0), (4, .int 2), (3, .ref o), (2, .ref m), (1, .ref 8), (0, .ref 0)], [.int 3, .ref 0, .ref m], hp1)) rfl ?_
  refine px_al 0 (.int a3) rfl h01 (Or.inl ⟨rfl, Or.inr rfl⟩) (by decide) (rfl) ?_
  show px_Go _ _ (176, [(5, .int 0), (4, .int 2), (3, .ref o), (2, .ref m), (1, .ref 8), (0, .ref 0)], [.int a3, .ref m], hp1) _
  refine px_a 4 (f' := (181, [(5, .int 0), (4, .int 2), (3, .ref o), (2, .ref m), (1, .ref 8), (0, .ref 0)], [.int 4, .ref 0, .int a3, .ref m], hp1)) rfl ?_
  refine px_al 0 (.int a4) rfl h01 (Or.inl ⟨rfl, Or.inr rfl⟩) (by decide) (rfl) ?_
  show px_Go _ _ (182, [(5, .int 0), (4, .int 2), (3, .ref o), (2, .ref m), (1, .ref 8), (0, .ref 0)], [.int a4, .int a3, .ref m], hp1) _
  refine px_a 4 (f' := (187, [(5, .int 0), (4, .int 2), (3, .ref o), (2, .ref m), (1, .ref 8), (0, .ref 0)], [.int 5, .ref 0, .int a4, .int a3, .ref m], hp1)) rfl ?_
  refine px_al 0 (.int a5) rfl h01 (Or.inl ⟨rfl, Or.inr rfl⟩) (by decide) (rfl) ?_
  show px_Go _ _ (188, [(5, .int 0), (4, .int 2), (3, .ref o), (2, .ref m), (1, .ref 8), (0, .ref 0)], [.int a5, .int a4, .int a3, .ref m], hp1) _
  refine px_b1 true 195 rfl rfl (decide_eq_true h5) ?_
  show px_Go _ _ (195, [(5, .int 0), (4, .int 2), (3, .ref o), (2, .ref m), (1, .ref 8), (0, .ref 0)], [.int a4, .int a3, .ref m], hp1) _
  refine px_a 1 (f' := (196, [(5, .int 0), (4, .int 2), (3, .ref o), (2, .ref m), (1, .ref 8), (0, .ref 0)], [.int 0, .int a4, .int a3, .ref m], hp1)) rfl ?_
  refine px_cv m (as := [.int a3, .int a4, .int 0]) (rest := []) rfl rfl hm1 rfl rfl rfl rfl (Nat.le_of_ble_eq_true rfl) (hB) ?_
  show px_Go _ _ (199, [(5, .int 0), (4, .int 2), (3, .ref o), (2, .ref m), (1, .ref 8), (0, .ref 0)], [.int 0], hp2) _
  refine px_a 2 (f' := (202, [(6, .int 0), (5, .int 0), (4, .int 2), (3, .ref o), (2, .ref m), (1, .ref 8), (0, .ref 0)], [.ref m], hp2)) rfl ?_
  refine px_cv m (as := []) (rest := []) rfl rfl hm2 rfl rfl rfl rfl (Nat.le_of_ble_eq_true rfl) (hT) ?_
  show px_Go _ _ (205, [(6, .int 0), (5, .int 0), (4, .int 2), (3, .ref o), (2, .ref m), (1, .ref 8), (0, .ref 0)], [.int 0], hp2) _
  refine px_a 6 (f' := (219, [(6, .int 0), (5, .int 0), (4, .int 2), (3, .ref o), (2, .ref m), (1, .ref 8), (0, .ref 0)], [.int 0, .ref o], hp2)) rfl ?_
  refine px_al o (.long 0) rfl ho2 (Or.inr (Or.inl ⟨rfl, rfl⟩)) (by decide) (rfl) ?_
  show px_Go _ _ (220, [(6, .int 0), (5, .int 0), (4, .int 2), (3, .ref o), (2, .ref m), (1, .ref 8), (0, .ref 0)], [.long 0], hp2) _
  refine px_a 6 (f' := (843, [(6, .int 0), (5, .int 0), (4, .int 2), (3, .ref o), (2, .ref m), (1, .ref 8), (0, .ref 0)], [], hp2)) rfl ?_
  exact q_end2 h02
set_option maxRecDepth 20000 in
theorem q_cell0_1 {d m o : Nat} {hp hp1 hp2 : px_H} {a0 a1 a2 a3 a4 a5 : Int32}  (h5 : a5 = 0) (h0 : hp[(0 : Nat)]? = some (20, [.int a0, .int a1, .int a2, .int a3, .int a4, .int a5])) (h01 : hp1[(0 : Nat)]? = some (20, [.int a0, .int a1, .int a2, .int a3, .int a4, .int a5])) (h02 : hp2[(0 : Nat)]? = some (20, [.int a0, .int a1, .int a2, .int a3, .int a4, .int a5])) {vm vm2 : List Value} (hm1 : hp1[m]? = some (4, vm)) (hm2 : hp2[m]? = some (4, vm2)) (ho2 : hp2[o]? = some (11, [.long 1])) (hA : px_Go d 5 (0, [(0, .ref 8), (1, .int a3), (2, .int a4), (3, .int 0), (4, .ref o)], [], hp) (.inl (some (.int 0)), hp1)) (hB : px_Go d 71 (0, [(0, .ref m), (1, .int a3), (2, .int a4), (3, .int 0)], [], hp1) (.inl (some (.int 1)), hp2)) (hT : px_Go d 99 (0, [(0, .ref m)], [], hp2) (.inl (some (.int 0)), hp2)) : px_Go (d + 1) 6 (136, [(4, .int 2), (3, .ref o), (2, .ref m), (1, .ref 8), (0, .ref 0)], [], hp) (.inl (some (.int 1)), hp2) := by
  refine px_a 5 (f' := (142, [(4, .int 2), (3, .ref o), (2, .ref m), (1, .ref 8), (0, .ref 0)], [.int 3, .ref 0, .ref 8], hp)) rfl ?_
  refine px_al 0 (.int a3) rfl h0 (Or.inl ⟨rfl, Or.inr rfl⟩) (by decide) (rfl) ?_
  show px_Go _ _ (143, [(4, .int 2), (3, .ref o), (2, .ref m), (1, .ref 8), (0, .ref 0)], [.int a3, .ref 8], hp) _
  refine px_a 4 (f' := (148, [(4, .int 2), (3, .ref o), (2, .ref m), (1, .ref 8), (0, .ref 0)], [.int 4, .ref 0, .int a3, .ref 8], hp)) rfl ?_
  refine px_al 0 (.int a4) rfl h0 (Or.inl ⟨rfl, Or.inr rfl⟩) (by decide) (rfl) ?_
  show px_Go _ _ (149, [(4, .int 2), (3, .ref o), (2, .ref m), (1, .ref 8), (0, .ref 0)], [.int a4, .int a3, .ref 8], hp) _
  refine px_a 4 (f' := (154, [(4, .int 2), (3, .ref o), (2, .ref m), (1, .ref 8), (0, .ref 0)], [.int 5, .ref 0, .int a4, .int a3, .ref 8], hp)) rfl ?_
  refine px_al 0 (.int a5) rfl h0 (Or.inl ⟨rfl, Or.inr rfl⟩) (by decide) (rfl) ?_
  show px_Go _ _ (155, [(4, .int 2), (3, .ref o), (2, .ref m), (1, .ref 8), (0, .ref 0)], [.int a5, .int a4, .int a3, .ref 8], hp) _
  refine px_b1 true 162 rfl rfl (decide_eq_true h5) ?_
  show px_Go _ _ (162, [(4, .int 2), (3, .ref o), (2, .ref m), (1, .ref 8), (0, .ref 0)], [.int a4, .int a3, .ref 8], hp) _
  refine px_a 2 (f' := (164, [(4, .int 2), (3, .ref o), (2, .ref m), (1, .ref 8), (0, .ref 0)], [.ref o, .int 0, .int a4, .int a3, .ref 8], hp)) rfl ?_
  refine px_cl (as := [.ref 8, .int a3, .int a4, .int 0, .ref o]) (rest := []) rfl rfl (hA) ?_
  show px_Go _ _ (167, [(4, .int 2), (3, .ref o), (2, .ref m), (1, .ref 8), (0, .ref 0)], [.int 0], hp1) _
  refine px_a 6 (f' := (175, [(5, .int 0), (4, .int 2), (3, .ref o), (2, .ref m), (1, .ref 8), (0, .ref 0)], [.int 3, .ref 0, .ref m], hp1)) rfl ?_
  refine px_al 0 (.int a3) rfl h01 (Or.inl ⟨rfl, Or.inr rfl⟩) (by decide) (rfl) ?_
  show px_Go _ _ (176, [(5, .int 0), (4, .int 2), (3, .ref o), (2, .ref m), (1, .ref 8), (0, .ref 0)], [.int a3, .ref m], hp1) _
  refine px_a 4 (f' := (181, [(5, .int 0), (4, .int 2), (3, .ref o), (2, .ref m), (1, .ref 8), (0, .ref 0)], [.int 4, .ref 0, .int a3, .ref m], hp1)) rfl ?_
  refine px_al 0 (.int a4) rfl h01 (Or.inl ⟨rfl, Or.inr rfl⟩) (by decide) (rfl) ?_
  show px_Go _ _ (182, [(5, .int 0), (4, .int 2), (3, .ref o), (2, .ref m), (1, .ref 8), (0, .ref 0)], [.int a4, .int a3, .ref m], hp1) _
  refine px_a 4 (f' := (187, [(5, .int 0), (4, .int 2), (3, .ref o), (2, .ref m), (1, .ref 8), (0, .ref 0)], [.int 5, .ref 0, .int a4, .int a3, .ref m], hp1)) rfl ?_
  refine px_al 0 (.int a5) rfl h01 (Or.inl ⟨rfl, Or.inr rfl⟩) (by decide) (rfl) ?_
  show px_Go _ _ (188, [(5, .int 0), (4, .int 2), (3, .ref o), (2, .ref m), (1, .ref 8), (0, .ref 0)], [.int a5, .int a4, .int a3, .ref m], hp1) _
  refine px_b1 true 195 rfl rfl (decide_eq_true h5) ?_
  show px_Go _ _ (195, [(5, .int 0), (4, .int 2), (3, .ref o), (2, .ref m), (1, .ref 8), (0, .ref 0)], [.int a4, .int a3, .ref m], hp1) _
  refine px_a 1 (f' := (196, [(5, .int 0), (4, .int 2), (3, .ref o), (2, .ref m), (1, .ref 8), (0, .ref 0)], [.int 0, .int a4, .int a3, .ref m], hp1)) rfl ?_
  refine px_cv m (as := [.int a3, .int a4, .int 0]) (rest := []) rfl rfl hm1 rfl rfl rfl rfl (Nat.le_of_ble_eq_true rfl) (hB) ?_
  show px_Go _ _ (199, [(5, .int 0), (4, .int 2), (3, .ref o), (2, .ref m), (1, .ref 8), (0, .ref 0)], [.int 1], hp2) _
  refine px_a 2 (f' := (202, [(6, .int 1), (5, .int 0), (4, .int 2), (3, .ref o), (2, .ref m), (1, .ref 8), (0, .ref 0)], [.ref m], hp2)) rfl ?_
  refine px_cv m (as := []) (rest := []) rfl rfl hm2 rfl rfl rfl rfl (Nat.le_of_ble_eq_true rfl) (hT) ?_
  show px_Go _ _ (205, [(6, .int 1), (5, .int 0), (4, .int 2), (3, .ref o), (2, .ref m), (1, .ref 8), (0, .ref 0)], [.int 0], hp2) _
  refine px_a 6 (f' := (219, [(6, .int 1), (5, .int 0), (4, .int 2), (3, .ref o), (2, .ref m), (1, .ref 8), (0, .ref 0)], [.int 0, .ref o], hp2)) rfl ?_
  refine px_al o (.long 1) rfl ho2 (Or.inr (Or.inl ⟨rfl, rfl⟩)) (by decide) (rfl) ?_
  show px_Go _ _ (220, [(6, .int 1), (5, .int 0), (4, .int 2), (3, .ref o), (2, .ref m), (1, .ref 8), (0, .ref 0)], [.long 1], hp2) _
  refine px_a 7 (f' := (843, [(6, .int 1), (5, .int 0), (4, .int 2), (3, .ref o), (2, .ref m), (1, .ref 8), (0, .ref 0)], [], hp2)) rfl ?_
  exact q_end2 h02
set_option maxRecDepth 20000 in
theorem q_cell1_t {d m o : Nat} {hp hp1 hp2 : px_H} {a0 a1 a2 a3 a4 a5 : Int32} {v : Int32} (h5 : ¬ a5 = 0) (h0 : hp[(0 : Nat)]? = some (20, [.int a0, .int a1, .int a2, .int a3, .int a4, .int a5])) (h01 : hp1[(0 : Nat)]? = some (20, [.int a0, .int a1, .int a2, .int a3, .int a4, .int a5])) (h02 : hp2[(0 : Nat)]? = some (20, [.int a0, .int a1, .int a2, .int a3, .int a4, .int a5])) {vm vm2 : List Value} (hm1 : hp1[m]? = some (4, vm)) (hm2 : hp2[m]? = some (4, vm2)) (hA : px_Go d 5 (0, [(0, .ref 8), (1, .int a3), (2, .int a4), (3, .int 1), (4, .ref o)], [], hp) (.inl (some (.int 1)), hp1)) (hB : px_Go d 71 (0, [(0, .ref m), (1, .int a3), (2, .int a4), (3, .int 1)], [], hp1) (.inl (some (.int v)), hp2)) (hT : px_Go d 99 (0, [(0, .ref m)], [], hp2) (.inl (some (.int 1)), hp2)) : px_Go (d + 1) 6 (136, [(4, .int 2), (3, .ref o), (2, .ref m), (1, .ref 8), (0, .ref 0)], [], hp) (.inl (some (.int 1)), hp2) := by
  refine px_a 5 (f' := (142, [(4, .int 2), (3, .ref o), (2, .ref m), (1, .ref 8), (0, .ref 0)], [.int 3, .ref 0, .ref 8], hp)) rfl ?_
  refine px_al 0 (.int a3) rfl h0 (Or.inl ⟨rfl, Or.inr rfl⟩) (by decide) (rfl) ?_
  show px_Go _ _ (143, [(4, .int 2), (3, .ref o), (2, .ref m), (1, .ref 8), (0, .ref 0)], [.int a3, .ref 8], hp) _
  refine px_a 4 (f' := (148, [(4, .int 2), (3, .ref o), (2, .ref m), (1, .ref 8), (0, .ref 0)], [.int 4, .ref 0, .int a3, .ref 8], hp)) rfl ?_
  refine px_al 0 (.int a4) rfl h0 (Or.inl ⟨rfl, Or.inr rfl⟩) (by decide) (rfl) ?_
  show px_Go _ _ (149, [(4, .int 2), (3, .ref o), (2, .ref m), (1, .ref 8), (0, .ref 0)], [.int a4, .int a3, .ref 8], hp) _
  refine px_a 4 (f' := (154, [(4, .int 2), (3, .ref o), (2, .ref m), (1, .ref 8), (0, .ref 0)], [.int 5, .ref 0, .int a4, .int a3, .ref 8], hp)) rfl ?_
  refine px_al 0 (.int a5) rfl h0 (Or.inl ⟨rfl, Or.inr rfl⟩) (by decide) (rfl) ?_
  show px_Go _ _ (155, [(4, .int 2), (3, .ref o), (2, .ref m), (1, .ref 8), (0, .ref 0)], [.int a5, .int a4, .int a3, .ref 8], hp) _
  refine px_b1 false 162 rfl rfl (decide_eq_false h5) ?_
  show px_Go _ _ (158, [(4, .int 2), (3, .ref o), (2, .ref m), (1, .ref 8), (0, .ref 0)], [.int a4, .int a3, .ref 8], hp) _
  refine px_a 3 (f' := (164, [(4, .int 2), (3, .ref o), (2, .ref m), (1, .ref 8), (0, .ref 0)], [.ref o, .int 1, .int a4, .int a3, .ref 8], hp)) rfl ?_
  refine px_cl (as := [.ref 8, .int a3, .int a4, .int 1, .ref o]) (rest := []) rfl rfl (hA) ?_
  show px_Go _ _ (167, [(4, .int 2), (3, .ref o), (2, .ref m), (1, .ref 8), (0, .ref 0)], [.int 1], hp1) _
  refine px_a 6 (f' := (175, [(5, .int 1), (4, .int 2), (3, .ref o), (2, .ref m), (1, .ref 8), (0, .ref 0)], [.int 3, .ref 0, .ref m], hp1)) rfl ?_
  refine px_al 0 (.int a3) rfl h01 (Or.inl ⟨rfl, Or.inr rfl⟩) (by decide) (rfl) ?_
  show px_Go _ _ (176, [(5, .int 1), (4, .int 2), (3, .ref o), (2, .ref m), (1, .ref 8), (0, .ref 0)], [.int a3, .ref m], hp1) _
  refine px_a 4 (f' := (181, [(5, .int 1), (4, .int 2), (3, .ref o), (2, .ref m), (1, .ref 8), (0, .ref 0)], [.int 4, .ref 0, .int a3, .ref m], hp1)) rfl ?_
  refine px_al 0 (.int a4) rfl h01 (Or.inl ⟨rfl, Or.inr rfl⟩) (by decide) (rfl) ?_
  show px_Go _ _ (182, [(5, .int 1), (4, .int 2), (3, .ref o), (2, .ref m), (1, .ref 8), (0, .ref 0)], [.int a4, .int a3, .ref m], hp1) _
  refine px_a 4 (f' := (187, [(5, .int 1), (4, .int 2), (3, .ref o), (2, .ref m), (1, .ref 8), (0, .ref 0)], [.int 5, .ref 0, .int a4, .int a3, .ref m], hp1)) rfl ?_
  refine px_al 0 (.int a5) rfl h01 (Or.inl ⟨rfl, Or.inr rfl⟩) (by decide) (rfl) ?_
  show px_Go _ _ (188, [(5, .int 1), (4, .int 2), (3, .ref o), (2, .ref m), (1, .ref 8), (0, .ref 0)], [.int a5, .int a4, .int a3, .ref m], hp1) _
  refine px_b1 false 195 rfl rfl (decide_eq_false h5) ?_
  show px_Go _ _ (191, [(5, .int 1), (4, .int 2), (3, .ref o), (2, .ref m), (1, .ref 8), (0, .ref 0)], [.int a4, .int a3, .ref m], hp1) _
  refine px_a 2 (f' := (196, [(5, .int 1), (4, .int 2), (3, .ref o), (2, .ref m), (1, .ref 8), (0, .ref 0)], [.int 1, .int a4, .int a3, .ref m], hp1)) rfl ?_
  refine px_cv m (as := [.int a3, .int a4, .int 1]) (rest := []) rfl rfl hm1 rfl rfl rfl rfl (Nat.le_of_ble_eq_true rfl) (hB) ?_
  show px_Go _ _ (199, [(5, .int 1), (4, .int 2), (3, .ref o), (2, .ref m), (1, .ref 8), (0, .ref 0)], [.int v], hp2) _
  refine px_a 2 (f' := (202, [(6, .int v), (5, .int 1), (4, .int 2), (3, .ref o), (2, .ref m), (1, .ref 8), (0, .ref 0)], [.ref m], hp2)) rfl ?_
  refine px_cv m (as := []) (rest := []) rfl rfl hm2 rfl rfl rfl rfl (Nat.le_of_ble_eq_true rfl) (hT) ?_
  show px_Go _ _ (205, [(6, .int v), (5, .int 1), (4, .int 2), (3, .ref o), (2, .ref m), (1, .ref 8), (0, .ref 0)], [.int 1], hp2) _
  refine px_a 5 (f' := (843, [(6, .int v), (5, .int 1), (4, .int 2), (3, .ref o), (2, .ref m), (1, .ref 8), (0, .ref 0)], [], hp2)) rfl ?_
  exact q_end2 h02
set_option maxRecDepth 20000 in
theorem q_cell1_0 {d m o : Nat} {hp hp1 hp2 : px_H} {a0 a1 a2 a3 a4 a5 : Int32}  (h5 : ¬ a5 = 0) (h0 : hp[(0 : Nat)]? = some (20, [.int a0, .int a1, .int a2, .int a3, .int a4, .int a5])) (h01 : hp1[(0 : Nat)]? = some (20, [.int a0, .int a1, .int a2, .int a3, .int a4, .int a5])) (h02 : hp2[(0 : Nat)]? = some (20, [.int a0, .int a1, .int a2, .int a3, .int a4, .int a5])) {vm vm2 : List Value} (hm1 : hp1[m]? = some (4, vm)) (hm2 : hp2[m]? = some (4, vm2)) (ho2 : hp2[o]? = some (11, [.long 0])) (hA : px_Go d 5 (0, [(0, .ref 8), (1, .int a3), (2, .int a4), (3, .int 1), (4, .ref o)], [], hp) (.inl (some (.int 0)), hp1)) (hB : px_Go d 71 (0, [(0, .ref m), (1, .int a3), (2, .int a4), (3, .int 1)], [], hp1) (.inl (some (.int 0)), hp2)) (hT : px_Go d 99 (0, [(0, .ref m)], [], hp2) (.inl (some (.int 0)), hp2)) : px_Go (d + 1) 6 (136, [(4, .int 2), (3, .ref o), (2, .ref m), (1, .ref 8), (0, .ref 0)], [], hp) (.inl (some (.int 1)), hp2) := by
  refine px_a 5 (f' := (142, [(4, .int 2), (3, .ref o), (2, .ref m), (1, .ref 8), (0, .ref 0)], [.int 3, .ref 0, .ref 8], hp)) rfl ?_
  refine px_al 0 (.int a3) rfl h0 (Or.inl ⟨rfl, Or.inr rfl⟩) (by decide) (rfl) ?_
  show px_Go _ _ (143, [(4, .int 2), (3, .ref o), (2, .ref m), (1, .ref 8), (0, .ref 0)], [.int a3, .ref 8], hp) _
  refine px_a 4 (f' := (148, [(4, .int 2), (3, .ref o), (2, .ref m), (1, .ref 8), (0, .ref 0)], [.int 4, .ref 0, .int a3, .ref 8], hp)) rfl ?_
  refine px_al 0 (.int a4) rfl h0 (Or.inl ⟨rfl, Or.inr rfl⟩) (by decide) (rfl) ?_
  show px_Go _ _ (149, [(4, .int 2), (3, .ref o), (2, .ref m), (1, .ref 8), (0, .ref 0)], [.int a4, .int a3, .ref 8], hp) _
  refine px_a 4 (f' := (154, [(4, .int 2), (3, .ref o), (2, .ref m), (1, .ref 8), (0, .ref 0)], [.int 5, .ref 0, .int a4, .int a3, .ref 8], hp)) rfl ?_
  refine px_al 0 (.int a5) rfl h0 (Or.inl ⟨rfl, Or.inr rfl⟩) (by decide) (rfl) ?_
  show px_Go _ _ (155, [(4, .int 2), (3, .ref o), (2, .ref m), (1, .ref 8), (0, .ref 0)], [.int a5, .int a4, .int a3, .ref 8], hp) _
  refine px_b1 false 162 rfl rfl (decide_eq_false h5) ?_
  show px_Go _ _ (158, [(4, .int 2), (3, .ref o), (2, .ref m), (1, .ref 8), (0, .ref 0)], [.int a4, .int a3, .ref 8], hp) _
  refine px_a 3 (f' := (164, [(4, .int 2), (3, .ref o), (2, .ref m), (1, .ref 8), (0, .ref 0)], [.ref o, .int 1, .int a4, .int a3, .ref 8], hp)) rfl ?_
  refine px_cl (as := [.ref 8, .int a3, .int a4, .int 1, .ref o]) (rest := []) rfl rfl (hA) ?_
  show px_Go _ _ (167, [(4, .int 2), (3, .ref o), (2, .ref m), (1, .ref 8), (0, .ref 0)], [.int 0], hp1) _
  refine px_a 6 (f' := (175, [(5, .int 0), (4, .int 2), (3, .ref o), (2, .ref m), (1, .ref 8), (0, .ref 0)], [.int 3, .ref 0, .ref m], hp1)) rfl ?_
  refine px_al 0 (.int a3) rfl h01 (Or.inl ⟨rfl, Or.inr rfl⟩) (by decide) (rfl) ?_
  show px_Go _ _ (176, [(5, .int 0), (4, .int 2), (3, .ref o), (2, .ref m), (1, .ref 8), (0, .ref 0)], [.int a3, .ref m], hp1) _
  refine px_a 4 (f' := (181, [(5, .int 0), (4, .int 2), (3, .ref o), (2, .ref m), (1, .ref 8), (0, .ref 0)], [.int 4, .ref 0, .int a3, .ref m], hp1)) rfl ?_
  refine px_al 0 (.int a4) rfl h01 (Or.inl ⟨rfl, Or.inr rfl⟩) (by decide) (rfl) ?_
  show px_Go _ _ (182, [(5, .int 0), (4, .int 2), (3, .ref o), (2, .ref m), (1, .ref 8), (0, .ref 0)], [.int a4, .int a3, .ref m], hp1) _
  refine px_a 4 (f' := (187, [(5, .int 0), (4, .int 2), (3, .ref o), (2, .ref m), (1, .ref 8), (0, .ref 0)], [.int 5, .ref 0, .int a4, .int a3, .ref m], hp1)) rfl ?_
  refine px_al 0 (.int a5) rfl h01 (Or.inl ⟨rfl, Or.inr rfl⟩) (by decide) (rfl) ?_
  show px_Go _ _ (188, [(5, .int 0), (4, .int 2), (3, .ref o), (2, .ref m), (1, .ref 8), (0, .ref 0)], [.int a5, .int a4, .int a3, .ref m], hp1) _
  refine px_b1 false 195 rfl rfl (decide_eq_false h5) ?_
  show px_Go _ _ (191, [(5, .int 0), (4, .int 2), (3, .ref o), (2, .ref m), (1, .ref 8), (0, .ref 0)], [.int a4, .int a3, .ref m], hp1) _
  refine px_a 2 (f' := (196, [(5, .int 0), (4, .int 2), (3, .ref o), (2, .ref m), (1, .ref 8), (0, .ref 0)], [.int 1, .int a4, .int a3, .ref m], hp1)) rfl ?_
  refine px_cv m (as := [.int a3, .int a4, .int 1]) (rest := []) rfl rfl hm1 rfl rfl rfl rfl (Nat.le_of_ble_eq_true rfl) (hB) ?_
  show px_Go _ _ (199, [(5, .int 0), (4, .int 2), (3, .ref o), (2, .ref m), (1, .ref 8), (0, .ref 0)], [.int 0], hp2) _
  refine px_a 2 (f' := (202, [(6, .int 0), (5, .int 0), (4, .int 2), (3, .ref o), (2, .ref m), (1, .ref 8), (0, .ref 0)], [.ref m], hp2)) rfl ?_
  refine px_cv m (as := []) (rest := []) rfl rfl hm2 rfl rfl rfl rfl (Nat.le_of_ble_eq_true rfl) (hT) ?_
  show px_Go _ _ (205, [(6, .int 0), (5, .int 0), (4, .int 2), (3, .ref o), (2, .ref m), (1, .ref 8), (0, .ref 0)], [.int 0], hp2) _
  refine px_a 6 (f' := (219, [(6, .int 0), (5, .int 0), (4, .int 2), (3, .ref o), (2, .ref m), (1, .ref 8), (0, .ref 0)], [.int 0, .ref o], hp2)) rfl ?_
  refine px_al o (.long 0) rfl ho2 (Or.inr (Or.inl ⟨rfl, rfl⟩)) (by decide) (rfl) ?_
  show px_Go _ _ (220, [(6, .int 0), (5, .int 0), (4, .int 2), (3, .ref o), (2, .ref m), (1, .ref 8), (0, .ref 0)], [.long 0], hp2) _
  refine px_a 6 (f' := (843, [(6, .int 0), (5, .int 0), (4, .int 2), (3, .ref o), (2, .ref m), (1, .ref 8), (0, .ref 0)], [], hp2)) rfl ?_
  exact q_end2 h02
set_option maxRecDepth 20000 in
theorem q_cell1_1 {d m o : Nat} {hp hp1 hp2 : px_H} {a0 a1 a2 a3 a4 a5 : Int32}  (h5 : ¬ a5 = 0) (h0 : hp[(0 : Nat)]? = some (20, [.int a0, .int a1, .int a2, .int a3, .int a4, .int a5])) (h01 : hp1[(0 : Nat)]? = some (20, [.int a0, .int a1, .int a2, .int a3, .int a4, .int a5])) (h02 : hp2[(0 : Nat)]? = some (20, [.int a0, .int a1, .int a2, .int a3, .int a4, .int a5])) {vm vm2 : List Value} (hm1 : hp1[m]? = some (4, vm)) (hm2 : hp2[m]? = some (4, vm2)) (ho2 : hp2[o]? = some (11, [.long 1])) (hA : px_Go d 5 (0, [(0, .ref 8), (1, .int a3), (2, .int a4), (3, .int 1), (4, .ref o)], [], hp) (.inl (some (.int 0)), hp1)) (hB : px_Go d 71 (0, [(0, .ref m), (1, .int a3), (2, .int a4), (3, .int 1)], [], hp1) (.inl (some (.int 1)), hp2)) (hT : px_Go d 99 (0, [(0, .ref m)], [], hp2) (.inl (some (.int 0)), hp2)) : px_Go (d + 1) 6 (136, [(4, .int 2), (3, .ref o), (2, .ref m), (1, .ref 8), (0, .ref 0)], [], hp) (.inl (some (.int 1)), hp2) := by
  refine px_a 5 (f' := (142, [(4, .int 2), (3, .ref o), (2, .ref m), (1, .ref 8), (0, .ref 0)], [.int 3, .ref 0, .ref 8], hp)) rfl ?_
  refine px_al 0 (.int a3) rfl h0 (Or.inl ⟨rfl, Or.inr rfl⟩) (by decide) (rfl) ?_
  show px_Go _ _ (143, [(4, .int 2), (3, .ref o), (2, .ref m), (1, .ref 8), (0, .ref 0)], [.int a3, .ref 8], hp) _
  refine px_a 4 (f' := (148, [(4, .int 2), (3, .ref o), (2, .ref m), (1, .ref 8), (0, .ref 0)], [.int 4, .ref 0, .int a3, .ref 8], hp)) rfl ?_
  refine px_al 0 (.int a4) rfl h0 (Or.inl ⟨rfl, Or.inr rfl⟩) (by decide) (rfl) ?_
  show px_Go _ _ (149, [(4, .int 2), (3, .ref o), (2, .ref m), (1, .ref 8), (0, .ref 0)], [.int a4, .int a3, .ref 8], hp) _
  refine px_a 4 (f' := (154, [(4, .int 2), (3, .ref o), (2, .ref m), (1, .ref 8), (0, .ref 0)], [.int 5, .ref 0, .int a4, .int a3, .ref 8], hp)) rfl ?_
  refine px_al 0 (.int a5) rfl h0 (Or.inl ⟨rfl, Or.inr rfl⟩) (by decide) (rfl) ?_
  show px_Go _ _ (155, [(4, .int 2), (3, .ref o), (2, .ref m), (1, .ref 8), (0, .ref 0)], [.int a5, .int a4, .int a3, .ref 8], hp) _
  refine px_b1 false 162 rfl rfl (decide_eq_false h5) ?_
  show px_Go _ _ (158, [(4, .int 2), (3, .ref o), (2, .ref m), (1, .ref 8), (0, .ref 0)], [.int a4, .int a3, .ref 8], hp) _
  refine px_a 3 (f' := (164, [(4, .int 2), (3, .ref o), (2, .ref m), (1, .ref 8), (0, .ref 0)], [.ref o, .int 1, .int a4, .int a3, .ref 8], hp)) rfl ?_
  refine px_cl (as := [.ref 8, .int a3, .int a4, .int 1, .ref o]) (rest := []) rfl rfl (hA) ?_
  show px_Go _ _ (167, [(4, .int 2), (3, .ref o), (2, .ref m), (1, .ref 8), (0, .ref 0)], [.int 0], hp1) _
  refine px_a 6 (f' := (175, [(5, .int 0), (4, .int 2), (3, .ref o), (2, .ref m), (1, .ref 8), (0, .ref 0)], [.int 3, .ref 0, .ref m], hp1)) rfl ?_
  refine px_al 0 (.int a3) rfl h01 (Or.inl ⟨rfl, Or.inr rfl⟩) (by decide) (rfl) ?_
  show px_Go _ _ (176, [(5, .int 0), (4, .int 2), (3, .ref o), (2, .ref m), (1, .ref 8), (0, .ref 0)], [.int a3, .ref m], hp1) _
  refine px_a 4 (f' := (181, [(5, .int 0), (4, .int 2), (3, .ref o), (2, .ref m), (1, .ref 8), (0, .ref 0)], [.int 4, .ref 0, .int a3, .ref m], hp1)) rfl ?_
  refine px_al 0 (.int a4) rfl h01 (Or.inl ⟨rfl, Or.inr rfl⟩) (by decide) (rfl) ?_
  show px_Go _ _ (182, [(5, .int 0), (4, .int 2), (3, .ref o), (2, .ref m), (1, .ref 8), (0, .ref 0)], [.int a4, .int a3, .ref m], hp1) _
  refine px_a 4 (f' := (187, [(5, .int 0), (4, .int 2), (3, .ref o), (2, .ref m), (1, .ref 8), (0, .ref 0)], [.int 5, .ref 0, .int a4, .int a3, .ref m], hp1)) rfl ?_
  refine px_al 0 (.int a5) rfl h01 (Or.inl ⟨rfl, Or.inr rfl⟩) (by decide) (rfl) ?_
  show px_Go _ _ (188, [(5, .int 0), (4, .int 2), (3, .ref o), (2, .ref m), (1, .ref 8), (0, .ref 0)], [.int a5, .int a4, .int a3, .ref m], hp1) _
  refine px_b1 false 195 rfl rfl (decide_eq_false h5) ?_
  show px_Go _ _ (191, [(5, .int 0), (4, .int 2), (3, .ref o), (2, .ref m), (1, .ref 8), (0, .ref 0)], [.int a4, .int a3, .ref m], hp1) _
  refine px_a 2 (f' := (196, [(5, .int 0), (4, .int 2), (3, .ref o), (2, .ref m), (1, .ref 8), (0, .ref 0)], [.int 1, .int a4, .int a3, .ref m], hp1)) rfl ?_
  refine px_cv m (as := [.int a3, .int a4, .int 1]) (rest := []) rfl rfl hm1 rfl rfl rfl rfl (Nat.le_of_ble_eq_true rfl) (hB) ?_
  show px_Go _ _ (199, [(5, .int 0), (4, .int 2), (3, .ref o), (2, .ref m), (1, .ref 8), (0, .ref 0)], [.int 1], hp2) _
  refine px_a 2 (f' := (202, [(6, .int 1), (5, .int 0), (4, .int 2), (3, .ref o), (2, .ref m), (1, .ref 8), (0, .ref 0)], [.ref m], hp2)) rfl ?_
  refine px_cv m (as := []) (rest := []) rfl rfl hm2 rfl rfl rfl rfl (Nat.le_of_ble_eq_true rfl) (hT) ?_
  show px_Go _ _ (205, [(6, .int 1), (5, .int 0), (4, .int 2), (3, .ref o), (2, .ref m), (1, .ref 8), (0, .ref 0)], [.int 0], hp2) _
  refine px_a 6 (f' := (219, [(6, .int 1), (5, .int 0), (4, .int 2), (3, .ref o), (2, .ref m), (1, .ref 8), (0, .ref 0)], [.int 0, .ref o], hp2)) rfl ?_
  refine px_al o (.long 1) rfl ho2 (Or.inr (Or.inl ⟨rfl, rfl⟩)) (by decide) (rfl) ?_
  show px_Go _ _ (220, [(6, .int 1), (5, .int 0), (4, .int 2), (3, .ref o), (2, .ref m), (1, .ref 8), (0, .ref 0)], [.long 1], hp2) _
  refine px_a 7 (f' := (843, [(6, .int 1), (5, .int 0), (4, .int 2), (3, .ref o), (2, .ref m), (1, .ref 8), (0, .ref 0)], [], hp2)) rfl ?_
  exact q_end2 h02
set_option maxRecDepth 20000 in
theorem q_square_t {d m o : Nat} {hp hp1 hp2 : px_H} {a0 a1 a2 a3 a4 a5 : Int32} {v : Int32} (h0 : hp[(0 : Nat)]? = some (20, [.int a0, .int a1, .int a2, .int a3, .int a4, .int a5])) (h01 : hp1[(0 : Nat)]? = some (20, [.int a0, .int a1, .int a2, .int a3, .int a4, .int a5])) (h02 : hp2[(0 : Nat)]? = some (20, [.int a0, .int a1, .int a2, .int a3, .int a4, .int a5])) {vm vm2 : List Value} (hm1 : hp1[m]? = some (4, vm)) (hm2 : hp2[m]? = some (4, vm2)) (hA : px_Go d 10 (0, [(0, .ref 8), (1, .int a3), (2, .int a4), (3, .int a5), (4, .ref o)], [], hp) (.inl (some (.int 1)), hp1)) (hB : px_Go d 94 (0, [(0, .ref m), (1, .int a3), (2, .int a4), (3, .int a5)], [], hp1) (.inl (some (.int v)), hp2)) (hT : px_Go d 99 (0, [(0, .ref m)], [], hp2) (.inl (some (.int 1)), hp2)) : px_Go (d + 1) 6 (252, [(4, .int 2), (3, .ref o), (2, .ref m), (1, .ref 8), (0, .ref 0)], [], hp) (.inl (some (.int 1)), hp2) := by
  refine px_a 5 (f' := (258, [(4, .int 2), (3, .ref o), (2, .ref m), (1, .ref 8), (0, .ref 0)], [.int 3, .ref 0, .ref 8], hp)) rfl ?_
  refine px_al 0 (.int a3) rfl h0 (Or.inl ⟨rfl, Or.inr rfl⟩) (by decide) (rfl) ?_
  show px_Go _ _ (259, [(4, .int 2), (3, .ref o), (2, .ref m), (1, .ref 8), (0, .ref 0)], [.int a3, .ref 8], hp) _
  refine px_a 4 (f' := (264, [(4, .int 2), (3, .ref o), (2, .ref m), (1, .ref 8), (0, .ref 0)], [.int 4, .ref 0, .int a3, .ref 8], hp)) rfl ?_
  refine px_al 0 (.int a4) rfl h0 (Or.inl ⟨rfl, Or.inr rfl⟩) (by decide) (rfl) ?_
  show px_Go _ _ (265, [(4, .int 2), (3, .ref o), (2, .ref m), (1, .ref 8), (0, .ref 0)], [.int a4, .int a3, .ref 8], hp) _
  refine px_a 4 (f' := (270, [(4, .int 2), (3, .ref o), (2, .ref m), (1, .ref 8), (0, .ref 0)], [.int 5, .ref 0, .int a4, .int a3, .ref 8], hp)) rfl ?_
  refine px_al 0 (.int a5) rfl h0 (Or.inl ⟨rfl, Or.inr rfl⟩) (by decide) (rfl) ?_
  show px_Go _ _ (271, [(4, .int 2), (3, .ref o), (2, .ref m), (1, .ref 8), (0, .ref 0)], [.int a5, .int a4, .int a3, .ref 8], hp) _
  refine px_a 1 (f' := (272, [(4, .int 2), (3, .ref o), (2, .ref m), (1, .ref 8), (0, .ref 0)], [.ref o, .int a5, .int a4, .int a3, .ref 8], hp)) rfl ?_
  refine px_cl (as := [.ref 8, .int a3, .int a4, .int a5, .ref o]) (rest := []) rfl rfl (hA) ?_
  show px_Go _ _ (275, [(4, .int 2), (3, .ref o), (2, .ref m), (1, .ref 8), (0, .ref 0)], [.int 1], hp1) _
  refine px_a 6 (f' := (283, [(5, .int 1), (4, .int 2), (3, .ref o), (2, .ref m), (1, .ref 8), (0, .ref 0)], [.int 3, .ref 0, .ref m], hp1)) rfl ?_
  refine px_al 0 (.int a3) rfl h01 (Or.inl ⟨rfl, Or.inr rfl⟩) (by decide) (rfl) ?_
  show px_Go _ _ (284, [(5, .int 1), (4, .int 2), (3, .ref o), (2, .ref m), (1, .ref 8), (0, .ref 0)], [.int a3, .ref m], hp1) _
  refine px_a 4 (f' := (289, [(5, .int 1), (4, .int 2), (3, .ref o), (2, .ref m), (1, .ref 8), (0, .ref 0)], [.int 4, .ref 0, .int a3, .ref m], hp1)) rfl ?_
  refine px_al 0 (.int a4) rfl h01 (Or.inl ⟨rfl, Or.inr rfl⟩) (by decide) (rfl) ?_
  show px_Go _ _ (290, [(5, .int 1), (4, .int 2), (3, .ref o), (2, .ref m), (1, .ref 8), (0, .ref 0)], [.int a4, .int a3, .ref m], hp1) _
  refine px_a 4 (f' := (295, [(5, .int 1), (4, .int 2), (3, .ref o), (2, .ref m), (1, .ref 8), (0, .ref 0)], [.int 5, .ref 0, .int a4, .int a3, .ref m], hp1)) rfl ?_
  refine px_al 0 (.int a5) rfl h01 (Or.inl ⟨rfl, Or.inr rfl⟩) (by decide) (rfl) ?_
  show px_Go _ _ (296, [(5, .int 1), (4, .int 2), (3, .ref o), (2, .ref m), (1, .ref 8), (0, .ref 0)], [.int a5, .int a4, .int a3, .ref m], hp1) _
  refine px_cv m (as := [.int a3, .int a4, .int a5]) (rest := []) rfl rfl hm1 rfl rfl rfl rfl (Nat.le_of_ble_eq_true rfl) (hB) ?_
  show px_Go _ _ (299, [(5, .int 1), (4, .int 2), (3, .ref o), (2, .ref m), (1, .ref 8), (0, .ref 0)], [.int v], hp2) _
  refine px_a 2 (f' := (302, [(6, .int v), (5, .int 1), (4, .int 2), (3, .ref o), (2, .ref m), (1, .ref 8), (0, .ref 0)], [.ref m], hp2)) rfl ?_
  refine px_cv m (as := []) (rest := []) rfl rfl hm2 rfl rfl rfl rfl (Nat.le_of_ble_eq_true rfl) (hT) ?_
  show px_Go _ _ (305, [(6, .int v), (5, .int 1), (4, .int 2), (3, .ref o), (2, .ref m), (1, .ref 8), (0, .ref 0)], [.int 1], hp2) _
  refine px_a 5 (f' := (843, [(6, .int v), (5, .int 1), (4, .int 2), (3, .ref o), (2, .ref m), (1, .ref 8), (0, .ref 0)], [], hp2)) rfl ?_
  exact q_end2 h02
set_option maxRecDepth 20000 in
theorem q_square_0 {d m o : Nat} {hp hp1 hp2 : px_H} {a0 a1 a2 a3 a4 a5 : Int32}  (h0 : hp[(0 : Nat)]? = some (20, [.int a0, .int a1, .int a2, .int a3, .int a4, .int a5])) (h01 : hp1[(0 : Nat)]? = some (20, [.int a0, .int a1, .int a2, .int a3, .int a4, .int a5])) (h02 : hp2[(0 : Nat)]? = some (20, [.int a0, .int a1, .int a2, .int a3, .int a4, .int a5])) {vm vm2 : List Value} (hm1 : hp1[m]? = some (4, vm)) (hm2 : hp2[m]? = some (4, vm2)) (ho2 : hp2[o]? = some (11, [.long 0])) (hA : px_Go d 10 (0, [(0, .ref 8), (1, .int a3), (2, .int a4), (3, .int a5), (4, .ref o)], [], hp) (.inl (some (.int 0)), hp1)) (hB : px_Go d 94 (0, [(0, .ref m), (1, .int a3), (2, .int a4), (3, .int a5)], [], hp1) (.inl (some (.int 0)), hp2)) (hT : px_Go d 99 (0, [(0, .ref m)], [], hp2) (.inl (some (.int 0)), hp2)) : px_Go (d + 1) 6 (252, [(4, .int 2), (3, .ref o), (2, .ref m), (1, .ref 8), (0, .ref 0)], [], hp) (.inl (some (.int 1)), hp2) := by
  refine px_a 5 (f' := (258, [(4, .int 2), (3, .ref o), (2, .ref m), (1, .ref 8), (0, .ref 0)], [.int 3, .ref 0, .ref 8], hp)) rfl ?_
  refine px_al 0 (.int a3) rfl h0 (Or.inl ⟨rfl, Or.inr rfl⟩) (by decide) (rfl) ?_
  show px_Go _ _ (259, [(4, .int 2), (3, .ref o), (2, .ref m), (1, .ref 8), (0, .ref 0)], [.int a3, .ref 8], hp) _
  refine px_a 4 (f' := (264, [(4, .int 2), (3, .ref o), (2, .ref m), (1, .ref 8), (0, .ref 0)], [.int 4, .ref 0, .int a3, .ref 8], hp)) rfl ?_
  refine px_al 0 (.int a4) rfl h0 (Or.inl ⟨rfl, Or.inr rfl⟩) (by decide) (rfl) ?_
  show px_Go _ _ (265, [(4, .int 2), (3, .ref o), (2, .ref m), (1, .ref 8), (0, .ref 0)], [.int a4, .int a3, .ref 8], hp) _
  refine px_a 4 (f' := (270, [(4, .int 2), (3, .ref o), (2, .ref m), (1, .ref 8), (0, .ref 0)], [.int 5, .ref 0, .int a4, .int a3, .ref 8], hp)) rfl ?_
  refine px_al 0 (.int a5) rfl h0 (Or.inl ⟨rfl, Or.inr rfl⟩) (by decide) (rfl) ?_
  show px_Go _ _ (271, [(4, .int 2), (3, .ref o), (2, .ref m), (1, .ref 8), (0, .ref 0)], [.int a5, .int a4, .int a3, .ref 8], hp) _
  refine px_a 1 (f' := (272, [(4, .int 2), (3, .ref o), (2, .ref m), (1, .ref 8), (0, .ref 0)], [.ref o, .int a5, .int a4, .int a3, .ref 8], hp)) rfl ?_
  refine px_cl (as := [.ref 8, .int a3, .int a4, .int a5, .ref o]) (rest := []) rfl rfl (hA) ?_
  show px_Go _ _ (275, [(4, .int 2), (3, .ref o), (2, .ref m), (1, .ref 8), (0, .ref 0)], [.int 0], hp1) _
  refine px_a 6 (f' := (283, [(5, .int 0), (4, .int 2), (3, .ref o), (2, .ref m), (1, .ref 8), (0, .ref 0)], [.int 3, .ref 0, .ref m], hp1)) rfl ?_
  refine px_al 0 (.int a3) rfl h01 (Or.inl ⟨rfl, Or.inr rfl⟩) (by decide) (rfl) ?_
  show px_Go _ _ (284, [(5, .int 0), (4, .int 2), (3, .ref o), (2, .ref m), (1, .ref 8), (0, .ref 0)], [.int a3, .ref m], hp1) _
  refine px_a 4 (f' := (289, [(5, .int 0), (4, .int 2), (3, .ref o), (2, .ref m), (1, .ref 8), (0, .ref 0)], [.int 4, .ref 0, .int a3, .ref m], hp1)) rfl ?_
  refine px_al 0 (.int a4) rfl h01 (Or.inl ⟨rfl, Or.inr rfl⟩) (by decide) (rfl) ?_
  show px_Go _ _ (290, [(5, .int 0), (4, .int 2), (3, .ref o), (2, .ref m), (1, .ref 8), (0, .ref 0)], [.int a4, .int a3, .ref m], hp1) _
  refine px_a 4 (f' := (295, [(5, .int 0), (4, .int 2), (3, .ref o), (2, .ref m), (1, .ref 8), (0, .ref 0)], [.int 5, .ref 0, .int a4, .int a3, .ref m], hp1)) rfl ?_
  refine px_al 0 (.int a5) rfl h01 (Or.inl ⟨rfl, Or.inr rfl⟩) (by decide) (rfl) ?_
  show px_Go _ _ (296, [(5, .int 0), (4, .int 2), (3, .ref o), (2, .ref m), (1, .ref 8), (0, .ref 0)], [.int a5, .int a4, .int a3, .ref m], hp1) _
  refine px_cv m (as := [.int a3, .int a4, .int a5]) (rest := []) rfl rfl hm1 rfl rfl rfl rfl (Nat.le_of_ble_eq_true rfl) (hB) ?_
  show px_Go _ _ (299, [(5, .int 0), (4, .int 2), (3, .ref o), (2, .ref m), (1, .ref 8), (0, .ref 0)], [.int 0], hp2) _
  refine px_a 2 (f' := (302, [(6, .int 0), (5, .int 0), (4, .int 2), (3, .ref o), (2, .ref m), (1, .ref 8), (0, .ref 0)], [.ref m], hp2)) rfl ?_
  refine px_cv m (as := []) (rest := []) rfl rfl hm2 rfl rfl rfl rfl (Nat.le_of_ble_eq_true rfl) (hT) ?_
  show px_Go _ _ (305, [(6, .int 0), (5, .int 0), (4, .int 2), (3, .ref o), (2, .ref m), (1, .ref 8), (0, .ref 0)], [.int 0], hp2) _
  refine px_a 6 (f' := (319, [(6, .int 0), (5, .int 0), (4, .int 2), (3, .ref o), (2, .ref m), (1, .ref 8), (0, .ref 0)], [.int 0, .ref o], hp2)) rfl ?_
  refine px_al o (.long 0) rfl ho2 (Or.inr (Or.inl ⟨rfl, rfl⟩)) (by decide) (rfl) ?_
  show px_Go _ _ (320, [(6, .int 0), (5, .int 0), (4, .int 2), (3, .ref o), (2, .ref m), (1, .ref 8), (0, .ref 0)], [.long 0], hp2) _
  refine px_a 6 (f' := (843, [(6, .int 0), (5, .int 0), (4, .int 2), (3, .ref o), (2, .ref m), (1, .ref 8), (0, .ref 0)], [], hp2)) rfl ?_
  exact q_end2 h02
set_option maxRecDepth 20000 in
theorem q_square_1 {d m o : Nat} {hp hp1 hp2 : px_H} {a0 a1 a2 a3 a4 a5 : Int32}  (h0 : hp[(0 : Nat)]? = some (20, [.int a0, .int a1, .int a2, .int a3, .int a4, .int a5])) (h01 : hp1[(0 : Nat)]? = some (20, [.int a0, .int a1, .int a2, .int a3, .int a4, .int a5])) (h02 : hp2[(0 : Nat)]? = some (20, [.int a0, .int a1, .int a2, .int a3, .int a4, .int a5])) {vm vm2 : List Value} (hm1 : hp1[m]? = some (4, vm)) (hm2 : hp2[m]? = some (4, vm2)) (ho2 : hp2[o]? = some (11, [.long 1])) (hA : px_Go d 10 (0, [(0, .ref 8), (1, .int a3), (2, .int a4), (3, .int a5), (4, .ref o)], [], hp) (.inl (some (.int 0)), hp1)) (hB : px_Go d 94 (0, [(0, .ref m), (1, .int a3), (2, .int a4), (3, .int a5)], [], hp1) (.inl (some (.int 1)), hp2)) (hT : px_Go d 99 (0, [(0, .ref m)], [], hp2) (.inl (some (.int 0)), hp2)) : px_Go (d + 1) 6 (252, [(4, .int 2), (3, .ref o), (2, .ref m), (1, .ref 8), (0, .ref 0)], [], hp) (.inl (some (.int 1)), hp2) := by
  refine px_a 5 (f' := (258, [(4, .int 2), (3, .ref o), (2, .ref m), (1, .ref 8), (0, .ref 0)], [.int 3, .ref 0, .ref 8], hp)) rfl ?_
  refine px_al 0 (.int a3) rfl h0 (Or.inl ⟨rfl, Or.inr rfl⟩) (by decide) (rfl) ?_
  show px_Go _ _ (259, [(4, .int 2), (3, .ref o), (2, .ref m), (1, .ref 8), (0, .ref 0)], [.int a3, .ref 8], hp) _
  refine px_a 4 (f' := (264, [(4, .int 2), (3, .ref o), (2, .ref m), (1, .ref 8), (0, .ref 0)], [.int 4, .ref 0, .int a3, .ref 8], hp)) rfl ?_
  refine px_al 0 (.int a4) rfl h0 (Or.inl ⟨rfl, Or.inr rfl⟩) (by decide) (rfl) ?_
  show px_Go _ _ (265, [(4, .int 2), (3, .ref o), (2, .ref m), (1, .ref 8), (0, .ref 0)], [.int a4, .int a3, .ref 8], hp) _
  refine px_a 4 (f' := (270, [(4, .int 2), (3, .ref o), (2, .ref m), (1, .ref 8), (0, .ref 0)], [.int 5, .ref 0, .int a4, .int a3, .ref 8], hp)) rfl ?_
  refine px_al 0 (.int a5) rfl h0 (Or.inl ⟨rfl, Or.inr rfl⟩) (by decide) (rfl) ?_
  show px_Go _ _ (271, [(4, .int 2), (3, .ref o), (2, .ref m), (1, .ref 8), (0, .ref 0)], [.int a5, .int a4, .int a3, .ref 8], hp) _
  refine px_a 1 (f' := (272, [(4, .int 2), (3, .ref o), (2, .ref m), (1, .ref 8), (0, .ref 0)], [.ref o, .int a5, .int a4, .int a3, .ref 8], hp)) rfl ?_
  refine px_cl (as := [.ref 8, .int a3, .int a4, .int a5, .ref o]) (rest := []) rfl rfl (hA) ?_
  show px_Go _ _ (275, [(4, .int 2), (3, .ref o), (2, .ref m), (1, .ref 8), (0, .ref 0)], [.int 0], hp1) _
  refine px_a 6 (f' := (283, [(5, .int 0), (4, .int 2), (3, .ref o), (2, .ref m), (1, .ref 8), (0, .ref 0)], [.int 3, .ref 0, .ref m], hp1)) rfl ?_
  refine px_al 0 (.int a3) rfl h01 (Or.inl ⟨rfl, Or.inr rfl⟩) (by decide) (rfl) ?_
  show px_Go _ _ (284, [(5, .int 0), (4, .int 2), (3, .ref o), (2, .ref m), (1, .ref 8), (0, .ref 0)], [.int a3, .ref m], hp1) _
  refine px_a 4 (f' := (289, [(5, .int 0), (4, .int 2), (3, .ref o), (2, .ref m), (1, .ref 8), (0, .ref 0)], [.int 4, .ref 0, .int a3, .ref m], hp1)) rfl ?_
  refine px_al 0 (.int a4) rfl h01 (Or.inl ⟨rfl, Or.inr rfl⟩) (by decide) (rfl) ?_
  show px_Go _ _ (290, [(5, .int 0), (4, .int 2), (3, .ref o), (2, .ref m), (1, .ref 8), (0, .ref 0)], [.int a4, .int a3, .ref m], hp1) _
  refine px_a 4 (f' := (295, [(5, .int 0), (4, .int 2), (3, .ref o), (2, .ref m), (1, .ref 8), (0, .ref 0)], [.int 5, .ref 0, .int a4, .int a3, .ref m], hp1)) rfl ?_
  refine px_al 0 (.int a5) rfl h01 (Or.inl ⟨rfl, Or.inr rfl⟩) (by decide) (rfl) ?_
  show px_Go _ _ (296, [(5, .int 0), (4, .int 2), (3, .ref o), (2, .ref m), (1, .ref 8), (0, .ref 0)], [.int a5, .int a4, .int a3, .ref m], hp1) _
  refine px_cv m (as := [.int a3, .int a4, .int a5]) (rest := []) rfl rfl hm1 rfl rfl rfl rfl (Nat.le_of_ble_eq_true rfl) (hB) ?_
  show px_Go _ _ (299, [(5, .int 0), (4, .int 2), (3, .ref o), (2, .ref m), (1, .ref 8), (0, .ref 0)], [.int 1], hp2) _
  refine px_a 2 (f' := (302, [(6, .int 1), (5, .int 0), (4, .int 2), (3, .ref o), (2, .ref m), (1, .ref 8), (0, .ref 0)], [.ref m], hp2)) rfl ?_
  refine px_cv m (as := []) (rest := []) rfl rfl hm2 rfl rfl rfl rfl (Nat.le_of_ble_eq_true rfl) (hT) ?_
  show px_Go _ _ (305, [(6, .int 1), (5, .int 0), (4, .int 2), (3, .ref o), (2, .ref m), (1, .ref 8), (0, .ref 0)], [.int 0], hp2) _
  refine px_a 6 (f' := (319, [(6, .int 1), (5, .int 0), (4, .int 2), (3, .ref o), (2, .ref m), (1, .ref 8), (0, .ref 0)], [.int 0, .ref o], hp2)) rfl ?_
  refine px_al o (.long 1) rfl ho2 (Or.inr (Or.inl ⟨rfl, rfl⟩)) (by decide) (rfl) ?_
  show px_Go _ _ (320, [(6, .int 1), (5, .int 0), (4, .int 2), (3, .ref o), (2, .ref m), (1, .ref 8), (0, .ref 0)], [.long 1], hp2) _
  refine px_a 7 (f' := (843, [(6, .int 1), (5, .int 0), (4, .int 2), (3, .ref o), (2, .ref m), (1, .ref 8), (0, .ref 0)], [], hp2)) rfl ?_
  exact q_end2 h02
set_option maxRecDepth 20000 in
theorem q_placements_t {d m o : Nat} {hp hp1 hp2 : px_H} {a0 a1 a2 a3 a4 a5 : Int32} {v : Int32} (h0 : hp[(0 : Nat)]? = some (20, [.int a0, .int a1, .int a2, .int a3, .int a4, .int a5])) (h01 : hp1[(0 : Nat)]? = some (20, [.int a0, .int a1, .int a2, .int a3, .int a4, .int a5])) (h02 : hp2[(0 : Nat)]? = some (20, [.int a0, .int a1, .int a2, .int a3, .int a4, .int a5])) {vm vm2 : List Value} (hm1 : hp1[m]? = some (4, vm)) (hm2 : hp2[m]? = some (4, vm2)) (hA : px_Go d 9 (0, [(0, .ref 8), (1, .int a3), (2, .ref o)], [], hp) (.inl (some (.int 1)), hp1)) (hB : px_Go d 87 (0, [(0, .ref m), (1, .int a3)], [], hp1) (.inl (some (.int v)), hp2)) (hT : px_Go d 99 (0, [(0, .ref m)], [], hp2) (.inl (some (.int 1)), hp2)) : px_Go (d + 1) 6 (339, [(4, .int 2), (3, .ref o), (2, .ref m), (1, .ref 8), (0, .ref 0)], [], hp) (.inl (some (.int 1)), hp2) := by
  refine px_a 5 (f' := (345, [(4, .int 2), (3, .ref o), (2, .ref m), (1, .ref 8), (0, .ref 0)], [.int 3, .ref 0, .ref 8], hp)) rfl ?_
  refine px_al 0 (.int a3) rfl h0 (Or.inl ⟨rfl, Or.inr rfl⟩) (by decide) (rfl) ?_
  show px_Go _ _ (346, [(4, .int 2), (3, .ref o), (2, .ref m), (1, .ref 8), (0, .ref 0)], [.int a3, .ref 8], hp) _
  refine px_a 1 (f' := (347, [(4, .int 2), (3, .ref o), (2, .ref m), (1, .ref 8), (0, .ref 0)], [.ref o, .int a3, .ref 8], hp)) rfl ?_
  refine px_cl (as := [.ref 8, .int a3, .ref o]) (rest := []) rfl rfl (hA) ?_
  show px_Go _ _ (350, [(4, .int 2), (3, .ref o), (2, .ref m), (1, .ref 8), (0, .ref 0)], [.int 1], hp1) _
  refine px_a 6 (f' := (358, [(5, .int 1), (4, .int 2), (3, .ref o), (2, .ref m), (1, .ref 8), (0, .ref 0)], [.int 3, .ref 0, .ref m], hp1)) rfl ?_
  refine px_al 0 (.int a3) rfl h01 (Or.inl ⟨rfl, Or.inr rfl⟩) (by decide) (rfl) ?_
  show px_Go _ _ (359, [(5, .int 1), (4, .int 2), (3, .ref o), (2, .ref m), (1, .ref 8), (0, .ref 0)], [.int a3, .ref m], hp1) _
  refine px_cv m (as := [.int a3]) (rest := []) rfl rfl hm1 rfl rfl rfl rfl (Nat.le_of_ble_eq_true rfl) (hB) ?_
  show px_Go _ _ (362, [(5, .int 1), (4, .int 2), (3, .ref o), (2, .ref m), (1, .ref 8), (0, .ref 0)], [.int v], hp2) _
  refine px_a 2 (f' := (365, [(6, .int v), (5, .int 1), (4, .int 2), (3, .ref o), (2, .ref m), (1, .ref 8), (0, .ref 0)], [.ref m], hp2)) rfl ?_
  refine px_cv m (as := []) (rest := []) rfl rfl hm2 rfl rfl rfl rfl (Nat.le_of_ble_eq_true rfl) (hT) ?_
  show px_Go _ _ (368, [(6, .int v), (5, .int 1), (4, .int 2), (3, .ref o), (2, .ref m), (1, .ref 8), (0, .ref 0)], [.int 1], hp2) _
  refine px_a 5 (f' := (843, [(6, .int v), (5, .int 1), (4, .int 2), (3, .ref o), (2, .ref m), (1, .ref 8), (0, .ref 0)], [], hp2)) rfl ?_
  exact q_end2 h02
set_option maxRecDepth 20000 in
theorem q_placements_v {d m o : Nat} {hp hp1 hp2 : px_H} {a0 a1 a2 a3 a4 a5 : Int32} {v : Int32} (h0 : hp[(0 : Nat)]? = some (20, [.int a0, .int a1, .int a2, .int a3, .int a4, .int a5])) (h01 : hp1[(0 : Nat)]? = some (20, [.int a0, .int a1, .int a2, .int a3, .int a4, .int a5])) (h02 : hp2[(0 : Nat)]? = some (20, [.int a0, .int a1, .int a2, .int a3, .int a4, .int a5])) {vm vm2 : List Value} (hm1 : hp1[m]? = some (4, vm)) (hm2 : hp2[m]? = some (4, vm2)) (ho2 : hp2[o]? = some (11, [.long (Int32.toInt64 v)])) (hA : px_Go d 9 (0, [(0, .ref 8), (1, .int a3), (2, .ref o)], [], hp) (.inl (some (.int 0)), hp1)) (hB : px_Go d 87 (0, [(0, .ref m), (1, .int a3)], [], hp1) (.inl (some (.int v)), hp2)) (hT : px_Go d 99 (0, [(0, .ref m)], [], hp2) (.inl (some (.int 0)), hp2)) : px_Go (d + 1) 6 (339, [(4, .int 2), (3, .ref o), (2, .ref m), (1, .ref 8), (0, .ref 0)], [], hp) (.inl (some (.int 1)), hp2) := by
  refine px_a 5 (f' := (345, [(4, .int 2), (3, .ref o), (2, .ref m), (1, .ref 8), (0, .ref 0)], [.int 3, .ref 0, .ref 8], hp)) rfl ?_
  refine px_al 0 (.int a3) rfl h0 (Or.inl ⟨rfl, Or.inr rfl⟩) (by decide) (rfl) ?_
  show px_Go _ _ (346, [(4, .int 2), (3, .ref o), (2, .ref m), (1, .ref 8), (0, .ref 0)], [.int a3, .ref 8], hp) _
  refine px_a 1 (f' := (347, [(4, .int 2), (3, .ref o), (2, .ref m), (1, .ref 8), (0, .ref 0)], [.ref o, .int a3, .ref 8], hp)) rfl ?_
  refine px_cl (as := [.ref 8, .int a3, .ref o]) (rest := []) rfl rfl (hA) ?_
  show px_Go _ _ (350, [(4, .int 2), (3, .ref o), (2, .ref m), (1, .ref 8), (0, .ref 0)], [.int 0], hp1) _
  refine px_a 6 (f' := (358, [(5, .int 0), (4, .int 2), (3, .ref o), (2, .ref m), (1, .ref 8), (0, .ref 0)], [.int 3, .ref 0, .ref m], hp1)) rfl ?_
  refine px_al 0 (.int a3) rfl h01 (Or.inl ⟨rfl, Or.inr rfl⟩) (by decide) (rfl) ?_
  show px_Go _ _ (359, [(5, .int 0), (4, .int 2), (3, .ref o), (2, .ref m), (1, .ref 8), (0, .ref 0)], [.int a3, .ref m], hp1) _
  refine px_cv m (as := [.int a3]) (rest := []) rfl rfl hm1 rfl rfl rfl rfl (Nat.le_of_ble_eq_true rfl) (hB) ?_
  show px_Go _ _ (362, [(5, .int 0), (4, .int 2), (3, .ref o), (2, .ref m), (1, .ref 8), (0, .ref 0)], [.int v], hp2) _
  refine px_a 2 (f' := (365, [(6, .int v), (5, .int 0), (4, .int 2), (3, .ref o), (2, .ref m), (1, .ref 8), (0, .ref 0)], [.ref m], hp2)) rfl ?_
  refine px_cv m (as := []) (rest := []) rfl rfl hm2 rfl rfl rfl rfl (Nat.le_of_ble_eq_true rfl) (hT) ?_
  show px_Go _ _ (368, [(6, .int v), (5, .int 0), (4, .int 2), (3, .ref o), (2, .ref m), (1, .ref 8), (0, .ref 0)], [.int 0], hp2) _
  refine px_a 6 (f' := (382, [(6, .int v), (5, .int 0), (4, .int 2), (3, .ref o), (2, .ref m), (1, .ref 8), (0, .ref 0)], [.int 0, .ref o], hp2)) rfl ?_
  refine px_al o (.long (Int32.toInt64 v)) rfl ho2 (Or.inr (Or.inl ⟨rfl, rfl⟩)) (by decide) (rfl) ?_
  show px_Go _ _ (383, [(6, .int v), (5, .int 0), (4, .int 2), (3, .ref o), (2, .ref m), (1, .ref 8), (0, .ref 0)], [.long (Int32.toInt64 v)], hp2) _
  refine px_a 3 (f' := (387, [(6, .int v), (5, .int 0), (4, .int 2), (3, .ref o), (2, .ref m), (1, .ref 8), (0, .ref 0)], [.int (lg_cmp (Int32.toInt64 v) (Int32.toInt64 v))], hp2)) rfl ?_
  refine px_b1 true 392 rfl rfl (decide_eq_true (px_lg0 _)) ?_
  show px_Go _ _ (392, [(6, .int v), (5, .int 0), (4, .int 2), (3, .ref o), (2, .ref m), (1, .ref 8), (0, .ref 0)], [], hp2) _
  refine px_a 1 (f' := (843, [(6, .int v), (5, .int 0), (4, .int 2), (3, .ref o), (2, .ref m), (1, .ref 8), (0, .ref 0)], [], hp2)) rfl ?_
  exact q_end2 h02
set_option maxRecDepth 20000 in
theorem q_placement_t {d m o : Nat} {hp hp1 hp2 : px_H} {a0 a1 a2 a3 a4 a5 : Int32} {v : Int32} (h0 : hp[(0 : Nat)]? = some (20, [.int a0, .int a1, .int a2, .int a3, .int a4, .int a5])) (h01 : hp1[(0 : Nat)]? = some (20, [.int a0, .int a1, .int a2, .int a3, .int a4, .int a5])) (h02 : hp2[(0 : Nat)]? = some (20, [.int a0, .int a1, .int a2, .int a3, .int a4, .int a5])) {vm vm2 : List Value} (hm1 : hp1[m]? = some (4, vm)) (hm2 : hp2[m]? = some (4, vm2)) (hA : px_Go d 8 (0, [(0, .ref 8), (1, .int a3), (2, .int a4), (3, .int a5), (4, .ref o)], [], hp) (.inl (some (.int 1)), hp1)) (hB : px_Go d 86 (0, [(0, .ref m), (1, .int a3), (2, .int a4), (3, .int a5)], [], hp1) (.inl (some (.int v)), hp2)) (hT : px_Go d 99 (0, [(0, .ref m)], [], hp2) (.inl (some (.int 1)), hp2)) : px_Go (d + 1) 6 (395, [(4, .int 2), (3, .ref o), (2, .ref m), (1, .ref 8), (0, .ref 0)], [], hp) (.inl (some (.int 1)), hp2) := by
  refine px_a 5 (f' := (401, [(4, .int 2), (3, .ref o), (2, .ref m), (1, .ref 8), (0, .ref 0)], [.int 3, .ref 0, .ref 8], hp)) rfl ?_
  refine px_al 0 (.int a3) rfl h0 (Or.inl ⟨rfl, Or.inr rfl⟩) (by decide) (rfl) ?_
  show px_Go _ _ (402, [(4, .int 2), (3, .ref o), (2, .ref m), (1, .ref 8), (0, .ref 0)], [.int a3, .ref 8], hp) _
  refine px_a 4 (f' := (407, [(4, .int 2), (3, .ref o), (2, .ref m), (1, .ref 8), (0, .ref 0)], [.int 4, .ref 0, .int a3, .ref 8], hp)) rfl ?_
  refine px_al 0 (.int a4) rfl h0 (Or.inl ⟨rfl, Or.inr rfl⟩) (by decide) (rfl) ?_
  show px_Go _ _ (408, [(4, .int 2), (3, .ref o), (2, .ref m), (1, .ref 8), (0, .ref 0)], [.int a4, .int a3, .ref 8], hp) _
  refine px_a 4 (f' := (413, [(4, .int 2), (3, .ref o), (2, .ref m), (1, .ref 8), (0, .ref 0)], [.int 5, .ref 0, .int a4, .int a3, .ref 8], hp)) rfl ?_
  refine px_al 0 (.int a5) rfl h0 (Or.inl ⟨rfl, Or.inr rfl⟩) (by decide) (rfl) ?_
  show px_Go _ _ (414, [(4, .int 2), (3, .ref o), (2, .ref m), (1, .ref 8), (0, .ref 0)], [.int a5, .int a4, .int a3, .ref 8], hp) _
  refine px_a 1 (f' := (415, [(4, .int 2), (3, .ref o), (2, .ref m), (1, .ref 8), (0, .ref 0)], [.ref o, .int a5, .int a4, .int a3, .ref 8], hp)) rfl ?_
  refine px_cl (as := [.ref 8, .int a3, .int a4, .int a5, .ref o]) (rest := []) rfl rfl (hA) ?_
  show px_Go _ _ (418, [(4, .int 2), (3, .ref o), (2, .ref m), (1, .ref 8), (0, .ref 0)], [.int 1], hp1) _
  refine px_a 6 (f' := (426, [(5, .int 1), (4, .int 2), (3, .ref o), (2, .ref m), (1, .ref 8), (0, .ref 0)], [.int 3, .ref 0, .ref m], hp1)) rfl ?_
  refine px_al 0 (.int a3) rfl h01 (Or.inl ⟨rfl, Or.inr rfl⟩) (by decide) (rfl) ?_
  show px_Go _ _ (427, [(5, .int 1), (4, .int 2), (3, .ref o), (2, .ref m), (1, .ref 8), (0, .ref 0)], [.int a3, .ref m], hp1) _
  refine px_a 4 (f' := (432, [(5, .int 1), (4, .int 2), (3, .ref o), (2, .ref m), (1, .ref 8), (0, .ref 0)], [.int 4, .ref 0, .int a3, .ref m], hp1)) rfl ?_
  refine px_al 0 (.int a4) rfl h01 (Or.inl ⟨rfl, Or.inr rfl⟩) (by decide) (rfl) ?_
  show px_Go _ _ (433, [(5, .int 1), (4, .int 2), (3, .ref o), (2, .ref m), (1, .ref 8), (0, .ref 0)], [.int a4, .int a3, .ref m], hp1) _
  refine px_a 4 (f' := (438, [(5, .int 1), (4, .int 2), (3, .ref o), (2, .ref m), (1, .ref 8), (0, .ref 0)], [.int 5, .ref 0, .int a4, .int a3, .ref m], hp1)) rfl ?_
  refine px_al 0 (.int a5) rfl h01 (Or.inl ⟨rfl, Or.inr rfl⟩) (by decide) (rfl) ?_
  show px_Go _ _ (439, [(5, .int 1), (4, .int 2), (3, .ref o), (2, .ref m), (1, .ref 8), (0, .ref 0)], [.int a5, .int a4, .int a3, .ref m], hp1) _
  refine px_cv m (as := [.int a3, .int a4, .int a5]) (rest := []) rfl rfl hm1 rfl rfl rfl rfl (Nat.le_of_ble_eq_true rfl) (hB) ?_
  show px_Go _ _ (442, [(5, .int 1), (4, .int 2), (3, .ref o), (2, .ref m), (1, .ref 8), (0, .ref 0)], [.int v], hp2) _
  refine px_a 2 (f' := (445, [(6, .int v), (5, .int 1), (4, .int 2), (3, .ref o), (2, .ref m), (1, .ref 8), (0, .ref 0)], [.ref m], hp2)) rfl ?_
  refine px_cv m (as := []) (rest := []) rfl rfl hm2 rfl rfl rfl rfl (Nat.le_of_ble_eq_true rfl) (hT) ?_
  show px_Go _ _ (448, [(6, .int v), (5, .int 1), (4, .int 2), (3, .ref o), (2, .ref m), (1, .ref 8), (0, .ref 0)], [.int 1], hp2) _
  refine px_a 5 (f' := (843, [(6, .int v), (5, .int 1), (4, .int 2), (3, .ref o), (2, .ref m), (1, .ref 8), (0, .ref 0)], [], hp2)) rfl ?_
  exact q_end2 h02
set_option maxRecDepth 20000 in
theorem q_placement_v {d m o : Nat} {hp hp1 hp2 : px_H} {a0 a1 a2 a3 a4 a5 : Int32} {v : Int32} (h0 : hp[(0 : Nat)]? = some (20, [.int a0, .int a1, .int a2, .int a3, .int a4, .int a5])) (h01 : hp1[(0 : Nat)]? = some (20, [.int a0, .int a1, .int a2, .int a3, .int a4, .int a5])) (h02 : hp2[(0 : Nat)]? = some (20, [.int a0, .int a1, .int a2, .int a3, .int a4, .int a5])) {vm vm2 : List Value} (hm1 : hp1[m]? = some (4, vm)) (hm2 : hp2[m]? = some (4, vm2)) (ho2 : hp2[o]? = some (11, [.long (Int32.toInt64 v)])) (hA : px_Go d 8 (0, [(0, .ref 8), (1, .int a3), (2, .int a4), (3, .int a5), (4, .ref o)], [], hp) (.inl (some (.int 0)), hp1)) (hB : px_Go d 86 (0, [(0, .ref m), (1, .int a3), (2, .int a4), (3, .int a5)], [], hp1) (.inl (some (.int v)), hp2)) (hT : px_Go d 99 (0, [(0, .ref m)], [], hp2) (.inl (some (.int 0)), hp2)) : px_Go (d + 1) 6 (395, [(4, .int 2), (3, .ref o), (2, .ref m), (1, .ref 8), (0, .ref 0)], [], hp) (.inl (some (.int 1)), hp2) := by
  refine px_a 5 (f' := (401, [(4, .int 2), (3, .ref o), (2, .ref m), (1, .ref 8), (0, .ref 0)], [.int 3, .ref 0, .ref 8], hp)) rfl ?_
  refine px_al 0 (.int a3) rfl h0 (Or.inl ⟨rfl, Or.inr rfl⟩) (by decide) (rfl) ?_
  show px_Go _ _ (402, [(4, .int 2), (3, .ref o), (2, .ref m), (1, .ref 8), (0, .ref 0)], [.int a3, .ref 8], hp) _
  refine px_a 4 (f' := (407, [(4, .int 2), (3, .ref o), (2, .ref m), (1, .ref 8), (0, .ref 0)], [.int 4, .ref 0, .int a3, .ref 8], hp)) rfl ?_
  refine px_al 0 (.int a4) rfl h0 (Or.inl ⟨rfl, Or.inr rfl⟩) (by decide) (rfl) ?_
  show px_Go _ _ (408, [(4, .int 2), (3, .ref o), (2, .ref m), (1, .ref 8), (0, .ref 0)], [.int a4, .int a3, .ref 8], hp) _
  refine px_a 4 (f' := (413, [(4, .int 2), (3, .ref o), (2, .ref m), (1, .ref 8), (0, .ref 0)], [.int 5, .ref 0, .int a4, .int a3, .ref 8], hp)) rfl ?_
  refine px_al 0 (.int a5) rfl h0 (Or.inl ⟨rfl, Or.inr rfl⟩) (by decide) (rfl) ?_
  show px_Go _ _ (414, [(4, .int 2), (3, .ref o), (2, .ref m), (1, .ref 8), (0, .ref 0)], [.int a5, .int a4, .int a3, .ref 8], hp) _
  refine px_a 1 (f' := (415, [(4, .int 2), (3, .ref o), (2, .ref m), (1, .ref 8), (0, .ref 0)], [.ref o, .int a5, .int a4, .int a3, .ref 8], hp)) rfl ?_
  refine px_cl (as := [.ref 8, .int a3, .int a4, .int a5, .ref o]) (rest := []) rfl rfl (hA) ?_
  show px_Go _ _ (418, [(4, .int 2), (3, .ref o), (2, .ref m), (1, .ref 8), (0, .ref 0)], [.int 0], hp1) _
  refine px_a 6 (f' := (426, [(5, .int 0), (4, .int 2), (3, .ref o), (2, .ref m), (1, .ref 8), (0, .ref 0)], [.int 3, .ref 0, .ref m], hp1)) rfl ?_
  refine px_al 0 (.int a3) rfl h01 (Or.inl ⟨rfl, Or.inr rfl⟩) (by decide) (rfl) ?_
  show px_Go _ _ (427, [(5, .int 0), (4, .int 2), (3, .ref o), (2, .ref m), (1, .ref 8), (0, .ref 0)], [.int a3, .ref m], hp1) _
  refine px_a 4 (f' := (432, [(5, .int 0), (4, .int 2), (3, .ref o), (2, .ref m), (1, .ref 8), (0, .ref 0)], [.int 4, .ref 0, .int a3, .ref m], hp1)) rfl ?_
  refine px_al 0 (.int a4) rfl h01 (Or.inl ⟨rfl, Or.inr rfl⟩) (by decide) (rfl) ?_
  show px_Go _ _ (433, [(5, .int 0), (4, .int 2), (3, .ref o), (2, .ref m), (1, .ref 8), (0, .ref 0)], [.int a4, .int a3, .ref m], hp1) _
  refine px_a 4 (f' := (438, [(5, .int 0), (4, .int 2), (3, .ref o), (2, .ref m), (1, .ref 8), (0, .ref 0)], [.int 5, .ref 0, .int a4, .int a3, .ref m], hp1)) rfl ?_
  refine px_al 0 (.int a5) rfl h01 (Or.inl ⟨rfl, Or.inr rfl⟩) (by decide) (rfl) ?_
  show px_Go _ _ (439, [(5, .int 0), (4, .int 2), (3, .ref o), (2, .ref m), (1, .ref 8), (0, .ref 0)], [.int a5, .int a4, .int a3, .ref m], hp1) _
  refine px_cv m (as := [.int a3, .int a4, .int a5]) (rest := []) rfl rfl hm1 rfl rfl rfl rfl (Nat.le_of_ble_eq_true rfl) (hB) ?_
  show px_Go _ _ (442, [(5, .int 0), (4, .int 2), (3, .ref o), (2, .ref m), (1, .ref 8), (0, .ref 0)], [.int v], hp2) _
  refine px_a 2 (f' := (445, [(6, .int v), (5, .int 0), (4, .int 2), (3, .ref o), (2, .ref m), (1, .ref 8), (0, .ref 0)], [.ref m], hp2)) rfl ?_
  refine px_cv m (as := []) (rest := []) rfl rfl hm2 rfl rfl rfl rfl (Nat.le_of_ble_eq_true rfl) (hT) ?_
  show px_Go _ _ (448, [(6, .int v), (5, .int 0), (4, .int 2), (3, .ref o), (2, .ref m), (1, .ref 8), (0, .ref 0)], [.int 0], hp2) _
  refine px_a 6 (f' := (462, [(6, .int v), (5, .int 0), (4, .int 2), (3, .ref o), (2, .ref m), (1, .ref 8), (0, .ref 0)], [.int 0, .ref o], hp2)) rfl ?_
  refine px_al o (.long (Int32.toInt64 v)) rfl ho2 (Or.inr (Or.inl ⟨rfl, rfl⟩)) (by decide) (rfl) ?_
  show px_Go _ _ (463, [(6, .int v), (5, .int 0), (4, .int 2), (3, .ref o), (2, .ref m), (1, .ref 8), (0, .ref 0)], [.long (Int32.toInt64 v)], hp2) _
  refine px_a 3 (f' := (467, [(6, .int v), (5, .int 0), (4, .int 2), (3, .ref o), (2, .ref m), (1, .ref 8), (0, .ref 0)], [.int (lg_cmp (Int32.toInt64 v) (Int32.toInt64 v))], hp2)) rfl ?_
  refine px_b1 true 472 rfl rfl (decide_eq_true (px_lg0 _)) ?_
  show px_Go _ _ (472, [(6, .int v), (5, .int 0), (4, .int 2), (3, .ref o), (2, .ref m), (1, .ref 8), (0, .ref 0)], [], hp2) _
  refine px_a 1 (f' := (843, [(6, .int v), (5, .int 0), (4, .int 2), (3, .ref o), (2, .ref m), (1, .ref 8), (0, .ref 0)], [], hp2)) rfl ?_
  exact q_end2 h02
set_option maxRecDepth 20000 in
theorem q_weight_t {d m o : Nat} {hp hp1 hp2 : px_H} {a0 a1 a2 a3 a4 a5 : Int32} {v : Int32} (h0 : hp[(0 : Nat)]? = some (20, [.int a0, .int a1, .int a2, .int a3, .int a4, .int a5])) (h01 : hp1[(0 : Nat)]? = some (20, [.int a0, .int a1, .int a2, .int a3, .int a4, .int a5])) (h02 : hp2[(0 : Nat)]? = some (20, [.int a0, .int a1, .int a2, .int a3, .int a4, .int a5])) {vm vm2 : List Value} (hm1 : hp1[m]? = some (4, vm)) (hm2 : hp2[m]? = some (4, vm2)) (hA : px_Go d 11 (0, [(0, .ref 8), (1, .int a3), (2, .int a4), (3, .ref o)], [], hp) (.inl (some (.int 1)), hp1)) (hB : px_Go d 102 (0, [(0, .ref m), (1, .int a3), (2, .int a4)], [], hp1) (.inl (some (.int v)), hp2)) (hT : px_Go d 99 (0, [(0, .ref m)], [], hp2) (.inl (some (.int 1)), hp2)) : px_Go (d + 1) 6 (513, [(4, .int 2), (3, .ref o), (2, .ref m), (1, .ref 8), (0, .ref 0)], [], hp) (.inl (some (.int 1)), hp2) := by
  refine px_a 5 (f' := (519, [(4, .int 2), (3, .ref o), (2, .ref m), (1, .ref 8), (0, .ref 0)], [.int 3, .ref 0, .ref 8], hp)) rfl ?_
  refine px_al 0 (.int a3) rfl h0 (Or.inl ⟨rfl, Or.inr rfl⟩) (by decide) (rfl) ?_
  show px_Go _ _ (520, [(4, .int 2), (3, .ref o), (2, .ref m), (1, .ref 8), (0, .ref 0)], [.int a3, .ref 8], hp) _
  refine px_a 4 (f' := (525, [(4, .int 2), (3, .ref o), (2, .ref m), (1, .ref 8), (0, .ref 0)], [.int 4, .ref 0, .int a3, .ref 8], hp)) rfl ?_
  refine px_al 0 (.int a4) rfl h0 (Or.inl ⟨rfl, Or.inr rfl⟩) (by decide) (rfl) ?_
  show px_Go _ _ (526, [(4, .int 2), (3, .ref o), (2, .ref m), (1, .ref 8), (0, .ref 0)], [.int a4, .int a3, .ref 8], hp) _
  refine px_a 1 (f' := (527, [(4, .int 2), (3, .ref o), (2, .ref m), (1, .ref 8), (0, .ref 0)], [.ref o, .int a4, .int a3, .ref 8], hp)) rfl ?_
  refine px_cl (as := [.ref 8, .int a3, .int a4, .ref o]) (rest := []) rfl rfl (hA) ?_
  show px_Go _ _ (530, [(4, .int 2), (3, .ref o), (2, .ref m), (1, .ref 8), (0, .ref 0)], [.int 1], hp1) _
  refine px_a 6 (f' := (538, [(5, .int 1), (4, .int 2), (3, .ref o), (2, .ref m), (1, .ref 8), (0, .ref 0)], [.int 3, .ref 0, .ref m], hp1)) rfl ?_
  refine px_al 0 (.int a3) rfl h01 (Or.inl ⟨rfl, Or.inr rfl⟩) (by decide) (rfl) ?_
  show px_Go _ _ (539, [(5, .int 1), (4, .int 2), (3, .ref o), (2, .ref m), (1, .ref 8), (0, .ref 0)], [.int a3, .ref m], hp1) _
  refine px_a 4 (f' := (544, [(5, .int 1), (4, .int 2), (3, .ref o), (2, .ref m), (1, .ref 8), (0, .ref 0)], [.int 4, .ref 0, .int a3, .ref m], hp1)) rfl ?_
  refine px_al 0 (.int a4) rfl h01 (Or.inl ⟨rfl, Or.inr rfl⟩) (by decide) (rfl) ?_
  show px_Go _ _ (545, [(5, .int 1), (4, .int 2), (3, .ref o), (2, .ref m), (1, .ref 8), (0, .ref 0)], [.int a4, .int a3, .ref m], hp1) _
  refine px_cv m (as := [.int a3, .int a4]) (rest := []) rfl rfl hm1 rfl rfl rfl rfl (Nat.le_of_ble_eq_true rfl) (hB) ?_
  show px_Go _ _ (548, [(5, .int 1), (4, .int 2), (3, .ref o), (2, .ref m), (1, .ref 8), (0, .ref 0)], [.int v], hp2) _
  refine px_a 2 (f' := (551, [(6, .int v), (5, .int 1), (4, .int 2), (3, .ref o), (2, .ref m), (1, .ref 8), (0, .ref 0)], [.ref m], hp2)) rfl ?_
  refine px_cv m (as := []) (rest := []) rfl rfl hm2 rfl rfl rfl rfl (Nat.le_of_ble_eq_true rfl) (hT) ?_
  show px_Go _ _ (554, [(6, .int v), (5, .int 1), (4, .int 2), (3, .ref o), (2, .ref m), (1, .ref 8), (0, .ref 0)], [.int 1], hp2) _
  refine px_a 5 (f' := (843, [(6, .int v), (5, .int 1), (4, .int 2), (3, .ref o), (2, .ref m), (1, .ref 8), (0, .ref 0)], [], hp2)) rfl ?_
  exact q_end2 h02
set_option maxRecDepth 20000 in
theorem q_weight_v {d m o : Nat} {hp hp1 hp2 : px_H} {a0 a1 a2 a3 a4 a5 : Int32} {v : Int32} (h0 : hp[(0 : Nat)]? = some (20, [.int a0, .int a1, .int a2, .int a3, .int a4, .int a5])) (h01 : hp1[(0 : Nat)]? = some (20, [.int a0, .int a1, .int a2, .int a3, .int a4, .int a5])) (h02 : hp2[(0 : Nat)]? = some (20, [.int a0, .int a1, .int a2, .int a3, .int a4, .int a5])) {vm vm2 : List Value} (hm1 : hp1[m]? = some (4, vm)) (hm2 : hp2[m]? = some (4, vm2)) (ho2 : hp2[o]? = some (11, [.long (Int32.toInt64 v)])) (hA : px_Go d 11 (0, [(0, .ref 8), (1, .int a3), (2, .int a4), (3, .ref o)], [], hp) (.inl (some (.int 0)), hp1)) (hB : px_Go d 102 (0, [(0, .ref m), (1, .int a3), (2, .int a4)], [], hp1) (.inl (some (.int v)), hp2)) (hT : px_Go d 99 (0, [(0, .ref m)], [], hp2) (.inl (some (.int 0)), hp2)) : px_Go (d + 1) 6 (513, [(4, .int 2), (3, .ref o), (2, .ref m), (1, .ref 8), (0, .ref 0)], [], hp) (.inl (some (.int 1)), hp2) := by
  refine px_a 5 (f' := (519, [(4, .int 2), (3, .ref o), (2, .ref m), (1, .ref 8), (0, .ref 0)], [.int 3, .ref 0, .ref 8], hp)) rfl ?_
  refine px_al 0 (.int a3) rfl h0 (Or.inl ⟨rfl, Or.inr rfl⟩) (by decide) (rfl) ?_
  show px_Go _ _ (520, [(4, .int 2), (3, .ref o), (2, .ref m), (1, .ref 8), (0, .ref 0)], [.int a3, .ref 8], hp) _
  refine px_a 4 (f' := (525, [(4, .int 2), (3, .ref o), (2, .ref m), (1, .ref 8), (0, .ref 0)], [.int 4, .ref 0, .int a3, .ref 8], hp)) rfl ?_
  refine px_al 0 (.int a4) rfl h0 (Or.inl ⟨rfl, Or.inr rfl⟩) (by decide) (rfl) ?_
  show px_Go _ _ (526, [(4, .int 2), (3, .ref o), (2, .ref m), (1, .ref 8), (0, .ref 0)], [.int a4, .int a3, .ref 8], hp) _
  refine px_a 1 (f' := (527, [(4, .int 2), (3, .ref o), (2, .ref m), (1, .ref 8), (0, .ref 0)], [.ref o, .int a4, .int a3, .ref 8], hp)) rfl ?_
  refine px_cl (as := [.ref 8, .int a3, .int a4, .ref o]) (rest := []) rfl rfl (hA) ?_
  show px_Go _ _ (530, [(4, .int 2), (3, .ref o), (2, .ref m), (1, .ref 8), (0, .ref 0)], [.int 0], hp1) _
  refine px_a 6 (f' := (538, [(5, .int 0), (4, .int 2), (3, .ref o), (2, .ref m), (1, .ref 8), (0, .ref 0)], [.int 3, .ref 0, .ref m], hp1)) rfl ?_
  refine px_al 0 (.int a3) rfl h01 (Or.inl ⟨rfl, Or.inr rfl⟩) (by decide) (rfl) ?_
  show px_Go _ _ (539, [(5, .int 0), (4, .int 2), (3, .ref o), (2, .ref m), (1, .ref 8), (0, .ref 0)], [.int a3, .ref m], hp1) _
  refine px_a 4 (f' := (544, [(5, .int 0), (4, .int 2), (3, .ref o), (2, .ref m), (1, .ref 8), (0, .ref 0)], [.int 4, .ref 0, .int a3, .ref m], hp1)) rfl ?_
  refine px_al 0 (.int a4) rfl h01 (Or.inl ⟨rfl, Or.inr rfl⟩) (by decide) (rfl) ?_
  show px_Go _ _ (545, [(5, .int 0), (4, .int 2), (3, .ref o), (2, .ref m), (1, .ref 8), (0, .ref 0)], [.int a4, .int a3, .ref m], hp1) _
  refine px_cv m (as := [.int a3, .int a4]) (rest := []) rfl rfl hm1 rfl rfl rfl rfl (Nat.le_of_ble_eq_true rfl) (hB) ?_
  show px_Go _ _ (548, [(5, .int 0), (4, .int 2), (3, .ref o), (2, .ref m), (1, .ref 8), (0, .ref 0)], [.int v], hp2) _
  refine px_a 2 (f' := (551, [(6, .int v), (5, .int 0), (4, .int 2), (3, .ref o), (2, .ref m), (1, .ref 8), (0, .ref 0)], [.ref m], hp2)) rfl ?_
  refine px_cv m (as := []) (rest := []) rfl rfl hm2 rfl rfl rfl rfl (Nat.le_of_ble_eq_true rfl) (hT) ?_
  show px_Go _ _ (554, [(6, .int v), (5, .int 0), (4, .int 2), (3, .ref o), (2, .ref m), (1, .ref 8), (0, .ref 0)], [.int 0], hp2) _
  refine px_a 6 (f' := (568, [(6, .int v), (5, .int 0), (4, .int 2), (3, .ref o), (2, .ref m), (1, .ref 8), (0, .ref 0)], [.int 0, .ref o], hp2)) rfl ?_
  refine px_al o (.long (Int32.toInt64 v)) rfl ho2 (Or.inr (Or.inl ⟨rfl, rfl⟩)) (by decide) (rfl) ?_
  show px_Go _ _ (569, [(6, .int v), (5, .int 0), (4, .int 2), (3, .ref o), (2, .ref m), (1, .ref 8), (0, .ref 0)], [.long (Int32.toInt64 v)], hp2) _
  refine px_a 3 (f' := (573, [(6, .int v), (5, .int 0), (4, .int 2), (3, .ref o), (2, .ref m), (1, .ref 8), (0, .ref 0)], [.int (lg_cmp (Int32.toInt64 v) (Int32.toInt64 v))], hp2)) rfl ?_
  refine px_b1 true 578 rfl rfl (decide_eq_true (px_lg0 _)) ?_
  show px_Go _ _ (578, [(6, .int v), (5, .int 0), (4, .int 2), (3, .ref o), (2, .ref m), (1, .ref 8), (0, .ref 0)], [], hp2) _
  refine px_a 1 (f' := (843, [(6, .int v), (5, .int 0), (4, .int 2), (3, .ref o), (2, .ref m), (1, .ref 8), (0, .ref 0)], [], hp2)) rfl ?_
  exact q_end2 h02
set_option maxRecDepth 20000 in
theorem q_own_t {d m o : Nat} {hp hp1 hp2 : px_H} {a0 a1 a2 a3 a4 a5 : Int32} {v : Int32} (h0 : hp[(0 : Nat)]? = some (20, [.int a0, .int a1, .int a2, .int a3, .int a4, .int a5])) (h01 : hp1[(0 : Nat)]? = some (20, [.int a0, .int a1, .int a2, .int a3, .int a4, .int a5])) (h02 : hp2[(0 : Nat)]? = some (20, [.int a0, .int a1, .int a2, .int a3, .int a4, .int a5])) {vm vm2 : List Value} (hm1 : hp1[m]? = some (4, vm)) (hm2 : hp2[m]? = some (4, vm2)) (hA : px_Go d 7 (0, [(0, .ref 8), (1, .int a3), (2, .int a4), (3, .int a5), (4, .ref o)], [], hp) (.inl (some (.int 1)), hp1)) (hB : px_Go d 83 (0, [(0, .ref m), (1, .int a3), (2, .int a4), (3, .int a5)], [], hp1) (.inl (some (.int v)), hp2)) (hT : px_Go d 99 (0, [(0, .ref m)], [], hp2) (.inl (some (.int 1)), hp2)) : px_Go (d + 1) 6 (606, [(4, .int 2), (3, .ref o), (2, .ref m), (1, .ref 8), (0, .ref 0)], [], hp) (.inl (some (.int 1)), hp2) := by
  refine px_a 5 (f' := (612, [(4, .int 2), (3, .ref o), (2, .ref m), (1, .ref 8), (0, .ref 0)], [.int 3, .ref 0, .ref 8], hp)) rfl ?_
  refine px_al 0 (.int a3) rfl h0 (Or.inl ⟨rfl, Or.inr rfl⟩) (by decide) (rfl) ?_
  show px_Go _ _ (613, [(4, .int 2), (3, .ref o), (2, .ref m), (1, .ref 8), (0, .ref 0)], [.int a3, .ref 8], hp) _
  refine px_a 4 (f' := (618, [(4, .int 2), (3, .ref o), (2, .ref m), (1, .ref 8), (0, .ref 0)], [.int 4, .ref 0, .int a3, .ref 8], hp)) rfl ?_
  refine px_al 0 (.int a4) rfl h0 (Or.inl ⟨rfl, Or.inr rfl⟩) (by decide) (rfl) ?_
  show px_Go _ _ (619, [(4, .int 2), (3, .ref o), (2, .ref m), (1, .ref 8), (0, .ref 0)], [.int a4, .int a3, .ref 8], hp) _
  refine px_a 4 (f' := (624, [(4, .int 2), (3, .ref o), (2, .ref m), (1, .ref 8), (0, .ref 0)], [.int 5, .ref 0, .int a4, .int a3, .ref 8], hp)) rfl ?_
  refine px_al 0 (.int a5) rfl h0 (Or.inl ⟨rfl, Or.inr rfl⟩) (by decide) (rfl) ?_
  show px_Go _ _ (625, [(4, .int 2), (3, .ref o), (2, .ref m), (1, .ref 8), (0, .ref 0)], [.int a5, .int a4, .int a3, .ref 8], hp) _
  refine px_a 1 (f' := (626, [(4, .int 2), (3, .ref o), (2, .ref m), (1, .ref 8), (0, .ref 0)], [.ref o, .int a5, .int a4, .int a3, .ref 8], hp)) rfl ?_
  refine px_cl (as := [.ref 8, .int a3, .int a4, .int a5, .ref o]) (rest := []) rfl rfl (hA) ?_
  show px_Go _ _ (629, [(4, .int 2), (3, .ref o), (2, .ref m), (1, .ref 8), (0, .ref 0)], [.int 1], hp1) _
  refine px_a 6 (f' := (637, [(5, .int 1), (4, .int 2), (3, .ref o), (2, .ref m), (1, .ref 8), (0, .ref 0)], [.int 3, .ref 0, .ref m], hp1)) rfl ?_
  refine px_al 0 (.int a3) rfl h01 (Or.inl ⟨rfl, Or.inr rfl⟩) (by decide) (rfl) ?_
  show px_Go _ _ (638, [(5, .int 1), (4, .int 2), (3, .ref o), (2, .ref m), (1, .ref 8), (0, .ref 0)], [.int a3, .ref m], hp1) _
  refine px_a 4 (f' := (643, [(5, .int 1), (4, .int 2), (3, .ref o), (2, .ref m), (1, .ref 8), (0, .ref 0)], [.int 4, .ref 0, .int a3, .ref m], hp1)) rfl ?_
  refine px_al 0 (.int a4) rfl h01 (Or.inl ⟨rfl, Or.inr rfl⟩) (by decide) (rfl) ?_
  show px_Go _ _ (644, [(5, .int 1), (4, .int 2), (3, .ref o), (2, .ref m), (1, .ref 8), (0, .ref 0)], [.int a4, .int a3, .ref m], hp1) _
  refine px_a 4 (f' := (649, [(5, .int 1), (4, .int 2), (3, .ref o), (2, .ref m), (1, .ref 8), (0, .ref 0)], [.int 5, .ref 0, .int a4, .int a3, .ref m], hp1)) rfl ?_
  refine px_al 0 (.int a5) rfl h01 (Or.inl ⟨rfl, Or.inr rfl⟩) (by decide) (rfl) ?_
  show px_Go _ _ (650, [(5, .int 1), (4, .int 2), (3, .ref o), (2, .ref m), (1, .ref 8), (0, .ref 0)], [.int a5, .int a4, .int a3, .ref m], hp1) _
  refine px_cv m (as := [.int a3, .int a4, .int a5]) (rest := []) rfl rfl hm1 rfl rfl rfl rfl (Nat.le_of_ble_eq_true rfl) (hB) ?_
  show px_Go _ _ (653, [(5, .int 1), (4, .int 2), (3, .ref o), (2, .ref m), (1, .ref 8), (0, .ref 0)], [.int v], hp2) _
  refine px_a 2 (f' := (656, [(6, .int v), (5, .int 1), (4, .int 2), (3, .ref o), (2, .ref m), (1, .ref 8), (0, .ref 0)], [.ref m], hp2)) rfl ?_
  refine px_cv m (as := []) (rest := []) rfl rfl hm2 rfl rfl rfl rfl (Nat.le_of_ble_eq_true rfl) (hT) ?_
  show px_Go _ _ (659, [(6, .int v), (5, .int 1), (4, .int 2), (3, .ref o), (2, .ref m), (1, .ref 8), (0, .ref 0)], [.int 1], hp2) _
  refine px_a 5 (f' := (843, [(6, .int v), (5, .int 1), (4, .int 2), (3, .ref o), (2, .ref m), (1, .ref 8), (0, .ref 0)], [], hp2)) rfl ?_
  exact q_end2 h02
set_option maxRecDepth 20000 in
theorem q_own_0 {d m o : Nat} {hp hp1 hp2 : px_H} {a0 a1 a2 a3 a4 a5 : Int32}  (h0 : hp[(0 : Nat)]? = some (20, [.int a0, .int a1, .int a2, .int a3, .int a4, .int a5])) (h01 : hp1[(0 : Nat)]? = some (20, [.int a0, .int a1, .int a2, .int a3, .int a4, .int a5])) (h02 : hp2[(0 : Nat)]? = some (20, [.int a0, .int a1, .int a2, .int a3, .int a4, .int a5])) {vm vm2 : List Value} (hm1 : hp1[m]? = some (4, vm)) (hm2 : hp2[m]? = some (4, vm2)) (ho2 : hp2[o]? = some (11, [.long 0])) (hA : px_Go d 7 (0, [(0, .ref 8), (1, .int a3), (2, .int a4), (3, .int a5), (4, .ref o)], [], hp) (.inl (some (.int 0)), hp1)) (hB : px_Go d 83 (0, [(0, .ref m), (1, .int a3), (2, .int a4), (3, .int a5)], [], hp1) (.inl (some (.int 0)), hp2)) (hT : px_Go d 99 (0, [(0, .ref m)], [], hp2) (.inl (some (.int 0)), hp2)) : px_Go (d + 1) 6 (606, [(4, .int 2), (3, .ref o), (2, .ref m), (1, .ref 8), (0, .ref 0)], [], hp) (.inl (some (.int 1)), hp2) := by
  refine px_a 5 (f' := (612, [(4, .int 2), (3, .ref o), (2, .ref m), (1, .ref 8), (0, .ref 0)], [.int 3, .ref 0, .ref 8], hp)) rfl ?_
  refine px_al 0 (.int a3) rfl h0 (Or.inl ⟨rfl, Or.inr rfl⟩) (by decide) (rfl) ?_
  show px_Go _ _ (613, [(4, .int 2), (3, .ref o), (2, .ref m), (1, .ref 8), (0, .ref 0)], [.int a3, .ref 8], hp) _
  refine px_a 4 (f' := (618, [(4, .int 2), (3, .ref o), (2, .ref m), (1, .ref 8), (0, .ref 0)], [.int 4, .ref 0, .int a3, .ref 8], hp)) rfl ?_
  refine px_al 0 (.int a4) rfl h0 (Or.inl ⟨rfl, Or.inr rfl⟩) (by decide) (rfl) ?_
  show px_Go _ _ (619, [(4, .int 2), (3, .ref o), (2, .ref m), (1, .ref 8), (0, .ref 0)], [.int a4, .int a3, .ref 8], hp) _
  refine px_a 4 (f' := (624, [(4, .int 2), (3, .ref o), (2, .ref m), (1, .ref 8), (0, .ref 0)], [.int 5, .ref 0, .int a4, .int a3, .ref 8], hp)) rfl ?_
  refine px_al 0 (.int a5) rfl h0 (Or.inl ⟨rfl, Or.inr rfl⟩) (by decide) (rfl) ?_
  show px_Go _ _ (625, [(4, .int 2), (3, .ref o), (2, .ref m), (1, .ref 8), (0, .ref 0)], [.int a5, .int a4, .int a3, .ref 8], hp) _
  refine px_a 1 (f' := (626, [(4, .int 2), (3, .ref o), (2, .ref m), (1, .ref 8), (0, .ref 0)], [.ref o, .int a5, .int a4, .int a3, .ref 8], hp)) rfl ?_
  refine px_cl (as := [.ref 8, .int a3, .int a4, .int a5, .ref o]) (rest := []) rfl rfl (hA) ?_
  show px_Go _ _ (629, [(4, .int 2), (3, .ref o), (2, .ref m), (1, .ref 8), (0, .ref 0)], [.int 0], hp1) _
  refine px_a 6 (f' := (637, [(5, .int 0), (4, .int 2), (3, .ref o), (2, .ref m), (1, .ref 8), (0, .ref 0)], [.int 3, .ref 0, .ref m], hp1)) rfl ?_
  refine px_al 0 (.int a3) rfl h01 (Or.inl ⟨rfl, Or.inr rfl⟩) (by decide) (rfl) ?_
  show px_Go _ _ (638, [(5, .int 0), (4, .int 2), (3, .ref o), (2, .ref m), (1, .ref 8), (0, .ref 0)], [.int a3, .ref m], hp1) _
  refine px_a 4 (f' := (643, [(5, .int 0), (4, .int 2), (3, .ref o), (2, .ref m), (1, .ref 8), (0, .ref 0)], [.int 4, .ref 0, .int a3, .ref m], hp1)) rfl ?_
  refine px_al 0 (.int a4) rfl h01 (Or.inl ⟨rfl, Or.inr rfl⟩) (by decide) (rfl) ?_
  show px_Go _ _ (644, [(5, .int 0), (4, .int 2), (3, .ref o), (2, .ref m), (1, .ref 8), (0, .ref 0)], [.int a4, .int a3, .ref m], hp1) _
  refine px_a 4 (f' := (649, [(5, .int 0), (4, .int 2), (3, .ref o), (2, .ref m), (1, .ref 8), (0, .ref 0)], [.int 5, .ref 0, .int a4, .int a3, .ref m], hp1)) rfl ?_
  refine px_al 0 (.int a5) rfl h01 (Or.inl ⟨rfl, Or.inr rfl⟩) (by decide) (rfl) ?_
  show px_Go _ _ (650, [(5, .int 0), (4, .int 2), (3, .ref o), (2, .ref m), (1, .ref 8), (0, .ref 0)], [.int a5, .int a4, .int a3, .ref m], hp1) _
  refine px_cv m (as := [.int a3, .int a4, .int a5]) (rest := []) rfl rfl hm1 rfl rfl rfl rfl (Nat.le_of_ble_eq_true rfl) (hB) ?_
  show px_Go _ _ (653, [(5, .int 0), (4, .int 2), (3, .ref o), (2, .ref m), (1, .ref 8), (0, .ref 0)], [.int 0], hp2) _
  refine px_a 2 (f' := (656, [(6, .int 0), (5, .int 0), (4, .int 2), (3, .ref o), (2, .ref m), (1, .ref 8), (0, .ref 0)], [.ref m], hp2)) rfl ?_
  refine px_cv m (as := []) (rest := []) rfl rfl hm2 rfl rfl rfl rfl (Nat.le_of_ble_eq_true rfl) (hT) ?_
  show px_Go _ _ (659, [(6, .int 0), (5, .int 0), (4, .int 2), (3, .ref o), (2, .ref m), (1, .ref 8), (0, .ref 0)], [.int 0], hp2) _
  refine px_a 6 (f' := (673, [(6, .int 0), (5, .int 0), (4, .int 2), (3, .ref o), (2, .ref m), (1, .ref 8), (0, .ref 0)], [.int 0, .ref o], hp2)) rfl ?_
  refine px_al o (.long 0) rfl ho2 (Or.inr (Or.inl ⟨rfl, rfl⟩)) (by decide) (rfl) ?_
  show px_Go _ _ (674, [(6, .int 0), (5, .int 0), (4, .int 2), (3, .ref o), (2, .ref m), (1, .ref 8), (0, .ref 0)], [.long 0], hp2) _
  refine px_a 6 (f' := (843, [(6, .int 0), (5, .int 0), (4, .int 2), (3, .ref o), (2, .ref m), (1, .ref 8), (0, .ref 0)], [], hp2)) rfl ?_
  exact q_end2 h02
set_option maxRecDepth 20000 in
theorem q_own_1 {d m o : Nat} {hp hp1 hp2 : px_H} {a0 a1 a2 a3 a4 a5 : Int32}  (h0 : hp[(0 : Nat)]? = some (20, [.int a0, .int a1, .int a2, .int a3, .int a4, .int a5])) (h01 : hp1[(0 : Nat)]? = some (20, [.int a0, .int a1, .int a2, .int a3, .int a4, .int a5])) (h02 : hp2[(0 : Nat)]? = some (20, [.int a0, .int a1, .int a2, .int a3, .int a4, .int a5])) {vm vm2 : List Value} (hm1 : hp1[m]? = some (4, vm)) (hm2 : hp2[m]? = some (4, vm2)) (ho2 : hp2[o]? = some (11, [.long 1])) (hA : px_Go d 7 (0, [(0, .ref 8), (1, .int a3), (2, .int a4), (3, .int a5), (4, .ref o)], [], hp) (.inl (some (.int 0)), hp1)) (hB : px_Go d 83 (0, [(0, .ref m), (1, .int a3), (2, .int a4), (3, .int a5)], [], hp1) (.inl (some (.int 1)), hp2)) (hT : px_Go d 99 (0, [(0, .ref m)], [], hp2) (.inl (some (.int 0)), hp2)) : px_Go (d + 1) 6 (606, [(4, .int 2), (3, .ref o), (2, .ref m), (1, .ref 8), (0, .ref 0)], [], hp) (.inl (some (.int 1)), hp2) := by
  refine px_a 5 (f' := (612, [(4, .int 2), (3, .ref o), (2, .ref m), (1, .ref 8), (0, .ref 0)], [.int 3, .ref 0, .ref 8], hp)) rfl ?_
  refine px_al 0 (.int a3) rfl h0 (Or.inl ⟨rfl, Or.inr rfl⟩) (by decide) (rfl) ?_
  show px_Go _ _ (613, [(4, .int 2), (3, .ref o), (2, .ref m), (1, .ref 8), (0, .ref 0)], [.int a3, .ref 8], hp) _
  refine px_a 4 (f' := (618, [(4, .int 2), (3, .ref o), (2, .ref m), (1, .ref 8), (0, .ref 0)], [.int 4, .ref 0, .int a3, .ref 8], hp)) rfl ?_
  refine px_al 0 (.int a4) rfl h0 (Or.inl ⟨rfl, Or.inr rfl⟩) (by decide) (rfl) ?_
  show px_Go _ _ (619, [(4, .int 2), (3, .ref o), (2, .ref m), (1, .ref 8), (0, .ref 0)], [.int a4, .int a3, .ref 8], hp) _
  refine px_a 4 (f' := (624, [(4, .int 2), (3, .ref o), (2, .ref m), (1, .ref 8), (0, .ref 0)], [.int 5, .ref 0, .int a4, .int a3, .ref 8], hp)) rfl ?_
  refine px_al 0 (.int a5) rfl h0 (Or.inl ⟨rfl, Or.inr rfl⟩) (by decide) (rfl) ?_
  show px_Go _ _ (625, [(4, .int 2), (3, .ref o), (2, .ref m), (1, .ref 8), (0, .ref 0)], [.int a5, .int a4, .int a3, .ref 8], hp) _
  refine px_a 1 (f' := (626, [(4, .int 2), (3, .ref o), (2, .ref m), (1, .ref 8), (0, .ref 0)], [.ref o, .int a5, .int a4, .int a3, .ref 8], hp)) rfl ?_
  refine px_cl (as := [.ref 8, .int a3, .int a4, .int a5, .ref o]) (rest := []) rfl rfl (hA) ?_
  show px_Go _ _ (629, [(4, .int 2), (3, .ref o), (2, .ref m), (1, .ref 8), (0, .ref 0)], [.int 0], hp1) _
  refine px_a 6 (f' := (637, [(5, .int 0), (4, .int 2), (3, .ref o), (2, .ref m), (1, .ref 8), (0, .ref 0)], [.int 3, .ref 0, .ref m], hp1)) rfl ?_
  refine px_al 0 (.int a3) rfl h01 (Or.inl ⟨rfl, Or.inr rfl⟩) (by decide) (rfl) ?_
  show px_Go _ _ (638, [(5, .int 0), (4, .int 2), (3, .ref o), (2, .ref m), (1, .ref 8), (0, .ref 0)], [.int a3, .ref m], hp1) _
  refine px_a 4 (f' := (643, [(5, .int 0), (4, .int 2), (3, .ref o), (2, .ref m), (1, .ref 8), (0, .ref 0)], [.int 4, .ref 0, .int a3, .ref m], hp1)) rfl ?_
  refine px_al 0 (.int a4) rfl h01 (Or.inl ⟨rfl, Or.inr rfl⟩) (by decide) (rfl) ?_
  show px_Go _ _ (644, [(5, .int 0), (4, .int 2), (3, .ref o), (2, .ref m), (1, .ref 8), (0, .ref 0)], [.int a4, .int a3, .ref m], hp1) _
  refine px_a 4 (f' := (649, [(5, .int 0), (4, .int 2), (3, .ref o), (2, .ref m), (1, .ref 8), (0, .ref 0)], [.int 5, .ref 0, .int a4, .int a3, .ref m], hp1)) rfl ?_
  refine px_al 0 (.int a5) rfl h01 (Or.inl ⟨rfl, Or.inr rfl⟩) (by decide) (rfl) ?_
  show px_Go _ _ (650, [(5, .int 0), (4, .int 2), (3, .ref o), (2, .ref m), (1, .ref 8), (0, .ref 0)], [.int a5, .int a4, .int a3, .ref m], hp1) _
  refine px_cv m (as := [.int a3, .int a4, .int a5]) (rest := []) rfl rfl hm1 rfl rfl rfl rfl (Nat.le_of_ble_eq_true rfl) (hB) ?_
  show px_Go _ _ (653, [(5, .int 0), (4, .int 2), (3, .ref o), (2, .ref m), (1, .ref 8), (0, .ref 0)], [.int 1], hp2) _
  refine px_a 2 (f' := (656, [(6, .int 1), (5, .int 0), (4, .int 2), (3, .ref o), (2, .ref m), (1, .ref 8), (0, .ref 0)], [.ref m], hp2)) rfl ?_
  refine px_cv m (as := []) (rest := []) rfl rfl hm2 rfl rfl rfl rfl (Nat.le_of_ble_eq_true rfl) (hT) ?_
  show px_Go _ _ (659, [(6, .int 1), (5, .int 0), (4, .int 2), (3, .ref o), (2, .ref m), (1, .ref 8), (0, .ref 0)], [.int 0], hp2) _
  refine px_a 6 (f' := (673, [(6, .int 1), (5, .int 0), (4, .int 2), (3, .ref o), (2, .ref m), (1, .ref 8), (0, .ref 0)], [.int 0, .ref o], hp2)) rfl ?_
  refine px_al o (.long 1) rfl ho2 (Or.inr (Or.inl ⟨rfl, rfl⟩)) (by decide) (rfl) ?_
  show px_Go _ _ (674, [(6, .int 1), (5, .int 0), (4, .int 2), (3, .ref o), (2, .ref m), (1, .ref 8), (0, .ref 0)], [.long 1], hp2) _
  refine px_a 7 (f' := (843, [(6, .int 1), (5, .int 0), (4, .int 2), (3, .ref o), (2, .ref m), (1, .ref 8), (0, .ref 0)], [], hp2)) rfl ?_
  exact q_end2 h02
