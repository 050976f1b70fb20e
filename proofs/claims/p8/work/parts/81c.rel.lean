theorem l_fa {n : Nat} {M : pa_M} {hp hp1 : px_H} (G : pa_Fr n M hp hp1) {a r t : Nat} {vs : List Value} (h : hp[a]? = some (t, vs)) (ha : pa_rg n a = r) (ht : 10 ≤ t) (hM : ¬ (r, 0) ∈ M) : hp1[a]? = some (t, vs) := by
  obtain ⟨us, g1, g2, g3⟩ := G _ _ _ h
  rw [g1]
  have : us = vs := by
    apply List.ext_getElem?
    intro k
    refine g3 k ?_
    rw [if_neg (by omega), ha]
    exact hM
  rw [this]
/-- the class's and the model's objects as the relation has them -/
theorem l_obj {n : Nat} {hp : px_H} (H : pa_Hi n hp) {W V : Nat} {sh : Int64} (hW : W ≤ 6) (hV : V ≤ 6) (f1 : pa_fd hp 8 0 = some (.int (nI W))) (f2 : pa_fd hp 8 1 = some (.int (nI V))) (f5 : pa_fd hp 8 8 = some (.long sh)) : ∃ fc fd : Int32, hp[(8 : Nat)]? = some (3, [.int (nI W), .int (nI V), .ref 9, .ref 28, .ref 29, .ref 30, .ref (34 + n), .int fc, .long sh, .int fd]) := by
  obtain ⟨W', V', fc, fd, sh', hW', hV', -, hc, -, -, -, -⟩ := pa_cls2 H
  rw [pa_fd_get hc] at f1 f2 f5
  cases f5
  have e1 : nI W' = nI W := by injection f1 with q; injection q
  have e2 : nI V' = nI V := by injection f2 with q; injection q
  rw [e1, e2] at hc
  exact ⟨fc, fd, hc⟩
theorem l_objm {n : Nat} {hp : px_H} (H : pa_Hi n hp) {w h : Int32} (f3 : pa_fd hp (38 + n) 1 = some (.int w)) (f4 : pa_fd hp (38 + n) 2 = some (.int h)) : ∃ th pn pl fo le ru : Int32, hp[38 + n]? = some (4, m_O n th w h pn pl fo le ru) := by
  obtain ⟨th, w', h', pn, pl, fo, le, ru, hm⟩ := pa_modO H
  rw [pa_fd_get hm] at f3 f4
  cases f3
  cases f4
  exact ⟨th, pn, pl, fo, le, ru, hm⟩
theorem l_out {n : Nat} {hp : px_H} (H : pa_Hi n hp) {v : Value} (f : pa_fd hp (52 + n) 0 = some v) : ∃ vs, hp[52 + n]? = some (11, vs) ∧ vs[(0 : Nat)]? = some v := by
  obtain ⟨vs, hv, -⟩ := pa_arl (a := 52 + n) (i := 20) H (by omega) (by decide) (by decide) rfl
  rw [pa_fd_get hv] at f
  exact ⟨vs, hv, f⟩
theorem l_fdo {n : Nat} {M : pa_M} {hp hp1 : px_H} (H : pa_Hi n hp) (G : pa_Fr n M hp hp1) (hM : ¬ (38, 0) ∈ M) : pa_fd hp1 (52 + n) 0 = pa_fd hp (52 + n) 0 := by
  obtain ⟨vs, hv, -⟩ := pa_arl (a := 52 + n) (i := 20) H (by omega) (by decide) (by decide) rfl
  rw [pa_fd_get hv, pa_fd_get (l_fa G hv (r38 n) (by decide) hM)]
theorem l_fset {hp : px_H} {a b k : Nat} {c : px_C} (h : a ≠ b) : pa_fd (hp.set a c) b k = pa_fd hp b k := by
  unfold pa_fd
  rw [List.getElem?_set_ne h]
set_option maxRecDepth 20000 in
theorem l_e5 {n : Nat} {hp hp' : px_H} {p0 p1 p2 : Int32} {w8 h8 fc fd : Int32} {sh : Int64} {b2 b3 b4 b5 b6 : Nat} (hc : hp[(8 : Nat)]? = some (3, [.int w8, .int h8, .ref b2, .ref b3, .ref b4, .ref b5, .ref b6, .int fc, .long sh, .int fd])) {z : Int32} {vs : List Value} (hg : px_Go 10 46 (0, [(0, .ref 8), (1, .int p0), (2, .int p1), (3, .int p2)], [], hp) (.inl (some (.int z)), hp')) (hv2 : hp'[52 + n]? = some (11, vs)) (hlt : Int32.toNatClampNeg 0 < vs.length) : px_Go 11 5 (0, [(0, .ref 8), (1, .int p0), (2, .int p1), (3, .int p2), (4, .ref (52 + n))], [], hp) (.inl (some (.int 0)), hp'.set (52 + n) (11, vs.set (Int32.toNatClampNeg 0) (.long (if z = 0 then 0 else 1)))) := by
  by_cases hz : z = 0
  · rw [if_pos hz]
    refine px_a 6 (f' := (7, [(0, .ref 8), (1, .int p0), (2, .int p1), (3, .int p2), (4, .ref (52 + n))], [.int p2, .int p1, .int p0, .ref 8, .int 0, .ref (52 + n)], hp)) rfl ?_
    refine px_cv 8 (as := [.int p0, .int p1, .int p2]) (rest := [.int 0, .ref (52 + n)]) rfl rfl hc rfl rfl rfl rfl (Nat.le_of_ble_eq_true rfl) (hg) ?_
    show px_Go _ _ (10, [(0, .ref 8), (1, .int p0), (2, .int p1), (3, .int p2), (4, .ref (52 + n))], [.int z, .int 0, .ref (52 + n)], hp') _
    refine px_b1 true 17 rfl rfl (decide_eq_true hz) ?_
    show px_Go _ _ (17, [(0, .ref 8), (1, .int p0), (2, .int p1), (3, .int p2), (4, .ref (52 + n))], [.int 0, .ref (52 + n)], hp') _
    refine px_a 1 (f' := (18, [(0, .ref 8), (1, .int p0), (2, .int p1), (3, .int p2), (4, .ref (52 + n))], [.long 0, .int 0, .ref (52 + n)], hp')) rfl ?_
    refine px_las (52 + n) rfl hv2 (by omega) (by decide) (hlt) ?_
    have hf1__52___n_ : (hp'.set (52 + n) (11, vs.set (Int32.toNatClampNeg 0) (.long 0)))[(52 + n)]? = some (11, vs.set (Int32.toNatClampNeg 0) (.long 0)) := px_self hv2
    show px_Go _ _ (19, [(0, .ref 8), (1, .int p0), (2, .int p1), (3, .int p2), (4, .ref (52 + n))], [], (hp'.set (52 + n) (11, vs.set (Int32.toNatClampNeg 0) (.long 0)))) _
    refine px_a 2 (f' := (27, [(0, .ref 8), (1, .int p0), (2, .int p1), (3, .int p2), (4, .ref (52 + n))], [.int 0], (hp'.set (52 + n) (11, vs.set (Int32.toNatClampNeg 0) (.long 0))))) rfl ?_
    exact px_ri rfl rfl rfl
  · rw [if_neg hz]
    refine px_a 6 (f' := (7, [(0, .ref 8), (1, .int p0), (2, .int p1), (3, .int p2), (4, .ref (52 + n))], [.int p2, .int p1, .int p0, .ref 8, .int 0, .ref (52 + n)], hp)) rfl ?_
    refine px_cv 8 (as := [.int p0, .int p1, .int p2]) (rest := [.int 0, .ref (52 + n)]) rfl rfl hc rfl rfl rfl rfl (Nat.le_of_ble_eq_true rfl) (hg) ?_
    show px_Go _ _ (10, [(0, .ref 8), (1, .int p0), (2, .int p1), (3, .int p2), (4, .ref (52 + n))], [.int z, .int 0, .ref (52 + n)], hp') _
    refine px_b1 false 17 rfl rfl (decide_eq_false hz) ?_
    show px_Go _ _ (13, [(0, .ref 8), (1, .int p0), (2, .int p1), (3, .int p2), (4, .ref (52 + n))], [.int 0, .ref (52 + n)], hp') _
    refine px_a 2 (f' := (18, [(0, .ref 8), (1, .int p0), (2, .int p1), (3, .int p2), (4, .ref (52 + n))], [.long 1, .int 0, .ref (52 + n)], hp')) rfl ?_
    refine px_las (52 + n) rfl hv2 (by omega) (by decide) (hlt) ?_
    have hf1__52___n_ : (hp'.set (52 + n) (11, vs.set (Int32.toNatClampNeg 0) (.long 1)))[(52 + n)]? = some (11, vs.set (Int32.toNatClampNeg 0) (.long 1)) := px_self hv2
    show px_Go _ _ (19, [(0, .ref 8), (1, .int p0), (2, .int p1), (3, .int p2), (4, .ref (52 + n))], [], (hp'.set (52 + n) (11, vs.set (Int32.toNatClampNeg 0) (.long 1)))) _
    refine px_a 2 (f' := (27, [(0, .ref 8), (1, .int p0), (2, .int p1), (3, .int p2), (4, .ref (52 + n))], [.int 0], (hp'.set (52 + n) (11, vs.set (Int32.toNatClampNeg 0) (.long 1))))) rfl ?_
    exact px_ri rfl rfl rfl
set_option maxRecDepth 20000 in
theorem l_t5 {n : Nat} {hp hp' : px_H} {p0 p1 p2 : Int32} {w8 h8 fc fd : Int32} {sh : Int64} {b2 b3 b4 b5 b6 : Nat} (hc : hp[(8 : Nat)]? = some (3, [.int w8, .int h8, .ref b2, .ref b3, .ref b4, .ref b5, .ref b6, .int fc, .long sh, .int fd])) (hg : px_Go 10 46 (0, [(0, .ref 8), (1, .int p0), (2, .int p1), (3, .int p2)], [], hp) (.inr "java/lang/ArrayIndexOutOfBoundsException", hp')) : px_Go 11 5 (0, [(0, .ref 8), (1, .int p0), (2, .int p1), (3, .int p2), (4, .ref (52 + n))], [], hp) (.inl (some (.int 1)), hp') := by
  refine px_a 6 (f' := (7, [(0, .ref 8), (1, .int p0), (2, .int p1), (3, .int p2), (4, .ref (52 + n))], [.int p2, .int p1, .int p0, .ref 8, .int 0, .ref (52 + n)], hp)) rfl ?_
  exact px_cvc 8 (as := [.int p0, .int p1, .int p2]) (rest := [.int 0, .ref (52 + n)]) rfl rfl hc rfl rfl rfl rfl (Nat.le_of_ble_eq_true rfl) (hg) (px_hdA (by decide) (by decide))
set_option maxRecDepth 20000 in
theorem l_e7 {n : Nat} {hp hp' : px_H} {p0 p1 p2 : Int32} {w8 h8 fc fd : Int32} {sh : Int64} {b2 b3 b4 b5 b6 : Nat} (hc : hp[(8 : Nat)]? = some (3, [.int w8, .int h8, .ref b2, .ref b3, .ref b4, .ref b5, .ref b6, .int fc, .long sh, .int fd])) {z : Int32} {vs : List Value} (hg : px_Go 10 54 (0, [(0, .ref 8), (1, .int p0), (2, .int p1), (3, .int p2)], [], hp) (.inl (some (.int z)), hp')) (hv2 : hp'[52 + n]? = some (11, vs)) (hlt : Int32.toNatClampNeg 0 < vs.length) : px_Go 11 7 (0, [(0, .ref 8), (1, .int p0), (2, .int p1), (3, .int p2), (4, .ref (52 + n))], [], hp) (.inl (some (.int 0)), hp'.set (52 + n) (11, vs.set (Int32.toNatClampNeg 0) (.long (if z = 0 then 0 else 1)))) := by
  by_cases hz : z = 0
  · rw [if_pos hz]
    refine px_a 6 (f' := (7, [(0, .ref 8), (1, .int p0), (2, .int p1), (3, .int p2), (4, .ref (52 + n))], [.int p2, .int p1, .int p0, .ref 8, .int 0, .ref (52 + n)], hp)) rfl ?_
    refine px_cv 8 (as := [.int p0, .int p1, .int p2]) (rest := [.int 0, .ref (52 + n)]) rfl rfl hc rfl rfl rfl rfl (Nat.le_of_ble_eq_true rfl) (hg) ?_
    show px_Go _ _ (10, [(0, .ref 8), (1, .int p0), (2, .int p1), (3, .int p2), (4, .ref (52 + n))], [.int z, .int 0, .ref (52 + n)], hp') _
    refine px_b1 true 17 rfl rfl (decide_eq_true hz) ?_
    show px_Go _ _ (17, [(0, .ref 8), (1, .int p0), (2, .int p1), (3, .int p2), (4, .ref (52 + n))], [.int 0, .ref (52 + n)], hp') _
    refine px_a 1 (f' := (18, [(0, .ref 8), (1, .int p0), (2, .int p1), (3, .int p2), (4, .ref (52 + n))], [.long 0, .int 0, .ref (52 + n)], hp')) rfl ?_
    refine px_las (52 + n) rfl hv2 (by omega) (by decide) (hlt) ?_
    have hf1__52___n_ : (hp'.set (52 + n) (11, vs.set (Int32.toNatClampNeg 0) (.long 0)))[(52 + n)]? = some (11, vs.set (Int32.toNatClampNeg 0) (.long 0)) := px_self hv2
    show px_Go _ _ (19, [(0, .ref 8), (1, .int p0), (2, .int p1), (3, .int p2), (4, .ref (52 + n))], [], (hp'.set (52 + n) (11, vs.set (Int32.toNatClampNeg 0) (.long 0)))) _
    refine px_a 2 (f' := (27, [(0, .ref 8), (1, .int p0), (2, .int p1), (3, .int p2), (4, .ref (52 + n))], [.int 0], (hp'.set (52 + n) (11, vs.set (Int32.toNatClampNeg 0) (.long 0))))) rfl ?_
    exact px_ri rfl rfl rfl
  · rw [if_neg hz]
    refine px_a 6 (f' := (7, [(0, .ref 8), (1, .int p0), (2, .int p1), (3, .int p2), (4, .ref (52 + n))], [.int p2, .int p1, .int p0, .ref 8, .int 0, .ref (52 + n)], hp)) rfl ?_
    refine px_cv 8 (as := [.int p0, .int p1, .int p2]) (rest := [.int 0, .ref (52 + n)]) rfl rfl hc rfl rfl rfl rfl (Nat.le_of_ble_eq_true rfl) (hg) ?_
    show px_Go _ _ (10, [(0, .ref 8), (1, .int p0), (2, .int p1), (3, .int p2), (4, .ref (52 + n))], [.int z, .int 0, .ref (52 + n)], hp') _
    refine px_b1 false 17 rfl rfl (decide_eq_false hz) ?_
    show px_Go _ _ (13, [(0, .ref 8), (1, .int p0), (2, .int p1), (3, .int p2), (4, .ref (52 + n))], [.int 0, .ref (52 + n)], hp') _
    refine px_a 2 (f' := (18, [(0, .ref 8), (1, .int p0), (2, .int p1), (3, .int p2), (4, .ref (52 + n))], [.long 1, .int 0, .ref (52 + n)], hp')) rfl ?_
    refine px_las (52 + n) rfl hv2 (by omega) (by decide) (hlt) ?_
    have hf1__52___n_ : (hp'.set (52 + n) (11, vs.set (Int32.toNatClampNeg 0) (.long 1)))[(52 + n)]? = some (11, vs.set (Int32.toNatClampNeg 0) (.long 1)) := px_self hv2
    show px_Go _ _ (19, [(0, .ref 8), (1, .int p0), (2, .int p1), (3, .int p2), (4, .ref (52 + n))], [], (hp'.set (52 + n) (11, vs.set (Int32.toNatClampNeg 0) (.long 1)))) _
    refine px_a 2 (f' := (27, [(0, .ref 8), (1, .int p0), (2, .int p1), (3, .int p2), (4, .ref (52 + n))], [.int 0], (hp'.set (52 + n) (11, vs.set (Int32.toNatClampNeg 0) (.long 1))))) rfl ?_
    exact px_ri rfl rfl rfl
set_option maxRecDepth 20000 in
theorem l_t7 {n : Nat} {hp hp' : px_H} {p0 p1 p2 : Int32} {w8 h8 fc fd : Int32} {sh : Int64} {b2 b3 b4 b5 b6 : Nat} (hc : hp[(8 : Nat)]? = some (3, [.int w8, .int h8, .ref b2, .ref b3, .ref b4, .ref b5, .ref b6, .int fc, .long sh, .int fd])) (hg : px_Go 10 54 (0, [(0, .ref 8), (1, .int p0), (2, .int p1), (3, .int p2)], [], hp) (.inr "java/lang/ArrayIndexOutOfBoundsException", hp')) : px_Go 11 7 (0, [(0, .ref 8), (1, .int p0), (2, .int p1), (3, .int p2), (4, .ref (52 + n))], [], hp) (.inl (some (.int 1)), hp') := by
  refine px_a 6 (f' := (7, [(0, .ref 8), (1, .int p0), (2, .int p1), (3, .int p2), (4, .ref (52 + n))], [.int p2, .int p1, .int p0, .ref 8, .int 0, .ref (52 + n)], hp)) rfl ?_
  exact px_cvc 8 (as := [.int p0, .int p1, .int p2]) (rest := [.int 0, .ref (52 + n)]) rfl rfl hc rfl rfl rfl rfl (Nat.le_of_ble_eq_true rfl) (hg) (px_hdA (by decide) (by decide))
set_option maxRecDepth 20000 in
theorem l_e8 {n : Nat} {hp hp' : px_H} {p0 p1 p2 : Int32} {w8 h8 fc fd : Int32} {sh : Int64} {b2 b3 b4 b5 b6 : Nat} (hc : hp[(8 : Nat)]? = some (3, [.int w8, .int h8, .ref b2, .ref b3, .ref b4, .ref b5, .ref b6, .int fc, .long sh, .int fd])) {z : Int32} {vs : List Value} (hg : px_Go 10 57 (0, [(0, .ref 8), (1, .int p0), (2, .int p1), (3, .int p2)], [], hp) (.inl (some (.int z)), hp')) (hv2 : hp'[52 + n]? = some (11, vs)) (hlt : Int32.toNatClampNeg 0 < vs.length) : px_Go 11 8 (0, [(0, .ref 8), (1, .int p0), (2, .int p1), (3, .int p2), (4, .ref (52 + n))], [], hp) (.inl (some (.int 0)), hp'.set (52 + n) (11, vs.set (Int32.toNatClampNeg 0) (.long (Int32.toInt64 z)))) := by
  refine px_a 6 (f' := (7, [(0, .ref 8), (1, .int p0), (2, .int p1), (3, .int p2), (4, .ref (52 + n))], [.int p2, .int p1, .int p0, .ref 8, .int 0, .ref (52 + n)], hp)) rfl ?_
  refine px_cv 8 (as := [.int p0, .int p1, .int p2]) (rest := [.int 0, .ref (52 + n)]) rfl rfl hc rfl rfl rfl rfl (Nat.le_of_ble_eq_true rfl) (hg) ?_
  show px_Go _ _ (10, [(0, .ref 8), (1, .int p0), (2, .int p1), (3, .int p2), (4, .ref (52 + n))], [.int z, .int 0, .ref (52 + n)], hp') _
  refine px_a 1 (f' := (11, [(0, .ref 8), (1, .int p0), (2, .int p1), (3, .int p2), (4, .ref (52 + n))], [.long (Int32.toInt64 z), .int 0, .ref (52 + n)], hp')) rfl ?_
  refine px_las (52 + n) rfl hv2 (by omega) (by decide) (hlt) ?_
  have hf1__52___n_ : (hp'.set (52 + n) (11, vs.set (Int32.toNatClampNeg 0) (.long (Int32.toInt64 z))))[(52 + n)]? = some (11, vs.set (Int32.toNatClampNeg 0) (.long (Int32.toInt64 z))) := px_self hv2
  show px_Go _ _ (12, [(0, .ref 8), (1, .int p0), (2, .int p1), (3, .int p2), (4, .ref (52 + n))], [], (hp'.set (52 + n) (11, vs.set (Int32.toNatClampNeg 0) (.long (Int32.toInt64 z))))) _
  refine px_a 2 (f' := (20, [(0, .ref 8), (1, .int p0), (2, .int p1), (3, .int p2), (4, .ref (52 + n))], [.int 0], (hp'.set (52 + n) (11, vs.set (Int32.toNatClampNeg 0) (.long (Int32.toInt64 z)))))) rfl ?_
  exact px_ri rfl rfl rfl
set_option maxRecDepth 20000 in
theorem l_t8 {n : Nat} {hp hp' : px_H} {p0 p1 p2 : Int32} {w8 h8 fc fd : Int32} {sh : Int64} {b2 b3 b4 b5 b6 : Nat} (hc : hp[(8 : Nat)]? = some (3, [.int w8, .int h8, .ref b2, .ref b3, .ref b4, .ref b5, .ref b6, .int fc, .long sh, .int fd])) (hg : px_Go 10 57 (0, [(0, .ref 8), (1, .int p0), (2, .int p1), (3, .int p2)], [], hp) (.inr "java/lang/ArrayIndexOutOfBoundsException", hp')) : px_Go 11 8 (0, [(0, .ref 8), (1, .int p0), (2, .int p1), (3, .int p2), (4, .ref (52 + n))], [], hp) (.inl (some (.int 1)), hp') := by
  refine px_a 6 (f' := (7, [(0, .ref 8), (1, .int p0), (2, .int p1), (3, .int p2), (4, .ref (52 + n))], [.int p2, .int p1, .int p0, .ref 8, .int 0, .ref (52 + n)], hp)) rfl ?_
  exact px_cvc 8 (as := [.int p0, .int p1, .int p2]) (rest := [.int 0, .ref (52 + n)]) rfl rfl hc rfl rfl rfl rfl (Nat.le_of_ble_eq_true rfl) (hg) (px_hdA (by decide) (by decide))
set_option maxRecDepth 20000 in
theorem l_e9 {n : Nat} {hp hp' : px_H} {p0 : Int32} {w8 h8 fc fd : Int32} {sh : Int64} {b2 b3 b4 b5 b6 : Nat} (hc : hp[(8 : Nat)]? = some (3, [.int w8, .int h8, .ref b2, .ref b3, .ref b4, .ref b5, .ref b6, .int fc, .long sh, .int fd])) {z : Int32} {vs : List Value} (hg : px_Go 10 58 (0, [(0, .ref 8), (1, .int p0)], [], hp) (.inl (some (.int z)), hp')) (hv2 : hp'[52 + n]? = some (11, vs)) (hlt : Int32.toNatClampNeg 0 < vs.length) : px_Go 11 9 (0, [(0, .ref 8), (1, .int p0), (2, .ref (52 + n))], [], hp) (.inl (some (.int 0)), hp'.set (52 + n) (11, vs.set (Int32.toNatClampNeg 0) (.long (Int32.toInt64 z)))) := by
  refine px_a 4 (f' := (4, [(0, .ref 8), (1, .int p0), (2, .ref (52 + n))], [.int p0, .ref 8, .int 0, .ref (52 + n)], hp)) rfl ?_
  refine px_cv 8 (as := [.int p0]) (rest := [.int 0, .ref (52 + n)]) rfl rfl hc rfl rfl rfl rfl (Nat.le_of_ble_eq_true rfl) (hg) ?_
  show px_Go _ _ (7, [(0, .ref 8), (1, .int p0), (2, .ref (52 + n))], [.int z, .int 0, .ref (52 + n)], hp') _
  refine px_a 1 (f' := (8, [(0, .ref 8), (1, .int p0), (2, .ref (52 + n))], [.long (Int32.toInt64 z), .int 0, .ref (52 + n)], hp')) rfl ?_
  refine px_las (52 + n) rfl hv2 (by omega) (by decide) (hlt) ?_
  have hf1__52___n_ : (hp'.set (52 + n) (11, vs.set (Int32.toNatClampNeg 0) (.long (Int32.toInt64 z))))[(52 + n)]? = some (11, vs.set (Int32.toNatClampNeg 0) (.long (Int32.toInt64 z))) := px_self hv2
  show px_Go _ _ (9, [(0, .ref 8), (1, .int p0), (2, .ref (52 + n))], [], (hp'.set (52 + n) (11, vs.set (Int32.toNatClampNeg 0) (.long (Int32.toInt64 z))))) _
  refine px_a 2 (f' := (16, [(0, .ref 8), (1, .int p0), (2, .ref (52 + n))], [.int 0], (hp'.set (52 + n) (11, vs.set (Int32.toNatClampNeg 0) (.long (Int32.toInt64 z)))))) rfl ?_
  exact px_ri rfl rfl rfl
set_option maxRecDepth 20000 in
theorem l_t9 {n : Nat} {hp hp' : px_H} {p0 : Int32} {w8 h8 fc fd : Int32} {sh : Int64} {b2 b3 b4 b5 b6 : Nat} (hc : hp[(8 : Nat)]? = some (3, [.int w8, .int h8, .ref b2, .ref b3, .ref b4, .ref b5, .ref b6, .int fc, .long sh, .int fd])) (hg : px_Go 10 58 (0, [(0, .ref 8), (1, .int p0)], [], hp) (.inr "java/lang/ArrayIndexOutOfBoundsException", hp')) : px_Go 11 9 (0, [(0, .ref 8), (1, .int p0), (2, .ref (52 + n))], [], hp) (.inl (some (.int 1)), hp') := by
  refine px_a 4 (f' := (4, [(0, .ref 8), (1, .int p0), (2, .ref (52 + n))], [.int p0, .ref 8, .int 0, .ref (52 + n)], hp)) rfl ?_
  exact px_cvc 8 (as := [.int p0]) (rest := [.int 0, .ref (52 + n)]) rfl rfl hc rfl rfl rfl rfl (Nat.le_of_ble_eq_true rfl) (hg) (px_hdA (by decide) (by decide))
set_option maxRecDepth 20000 in
theorem l_e10 {n : Nat} {hp hp' : px_H} {p0 p1 p2 : Int32} {w8 h8 fc fd : Int32} {sh : Int64} {b2 b3 b4 b5 b6 : Nat} (hc : hp[(8 : Nat)]? = some (3, [.int w8, .int h8, .ref b2, .ref b3, .ref b4, .ref b5, .ref b6, .int fc, .long sh, .int fd])) {z : Int32} {vs : List Value} (hg : px_Go 10 64 (0, [(0, .ref 8), (1, .int p0), (2, .int p1), (3, .int p2)], [], hp) (.inl (some (.int z)), hp')) (hv2 : hp'[52 + n]? = some (11, vs)) (hlt : Int32.toNatClampNeg 0 < vs.length) : px_Go 11 10 (0, [(0, .ref 8), (1, .int p0), (2, .int p1), (3, .int p2), (4, .ref (52 + n))], [], hp) (.inl (some (.int 0)), hp'.set (52 + n) (11, vs.set (Int32.toNatClampNeg 0) (.long (if z = 0 then 0 else 1)))) := by
  by_cases hz : z = 0
  · rw [if_pos hz]
    refine px_a 6 (f' := (7, [(0, .ref 8), (1, .int p0), (2, .int p1), (3, .int p2), (4, .ref (52 + n))], [.int p2, .int p1, .int p0, .ref 8, .int 0, .ref (52 + n)], hp)) rfl ?_
    refine px_cv 8 (as := [.int p0, .int p1, .int p2]) (rest := [.int 0, .ref (52 + n)]) rfl rfl hc rfl rfl rfl rfl (Nat.le_of_ble_eq_true rfl) (hg) ?_
    show px_Go _ _ (10, [(0, .ref 8), (1, .int p0), (2, .int p1), (3, .int p2), (4, .ref (52 + n))], [.int z, .int 0, .ref (52 + n)], hp') _
    refine px_b1 true 17 rfl rfl (decide_eq_true hz) ?_
    show px_Go _ _ (17, [(0, .ref 8), (1, .int p0), (2, .int p1), (3, .int p2), (4, .ref (52 + n))], [.int 0, .ref (52 + n)], hp') _
    refine px_a 1 (f' := (18, [(0, .ref 8), (1, .int p0), (2, .int p1), (3, .int p2), (4, .ref (52 + n))], [.long 0, .int 0, .ref (52 + n)], hp')) rfl ?_
    refine px_las (52 + n) rfl hv2 (by omega) (by decide) (hlt) ?_
    have hf1__52___n_ : (hp'.set (52 + n) (11, vs.set (Int32.toNatClampNeg 0) (.long 0)))[(52 + n)]? = some (11, vs.set (Int32.toNatClampNeg 0) (.long 0)) := px_self hv2
    show px_Go _ _ (19, [(0, .ref 8), (1, .int p0), (2, .int p1), (3, .int p2), (4, .ref (52 + n))], [], (hp'.set (52 + n) (11, vs.set (Int32.toNatClampNeg 0) (.long 0)))) _
    refine px_a 2 (f' := (31, [(0, .ref 8), (1, .int p0), (2, .int p1), (3, .int p2), (4, .ref (52 + n))], [.int 0], (hp'.set (52 + n) (11, vs.set (Int32.toNatClampNeg 0) (.long 0))))) rfl ?_
    exact px_ri rfl rfl rfl
  · rw [if_neg hz]
    refine px_a 6 (f' := (7, [(0, .ref 8), (1, .int p0), (2, .int p1), (3, .int p2), (4, .ref (52 + n))], [.int p2, .int p1, .int p0, .ref 8, .int 0, .ref (52 + n)], hp)) rfl ?_
    refine px_cv 8 (as := [.int p0, .int p1, .int p2]) (rest := [.int 0, .ref (52 + n)]) rfl rfl hc rfl rfl rfl rfl (Nat.le_of_ble_eq_true rfl) (hg) ?_
    show px_Go _ _ (10, [(0, .ref 8), (1, .int p0), (2, .int p1), (3, .int p2), (4, .ref (52 + n))], [.int z, .int 0, .ref (52 + n)], hp') _
    refine px_b1 false 17 rfl rfl (decide_eq_false hz) ?_
    show px_Go _ _ (13, [(0, .ref 8), (1, .int p0), (2, .int p1), (3, .int p2), (4, .ref (52 + n))], [.int 0, .ref (52 + n)], hp') _
    refine px_a 2 (f' := (18, [(0, .ref 8), (1, .int p0), (2, .int p1), (3, .int p2), (4, .ref (52 + n))], [.long 1, .int 0, .ref (52 + n)], hp')) rfl ?_
    refine px_las (52 + n) rfl hv2 (by omega) (by decide) (hlt) ?_
    have hf1__52___n_ : (hp'.set (52 + n) (11, vs.set (Int32.toNatClampNeg 0) (.long 1)))[(52 + n)]? = some (11, vs.set (Int32.toNatClampNeg 0) (.long 1)) := px_self hv2
    show px_Go _ _ (19, [(0, .ref 8), (1, .int p0), (2, .int p1), (3, .int p2), (4, .ref (52 + n))], [], (hp'.set (52 + n) (11, vs.set (Int32.toNatClampNeg 0) (.long 1)))) _
    refine px_a 2 (f' := (31, [(0, .ref 8), (1, .int p0), (2, .int p1), (3, .int p2), (4, .ref (52 + n))], [.int 0], (hp'.set (52 + n) (11, vs.set (Int32.toNatClampNeg 0) (.long 1))))) rfl ?_
    exact px_ri rfl rfl rfl
set_option maxRecDepth 20000 in
theorem l_t10 {n : Nat} {hp hp' : px_H} {p0 p1 p2 : Int32} {w8 h8 fc fd : Int32} {sh : Int64} {b2 b3 b4 b5 b6 : Nat} (hc : hp[(8 : Nat)]? = some (3, [.int w8, .int h8, .ref b2, .ref b3, .ref b4, .ref b5, .ref b6, .int fc, .long sh, .int fd])) (hg : px_Go 10 64 (0, [(0, .ref 8), (1, .int p0), (2, .int p1), (3, .int p2)], [], hp) (.inr "java/lang/ArrayIndexOutOfBoundsException", hp')) : px_Go 11 10 (0, [(0, .ref 8), (1, .int p0), (2, .int p1), (3, .int p2), (4, .ref (52 + n))], [], hp) (.inl (some (.int 1)), hp') := by
  refine px_a 6 (f' := (7, [(0, .ref 8), (1, .int p0), (2, .int p1), (3, .int p2), (4, .ref (52 + n))], [.int p2, .int p1, .int p0, .ref 8, .int 0, .ref (52 + n)], hp)) rfl ?_
  exact px_cvc 8 (as := [.int p0, .int p1, .int p2]) (rest := [.int 0, .ref (52 + n)]) rfl rfl hc rfl rfl rfl rfl (Nat.le_of_ble_eq_true rfl) (hg) (px_hdA (by decide) (by decide))
set_option maxRecDepth 20000 in
theorem l_u10 {n : Nat} {hp hp' : px_H} {p0 p1 p2 : Int32} {w8 h8 fc fd : Int32} {sh : Int64} {b2 b3 b4 b5 b6 : Nat} (hc : hp[(8 : Nat)]? = some (3, [.int w8, .int h8, .ref b2, .ref b3, .ref b4, .ref b5, .ref b6, .int fc, .long sh, .int fd])) (hg : px_Go 10 64 (0, [(0, .ref 8), (1, .int p0), (2, .int p1), (3, .int p2)], [], hp) (.inr "java/lang/IllegalArgumentException", hp')) : px_Go 11 10 (0, [(0, .ref 8), (1, .int p0), (2, .int p1), (3, .int p2), (4, .ref (52 + n))], [], hp) (.inl (some (.int 2)), hp') := by
  refine px_a 6 (f' := (7, [(0, .ref 8), (1, .int p0), (2, .int p1), (3, .int p2), (4, .ref (52 + n))], [.int p2, .int p1, .int p0, .ref 8, .int 0, .ref (52 + n)], hp)) rfl ?_
  exact px_cvc 8 (as := [.int p0, .int p1, .int p2]) (rest := [.int 0, .ref (52 + n)]) rfl rfl hc rfl rfl rfl rfl (Nat.le_of_ble_eq_true rfl) (hg) (by decide)
set_option maxRecDepth 20000 in
theorem l_e11 {n : Nat} {hp hp' : px_H} {p0 p1 : Int32} {w8 h8 fc fd : Int32} {sh : Int64} {b2 b3 b4 b5 b6 : Nat} (hc : hp[(8 : Nat)]? = some (3, [.int w8, .int h8, .ref b2, .ref b3, .ref b4, .ref b5, .ref b6, .int fc, .long sh, .int fd])) {z : Int32} {vs : List Value} (hg : px_Go 10 67 (0, [(0, .ref 8), (1, .int p0), (2, .int p1)], [], hp) (.inl (some (.int z)), hp')) (hv2 : hp'[52 + n]? = some (11, vs)) (hlt : Int32.toNatClampNeg 0 < vs.length) : px_Go 11 11 (0, [(0, .ref 8), (1, .int p0), (2, .int p1), (3, .ref (52 + n))], [], hp) (.inl (some (.int 0)), hp'.set (52 + n) (11, vs.set (Int32.toNatClampNeg 0) (.long (Int32.toInt64 z)))) := by
  refine px_a 5 (f' := (5, [(0, .ref 8), (1, .int p0), (2, .int p1), (3, .ref (52 + n))], [.int p1, .int p0, .ref 8, .int 0, .ref (52 + n)], hp)) rfl ?_
  refine px_cv 8 (as := [.int p0, .int p1]) (rest := [.int 0, .ref (52 + n)]) rfl rfl hc rfl rfl rfl rfl (Nat.le_of_ble_eq_true rfl) (hg) ?_
  show px_Go _ _ (8, [(0, .ref 8), (1, .int p0), (2, .int p1), (3, .ref (52 + n))], [.int z, .int 0, .ref (52 + n)], hp') _
  refine px_a 1 (f' := (9, [(0, .ref 8), (1, .int p0), (2, .int p1), (3, .ref (52 + n))], [.long (Int32.toInt64 z), .int 0, .ref (52 + n)], hp')) rfl ?_
  refine px_las (52 + n) rfl hv2 (by omega) (by decide) (hlt) ?_
  have hf1__52___n_ : (hp'.set (52 + n) (11, vs.set (Int32.toNatClampNeg 0) (.long (Int32.toInt64 z))))[(52 + n)]? = some (11, vs.set (Int32.toNatClampNeg 0) (.long (Int32.toInt64 z))) := px_self hv2
  show px_Go _ _ (10, [(0, .ref 8), (1, .int p0), (2, .int p1), (3, .ref (52 + n))], [], (hp'.set (52 + n) (11, vs.set (Int32.toNatClampNeg 0) (.long (Int32.toInt64 z))))) _
  refine px_a 2 (f' := (18, [(0, .ref 8), (1, .int p0), (2, .int p1), (3, .ref (52 + n))], [.int 0], (hp'.set (52 + n) (11, vs.set (Int32.toNatClampNeg 0) (.long (Int32.toInt64 z)))))) rfl ?_
  exact px_ri rfl rfl rfl
set_option maxRecDepth 20000 in
theorem l_t11 {n : Nat} {hp hp' : px_H} {p0 p1 : Int32} {w8 h8 fc fd : Int32} {sh : Int64} {b2 b3 b4 b5 b6 : Nat} (hc : hp[(8 : Nat)]? = some (3, [.int w8, .int h8, .ref b2, .ref b3, .ref b4, .ref b5, .ref b6, .int fc, .long sh, .int fd])) (hg : px_Go 10 67 (0, [(0, .ref 8), (1, .int p0), (2, .int p1)], [], hp) (.inr "java/lang/ArrayIndexOutOfBoundsException", hp')) : px_Go 11 11 (0, [(0, .ref 8), (1, .int p0), (2, .int p1), (3, .ref (52 + n))], [], hp) (.inl (some (.int 1)), hp') := by
  refine px_a 5 (f' := (5, [(0, .ref 8), (1, .int p0), (2, .int p1), (3, .ref (52 + n))], [.int p1, .int p0, .ref 8, .int 0, .ref (52 + n)], hp)) rfl ?_
  exact px_cvc 8 (as := [.int p0, .int p1]) (rest := [.int 0, .ref (52 + n)]) rfl rfl hc rfl rfl rfl rfl (Nat.le_of_ble_eq_true rfl) (hg) (px_hdA (by decide) (by decide))
theorem l_cellS {n : Nat} (hN : pa_N n) {hp : px_H} (H : pa_Hi n hp) {p0 p1 p2 : Int32} (b1 : 0 ≤ p2.toInt) (b2 : p2.toInt ≤ 1) {W V : Nat} {fc fd : Int32} {sh : Int64} (hW : W ≤ 6) (hV : V ≤ 6)  (hc : hp[(8 : Nat)]? = some (3, [.int (nI W), .int (nI V), .ref 9, .ref 28, .ref 29, .ref 30, .ref (34 + n), .int fc, .long sh, .int fd])) : ∃ (k : Int32) (hp1 : px_H), px_Go 11 5 (0, [(0, .ref 8), (1, .int p0), (2, .int p1), (3, .int p2), (4, .ref (52 + n))], [], hp) (.inl (some (.int k)), hp1) ∧ l_S n [(8, 8), (8, 9), (38, 0)] hp hp1 ∧ ∃ sh' : Int64, pa_fd hp1 8 8 = some (.long sh') ∧ (((p0 < 0 ∨ nI W ≤ p0 ∨ p1 < 0 ∨ nI V ≤ p1) ∧ k = 1 ∧ sh' = sh) ∨ (¬ (p0 < 0 ∨ nI W ≤ p0 ∨ p1 < 0 ∨ nI V ≤ p1) ∧ k = 0 ∧ ∃ (c : Nat) (o0 : Int64), c < W * V ∧ (nI W * p1 + p0).toNatClampNeg = c ∧ pa_fd hp1 (52 + n) 0 = some (.long o0) ∧ (((if x_bt sh c = true then (1 : Int32) else 0) = p2 ∧ o0 = 0 ∧ sh' = sh) ∨ (¬ (if x_bt sh c = true then (1 : Int32) else 0) = p2 ∧ o0 = 1 ∧ sh' = sh ^^^ ((1 : Int64) <<< (Int32.toInt64 (nI c) &&& 63)))))) := by
  obtain ⟨o, hp', hg, ⟨H', G', E'⟩, -⟩ := (ct_46 hN).deep (d' := 10) (by decide) [.ref 8, .int p0, .int p1, .int p2] hp H ⟨⟨8, rfl, rfl, by decide⟩, pa_top_ok _, pa_top_ok _, pa_in b1 b2, trivial⟩
  obtain ⟨o2, hpx, gx, hx⟩ := x_cell (d := 9) hW hV hc (x := p0) (y := p1) (v := p2)
  have ex := px_det hg gx
  cases ex
  rcases hx with ⟨ho, ⟨E, rfl⟩, fx⟩ | ⟨ho, c, c1, c2, r, s', rfl, fx, hx⟩
  · rcases E' with ⟨v, hq, -⟩ | ⟨-, E2, -, hl, hz⟩
    · cases hq
    · obtain rfl := (px_exc_G hg).2 (by decide) (by decide)
      exact ⟨1, _, l_t5 hc hg, ⟨H', G'.mono (by decide), by omega, by omega⟩, _, fx, Or.inl ⟨ho, rfl, rfl⟩⟩
  · rcases E' with ⟨v, -, -, hl⟩ | ⟨-, E2, hq, -⟩
    · obtain ⟨vs, hv2, hl2, -⟩ := pa_arl (a := 52 + n) (i := 20) H' (by omega) (by decide) (by decide) rfl
      have hlt : Int32.toNatClampNeg 0 < vs.length := by show (0 : Nat) < vs.length; omega
      have hG := l_e5 hc hg hv2 hlt
      have e1 : (hp'.set (52 + n) (11, vs.set (Int32.toNatClampNeg 0) (.long (if r = 0 then 0 else 1)))).length = hp.length := by rw [List.length_set]; exact hl
      refine ⟨0, _, hG, ⟨pa_aS (i := 20) H' (by omega) (by decide) (by decide) hv2 rfl (pa_lgk _), (G'.mono (by decide)).trans (pa_aF (i := 20) (by omega) (by decide) (by decide) hv2 (by decide) (by decide)), by omega, by rw [(pa_kept hG).sz e1]; omega⟩, s', (by rw [l_fset (by omega)]; exact fx), Or.inr ⟨ho, rfl, c, _, c1, c2, by rw [pa_fd_get (px_self hv2)]; exact List.getElem?_set_self hlt, ?_⟩⟩
      rcases hx with ⟨q1, q2, q3⟩ | ⟨q1, q2, q3⟩
      · left
        refine ⟨q1, ?_, q3⟩
        rw [q2]; rfl
      · right
        refine ⟨q1, ?_, q3⟩
        rw [q2]; rfl
    · cases hq
theorem l_ownS {n : Nat} (hN : pa_N n) {hp : px_H} (H : pa_Hi n hp) {p0 p1 p2 : Int32}  {W V : Nat} {fc fd : Int32} {sh : Int64} (hW : W ≤ 6) (hV : V ≤ 6) {vo : List Value} (ha : hp[(28 : Nat)]? = some (10, vo)) (hlo : vo.length = W * V) (hc : hp[(8 : Nat)]? = some (3, [.int (nI W), .int (nI V), .ref 9, .ref 28, .ref 29, .ref 30, .ref (34 + n), .int fc, .long sh, .int fd])) : ∃ (k : Int32) (hp1 : px_H), px_Go 11 7 (0, [(0, .ref 8), (1, .int p0), (2, .int p1), (3, .int p2), (4, .ref (52 + n))], [], hp) (.inl (some (.int k)), hp1) ∧ l_S n [(13, 0), (38, 0)] hp hp1 ∧ ∃ vo' : List Value, hp1[(28 : Nat)]? = some (10, vo') ∧ (((p0 < 0 ∨ nI W ≤ p0 ∨ p1 < 0 ∨ nI V ≤ p1) ∧ k = 1 ∧ vo' = vo) ∨ (¬ (p0 < 0 ∨ nI W ≤ p0 ∨ p1 < 0 ∨ nI V ≤ p1) ∧ k = 0 ∧ ∃ (c : Nat) (o0 : Int64), c < W * V ∧ (nI W * p1 + p0).toNatClampNeg = c ∧ pa_fd hp1 (52 + n) 0 = some (.long o0) ∧ (((p2 < -99 ∨ ¬ p2 ≤ 99) ∧ o0 = 0 ∧ vo' = vo) ∨ (¬ (p2 < -99 ∨ ¬ p2 ≤ 99) ∧ o0 = 1 ∧ vo' = vo.set c (.int p2))))) := by
  obtain ⟨o, hp', hg, ⟨H', G', E'⟩, -⟩ := (ct_54 hN).deep (d' := 10) (by decide) [.ref 8, .int p0, .int p1, .int p2] hp H ⟨⟨8, rfl, rfl, by decide⟩, pa_top_ok _, pa_top_ok _, pa_top_ok _, trivial⟩
  obtain ⟨o2, hpx, gx, hx⟩ := x_own (d := 9) hW hV hc ha hlo (x := p0) (y := p1) (v := p2)
  have ex := px_det hg gx
  cases ex
  rcases hx with ⟨ho, ⟨E, rfl⟩, fx⟩ | ⟨ho, c, c1, c2, r, s', rfl, fx, hx⟩
  · rcases E' with ⟨v, hq, -⟩ | ⟨-, E2, -, hl, hz⟩
    · cases hq
    · obtain rfl := (px_exc_G hg).2 (by decide) (by decide)
      exact ⟨1, _, l_t7 hc hg, ⟨H', G'.mono (by decide), by omega, by omega⟩, _, fx, Or.inl ⟨ho, rfl, rfl⟩⟩
  · rcases E' with ⟨v, -, -, hl⟩ | ⟨-, E2, hq, -⟩
    · obtain ⟨vs, hv2, hl2, -⟩ := pa_arl (a := 52 + n) (i := 20) H' (by omega) (by decide) (by decide) rfl
      have hlt : Int32.toNatClampNeg 0 < vs.length := by show (0 : Nat) < vs.length; omega
      have hG := l_e7 hc hg hv2 hlt
      have e1 : (hp'.set (52 + n) (11, vs.set (Int32.toNatClampNeg 0) (.long (if r = 0 then 0 else 1)))).length = hp.length := by rw [List.length_set]; exact hl
      refine ⟨0, _, hG, ⟨pa_aS (i := 20) H' (by omega) (by decide) (by decide) hv2 rfl (pa_lgk _), (G'.mono (by decide)).trans (pa_aF (i := 20) (by omega) (by decide) (by decide) hv2 (by decide) (by decide)), by omega, by rw [(pa_kept hG).sz e1]; omega⟩, s', (by rw [List.getElem?_set_ne (by omega)]; exact fx), Or.inr ⟨ho, rfl, c, _, c1, c2, by rw [pa_fd_get (px_self hv2)]; exact List.getElem?_set_self hlt, ?_⟩⟩
      rcases hx with ⟨q1, q2, q3⟩ | ⟨q1, q2, q3⟩
      · left
        refine ⟨q1, ?_, q3⟩
        rw [q2]; rfl
      · right
        refine ⟨q1, ?_, q3⟩
        rw [q2]; rfl
    · cases hq
theorem l_shset {n c : Nat} {sh : Int64} {us : List Value} (h36 : n ≤ 36) (hc : c < n) (hl : n ≤ us.length) (q : ∀ i, i < n → us[i]? = some (.int (if x_bt sh i = true then 1 else 0))) {v : Int32} (v01 : v = 0 ∨ v = 1) (hb : ¬ (if x_bt sh c = true then (1 : Int32) else 0) = v) : ∀ i, i < n → (us.set c (.int v))[i]? = some (.int (if x_bt (sh ^^^ ((1 : Int64) <<< (Int32.toInt64 (nI c) &&& 63))) i = true then 1 else 0)) := by
  intro i hi
  rw [x_xor, x_one (show c < 64 by omega) (show i < 64 by omega)]
  by_cases e : c = i
  · subst e
    rw [List.getElem?_set_self (by omega), decide_eq_true rfl]
    cases hx : x_bt sh c
    · rw [hx] at hb
      rcases v01 with rfl | rfl
      · exact absurd rfl hb
      · rfl
    · rw [hx] at hb
      rcases v01 with rfl | rfl
      · rfl
      · exact absurd rfl hb
  · rw [List.getElem?_set_ne e, decide_eq_false e, Bool.xor_false]
    exact q i hi
theorem l_owset {n c : Nat} {uo vo : List Value} {v : Value} (q : ∀ i, i < n → uo[i]? = vo[i]?) (h1 : c < uo.length) (h2 : c < vo.length) : ∀ i, i < n → (uo.set c v)[i]? = (vo.set c v)[i]? := by
  intro i hi
  by_cases e : c = i
  · subst e
    rw [List.getElem?_set_self h1, List.getElem?_set_self h2]
  · rw [List.getElem?_set_ne e, List.getElem?_set_ne e]
    exact q i hi
