theorem px_det {d d' j : Nat} {f : px_F} {r r' : px_E} (h : px_Go d j f r) (h' : px_Go d' j f r') : r = r' := by
  have h1 := h.deep (Nat.le_max_left d d')
  have h2 := h'.deep (Nat.le_max_right d d')
  obtain ⟨n1, e1⟩ := h1
  obtain ⟨n2, e2⟩ := h2
  have e1' := px_ups e1 (Nat.le_max_left n1 n2)
  have e2' := px_ups e2 (Nat.le_max_right n1 n2)
  rw [e1'] at e2'
  cases e2'
  rfl
/-- what a call leaves -/
def l_S (n : Nat) (M : pa_M) (hp hp1 : px_H) : Prop := pa_Hi n hp1 ∧ pa_Fr n M hp hp1 ∧ hp1.length ≤ hp.length + 1 ∧ px_sz hp1 ≤ px_sz hp + 6
theorem r38 (n : Nat) : pa_rg n (52 + n) = 38 := rr 20 (by decide) (by decide) (by omega)
theorem r24 (n : Nat) : pa_rg n (38 + n) = 24 := rr 6 (by decide) (by decide) (by omega)
set_option maxRecDepth 20000 in
theorem l_h5 {n : Nat} (hN : pa_N n) {hp : px_H} (H : pa_Hi n hp) {p0 p1 p2 : Int32} (b1 : 0 ≤ p2.toInt) (b2 : p2.toInt ≤ 1) : ∃ (k : Int32) (hp1 : px_H), px_Go 11 5 (0, [(0, .ref 8), (1, .int p0), (2, .int p1), (3, .int p2), (4, .ref (52 + n))], [], hp) (.inl (some (.int k)), hp1) ∧ l_S n [(8, 8), (8, 9), (38, 0)] hp hp1 := by
  obtain ⟨o, hp', hg, ⟨H', G', E'⟩, -⟩ := (ct_46 hN).deep (d' := 10) (by decide) [.ref 8, .int p0, .int p1, .int p2] hp H ⟨⟨8, rfl, rfl, by decide⟩, pa_top_ok _, pa_top_ok _, pa_in b1 b2, trivial⟩
  obtain ⟨W, V, b2, b3, b4, b5, b6, fc, fd, sh, hW, hV, hn, hc, g2, g3, g4, g5, g6, fc1, fc2, fd1, fd2⟩ := pa_cls H
  rcases E' with ⟨v, rfl, hv', hl⟩ | ⟨ht, E, rfl, hl, hz⟩
  · obtain ⟨z, rfl, z1, z2⟩ := pa_gri (lo := 0) (hi := 1) hv'
    obtain ⟨vs, hv2, hl2, -⟩ := pa_arl (a := 52 + n) (i := 20) H' (by omega) (by decide) (by decide) rfl
    have hlt : Int32.toNatClampNeg 0 < vs.length := by show (0 : Nat) < vs.length; omega
    have fin : ∀ {y : Int64}, px_Go 11 5 (0, [(0, .ref 8), (1, .int p0), (2, .int p1), (3, .int p2), (4, .ref (52 + n))], [], hp) (.inl (some (.int 0)), hp'.set (52 + n) (11, vs.set (Int32.toNatClampNeg 0) (.long y))) → ∃ (k : Int32) (hp1 : px_H), px_Go 11 5 (0, [(0, .ref 8), (1, .int p0), (2, .int p1), (3, .int p2), (4, .ref (52 + n))], [], hp) (.inl (some (.int k)), hp1) ∧ l_S n [(8, 8), (8, 9), (38, 0)] hp hp1 := by
      intro y hG
      have e1 : (hp'.set (52 + n) (11, vs.set (Int32.toNatClampNeg 0) (.long y))).length = hp.length := by rw [List.length_set]; exact hl
      refine ⟨0, _, hG, pa_aS (i := 20) H' (by omega) (by decide) (by decide) hv2 rfl (pa_lgk _), (G'.mono (by decide)).trans (pa_aF (i := 20) (by omega) (by decide) (by decide) hv2 (by decide) (by decide)), by omega, ?_⟩
      rw [(pa_kept hG).sz e1]
      omega
    by_cases hz : z = 0
    · refine fin (y := 0) ?_
      refine px_a 6 (f' := (7, [(0, .ref 8), (1, .int p0), (2, .int p1), (3, .int p2), (4, .ref (52 + n))], [.int p2, .int p1, .int p0, .ref 8, .int 0, .ref (52 + n)], hp)) rfl ?_
      refine px_cv 8 (as := [.int p0, .int p1, .int p2]) (rest := [.int 0, .ref (52 + n)]) rfl rfl hc rfl rfl rfl rfl (Nat.le_of_ble_eq_true rfl) (hg) ?_
      show px_Go _ _ (10, [(0, .ref 8), (1, .int p0), (2, .int p1), (3, .int p2), (4, .ref (52 + n))], [.int z, .int 0, .ref (52 + n)], hp') _
      refine px_b1 true 17 rfl rfl (decide_eq_true hz) ?_
      show px_Go _ _ (17, [(0, .ref 8), (1, .int p0), (2, .int p1), (3, .int p2), (4, .ref (52 + n))], [.int 0, .ref (52 + n)], hp') _
      refine px_a 1 (f' := (18, [(0, .ref 8), (1, .int p0), (2, .int p1), (3, .int p2), (4, .ref (52 + n))], [.long 0, .int 0, .ref (52 + n)], hp')) rfl ?_
      refine px_las (52 + n) rfl hv2 (by omega) (by decide) (hlt) ?_
      have hf1__52___n_ : (hp'.set (52 + n) (11, vs.set (Int32.toNatClampNeg 0) (.long 0)))[(52 + n)]? = some (11, vs.set (Int32.toNatClampNeg 0) (.long 0)) := px_self hv2
      show px_Go _ _ (19, [(0, .ref 8), (1, .int p0), (2, .int p1), (3, .int p2), (4, .ref (52 + n))], [], (hp'.set (52 + n) (11, vs.set (Int32.toNatClampNeg 0) (.long 0)))) _
      refine px_a 2 (f' := (27, [(0, .ref 8), (1, .int p0), (2, .int p1), (3, .int p2), (4, .ref (52 + n))], [.int 0], (hp'.set (52 + n) (11, vs.set (Int32.toNatClampNeg 0) (.long 0))))) rfl ?_
      exact px_ri rfl rfl rfl
    · refine fin (y := 1) ?_
      refine px_a 6 (f' := (7, [(0, .ref 8), (1, .int p0), (2, .int p1), (3, .int p2), (4, .ref (52 + n))], [.int p2, .int p1, .int p0, .ref 8, .int 0, .ref (52 + n)], hp)) rfl ?_
      refine px_cv 8 (as := [.int p0, .int p1, .int p2]) (rest := [.int 0, .ref (52 + n)]) rfl rfl hc rfl rfl rfl rfl (Nat.le_of_ble_eq_true rfl) (hg) ?_
      show px_Go _ _ (10, [(0, .ref 8), (1, .int p0), (2, .int p1), (3, .int p2), (4, .ref (52 + n))], [.int z, .int 0, .ref (52 + n)], hp') _
      refine px_b1 false 17 rfl rfl (decide_eq_false hz) ?_
      show px_Go _ _ (13, [(0, .ref 8), (1, .int p0), (2, .int p1), (3, .int p2), (4, .ref (52 + n))], [.int 0, .ref (52 + n)], hp') _
      refine px_a 2 (f' := (18, [(0, .ref 8), (1, .int p0), (2, .int p1), (3, .int p2), (4, .ref (52 + n))], [.long 1, .int 0, .ref (52 + n)], hp')) rfl ?_
      refine px_las (52 + n) rfl hv2 (by omega) (by decide) (hlt) ?_
      have hf1__52___n_ : (hp'.set (52 + n) (11, vs.set (Int32.toNatClampNeg 0) (.long 1)))[(52 + n)]? = some (11, vs.set (Int32.toNatClampNeg 0) (.long 1)) := px_self hv2
      show px_Go _ _ (19, [(0, .ref 8), (1, .int p0), (2, .int p1), (3, .int p2), (4, .ref (52 + n))], [], (hp'.set (52 + n) (11, vs.set (Int32.toNatClampNeg 0) (.long 1)))) _
      refine px_a 2 (f' := (27, [(0, .ref 8), (1, .int p0), (2, .int p1), (3, .int p2), (4, .ref (52 + n))], [.int 0], (hp'.set (52 + n) (11, vs.set (Int32.toNatClampNeg 0) (.long 1))))) rfl ?_
      exact px_ri rfl rfl rfl
  · obtain rfl := (px_exc_G hg).2 (by decide) (by decide)
    refine ⟨1, hp', ?_, H', G'.mono (by decide), by omega, by omega⟩
    refine px_a 6 (f' := (7, [(0, .ref 8), (1, .int p0), (2, .int p1), (3, .int p2), (4, .ref (52 + n))], [.int p2, .int p1, .int p0, .ref 8, .int 0, .ref (52 + n)], hp)) rfl ?_
    exact px_cvc 8 (as := [.int p0, .int p1, .int p2]) (rest := [.int 0, .ref (52 + n)]) rfl rfl hc rfl rfl rfl rfl (Nat.le_of_ble_eq_true rfl) (hg) (px_hdA (by decide) (by decide))
set_option maxRecDepth 20000 in
theorem l_h7 {n : Nat} (hN : pa_N n) {hp : px_H} (H : pa_Hi n hp) {p0 p1 p2 : Int32} : ∃ (k : Int32) (hp1 : px_H), px_Go 11 7 (0, [(0, .ref 8), (1, .int p0), (2, .int p1), (3, .int p2), (4, .ref (52 + n))], [], hp) (.inl (some (.int k)), hp1) ∧ l_S n [(13, 0), (38, 0)] hp hp1 := by
  obtain ⟨o, hp', hg, ⟨H', G', E'⟩, -⟩ := (ct_54 hN).deep (d' := 10) (by decide) [.ref 8, .int p0, .int p1, .int p2] hp H ⟨⟨8, rfl, rfl, by decide⟩, pa_top_ok _, pa_top_ok _, pa_top_ok _, trivial⟩
  obtain ⟨W, V, b2, b3, b4, b5, b6, fc, fd, sh, hW, hV, hn, hc, g2, g3, g4, g5, g6, fc1, fc2, fd1, fd2⟩ := pa_cls H
  rcases E' with ⟨v, rfl, hv', hl⟩ | ⟨ht, E, rfl, hl, hz⟩
  · obtain ⟨z, rfl, z1, z2⟩ := pa_gri (lo := 0) (hi := 1) hv'
    obtain ⟨vs, hv2, hl2, -⟩ := pa_arl (a := 52 + n) (i := 20) H' (by omega) (by decide) (by decide) rfl
    have hlt : Int32.toNatClampNeg 0 < vs.length := by show (0 : Nat) < vs.length; omega
    have fin : ∀ {y : Int64}, px_Go 11 7 (0, [(0, .ref 8), (1, .int p0), (2, .int p1), (3, .int p2), (4, .ref (52 + n))], [], hp) (.inl (some (.int 0)), hp'.set (52 + n) (11, vs.set (Int32.toNatClampNeg 0) (.long y))) → ∃ (k : Int32) (hp1 : px_H), px_Go 11 7 (0, [(0, .ref 8), (1, .int p0), (2, .int p1), (3, .int p2), (4, .ref (52 + n))], [], hp) (.inl (some (.int k)), hp1) ∧ l_S n [(13, 0), (38, 0)] hp hp1 := by
      intro y hG
      have e1 : (hp'.set (52 + n) (11, vs.set (Int32.toNatClampNeg 0) (.long y))).length = hp.length := by rw [List.length_set]; exact hl
      refine ⟨0, _, hG, pa_aS (i := 20) H' (by omega) (by decide) (by decide) hv2 rfl (pa_lgk _), (G'.mono (by decide)).trans (pa_aF (i := 20) (by omega) (by decide) (by decide) hv2 (by decide) (by decide)), by omega, ?_⟩
      rw [(pa_kept hG).sz e1]
      omega
    by_cases hz : z = 0
    · refine fin (y := 0) ?_
      refine px_a 6 (f' := (7, [(0, .ref 8), (1, .int p0), (2, .int p1), (3, .int p2), (4, .ref (52 + n))], [.int p2, .int p1, .int p0, .ref 8, .int 0, .ref (52 + n)], hp)) rfl ?_
      refine px_cv 8 (as := [.int p0, .int p1, .int p2]) (rest := [.int 0, .ref (52 + n)]) rfl rfl hc rfl rfl rfl rfl (Nat.le_of_ble_eq_true rfl) (hg) ?_
      show px_Go _ _ (10, [(0, .ref 8), (1, .int p0), (2, .int p1), (3, .int p2), (4, .ref (52 + n))], [.int z, .int 0, .ref (52 + n)], hp') _
      refine px_b1 true 17 rfl rfl (decide_eq_true hz) ?_
      show px_Go _ _ (17, [(0, .ref 8), (1, .int p0), (2, .int p1), (3, .int p2), (4, .ref (52 + n))], [.int 0, .ref (52 + n)], hp') _
      refine px_a 1 (f' := (18, [(0, .ref 8), (1, .int p0), (2, .int p1), (3, .int p2), (4, .ref (52 + n))], [.long 0, .int 0, .ref (52 + n)], hp')) rfl ?_
      refine px_las (52 + n) rfl hv2 (by omega) (by decide) (hlt) ?_
      have hf1__52___n_ : (hp'.set (52 + n) (11, vs.set (Int32.toNatClampNeg 0) (.long 0)))[(52 + n)]? = some (11, vs.set (Int32.toNatClampNeg 0) (.long 0)) := px_self hv2
      show px_Go _ _ (19, [(0, .ref 8), (1, .int p0), (2, .int p1), (3, .int p2), (4, .ref (52 + n))], [], (hp'.set (52 + n) (11, vs.set (Int32.toNatClampNeg 0) (.long 0)))) _
      refine px_a 2 (f' := (27, [(0, .ref 8), (1, .int p0), (2, .int p1), (3, .int p2), (4, .ref (52 + n))], [.int 0], (hp'.set (52 + n) (11, vs.set (Int32.toNatClampNeg 0) (.long 0))))) rfl ?_
      exact px_ri rfl rfl rfl
    · refine fin (y := 1) ?_
      refine px_a 6 (f' := (7, [(0, .ref 8), (1, .int p0), (2, .int p1), (3, .int p2), (4, .ref (52 + n))], [.int p2, .int p1, .int p0, .ref 8, .int 0, .ref (52 + n)], hp)) rfl ?_
      refine px_cv 8 (as := [.int p0, .int p1, .int p2]) (rest := [.int 0, .ref (52 + n)]) rfl rfl hc rfl rfl rfl rfl (Nat.le_of_ble_eq_true rfl) (hg) ?_
      show px_Go _ _ (10, [(0, .ref 8), (1, .int p0), (2, .int p1), (3, .int p2), (4, .ref (52 + n))], [.int z, .int 0, .ref (52 + n)], hp') _
      refine px_b1 false 17 rfl rfl (decide_eq_false hz) ?_
      show px_Go _ _ (13, [(0, .ref 8), (1, .int p0), (2, .int p1), (3, .int p2), (4, .ref (52 + n))], [.int 0, .ref (52 + n)], hp') _
      refine px_a 2 (f' := (18, [(0, .ref 8), (1, .int p0), (2, .int p1), (3, .int p2), (4, .ref (52 + n))], [.long 1, .int 0, .ref (52 + n)], hp')) rfl ?_
      refine px_las (52 + n) rfl hv2 (by omega) (by decide) (hlt) ?_
      have hf1__52___n_ : (hp'.set (52 + n) (11, vs.set (Int32.toNatClampNeg 0) (.long 1)))[(52 + n)]? = some (11, vs.set (Int32.toNatClampNeg 0) (.long 1)) := px_self hv2
      show px_Go _ _ (19, [(0, .ref 8), (1, .int p0), (2, .int p1), (3, .int p2), (4, .ref (52 + n))], [], (hp'.set (52 + n) (11, vs.set (Int32.toNatClampNeg 0) (.long 1)))) _
      refine px_a 2 (f' := (27, [(0, .ref 8), (1, .int p0), (2, .int p1), (3, .int p2), (4, .ref (52 + n))], [.int 0], (hp'.set (52 + n) (11, vs.set (Int32.toNatClampNeg 0) (.long 1))))) rfl ?_
      exact px_ri rfl rfl rfl
  · obtain rfl := (px_exc_G hg).2 (by decide) (by decide)
    refine ⟨1, hp', ?_, H', G'.mono (by decide), by omega, by omega⟩
    refine px_a 6 (f' := (7, [(0, .ref 8), (1, .int p0), (2, .int p1), (3, .int p2), (4, .ref (52 + n))], [.int p2, .int p1, .int p0, .ref 8, .int 0, .ref (52 + n)], hp)) rfl ?_
    exact px_cvc 8 (as := [.int p0, .int p1, .int p2]) (rest := [.int 0, .ref (52 + n)]) rfl rfl hc rfl rfl rfl rfl (Nat.le_of_ble_eq_true rfl) (hg) (px_hdA (by decide) (by decide))
set_option maxRecDepth 20000 in
theorem l_h8 {n : Nat} (hN : pa_N n) {hp : px_H} (H : pa_Hi n hp) {p0 p1 p2 : Int32} : ∃ (k : Int32) (hp1 : px_H), px_Go 11 8 (0, [(0, .ref 8), (1, .int p0), (2, .int p1), (3, .int p2), (4, .ref (52 + n))], [], hp) (.inl (some (.int k)), hp1) ∧ l_S n [(10, 6), (10, 7), (12, 0), (38, 0)] hp hp1 := by
  obtain ⟨o, hp', hg, ⟨H', G', E'⟩, -⟩ := (ct_57 hN).deep (d' := 10) (by decide) [.ref 8, .int p0, .int p1, .int p2] hp H ⟨⟨8, rfl, rfl, by decide⟩, pa_top_ok _, pa_top_ok _, pa_top_ok _, trivial⟩
  obtain ⟨W, V, b2, b3, b4, b5, b6, fc, fd, sh, hW, hV, hn, hc, g2, g3, g4, g5, g6, fc1, fc2, fd1, fd2⟩ := pa_cls H
  rcases E' with ⟨v, rfl, hv', hl⟩ | ⟨ht, E, rfl, hl, hz⟩
  · obtain ⟨z, rfl, z1, z2⟩ := pa_gri (lo := (-2147483648)) (hi := 2147483647) hv'
    obtain ⟨vs, hv2, hl2, -⟩ := pa_arl (a := 52 + n) (i := 20) H' (by omega) (by decide) (by decide) rfl
    have hlt : Int32.toNatClampNeg 0 < vs.length := by show (0 : Nat) < vs.length; omega
    have fin : ∀ {y : Int64}, px_Go 11 8 (0, [(0, .ref 8), (1, .int p0), (2, .int p1), (3, .int p2), (4, .ref (52 + n))], [], hp) (.inl (some (.int 0)), hp'.set (52 + n) (11, vs.set (Int32.toNatClampNeg 0) (.long y))) → ∃ (k : Int32) (hp1 : px_H), px_Go 11 8 (0, [(0, .ref 8), (1, .int p0), (2, .int p1), (3, .int p2), (4, .ref (52 + n))], [], hp) (.inl (some (.int k)), hp1) ∧ l_S n [(10, 6), (10, 7), (12, 0), (38, 0)] hp hp1 := by
      intro y hG
      have e1 : (hp'.set (52 + n) (11, vs.set (Int32.toNatClampNeg 0) (.long y))).length = hp.length := by rw [List.length_set]; exact hl
      refine ⟨0, _, hG, pa_aS (i := 20) H' (by omega) (by decide) (by decide) hv2 rfl (pa_lgk _), (G'.mono (by decide)).trans (pa_aF (i := 20) (by omega) (by decide) (by decide) hv2 (by decide) (by decide)), by omega, ?_⟩
      rw [(pa_kept hG).sz e1]
      omega
    · refine fin (y := Int32.toInt64 z) ?_
      refine px_a 6 (f' := (7, [(0, .ref 8), (1, .int p0), (2, .int p1), (3, .int p2), (4, .ref (52 + n))], [.int p2, .int p1, .int p0, .ref 8, .int 0, .ref (52 + n)], hp)) rfl ?_
      refine px_cv 8 (as := [.int p0, .int p1, .int p2]) (rest := [.int 0, .ref (52 + n)]) rfl rfl hc rfl rfl rfl rfl (Nat.le_of_ble_eq_true rfl) (hg) ?_
      show px_Go _ _ (10, [(0, .ref 8), (1, .int p0), (2, .int p1), (3, .int p2), (4, .ref (52 + n))], [.int z, .int 0, .ref (52 + n)], hp') _
      refine px_a 1 (f' := (11, [(0, .ref 8), (1, .int p0), (2, .int p1), (3, .int p2), (4, .ref (52 + n))], [.long (Int32.toInt64 z), .int 0, .ref (52 + n)], hp')) rfl ?_
      refine px_las (52 + n) rfl hv2 (by omega) (by decide) (hlt) ?_
      have hf1__52___n_ : (hp'.set (52 + n) (11, vs.set (Int32.toNatClampNeg 0) (.long (Int32.toInt64 z))))[(52 + n)]? = some (11, vs.set (Int32.toNatClampNeg 0) (.long (Int32.toInt64 z))) := px_self hv2
      show px_Go _ _ (12, [(0, .ref 8), (1, .int p0), (2, .int p1), (3, .int p2), (4, .ref (52 + n))], [], (hp'.set (52 + n) (11, vs.set (Int32.toNatClampNeg 0) (.long (Int32.toInt64 z))))) _
      refine px_a 2 (f' := (20, [(0, .ref 8), (1, .int p0), (2, .int p1), (3, .int p2), (4, .ref (52 + n))], [.int 0], (hp'.set (52 + n) (11, vs.set (Int32.toNatClampNeg 0) (.long (Int32.toInt64 z)))))) rfl ?_
      exact px_ri rfl rfl rfl
  · obtain rfl := (px_exc_G hg).2 (by decide) (by decide)
    refine ⟨1, hp', ?_, H', G'.mono (by decide), by omega, by omega⟩
    refine px_a 6 (f' := (7, [(0, .ref 8), (1, .int p0), (2, .int p1), (3, .int p2), (4, .ref (52 + n))], [.int p2, .int p1, .int p0, .ref 8, .int 0, .ref (52 + n)], hp)) rfl ?_
    exact px_cvc 8 (as := [.int p0, .int p1, .int p2]) (rest := [.int 0, .ref (52 + n)]) rfl rfl hc rfl rfl rfl rfl (Nat.le_of_ble_eq_true rfl) (hg) (px_hdA (by decide) (by decide))
set_option maxRecDepth 20000 in
theorem l_h9 {n : Nat} (hN : pa_N n) {hp : px_H} (H : pa_Hi n hp) {p0 : Int32} : ∃ (k : Int32) (hp1 : px_H), px_Go 11 9 (0, [(0, .ref 8), (1, .int p0), (2, .ref (52 + n))], [], hp) (.inl (some (.int k)), hp1) ∧ l_S n [(10, 6), (10, 7), (12, 0), (38, 0)] hp hp1 := by
  obtain ⟨o, hp', hg, ⟨H', G', E'⟩, -⟩ := (ct_58 hN).deep (d' := 10) (by decide) [.ref 8, .int p0] hp H ⟨⟨8, rfl, rfl, by decide⟩, pa_top_ok _, trivial⟩
  obtain ⟨W, V, b2, b3, b4, b5, b6, fc, fd, sh, hW, hV, hn, hc, g2, g3, g4, g5, g6, fc1, fc2, fd1, fd2⟩ := pa_cls H
  rcases E' with ⟨v, rfl, hv', hl⟩ | ⟨ht, E, rfl, hl, hz⟩
  · obtain ⟨z, rfl, z1, z2⟩ := pa_gri (lo := 0) (hi := 160) hv'
    obtain ⟨vs, hv2, hl2, -⟩ := pa_arl (a := 52 + n) (i := 20) H' (by omega) (by decide) (by decide) rfl
    have hlt : Int32.toNatClampNeg 0 < vs.length := by show (0 : Nat) < vs.length; omega
    have fin : ∀ {y : Int64}, px_Go 11 9 (0, [(0, .ref 8), (1, .int p0), (2, .ref (52 + n))], [], hp) (.inl (some (.int 0)), hp'.set (52 + n) (11, vs.set (Int32.toNatClampNeg 0) (.long y))) → ∃ (k : Int32) (hp1 : px_H), px_Go 11 9 (0, [(0, .ref 8), (1, .int p0), (2, .ref (52 + n))], [], hp) (.inl (some (.int k)), hp1) ∧ l_S n [(10, 6), (10, 7), (12, 0), (38, 0)] hp hp1 := by
      intro y hG
      have e1 : (hp'.set (52 + n) (11, vs.set (Int32.toNatClampNeg 0) (.long y))).length = hp.length := by rw [List.length_set]; exact hl
      refine ⟨0, _, hG, pa_aS (i := 20) H' (by omega) (by decide) (by decide) hv2 rfl (pa_lgk _), (G'.mono (by decide)).trans (pa_aF (i := 20) (by omega) (by decide) (by decide) hv2 (by decide) (by decide)), by omega, ?_⟩
      rw [(pa_kept hG).sz e1]
      omega
    · refine fin (y := Int32.toInt64 z) ?_
      refine px_a 4 (f' := (4, [(0, .ref 8), (1, .int p0), (2, .ref (52 + n))], [.int p0, .ref 8, .int 0, .ref (52 + n)], hp)) rfl ?_
      refine px_cv 8 (as := [.int p0]) (rest := [.int 0, .ref (52 + n)]) rfl rfl hc rfl rfl rfl rfl (Nat.le_of_ble_eq_true rfl) (hg) ?_
      show px_Go _ _ (7, [(0, .ref 8), (1, .int p0), (2, .ref (52 + n))], [.int z, .int 0, .ref (52 + n)], hp') _
      refine px_a 1 (f' := (8, [(0, .ref 8), (1, .int p0), (2, .ref (52 + n))], [.long (Int32.toInt64 z), .int 0, .ref (52 + n)], hp')) rfl ?_
      refine px_las (52 + n) rfl hv2 (by omega) (by decide) (hlt) ?_
      have hf1__52___n_ : (hp'.set (52 + n) (11, vs.set (Int32.toNatClampNeg 0) (.long (Int32.toInt64 z))))[(52 + n)]? = some (11, vs.set (Int32.toNatClampNeg 0) (.long (Int32.toInt64 z))) := px_self hv2
      show px_Go _ _ (9, [(0, .ref 8), (1, .int p0), (2, .ref (52 + n))], [], (hp'.set (52 + n) (11, vs.set (Int32.toNatClampNeg 0) (.long (Int32.toInt64 z))))) _
      refine px_a 2 (f' := (16, [(0, .ref 8), (1, .int p0), (2, .ref (52 + n))], [.int 0], (hp'.set (52 + n) (11, vs.set (Int32.toNatClampNeg 0) (.long (Int32.toInt64 z)))))) rfl ?_
      exact px_ri rfl rfl rfl
  · obtain rfl := (px_exc_G hg).2 (by decide) (by decide)
    refine ⟨1, hp', ?_, H', G'.mono (by decide), by omega, by omega⟩
    refine px_a 4 (f' := (4, [(0, .ref 8), (1, .int p0), (2, .ref (52 + n))], [.int p0, .ref 8, .int 0, .ref (52 + n)], hp)) rfl ?_
    exact px_cvc 8 (as := [.int p0]) (rest := [.int 0, .ref (52 + n)]) rfl rfl hc rfl rfl rfl rfl (Nat.le_of_ble_eq_true rfl) (hg) (px_hdA (by decide) (by decide))
set_option maxRecDepth 20000 in
theorem l_h10 {n : Nat} (hN : pa_N n) {hp : px_H} (H : pa_Hi n hp) {p0 p1 p2 : Int32} : ∃ (k : Int32) (hp1 : px_H), px_Go 11 10 (0, [(0, .ref 8), (1, .int p0), (2, .int p1), (3, .int p2), (4, .ref (52 + n))], [], hp) (.inl (some (.int k)), hp1) ∧ l_S n [(8, 9), (10, 4), (10, 5), (10, 6), (10, 7), (11, 0), (38, 0)] hp hp1 := by
  obtain ⟨o, hp', hg, ⟨H', G', E'⟩, -⟩ := (ct_64 hN).deep (d' := 10) (by decide) [.ref 8, .int p0, .int p1, .int p2] hp H ⟨⟨8, rfl, rfl, by decide⟩, pa_top_ok _, pa_top_ok _, pa_top_ok _, trivial⟩
  obtain ⟨W, V, b2, b3, b4, b5, b6, fc, fd, sh, hW, hV, hn, hc, g2, g3, g4, g5, g6, fc1, fc2, fd1, fd2⟩ := pa_cls H
  rcases E' with ⟨v, rfl, hv', hl⟩ | ⟨ht, E, rfl, hl, hz⟩
  · obtain ⟨z, rfl, z1, z2⟩ := pa_gri (lo := 0) (hi := 1) hv'
    obtain ⟨vs, hv2, hl2, -⟩ := pa_arl (a := 52 + n) (i := 20) H' (by omega) (by decide) (by decide) rfl
    have hlt : Int32.toNatClampNeg 0 < vs.length := by show (0 : Nat) < vs.length; omega
    have fin : ∀ {y : Int64}, px_Go 11 10 (0, [(0, .ref 8), (1, .int p0), (2, .int p1), (3, .int p2), (4, .ref (52 + n))], [], hp) (.inl (some (.int 0)), hp'.set (52 + n) (11, vs.set (Int32.toNatClampNeg 0) (.long y))) → ∃ (k : Int32) (hp1 : px_H), px_Go 11 10 (0, [(0, .ref 8), (1, .int p0), (2, .int p1), (3, .int p2), (4, .ref (52 + n))], [], hp) (.inl (some (.int k)), hp1) ∧ l_S n [(8, 9), (10, 4), (10, 5), (10, 6), (10, 7), (11, 0), (38, 0)] hp hp1 := by
      intro y hG
      have e1 : (hp'.set (52 + n) (11, vs.set (Int32.toNatClampNeg 0) (.long y))).length = hp.length := by rw [List.length_set]; exact hl
      refine ⟨0, _, hG, pa_aS (i := 20) H' (by omega) (by decide) (by decide) hv2 rfl (pa_lgk _), (G'.mono (by decide)).trans (pa_aF (i := 20) (by omega) (by decide) (by decide) hv2 (by decide) (by decide)), by omega, ?_⟩
      rw [(pa_kept hG).sz e1]
      omega
    by_cases hz : z = 0
    · refine fin (y := 0) ?_
      refine px_a 6 (f' := (7, [(0, .ref 8), (1, .int p0), (2, .int p1), (3, .int p2), (4, .ref (52 + n))], [.int p2, .int p1, .int p0, .ref 8, .int 0, .ref (52 + n)], hp)) rfl ?_
      refine px_cv 8 (as := [.int p0, .int p1, .int p2]) (rest := [.int 0, .ref (52 + n)]) rfl rfl hc rfl rfl rfl rfl (Nat.le_of_ble_eq_true rfl) (hg) ?_
      show px_Go _ _ (10, [(0, .ref 8), (1, .int p0), (2, .int p1), (3, .int p2), (4, .ref (52 + n))], [.int z, .int 0, .ref (52 + n)], hp') _
      refine px_b1 true 17 rfl rfl (decide_eq_true hz) ?_
      show px_Go _ _ (17, [(0, .ref 8), (1, .int p0), (2, .int p1), (3, .int p2), (4, .ref (52 + n))], [.int 0, .ref (52 + n)], hp') _
      refine px_a 1 (f' := (18, [(0, .ref 8), (1, .int p0), (2, .int p1), (3, .int p2), (4, .ref (52 + n))], [.long 0, .int 0, .ref (52 + n)], hp')) rfl ?_
      refine px_las (52 + n) rfl hv2 (by omega) (by decide) (hlt) ?_
      have hf1__52___n_ : (hp'.set (52 + n) (11, vs.set (Int32.toNatClampNeg 0) (.long 0)))[(52 + n)]? = some (11, vs.set (Int32.toNatClampNeg 0) (.long 0)) := px_self hv2
      show px_Go _ _ (19, [(0, .ref 8), (1, .int p0), (2, .int p1), (3, .int p2), (4, .ref (52 + n))], [], (hp'.set (52 + n) (11, vs.set (Int32.toNatClampNeg 0) (.long 0)))) _
      refine px_a 2 (f' := (31, [(0, .ref 8), (1, .int p0), (2, .int p1), (3, .int p2), (4, .ref (52 + n))], [.int 0], (hp'.set (52 + n) (11, vs.set (Int32.toNatClampNeg 0) (.long 0))))) rfl ?_
      exact px_ri rfl rfl rfl
    · refine fin (y := 1) ?_
      refine px_a 6 (f' := (7, [(0, .ref 8), (1, .int p0), (2, .int p1), (3, .int p2), (4, .ref (52 + n))], [.int p2, .int p1, .int p0, .ref 8, .int 0, .ref (52 + n)], hp)) rfl ?_
      refine px_cv 8 (as := [.int p0, .int p1, .int p2]) (rest := [.int 0, .ref (52 + n)]) rfl rfl hc rfl rfl rfl rfl (Nat.le_of_ble_eq_true rfl) (hg) ?_
      show px_Go _ _ (10, [(0, .ref 8), (1, .int p0), (2, .int p1), (3, .int p2), (4, .ref (52 + n))], [.int z, .int 0, .ref (52 + n)], hp') _
      refine px_b1 false 17 rfl rfl (decide_eq_false hz) ?_
      show px_Go _ _ (13, [(0, .ref 8), (1, .int p0), (2, .int p1), (3, .int p2), (4, .ref (52 + n))], [.int 0, .ref (52 + n)], hp') _
      refine px_a 2 (f' := (18, [(0, .ref 8), (1, .int p0), (2, .int p1), (3, .int p2), (4, .ref (52 + n))], [.long 1, .int 0, .ref (52 + n)], hp')) rfl ?_
      refine px_las (52 + n) rfl hv2 (by omega) (by decide) (hlt) ?_
      have hf1__52___n_ : (hp'.set (52 + n) (11, vs.set (Int32.toNatClampNeg 0) (.long 1)))[(52 + n)]? = some (11, vs.set (Int32.toNatClampNeg 0) (.long 1)) := px_self hv2
      show px_Go _ _ (19, [(0, .ref 8), (1, .int p0), (2, .int p1), (3, .int p2), (4, .ref (52 + n))], [], (hp'.set (52 + n) (11, vs.set (Int32.toNatClampNeg 0) (.long 1)))) _
      refine px_a 2 (f' := (31, [(0, .ref 8), (1, .int p0), (2, .int p1), (3, .int p2), (4, .ref (52 + n))], [.int 0], (hp'.set (52 + n) (11, vs.set (Int32.toNatClampNeg 0) (.long 1))))) rfl ?_
      exact px_ri rfl rfl rfl
  · rcases (px_exc_G hg).1 with rfl | rfl
    · refine ⟨1, hp', ?_, H', G'.mono (by decide), by omega, by omega⟩
      refine px_a 6 (f' := (7, [(0, .ref 8), (1, .int p0), (2, .int p1), (3, .int p2), (4, .ref (52 + n))], [.int p2, .int p1, .int p0, .ref 8, .int 0, .ref (52 + n)], hp)) rfl ?_
      exact px_cvc 8 (as := [.int p0, .int p1, .int p2]) (rest := [.int 0, .ref (52 + n)]) rfl rfl hc rfl rfl rfl rfl (Nat.le_of_ble_eq_true rfl) (hg) (by decide)
    · refine ⟨2, hp', ?_, H', G'.mono (by decide), by omega, by omega⟩
      refine px_a 6 (f' := (7, [(0, .ref 8), (1, .int p0), (2, .int p1), (3, .int p2), (4, .ref (52 + n))], [.int p2, .int p1, .int p0, .ref 8, .int 0, .ref (52 + n)], hp)) rfl ?_
      exact px_cvc 8 (as := [.int p0, .int p1, .int p2]) (rest := [.int 0, .ref (52 + n)]) rfl rfl hc rfl rfl rfl rfl (Nat.le_of_ble_eq_true rfl) (hg) (by decide)
set_option maxRecDepth 20000 in
theorem l_h11 {n : Nat} (hN : pa_N n) {hp : px_H} (H : pa_Hi n hp) {p0 p1 : Int32} : ∃ (k : Int32) (hp1 : px_H), px_Go 11 11 (0, [(0, .ref 8), (1, .int p0), (2, .int p1), (3, .ref (52 + n))], [], hp) (.inl (some (.int k)), hp1) ∧ l_S n [(38, 0)] hp hp1 := by
  obtain ⟨o, hp', hg, ⟨H', G', E'⟩, -⟩ := (ct_67 hN).deep (d' := 10) (by decide) [.ref 8, .int p0, .int p1] hp H ⟨⟨8, rfl, rfl, by decide⟩, pa_top_ok _, pa_top_ok _, trivial⟩
  obtain ⟨W, V, b2, b3, b4, b5, b6, fc, fd, sh, hW, hV, hn, hc, g2, g3, g4, g5, g6, fc1, fc2, fd1, fd2⟩ := pa_cls H
  rcases E' with ⟨v, rfl, hv', hl⟩ | ⟨ht, E, rfl, hl, hz⟩
  · obtain ⟨z, rfl, z1, z2⟩ := pa_gri (lo := (-2147483648)) (hi := 2147483647) hv'
    obtain ⟨vs, hv2, hl2, -⟩ := pa_arl (a := 52 + n) (i := 20) H' (by omega) (by decide) (by decide) rfl
    have hlt : Int32.toNatClampNeg 0 < vs.length := by show (0 : Nat) < vs.length; omega
    have fin : ∀ {y : Int64}, px_Go 11 11 (0, [(0, .ref 8), (1, .int p0), (2, .int p1), (3, .ref (52 + n))], [], hp) (.inl (some (.int 0)), hp'.set (52 + n) (11, vs.set (Int32.toNatClampNeg 0) (.long y))) → ∃ (k : Int32) (hp1 : px_H), px_Go 11 11 (0, [(0, .ref 8), (1, .int p0), (2, .int p1), (3, .ref (52 + n))], [], hp) (.inl (some (.int k)), hp1) ∧ l_S n [(38, 0)] hp hp1 := by
      intro y hG
      have e1 : (hp'.set (52 + n) (11, vs.set (Int32.toNatClampNeg 0) (.long y))).length = hp.length := by rw [List.length_set]; exact hl
      refine ⟨0, _, hG, pa_aS (i := 20) H' (by omega) (by decide) (by decide) hv2 rfl (pa_lgk _), (G'.mono (by decide)).trans (pa_aF (i := 20) (by omega) (by decide) (by decide) hv2 (by decide) (by decide)), by omega, ?_⟩
      rw [(pa_kept hG).sz e1]
      omega
    · refine fin (y := Int32.toInt64 z) ?_
      refine px_a 5 (f' := (5, [(0, .ref 8), (1, .int p0), (2, .int p1), (3, .ref (52 + n))], [.int p1, .int p0, .ref 8, .int 0, .ref (52 + n)], hp)) rfl ?_
      refine px_cv 8 (as := [.int p0, .int p1]) (rest := [.int 0, .ref (52 + n)]) rfl rfl hc rfl rfl rfl rfl (Nat.le_of_ble_eq_true rfl) (hg) ?_
      show px_Go _ _ (8, [(0, .ref 8), (1, .int p0), (2, .int p1), (3, .ref (52 + n))], [.int z, .int 0, .ref (52 + n)], hp') _
      refine px_a 1 (f' := (9, [(0, .ref 8), (1, .int p0), (2, .int p1), (3, .ref (52 + n))], [.long (Int32.toInt64 z), .int 0, .ref (52 + n)], hp')) rfl ?_
      refine px_las (52 + n) rfl hv2 (by omega) (by decide) (hlt) ?_
      have hf1__52___n_ : (hp'.set (52 + n) (11, vs.set (Int32.toNatClampNeg 0) (.long (Int32.toInt64 z))))[(52 + n)]? = some (11, vs.set (Int32.toNatClampNeg 0) (.long (Int32.toInt64 z))) := px_self hv2
      show px_Go _ _ (10, [(0, .ref 8), (1, .int p0), (2, .int p1), (3, .ref (52 + n))], [], (hp'.set (52 + n) (11, vs.set (Int32.toNatClampNeg 0) (.long (Int32.toInt64 z))))) _
      refine px_a 2 (f' := (18, [(0, .ref 8), (1, .int p0), (2, .int p1), (3, .ref (52 + n))], [.int 0], (hp'.set (52 + n) (11, vs.set (Int32.toNatClampNeg 0) (.long (Int32.toInt64 z)))))) rfl ?_
      exact px_ri rfl rfl rfl
  · obtain rfl := (px_exc_G hg).2 (by decide) (by decide)
    refine ⟨1, hp', ?_, H', G'.mono (by decide), by omega, by omega⟩
    refine px_a 5 (f' := (5, [(0, .ref 8), (1, .int p0), (2, .int p1), (3, .ref (52 + n))], [.int p1, .int p0, .ref 8, .int 0, .ref (52 + n)], hp)) rfl ?_
    exact px_cvc 8 (as := [.int p0, .int p1]) (rest := [.int 0, .ref (52 + n)]) rfl rfl hc rfl rfl rfl rfl (Nat.le_of_ble_eq_true rfl) (hg) (px_hdA (by decide) (by decide))
