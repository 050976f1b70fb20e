set_option maxRecDepth 20000 in
set_option maxHeartbeats 2000000 in
theorem l_case_0 {n : Nat} (hN : pa_N n) {L I S0 B : Nat} {xs : Nat → Int32} (hL : L ≤ 10000) (hI : I + 4 ≤ L) {hp : px_H} (In : l_In n L xs S0 hp B) (R : l_R n hp) {P : px_O → px_H → Prop} (K : ∀ hp1, l_In n L xs S0 hp1 (B + 1) → l_R n hp1 → px_Gx 12 6 (43, [(4, .int (nI (I + 4))), (3, .ref (52 + n)), (2, .ref (38 + n)), (1, .ref 8), (0, .ref 0)], [], hp1) P) : px_Gx 12 6 (136, [(4, .int (nI I)), (3, .ref (52 + n)), (2, .ref (38 + n)), (1, .ref 8), (0, .ref 0)], [], hp) P := by
  refine px_gx (fun _ K => px_a 5 (f' := (142, [(4, .int (nI I)), (3, .ref (52 + n)), (2, .ref (38 + n)), (1, .ref 8), (0, .ref 0)], [.int (nI I + 1), .ref 0, .ref 8], hp)) rfl K) ?_
  refine l_ld 1 1 rfl rfl In.2.1 (by omega) hL ?_
  show px_Gx _ _ (143, [(4, .int (nI I)), (3, .ref (52 + n)), (2, .ref (38 + n)), (1, .ref 8), (0, .ref 0)], [.int (xs (I + 1)), .ref 8], hp) _
  refine px_gx (fun _ K => px_a 4 (f' := (148, [(4, .int (nI I)), (3, .ref (52 + n)), (2, .ref (38 + n)), (1, .ref 8), (0, .ref 0)], [.int (nI I + 2), .ref 0, .int (xs (I + 1)), .ref 8], hp)) rfl K) ?_
  refine l_ld 2 2 rfl rfl In.2.1 (by omega) hL ?_
  show px_Gx _ _ (149, [(4, .int (nI I)), (3, .ref (52 + n)), (2, .ref (38 + n)), (1, .ref 8), (0, .ref 0)], [.int (xs (I + 2)), .int (xs (I + 1)), .ref 8], hp) _
  refine px_gx (fun _ K => px_a 4 (f' := (154, [(4, .int (nI I)), (3, .ref (52 + n)), (2, .ref (38 + n)), (1, .ref 8), (0, .ref 0)], [.int (nI I + 3), .ref 0, .int (xs (I + 2)), .int (xs (I + 1)), .ref 8], hp)) rfl K) ?_
  refine l_ld 3 3 rfl rfl In.2.1 (by omega) hL ?_
  show px_Gx _ _ (155, [(4, .int (nI I)), (3, .ref (52 + n)), (2, .ref (38 + n)), (1, .ref 8), (0, .ref 0)], [.int (xs (I + 3)), .int (xs (I + 2)), .int (xs (I + 1)), .ref 8], hp) _
  by_cases h1 : (xs (I + 3)) = 0
  · refine px_gx (fun _ K => px_b1 true 162 rfl rfl (decide_eq_true h1) K) ?_
    show px_Gx _ _ (162, [(4, .int (nI I)), (3, .ref (52 + n)), (2, .ref (38 + n)), (1, .ref 8), (0, .ref 0)], [.int (xs (I + 2)), .int (xs (I + 1)), .ref 8], hp) _
    refine px_gx (fun _ K => px_a 2 (f' := (164, [(4, .int (nI I)), (3, .ref (52 + n)), (2, .ref (38 + n)), (1, .ref 8), (0, .ref 0)], [.ref (52 + n), .int 0, .int (xs (I + 2)), .int (xs (I + 1)), .ref 8], hp)) rfl K) ?_
    obtain ⟨k2, hp2, g2, S2⟩ := l_h5 hN In.1 (p0 := (xs (I + 1))) (p1 := (xs (I + 2))) (p2 := 0) (by decide) (by decide)
    refine px_gx (fun _ K => px_cl (as := [.ref 8, .int (xs (I + 1)), .int (xs (I + 2)), .int 0, .ref (52 + n)]) (rest := []) rfl rfl g2 K) ?_
    have G2 := S2.2.1
    have In2 := In.S S2 (by decide)
    have R2 : l_R n hp2 := l_R_fr In.1 G2 (by decide) (by decide) R
    show px_Gx _ _ (167, [(4, .int (nI I)), (3, .ref (52 + n)), (2, .ref (38 + n)), (1, .ref 8), (0, .ref 0)], [.int k2], hp2) _
    refine px_gx (fun _ K => px_a 6 (f' := (175, [(5, .int k2), (4, .int (nI I)), (3, .ref (52 + n)), (2, .ref (38 + n)), (1, .ref 8), (0, .ref 0)], [.int (nI I + 1), .ref 0, .ref (38 + n)], hp2)) rfl K) ?_
    refine l_ld 1 1 rfl rfl In2.2.1 (by omega) hL ?_
    show px_Gx _ _ (176, [(5, .int k2), (4, .int (nI I)), (3, .ref (52 + n)), (2, .ref (38 + n)), (1, .ref 8), (0, .ref 0)], [.int (xs (I + 1)), .ref (38 + n)], hp2) _
    refine px_gx (fun _ K => px_a 4 (f' := (181, [(5, .int k2), (4, .int (nI I)), (3, .ref (52 + n)), (2, .ref (38 + n)), (1, .ref 8), (0, .ref 0)], [.int (nI I + 2), .ref 0, .int (xs (I + 1)), .ref (38 + n)], hp2)) rfl K) ?_
    refine l_ld 2 2 rfl rfl In2.2.1 (by omega) hL ?_
    show px_Gx _ _ (182, [(5, .int k2), (4, .int (nI I)), (3, .ref (52 + n)), (2, .ref (38 + n)), (1, .ref 8), (0, .ref 0)], [.int (xs (I + 2)), .int (xs (I + 1)), .ref (38 + n)], hp2) _
    refine px_gx (fun _ K => px_a 4 (f' := (187, [(5, .int k2), (4, .int (nI I)), (3, .ref (52 + n)), (2, .ref (38 + n)), (1, .ref 8), (0, .ref 0)], [.int (nI I + 3), .ref 0, .int (xs (I + 2)), .int (xs (I + 1)), .ref (38 + n)], hp2)) rfl K) ?_
    refine l_ld 3 3 rfl rfl In2.2.1 (by omega) hL ?_
    show px_Gx _ _ (188, [(5, .int k2), (4, .int (nI I)), (3, .ref (52 + n)), (2, .ref (38 + n)), (1, .ref 8), (0, .ref 0)], [.int (xs (I + 3)), .int (xs (I + 2)), .int (xs (I + 1)), .ref (38 + n)], hp2) _
    refine px_gx (fun _ K => px_b1 true 195 rfl rfl (decide_eq_true h1) K) ?_
    show px_Gx _ _ (195, [(5, .int k2), (4, .int (nI I)), (3, .ref (52 + n)), (2, .ref (38 + n)), (1, .ref 8), (0, .ref 0)], [.int (xs (I + 2)), .int (xs (I + 1)), .ref (38 + n)], hp2) _
    refine px_gx (fun _ K => px_a 1 (f' := (196, [(5, .int k2), (4, .int (nI I)), (3, .ref (52 + n)), (2, .ref (38 + n)), (1, .ref 8), (0, .ref 0)], [.int 0, .int (xs (I + 2)), .int (xs (I + 1)), .ref (38 + n)], hp2)) rfl K) ?_
    refine l_cv ((ct_71 hN).deep (d' := 11) (by decide)) In2.1 (a := 38 + n) (as := [.int (xs (I + 1)), .int (xs (I + 2)), .int 0]) (rest := []) rfl rfl (by rw [r24]; rfl) (by rw [r24]; decide) rfl rfl rfl (Nat.le_of_ble_eq_true rfl) ⟨pa_r24, pa_top_ok _, pa_top_ok _, pa_in (by decide) (by decide), trivial⟩ rfl (fun v3 hp3 g3 hv3 H3 G3 L3 Z3 => ?_)
    have In3 := In2.D H3 G3 (by decide) L3 Z3
    have R3 : l_R n hp3 := l_R_fr In2.1 G3 (by decide) (by decide) R2
    obtain ⟨z3, rfl, -, -⟩ := pa_gri (lo := 0) (hi := 1) hv3
    show px_Gx _ _ (199, [(5, .int k2), (4, .int (nI I)), (3, .ref (52 + n)), (2, .ref (38 + n)), (1, .ref 8), (0, .ref 0)], [.int z3], hp3) _
    refine px_gx (fun _ K => px_a 2 (f' := (654, [(6, .int z3), (5, .int k2), (4, .int (nI I)), (3, .ref (52 + n)), (2, .ref (38 + n)), (1, .ref 8), (0, .ref 0)], [], hp3)) rfl K) ?_
    refine px_gx (fun _ K => px_a 1 (f' := (657, [(4, .int (nI I + 4)), (6, .int z3), (5, .int k2), (3, .ref (52 + n)), (2, .ref (38 + n)), (1, .ref 8), (0, .ref 0)], [], hp3)) rfl K) ?_
    rw [show nI I + 4 = nI (I + 4) from nI_add I 4]
    show px_Gx _ _ (657, [(4, .int (nI (I + 4))), (6, .int z3), (5, .int k2), (3, .ref (52 + n)), (2, .ref (38 + n)), (1, .ref 8), (0, .ref 0)], [], hp3) _
    refine px_gx (fun _ K => px_a 1 (f' := (43, [(4, .int (nI (I + 4))), (6, .int z3), (5, .int k2), (3, .ref (52 + n)), (2, .ref (38 + n)), (1, .ref 8), (0, .ref 0)], [], hp3)) rfl K) ?_
    refine px_wk [(4, .int (nI (I + 4))), (3, .ref (52 + n)), (2, .ref (38 + n)), (1, .ref 8), (0, .ref 0)] ⟨rfl, rfl, rfl, rfl, rfl, trivial⟩ ?_
    exact K hp3 (In3.up (by omega)) R3
  · refine px_gx (fun _ K => px_b1 false 162 rfl rfl (decide_eq_false h1) K) ?_
    show px_Gx _ _ (158, [(4, .int (nI I)), (3, .ref (52 + n)), (2, .ref (38 + n)), (1, .ref 8), (0, .ref 0)], [.int (xs (I + 2)), .int (xs (I + 1)), .ref 8], hp) _
    refine px_gx (fun _ K => px_a 3 (f' := (164, [(4, .int (nI I)), (3, .ref (52 + n)), (2, .ref (38 + n)), (1, .ref 8), (0, .ref 0)], [.ref (52 + n), .int 1, .int (xs (I + 2)), .int (xs (I + 1)), .ref 8], hp)) rfl K) ?_
    obtain ⟨k4, hp4, g4, S4⟩ := l_h5 hN In.1 (p0 := (xs (I + 1))) (p1 := (xs (I + 2))) (p2 := 1) (by decide) (by decide)
    refine px_gx (fun _ K => px_cl (as := [.ref 8, .int (xs (I + 1)), .int (xs (I + 2)), .int 1, .ref (52 + n)]) (rest := []) rfl rfl g4 K) ?_
    have G4 := S4.2.1
    have In4 := In.S S4 (by decide)
    have R4 : l_R n hp4 := l_R_fr In.1 G4 (by decide) (by decide) R
    show px_Gx _ _ (167, [(4, .int (nI I)), (3, .ref (52 + n)), (2, .ref (38 + n)), (1, .ref 8), (0, .ref 0)], [.int k4], hp4) _
    refine px_gx (fun _ K => px_a 6 (f' := (175, [(5, .int k4), (4, .int (nI I)), (3, .ref (52 + n)), (2, .ref (38 + n)), (1, .ref 8), (0, .ref 0)], [.int (nI I + 1), .ref 0, .ref (38 + n)], hp4)) rfl K) ?_
    refine l_ld 1 1 rfl rfl In4.2.1 (by omega) hL ?_
    show px_Gx _ _ (176, [(5, .int k4), (4, .int (nI I)), (3, .ref (52 + n)), (2, .ref (38 + n)), (1, .ref 8), (0, .ref 0)], [.int (xs (I + 1)), .ref (38 + n)], hp4) _
    refine px_gx (fun _ K => px_a 4 (f' := (181, [(5, .int k4), (4, .int (nI I)), (3, .ref (52 + n)), (2, .ref (38 + n)), (1, .ref 8), (0, .ref 0)], [.int (nI I + 2), .ref 0, .int (xs (I + 1)), .ref (38 + n)], hp4)) rfl K) ?_
    refine l_ld 2 2 rfl rfl In4.2.1 (by omega) hL ?_
    show px_Gx _ _ (182, [(5, .int k4), (4, .int (nI I)), (3, .ref (52 + n)), (2, .ref (38 + n)), (1, .ref 8), (0, .ref 0)], [.int (xs (I + 2)), .int (xs (I + 1)), .ref (38 + n)], hp4) _
    refine px_gx (fun _ K => px_a 4 (f' := (187, [(5, .int k4), (4, .int (nI I)), (3, .ref (52 + n)), (2, .ref (38 + n)), (1, .ref 8), (0, .ref 0)], [.int (nI I + 3), .ref 0, .int (xs (I + 2)), .int (xs (I + 1)), .ref (38 + n)], hp4)) rfl K) ?_
    refine l_ld 3 3 rfl rfl In4.2.1 (by omega) hL ?_
    show px_Gx _ _ (188, [(5, .int k4), (4, .int (nI I)), (3, .ref (52 + n)), (2, .ref (38 + n)), (1, .ref 8), (0, .ref 0)], [.int (xs (I + 3)), .int (xs (I + 2)), .int (xs (I + 1)), .ref (38 + n)], hp4) _
    refine px_gx (fun _ K => px_b1 false 195 rfl rfl (decide_eq_false h1) K) ?_
    show px_Gx _ _ (191, [(5, .int k4), (4, .int (nI I)), (3, .ref (52 + n)), (2, .ref (38 + n)), (1, .ref 8), (0, .ref 0)], [.int (xs (I + 2)), .int (xs (I + 1)), .ref (38 + n)], hp4) _
    refine px_gx (fun _ K => px_a 2 (f' := (196, [(5, .int k4), (4, .int (nI I)), (3, .ref (52 + n)), (2, .ref (38 + n)), (1, .ref 8), (0, .ref 0)], [.int 1, .int (xs (I + 2)), .int (xs (I + 1)), .ref (38 + n)], hp4)) rfl K) ?_
    refine l_cv ((ct_71 hN).deep (d' := 11) (by decide)) In4.1 (a := 38 + n) (as := [.int (xs (I + 1)), .int (xs (I + 2)), .int 1]) (rest := []) rfl rfl (by rw [r24]; rfl) (by rw [r24]; decide) rfl rfl rfl (Nat.le_of_ble_eq_true rfl) ⟨pa_r24, pa_top_ok _, pa_top_ok _, pa_in (by decide) (by decide), trivial⟩ rfl (fun v5 hp5 g5 hv5 H5 G5 L5 Z5 => ?_)
    have In5 := In4.D H5 G5 (by decide) L5 Z5
    have R5 : l_R n hp5 := l_R_fr In4.1 G5 (by decide) (by decide) R4
    obtain ⟨z5, rfl, -, -⟩ := pa_gri (lo := 0) (hi := 1) hv5
    show px_Gx _ _ (199, [(5, .int k4), (4, .int (nI I)), (3, .ref (52 + n)), (2, .ref (38 + n)), (1, .ref 8), (0, .ref 0)], [.int z5], hp5) _
    refine px_gx (fun _ K => px_a 2 (f' := (654, [(6, .int z5), (5, .int k4), (4, .int (nI I)), (3, .ref (52 + n)), (2, .ref (38 + n)), (1, .ref 8), (0, .ref 0)], [], hp5)) rfl K) ?_
    refine px_gx (fun _ K => px_a 1 (f' := (657, [(4, .int (nI I + 4)), (6, .int z5), (5, .int k4), (3, .ref (52 + n)), (2, .ref (38 + n)), (1, .ref 8), (0, .ref 0)], [], hp5)) rfl K) ?_
    rw [show nI I + 4 = nI (I + 4) from nI_add I 4]
    show px_Gx _ _ (657, [(4, .int (nI (I + 4))), (6, .int z5), (5, .int k4), (3, .ref (52 + n)), (2, .ref (38 + n)), (1, .ref 8), (0, .ref 0)], [], hp5) _
    refine px_gx (fun _ K => px_a 1 (f' := (43, [(4, .int (nI (I + 4))), (6, .int z5), (5, .int k4), (3, .ref (52 + n)), (2, .ref (38 + n)), (1, .ref 8), (0, .ref 0)], [], hp5)) rfl K) ?_
    refine px_wk [(4, .int (nI (I + 4))), (3, .ref (52 + n)), (2, .ref (38 + n)), (1, .ref 8), (0, .ref 0)] ⟨rfl, rfl, rfl, rfl, rfl, trivial⟩ ?_
    exact K hp5 (In5.up (by omega)) R5
set_option maxRecDepth 20000 in
set_option maxHeartbeats 2000000 in
theorem l_case_1 {n : Nat} (hN : pa_N n) {L I S0 B : Nat} {xs : Nat → Int32} (hL : L ≤ 10000) (hI : I + 4 ≤ L) {hp : px_H} (In : l_In n L xs S0 hp B) (R : l_R n hp) {P : px_O → px_H → Prop} (K : ∀ hp1, l_In n L xs S0 hp1 (B + 1) → l_R n hp1 → px_Gx 12 6 (43, [(4, .int (nI (I + 4))), (3, .ref (52 + n)), (2, .ref (38 + n)), (1, .ref 8), (0, .ref 0)], [], hp1) P) : px_Gx 12 6 (204, [(4, .int (nI I)), (3, .ref (52 + n)), (2, .ref (38 + n)), (1, .ref 8), (0, .ref 0)], [], hp) P := by
  refine px_gx (fun _ K => px_a 1 (f' := (205, [(4, .int (nI I)), (3, .ref (52 + n)), (2, .ref (38 + n)), (1, .ref 8), (0, .ref 0)], [.ref 8], hp)) rfl K) ?_
  obtain ⟨W, V, b2, b3, b4, b5, b6, fc, fd, sh, hW, hV, hn, hc, -, -, -, -, -, fc1, fc2, fd1, fd2⟩ := pa_cls In.1
  have RF : pa_fd hp (38 + n) 4 = some (.int fc) := by rw [← R, pa_fd_get hc]; rfl
  refine l_cv ((ct_56 hN).deep (d' := 11) (by decide)) In.1 (a := 8) (as := []) (rest := []) rfl rfl rfl (by show (8 : Nat) ≠ 99; decide) rfl rfl rfl (Nat.le_of_ble_eq_true rfl) ⟨l_ri rfl (by decide), trivial⟩ rfl (fun v1 hp1 g1 hv1 H1 G1 L1 Z1 => ?_)
  have In1 := In.D H1 G1 (by decide) L1 Z1
  obtain ⟨z1, rfl, -, -⟩ := pa_gri (lo := (-1)) (hi := 5) hv1
  show px_Gx _ _ (208, [(4, .int (nI I)), (3, .ref (52 + n)), (2, .ref (38 + n)), (1, .ref 8), (0, .ref 0)], [.int z1], hp1) _
  obtain ⟨o, hpx, gx, rx, fcx, rfl, fx, cx⟩ := x_piece (d := 11) hc
  have ex := px_det g1 gx
  cases ex
  have RF1 : pa_fd hp1 (38 + n) 4 = some (.int fc) := by rw [l_fd In.1 G1 (r24 n) (by decide) (by decide) (by decide)]; exact RF
  refine px_gx (fun _ K => px_a 1 (f' := (209, [(4, .int (nI I)), (3, .ref (52 + n)), (2, .ref (38 + n)), (1, .ref 8), (0, .ref 0)], [.ref (38 + n), .int z1], hp1)) rfl K) ?_
  obtain ⟨th, w, h, pn, pl, fo, le, ru, hm⟩ := pa_modO In1.1
  obtain rfl : fc = pn := by rw [pa_fd_get hm] at RF1; cases RF1; rfl
  refine l_cv ((ct_84 hN).deep (d' := 11) (by decide)) In1.1 (a := 38 + n) (as := []) (rest := [.int z1]) rfl rfl (by rw [r24]; rfl) (by rw [r24]; decide) rfl rfl rfl (Nat.le_of_ble_eq_true rfl) ⟨pa_r24, trivial⟩ rfl (fun v2 hp2 g2 hv2 H2 G2 L2 Z2 => ?_)
  have In2 := In1.D H2 G2 (by decide) L2 Z2
  obtain ⟨z2, rfl, -, -⟩ := pa_gri (lo := (-1)) (hi := 5) hv2
  show px_Gx _ _ (212, [(4, .int (nI I)), (3, .ref (52 + n)), (2, .ref (38 + n)), (1, .ref 8), (0, .ref 0)], [.int z2, .int z1], hp2) _
  obtain ⟨o2, hpm, gm, rm, pnm, rfl, fm, cm⟩ := m_piece (d := 11) hm In1.1
  have em := px_det g2 gm
  cases em
  have FX : pa_fd hp2 8 7 = some (.int fcx) := by rw [l_fd In1.1 G2 (r := 8) rfl (by decide) (by decide) (by decide)]; exact fx
  obtain ⟨rfl, rfl⟩ : z1 = z2 ∧ fcx = pnm := by
    rcases cx with ⟨a1, a2, a3⟩ | ⟨a1, a2, a3⟩
    · rcases cm with ⟨b1, b2, b3⟩ | ⟨b1, b2, b3⟩
      · rw [a2, a3, b2, b3]; exact ⟨rfl, rfl⟩
      · exact absurd ((l_6 fc2).mp a1) b1
    · rcases cm with ⟨b1, b2, b3⟩ | ⟨b1, b2, b3⟩
      · exact absurd ((l_6 fc2).mpr b1) a1
      · rw [a2, a3, b2, b3]; exact ⟨rfl, rfl⟩
  have R2 : l_R n hp2 := by unfold l_R; rw [FX, fm]
  show px_Gx _ _ (212, [(4, .int (nI I)), (3, .ref (52 + n)), (2, .ref (38 + n)), (1, .ref 8), (0, .ref 0)], [.int z1, .int z1], hp2) _
  refine px_gx (fun _ K => px_b2 true 654 rfl rfl (decide_eq_true rfl) K) ?_
  show px_Gx _ _ (654, [(4, .int (nI I)), (3, .ref (52 + n)), (2, .ref (38 + n)), (1, .ref 8), (0, .ref 0)], [], hp2) _
  refine px_gx (fun _ K => px_a 1 (f' := (657, [(4, .int (nI I + 4)), (3, .ref (52 + n)), (2, .ref (38 + n)), (1, .ref 8), (0, .ref 0)], [], hp2)) rfl K) ?_
  rw [show nI I + 4 = nI (I + 4) from nI_add I 4]
  show px_Gx _ _ (657, [(4, .int (nI (I + 4))), (3, .ref (52 + n)), (2, .ref (38 + n)), (1, .ref 8), (0, .ref 0)], [], hp2) _
  refine px_gx (fun _ K => px_a 1 (f' := (43, [(4, .int (nI (I + 4))), (3, .ref (52 + n)), (2, .ref (38 + n)), (1, .ref 8), (0, .ref 0)], [], hp2)) rfl K) ?_
  refine px_wk [(4, .int (nI (I + 4))), (3, .ref (52 + n)), (2, .ref (38 + n)), (1, .ref 8), (0, .ref 0)] ⟨rfl, rfl, rfl, rfl, rfl, trivial⟩ ?_
  exact K hp2 (In2.up (by omega)) R2
set_option maxRecDepth 20000 in
set_option maxHeartbeats 2000000 in
theorem l_case_2 {n : Nat} (hN : pa_N n) {L I S0 B : Nat} {xs : Nat → Int32} (hL : L ≤ 10000) (hI : I + 4 ≤ L) {hp : px_H} (In : l_In n L xs S0 hp B) (R : l_R n hp) {P : px_O → px_H → Prop} (K : ∀ hp1, l_In n L xs S0 hp1 (B + 1) → l_R n hp1 → px_Gx 12 6 (43, [(4, .int (nI (I + 4))), (3, .ref (52 + n)), (2, .ref (38 + n)), (1, .ref 8), (0, .ref 0)], [], hp1) P) : px_Gx 12 6 (217, [(4, .int (nI I)), (3, .ref (52 + n)), (2, .ref (38 + n)), (1, .ref 8), (0, .ref 0)], [], hp) P := by
  refine px_gx (fun _ K => px_a 5 (f' := (223, [(4, .int (nI I)), (3, .ref (52 + n)), (2, .ref (38 + n)), (1, .ref 8), (0, .ref 0)], [.int (nI I + 1), .ref 0, .ref 8], hp)) rfl K) ?_
  refine l_ld 1 1 rfl rfl In.2.1 (by omega) hL ?_
  show px_Gx _ _ (224, [(4, .int (nI I)), (3, .ref (52 + n)), (2, .ref (38 + n)), (1, .ref 8), (0, .ref 0)], [.int (xs (I + 1)), .ref 8], hp) _
  refine px_gx (fun _ K => px_a 4 (f' := (229, [(4, .int (nI I)), (3, .ref (52 + n)), (2, .ref (38 + n)), (1, .ref 8), (0, .ref 0)], [.int (nI I + 2), .ref 0, .int (xs (I + 1)), .ref 8], hp)) rfl K) ?_
  refine l_ld 2 2 rfl rfl In.2.1 (by omega) hL ?_
  show px_Gx _ _ (230, [(4, .int (nI I)), (3, .ref (52 + n)), (2, .ref (38 + n)), (1, .ref 8), (0, .ref 0)], [.int (xs (I + 2)), .int (xs (I + 1)), .ref 8], hp) _
  refine px_gx (fun _ K => px_a 4 (f' := (235, [(4, .int (nI I)), (3, .ref (52 + n)), (2, .ref (38 + n)), (1, .ref 8), (0, .ref 0)], [.int (nI I + 3), .ref 0, .int (xs (I + 2)), .int (xs (I + 1)), .ref 8], hp)) rfl K) ?_
  refine l_ld 3 3 rfl rfl In.2.1 (by omega) hL ?_
  show px_Gx _ _ (236, [(4, .int (nI I)), (3, .ref (52 + n)), (2, .ref (38 + n)), (1, .ref 8), (0, .ref 0)], [.int (xs (I + 3)), .int (xs (I + 2)), .int (xs (I + 1)), .ref 8], hp) _
  refine px_gx (fun _ K => px_a 1 (f' := (237, [(4, .int (nI I)), (3, .ref (52 + n)), (2, .ref (38 + n)), (1, .ref 8), (0, .ref 0)], [.ref (52 + n), .int (xs (I + 3)), .int (xs (I + 2)), .int (xs (I + 1)), .ref 8], hp)) rfl K) ?_
  obtain ⟨k1, hp1, g1, S1⟩ := l_h10 hN In.1 (p0 := (xs (I + 1))) (p1 := (xs (I + 2))) (p2 := (xs (I + 3)))
  refine px_gx (fun _ K => px_cl (as := [.ref 8, .int (xs (I + 1)), .int (xs (I + 2)), .int (xs (I + 3)), .ref (52 + n)]) (rest := []) rfl rfl g1 K) ?_
  have G1 := S1.2.1
  have In1 := In.S S1 (by decide)
  have R1 : l_R n hp1 := l_R_fr In.1 G1 (by decide) (by decide) R
  show px_Gx _ _ (240, [(4, .int (nI I)), (3, .ref (52 + n)), (2, .ref (38 + n)), (1, .ref 8), (0, .ref 0)], [.int k1], hp1) _
  refine px_gx (fun _ K => px_a 6 (f' := (248, [(5, .int k1), (4, .int (nI I)), (3, .ref (52 + n)), (2, .ref (38 + n)), (1, .ref 8), (0, .ref 0)], [.int (nI I + 1), .ref 0, .ref (38 + n)], hp1)) rfl K) ?_
  refine l_ld 1 1 rfl rfl In1.2.1 (by omega) hL ?_
  show px_Gx _ _ (249, [(5, .int k1), (4, .int (nI I)), (3, .ref (52 + n)), (2, .ref (38 + n)), (1, .ref 8), (0, .ref 0)], [.int (xs (I + 1)), .ref (38 + n)], hp1) _
  refine px_gx (fun _ K => px_a 4 (f' := (254, [(5, .int k1), (4, .int (nI I)), (3, .ref (52 + n)), (2, .ref (38 + n)), (1, .ref 8), (0, .ref 0)], [.int (nI I + 2), .ref 0, .int (xs (I + 1)), .ref (38 + n)], hp1)) rfl K) ?_
  refine l_ld 2 2 rfl rfl In1.2.1 (by omega) hL ?_
  show px_Gx _ _ (255, [(5, .int k1), (4, .int (nI I)), (3, .ref (52 + n)), (2, .ref (38 + n)), (1, .ref 8), (0, .ref 0)], [.int (xs (I + 2)), .int (xs (I + 1)), .ref (38 + n)], hp1) _
  refine px_gx (fun _ K => px_a 4 (f' := (260, [(5, .int k1), (4, .int (nI I)), (3, .ref (52 + n)), (2, .ref (38 + n)), (1, .ref 8), (0, .ref 0)], [.int (nI I + 3), .ref 0, .int (xs (I + 2)), .int (xs (I + 1)), .ref (38 + n)], hp1)) rfl K) ?_
  refine l_ld 3 3 rfl rfl In1.2.1 (by omega) hL ?_
  show px_Gx _ _ (261, [(5, .int k1), (4, .int (nI I)), (3, .ref (52 + n)), (2, .ref (38 + n)), (1, .ref 8), (0, .ref 0)], [.int (xs (I + 3)), .int (xs (I + 2)), .int (xs (I + 1)), .ref (38 + n)], hp1) _
  refine l_cv ((ct_94 hN).deep (d' := 11) (by decide)) In1.1 (a := 38 + n) (as := [.int (xs (I + 1)), .int (xs (I + 2)), .int (xs (I + 3))]) (rest := []) rfl rfl (by rw [r24]; rfl) (by rw [r24]; decide) rfl rfl rfl (Nat.le_of_ble_eq_true rfl) ⟨pa_r24, pa_top_ok _, pa_top_ok _, pa_top_ok _, trivial⟩ rfl (fun v2 hp2 g2 hv2 H2 G2 L2 Z2 => ?_)
  have In2 := In1.D H2 G2 (by decide) L2 Z2
  have R2 : l_R n hp2 := l_R_fr In1.1 G2 (by decide) (by decide) R1
  obtain ⟨z2, rfl, -, -⟩ := pa_gri (lo := 0) (hi := 1) hv2
  show px_Gx _ _ (264, [(5, .int k1), (4, .int (nI I)), (3, .ref (52 + n)), (2, .ref (38 + n)), (1, .ref 8), (0, .ref 0)], [.int z2], hp2) _
  refine px_gx (fun _ K => px_a 2 (f' := (654, [(6, .int z2), (5, .int k1), (4, .int (nI I)), (3, .ref (52 + n)), (2, .ref (38 + n)), (1, .ref 8), (0, .ref 0)], [], hp2)) rfl K) ?_
  refine px_gx (fun _ K => px_a 1 (f' := (657, [(4, .int (nI I + 4)), (6, .int z2), (5, .int k1), (3, .ref (52 + n)), (2, .ref (38 + n)), (1, .ref 8), (0, .ref 0)], [], hp2)) rfl K) ?_
  rw [show nI I + 4 = nI (I + 4) from nI_add I 4]
  show px_Gx _ _ (657, [(4, .int (nI (I + 4))), (6, .int z2), (5, .int k1), (3, .ref (52 + n)), (2, .ref (38 + n)), (1, .ref 8), (0, .ref 0)], [], hp2) _
  refine px_gx (fun _ K => px_a 1 (f' := (43, [(4, .int (nI (I + 4))), (6, .int z2), (5, .int k1), (3, .ref (52 + n)), (2, .ref (38 + n)), (1, .ref 8), (0, .ref 0)], [], hp2)) rfl K) ?_
  refine px_wk [(4, .int (nI (I + 4))), (3, .ref (52 + n)), (2, .ref (38 + n)), (1, .ref 8), (0, .ref 0)] ⟨rfl, rfl, rfl, rfl, rfl, trivial⟩ ?_
  exact K hp2 (In2.up (by omega)) R2
set_option maxRecDepth 20000 in
set_option maxHeartbeats 2000000 in
theorem l_case_3 {n : Nat} (hN : pa_N n) {L I S0 B : Nat} {xs : Nat → Int32} (hL : L ≤ 10000) (hI : I + 4 ≤ L) {hp : px_H} (In : l_In n L xs S0 hp B) (R : l_R n hp) {P : px_O → px_H → Prop} (K : ∀ hp1, l_In n L xs S0 hp1 (B + 1) → l_R n hp1 → px_Gx 12 6 (43, [(4, .int (nI (I + 4))), (3, .ref (52 + n)), (2, .ref (38 + n)), (1, .ref 8), (0, .ref 0)], [], hp1) P) : px_Gx 12 6 (269, [(4, .int (nI I)), (3, .ref (52 + n)), (2, .ref (38 + n)), (1, .ref 8), (0, .ref 0)], [], hp) P := by
  refine px_gx (fun _ K => px_a 5 (f' := (275, [(4, .int (nI I)), (3, .ref (52 + n)), (2, .ref (38 + n)), (1, .ref 8), (0, .ref 0)], [.int (nI I + 1), .ref 0, .ref 8], hp)) rfl K) ?_
  refine l_ld 1 1 rfl rfl In.2.1 (by omega) hL ?_
  show px_Gx _ _ (276, [(4, .int (nI I)), (3, .ref (52 + n)), (2, .ref (38 + n)), (1, .ref 8), (0, .ref 0)], [.int (xs (I + 1)), .ref 8], hp) _
  refine px_gx (fun _ K => px_a 1 (f' := (277, [(4, .int (nI I)), (3, .ref (52 + n)), (2, .ref (38 + n)), (1, .ref 8), (0, .ref 0)], [.ref (52 + n), .int (xs (I + 1)), .ref 8], hp)) rfl K) ?_
  obtain ⟨k1, hp1, g1, S1⟩ := l_h9 hN In.1 (p0 := (xs (I + 1)))
  refine px_gx (fun _ K => px_cl (as := [.ref 8, .int (xs (I + 1)), .ref (52 + n)]) (rest := []) rfl rfl g1 K) ?_
  have G1 := S1.2.1
  have In1 := In.S S1 (by decide)
  have R1 : l_R n hp1 := l_R_fr In.1 G1 (by decide) (by decide) R
  show px_Gx _ _ (280, [(4, .int (nI I)), (3, .ref (52 + n)), (2, .ref (38 + n)), (1, .ref 8), (0, .ref 0)], [.int k1], hp1) _
  refine px_gx (fun _ K => px_a 6 (f' := (288, [(5, .int k1), (4, .int (nI I)), (3, .ref (52 + n)), (2, .ref (38 + n)), (1, .ref 8), (0, .ref 0)], [.int (nI I + 1), .ref 0, .ref (38 + n)], hp1)) rfl K) ?_
  refine l_ld 1 1 rfl rfl In1.2.1 (by omega) hL ?_
  show px_Gx _ _ (289, [(5, .int k1), (4, .int (nI I)), (3, .ref (52 + n)), (2, .ref (38 + n)), (1, .ref 8), (0, .ref 0)], [.int (xs (I + 1)), .ref (38 + n)], hp1) _
  refine l_cv ((ct_87 hN).deep (d' := 11) (by decide)) In1.1 (a := 38 + n) (as := [.int (xs (I + 1))]) (rest := []) rfl rfl (by rw [r24]; rfl) (by rw [r24]; decide) rfl rfl rfl (Nat.le_of_ble_eq_true rfl) ⟨pa_r24, pa_top_ok _, trivial⟩ rfl (fun v2 hp2 g2 hv2 H2 G2 L2 Z2 => ?_)
  have In2 := In1.D H2 G2 (by decide) L2 Z2
  have R2 : l_R n hp2 := l_R_fr In1.1 G2 (by decide) (by decide) R1
  obtain ⟨z2, rfl, -, -⟩ := pa_gri (lo := 0) (hi := 512) hv2
  show px_Gx _ _ (292, [(5, .int k1), (4, .int (nI I)), (3, .ref (52 + n)), (2, .ref (38 + n)), (1, .ref 8), (0, .ref 0)], [.int z2], hp2) _
  refine px_gx (fun _ K => px_a 2 (f' := (654, [(6, .int z2), (5, .int k1), (4, .int (nI I)), (3, .ref (52 + n)), (2, .ref (38 + n)), (1, .ref 8), (0, .ref 0)], [], hp2)) rfl K) ?_
  refine px_gx (fun _ K => px_a 1 (f' := (657, [(4, .int (nI I + 4)), (6, .int z2), (5, .int k1), (3, .ref (52 + n)), (2, .ref (38 + n)), (1, .ref 8), (0, .ref 0)], [], hp2)) rfl K) ?_
  rw [show nI I + 4 = nI (I + 4) from nI_add I 4]
  show px_Gx _ _ (657, [(4, .int (nI (I + 4))), (6, .int z2), (5, .int k1), (3, .ref (52 + n)), (2, .ref (38 + n)), (1, .ref 8), (0, .ref 0)], [], hp2) _
  refine px_gx (fun _ K => px_a 1 (f' := (43, [(4, .int (nI (I + 4))), (6, .int z2), (5, .int k1), (3, .ref (52 + n)), (2, .ref (38 + n)), (1, .ref 8), (0, .ref 0)], [], hp2)) rfl K) ?_
  refine px_wk [(4, .int (nI (I + 4))), (3, .ref (52 + n)), (2, .ref (38 + n)), (1, .ref 8), (0, .ref 0)] ⟨rfl, rfl, rfl, rfl, rfl, trivial⟩ ?_
  exact K hp2 (In2.up (by omega)) R2
set_option maxRecDepth 20000 in
set_option maxHeartbeats 2000000 in
theorem l_case_4 {n : Nat} (hN : pa_N n) {L I S0 B : Nat} {xs : Nat → Int32} (hL : L ≤ 10000) (hI : I + 4 ≤ L) {hp : px_H} (In : l_In n L xs S0 hp B) (R : l_R n hp) {P : px_O → px_H → Prop} (K : ∀ hp1, l_In n L xs S0 hp1 (B + 1) → l_R n hp1 → px_Gx 12 6 (43, [(4, .int (nI (I + 4))), (3, .ref (52 + n)), (2, .ref (38 + n)), (1, .ref 8), (0, .ref 0)], [], hp1) P) : px_Gx 12 6 (297, [(4, .int (nI I)), (3, .ref (52 + n)), (2, .ref (38 + n)), (1, .ref 8), (0, .ref 0)], [], hp) P := by
  refine px_gx (fun _ K => px_a 5 (f' := (303, [(4, .int (nI I)), (3, .ref (52 + n)), (2, .ref (38 + n)), (1, .ref 8), (0, .ref 0)], [.int (nI I + 1), .ref 0, .ref 8], hp)) rfl K) ?_
  refine l_ld 1 1 rfl rfl In.2.1 (by omega) hL ?_
  show px_Gx _ _ (304, [(4, .int (nI I)), (3, .ref (52 + n)), (2, .ref (38 + n)), (1, .ref 8), (0, .ref 0)], [.int (xs (I + 1)), .ref 8], hp) _
  refine px_gx (fun _ K => px_a 4 (f' := (309, [(4, .int (nI I)), (3, .ref (52 + n)), (2, .ref (38 + n)), (1, .ref 8), (0, .ref 0)], [.int (nI I + 2), .ref 0, .int (xs (I + 1)), .ref 8], hp)) rfl K) ?_
  refine l_ld 2 2 rfl rfl In.2.1 (by omega) hL ?_
  show px_Gx _ _ (310, [(4, .int (nI I)), (3, .ref (52 + n)), (2, .ref (38 + n)), (1, .ref 8), (0, .ref 0)], [.int (xs (I + 2)), .int (xs (I + 1)), .ref 8], hp) _
  refine px_gx (fun _ K => px_a 4 (f' := (315, [(4, .int (nI I)), (3, .ref (52 + n)), (2, .ref (38 + n)), (1, .ref 8), (0, .ref 0)], [.int (nI I + 3), .ref 0, .int (xs (I + 2)), .int (xs (I + 1)), .ref 8], hp)) rfl K) ?_
  refine l_ld 3 3 rfl rfl In.2.1 (by omega) hL ?_
  show px_Gx _ _ (316, [(4, .int (nI I)), (3, .ref (52 + n)), (2, .ref (38 + n)), (1, .ref 8), (0, .ref 0)], [.int (xs (I + 3)), .int (xs (I + 2)), .int (xs (I + 1)), .ref 8], hp) _
  refine px_gx (fun _ K => px_a 1 (f' := (317, [(4, .int (nI I)), (3, .ref (52 + n)), (2, .ref (38 + n)), (1, .ref 8), (0, .ref 0)], [.ref (52 + n), .int (xs (I + 3)), .int (xs (I + 2)), .int (xs (I + 1)), .ref 8], hp)) rfl K) ?_
  obtain ⟨k1, hp1, g1, S1⟩ := l_h8 hN In.1 (p0 := (xs (I + 1))) (p1 := (xs (I + 2))) (p2 := (xs (I + 3)))
  refine px_gx (fun _ K => px_cl (as := [.ref 8, .int (xs (I + 1)), .int (xs (I + 2)), .int (xs (I + 3)), .ref (52 + n)]) (rest := []) rfl rfl g1 K) ?_
  have G1 := S1.2.1
  have In1 := In.S S1 (by decide)
  have R1 : l_R n hp1 := l_R_fr In.1 G1 (by decide) (by decide) R
  show px_Gx _ _ (320, [(4, .int (nI I)), (3, .ref (52 + n)), (2, .ref (38 + n)), (1, .ref 8), (0, .ref 0)], [.int k1], hp1) _
  refine px_gx (fun _ K => px_a 6 (f' := (328, [(5, .int k1), (4, .int (nI I)), (3, .ref (52 + n)), (2, .ref (38 + n)), (1, .ref 8), (0, .ref 0)], [.int (nI I + 1), .ref 0, .ref (38 + n)], hp1)) rfl K) ?_
  refine l_ld 1 1 rfl rfl In1.2.1 (by omega) hL ?_
  show px_Gx _ _ (329, [(5, .int k1), (4, .int (nI I)), (3, .ref (52 + n)), (2, .ref (38 + n)), (1, .ref 8), (0, .ref 0)], [.int (xs (I + 1)), .ref (38 + n)], hp1) _
  refine px_gx (fun _ K => px_a 4 (f' := (334, [(5, .int k1), (4, .int (nI I)), (3, .ref (52 + n)), (2, .ref (38 + n)), (1, .ref 8), (0, .ref 0)], [.int (nI I + 2), .ref 0, .int (xs (I + 1)), .ref (38 + n)], hp1)) rfl K) ?_
  refine l_ld 2 2 rfl rfl In1.2.1 (by omega) hL ?_
  show px_Gx _ _ (335, [(5, .int k1), (4, .int (nI I)), (3, .ref (52 + n)), (2, .ref (38 + n)), (1, .ref 8), (0, .ref 0)], [.int (xs (I + 2)), .int (xs (I + 1)), .ref (38 + n)], hp1) _
  refine px_gx (fun _ K => px_a 4 (f' := (340, [(5, .int k1), (4, .int (nI I)), (3, .ref (52 + n)), (2, .ref (38 + n)), (1, .ref 8), (0, .ref 0)], [.int (nI I + 3), .ref 0, .int (xs (I + 2)), .int (xs (I + 1)), .ref (38 + n)], hp1)) rfl K) ?_
  refine l_ld 3 3 rfl rfl In1.2.1 (by omega) hL ?_
  show px_Gx _ _ (341, [(5, .int k1), (4, .int (nI I)), (3, .ref (52 + n)), (2, .ref (38 + n)), (1, .ref 8), (0, .ref 0)], [.int (xs (I + 3)), .int (xs (I + 2)), .int (xs (I + 1)), .ref (38 + n)], hp1) _
  refine l_cv ((ct_86 hN).deep (d' := 11) (by decide)) In1.1 (a := 38 + n) (as := [.int (xs (I + 1)), .int (xs (I + 2)), .int (xs (I + 3))]) (rest := []) rfl rfl (by rw [r24]; rfl) (by rw [r24]; decide) rfl rfl rfl (Nat.le_of_ble_eq_true rfl) ⟨pa_r24, pa_top_ok _, pa_top_ok _, pa_top_ok _, trivial⟩ rfl (fun v2 hp2 g2 hv2 H2 G2 L2 Z2 => ?_)
  have In2 := In1.D H2 G2 (by decide) L2 Z2
  have R2 : l_R n hp2 := l_R_fr In1.1 G2 (by decide) (by decide) R1
  obtain ⟨z2, rfl, -, -⟩ := pa_gri (lo := (-1)) (hi := 35) hv2
  show px_Gx _ _ (344, [(5, .int k1), (4, .int (nI I)), (3, .ref (52 + n)), (2, .ref (38 + n)), (1, .ref 8), (0, .ref 0)], [.int z2], hp2) _
  refine px_gx (fun _ K => px_a 2 (f' := (654, [(6, .int z2), (5, .int k1), (4, .int (nI I)), (3, .ref (52 + n)), (2, .ref (38 + n)), (1, .ref 8), (0, .ref 0)], [], hp2)) rfl K) ?_
  refine px_gx (fun _ K => px_a 1 (f' := (657, [(4, .int (nI I + 4)), (6, .int z2), (5, .int k1), (3, .ref (52 + n)), (2, .ref (38 + n)), (1, .ref 8), (0, .ref 0)], [], hp2)) rfl K) ?_
  rw [show nI I + 4 = nI (I + 4) from nI_add I 4]
  show px_Gx _ _ (657, [(4, .int (nI (I + 4))), (6, .int z2), (5, .int k1), (3, .ref (52 + n)), (2, .ref (38 + n)), (1, .ref 8), (0, .ref 0)], [], hp2) _
  refine px_gx (fun _ K => px_a 1 (f' := (43, [(4, .int (nI (I + 4))), (6, .int z2), (5, .int k1), (3, .ref (52 + n)), (2, .ref (38 + n)), (1, .ref 8), (0, .ref 0)], [], hp2)) rfl K) ?_
  refine px_wk [(4, .int (nI (I + 4))), (3, .ref (52 + n)), (2, .ref (38 + n)), (1, .ref 8), (0, .ref 0)] ⟨rfl, rfl, rfl, rfl, rfl, trivial⟩ ?_
  exact K hp2 (In2.up (by omega)) R2
set_option maxRecDepth 20000 in
set_option maxHeartbeats 2000000 in
theorem l_case_5 {n : Nat} (hN : pa_N n) {L I S0 B : Nat} {xs : Nat → Int32} (hL : L ≤ 10000) (hI : I + 4 ≤ L) {hp : px_H} (In : l_In n L xs S0 hp B) (R : l_R n hp) {P : px_O → px_H → Prop} (K : ∀ hp1, l_In n L xs S0 hp1 (B + 1) → l_R n hp1 → px_Gx 12 6 (43, [(4, .int (nI (I + 4))), (3, .ref (52 + n)), (2, .ref (38 + n)), (1, .ref 8), (0, .ref 0)], [], hp1) P) : px_Gx 12 6 (349, [(4, .int (nI I)), (3, .ref (52 + n)), (2, .ref (38 + n)), (1, .ref 8), (0, .ref 0)], [], hp) P := by
  refine px_gx (fun _ K => px_a 1 (f' := (350, [(4, .int (nI I)), (3, .ref (52 + n)), (2, .ref (38 + n)), (1, .ref 8), (0, .ref 0)], [.ref 8], hp)) rfl K) ?_
  refine l_cv ((ct_63 hN).deep (d' := 11) (by decide)) In.1 (a := 8) (as := []) (rest := []) rfl rfl rfl (by show (8 : Nat) ≠ 99; decide) rfl rfl rfl (Nat.le_of_ble_eq_true rfl) ⟨l_ri rfl (by decide), trivial⟩ rfl (fun v1 hp1 g1 hv1 H1 G1 L1 Z1 => ?_)
  have In1 := In.D H1 G1 (by decide) L1 Z1
  have R1 : l_R n hp1 := l_R_fr In.1 G1 (by decide) (by decide) R
  obtain ⟨z1, rfl, -, -⟩ := pa_gri (lo := 0) (hi := 1) hv1
  show px_Gx _ _ (353, [(4, .int (nI I)), (3, .ref (52 + n)), (2, .ref (38 + n)), (1, .ref 8), (0, .ref 0)], [.int z1], hp1) _
  refine px_gx (fun _ K => px_a 2 (f' := (355, [(4, .int (nI I)), (3, .ref (52 + n)), (2, .ref (38 + n)), (1, .ref 8), (0, .ref 0)], [.ref (38 + n)], hp1)) rfl K) ?_
  refine l_cv ((ct_93 hN).deep (d' := 11) (by decide)) In1.1 (a := 38 + n) (as := []) (rest := []) rfl rfl (by rw [r24]; rfl) (by rw [r24]; decide) rfl rfl rfl (Nat.le_of_ble_eq_true rfl) ⟨pa_r24, trivial⟩ rfl (fun v2 hp2 g2 hv2 H2 G2 L2 Z2 => ?_)
  have In2 := In1.D H2 G2 (by decide) L2 Z2
  have R2 : l_R n hp2 := l_R_fr In1.1 G2 (by decide) (by decide) R1
  obtain ⟨z2, rfl, -, -⟩ := pa_gri (lo := 0) (hi := 1) hv2
  show px_Gx _ _ (358, [(4, .int (nI I)), (3, .ref (52 + n)), (2, .ref (38 + n)), (1, .ref 8), (0, .ref 0)], [.int z2], hp2) _
  refine px_gx (fun _ K => px_a 2 (f' := (654, [(4, .int (nI I)), (3, .ref (52 + n)), (2, .ref (38 + n)), (1, .ref 8), (0, .ref 0)], [], hp2)) rfl K) ?_
  refine px_gx (fun _ K => px_a 1 (f' := (657, [(4, .int (nI I + 4)), (3, .ref (52 + n)), (2, .ref (38 + n)), (1, .ref 8), (0, .ref 0)], [], hp2)) rfl K) ?_
  rw [show nI I + 4 = nI (I + 4) from nI_add I 4]
  show px_Gx _ _ (657, [(4, .int (nI (I + 4))), (3, .ref (52 + n)), (2, .ref (38 + n)), (1, .ref 8), (0, .ref 0)], [], hp2) _
  refine px_gx (fun _ K => px_a 1 (f' := (43, [(4, .int (nI (I + 4))), (3, .ref (52 + n)), (2, .ref (38 + n)), (1, .ref 8), (0, .ref 0)], [], hp2)) rfl K) ?_
  refine px_wk [(4, .int (nI (I + 4))), (3, .ref (52 + n)), (2, .ref (38 + n)), (1, .ref 8), (0, .ref 0)] ⟨rfl, rfl, rfl, rfl, rfl, trivial⟩ ?_
  exact K hp2 (In2.up (by omega)) R2
set_option maxRecDepth 20000 in
set_option maxHeartbeats 2000000 in
theorem l_case_6 {n : Nat} (hN : pa_N n) {L I S0 B : Nat} {xs : Nat → Int32} (hL : L ≤ 10000) (hI : I + 4 ≤ L) {hp : px_H} (In : l_In n L xs S0 hp B) (R : l_R n hp) {P : px_O → px_H → Prop} (K : ∀ hp1, l_In n L xs S0 hp1 (B + 1) → l_R n hp1 → px_Gx 12 6 (43, [(4, .int (nI (I + 4))), (3, .ref (52 + n)), (2, .ref (38 + n)), (1, .ref 8), (0, .ref 0)], [], hp1) P) : px_Gx 12 6 (362, [(4, .int (nI I)), (3, .ref (52 + n)), (2, .ref (38 + n)), (1, .ref 8), (0, .ref 0)], [], hp) P := by
  refine px_gx (fun _ K => px_a 5 (f' := (368, [(4, .int (nI I)), (3, .ref (52 + n)), (2, .ref (38 + n)), (1, .ref 8), (0, .ref 0)], [.int (nI I + 1), .ref 0, .ref 8], hp)) rfl K) ?_
  refine l_ld 1 1 rfl rfl In.2.1 (by omega) hL ?_
  show px_Gx _ _ (369, [(4, .int (nI I)), (3, .ref (52 + n)), (2, .ref (38 + n)), (1, .ref 8), (0, .ref 0)], [.int (xs (I + 1)), .ref 8], hp) _
  refine l_cv ((ct_48 hN).deep (d' := 11) (by decide)) In.1 (a := 8) (as := [.int (xs (I + 1))]) (rest := []) rfl rfl rfl (by show (8 : Nat) ≠ 99; decide) rfl rfl rfl (Nat.le_of_ble_eq_true rfl) ⟨l_ri rfl (by decide), pa_top_ok _, trivial⟩ rfl (fun v1 hp1 g1 hv1 H1 G1 L1 Z1 => ?_)
  have In1 := In.D H1 G1 (by decide) L1 Z1
  have R1 : l_R n hp1 := l_R_fr In.1 G1 (by decide) (by decide) R
  obtain ⟨z1, rfl, -, -⟩ := pa_gri (lo := (-1)) (hi := 1) hv1
  show px_Gx _ _ (372, [(4, .int (nI I)), (3, .ref (52 + n)), (2, .ref (38 + n)), (1, .ref 8), (0, .ref 0)], [.int z1], hp1) _
  refine px_gx (fun _ K => px_a 6 (f' := (379, [(4, .int (nI I)), (3, .ref (52 + n)), (2, .ref (38 + n)), (1, .ref 8), (0, .ref 0)], [.int (nI I + 1), .ref 0, .ref (38 + n)], hp1)) rfl K) ?_
  refine l_ld 1 1 rfl rfl In1.2.1 (by omega) hL ?_
  show px_Gx _ _ (380, [(4, .int (nI I)), (3, .ref (52 + n)), (2, .ref (38 + n)), (1, .ref 8), (0, .ref 0)], [.int (xs (I + 1)), .ref (38 + n)], hp1) _
  refine l_cv ((ct_73 hN).deep (d' := 11) (by decide)) In1.1 (a := 38 + n) (as := [.int (xs (I + 1))]) (rest := []) rfl rfl (by rw [r24]; rfl) (by rw [r24]; decide) rfl rfl rfl (Nat.le_of_ble_eq_true rfl) ⟨pa_r24, pa_top_ok _, trivial⟩ rfl (fun v2 hp2 g2 hv2 H2 G2 L2 Z2 => ?_)
  have In2 := In1.D H2 G2 (by decide) L2 Z2
  have R2 : l_R n hp2 := l_R_fr In1.1 G2 (by decide) (by decide) R1
  obtain ⟨z2, rfl, -, -⟩ := pa_gri (lo := (-2147483648)) (hi := 2147483647) hv2
  show px_Gx _ _ (383, [(4, .int (nI I)), (3, .ref (52 + n)), (2, .ref (38 + n)), (1, .ref 8), (0, .ref 0)], [.int z2], hp2) _
  refine px_gx (fun _ K => px_a 2 (f' := (654, [(4, .int (nI I)), (3, .ref (52 + n)), (2, .ref (38 + n)), (1, .ref 8), (0, .ref 0)], [], hp2)) rfl K) ?_
  refine px_gx (fun _ K => px_a 1 (f' := (657, [(4, .int (nI I + 4)), (3, .ref (52 + n)), (2, .ref (38 + n)), (1, .ref 8), (0, .ref 0)], [], hp2)) rfl K) ?_
  rw [show nI I + 4 = nI (I + 4) from nI_add I 4]
  show px_Gx _ _ (657, [(4, .int (nI (I + 4))), (3, .ref (52 + n)), (2, .ref (38 + n)), (1, .ref 8), (0, .ref 0)], [], hp2) _
  refine px_gx (fun _ K => px_a 1 (f' := (43, [(4, .int (nI (I + 4))), (3, .ref (52 + n)), (2, .ref (38 + n)), (1, .ref 8), (0, .ref 0)], [], hp2)) rfl K) ?_
  refine px_wk [(4, .int (nI (I + 4))), (3, .ref (52 + n)), (2, .ref (38 + n)), (1, .ref 8), (0, .ref 0)] ⟨rfl, rfl, rfl, rfl, rfl, trivial⟩ ?_
  exact K hp2 (In2.up (by omega)) R2
set_option maxRecDepth 20000 in
set_option maxHeartbeats 2000000 in
theorem l_case_7 {n : Nat} (hN : pa_N n) {L I S0 B : Nat} {xs : Nat → Int32} (hL : L ≤ 10000) (hI : I + 4 ≤ L) {hp : px_H} (In : l_In n L xs S0 hp B) (R : l_R n hp) {P : px_O → px_H → Prop} (K : ∀ hp1, l_In n L xs S0 hp1 (B + 1) → l_R n hp1 → px_Gx 12 6 (43, [(4, .int (nI (I + 4))), (3, .ref (52 + n)), (2, .ref (38 + n)), (1, .ref 8), (0, .ref 0)], [], hp1) P) : px_Gx 12 6 (387, [(4, .int (nI I)), (3, .ref (52 + n)), (2, .ref (38 + n)), (1, .ref 8), (0, .ref 0)], [], hp) P := by
  refine px_gx (fun _ K => px_a 5 (f' := (393, [(4, .int (nI I)), (3, .ref (52 + n)), (2, .ref (38 + n)), (1, .ref 8), (0, .ref 0)], [.int (nI I + 1), .ref 0, .ref 8], hp)) rfl K) ?_
  refine l_ld 1 1 rfl rfl In.2.1 (by omega) hL ?_
  show px_Gx _ _ (394, [(4, .int (nI I)), (3, .ref (52 + n)), (2, .ref (38 + n)), (1, .ref 8), (0, .ref 0)], [.int (xs (I + 1)), .ref 8], hp) _
  refine px_gx (fun _ K => px_a 4 (f' := (399, [(4, .int (nI I)), (3, .ref (52 + n)), (2, .ref (38 + n)), (1, .ref 8), (0, .ref 0)], [.int (nI I + 2), .ref 0, .int (xs (I + 1)), .ref 8], hp)) rfl K) ?_
  refine l_ld 2 2 rfl rfl In.2.1 (by omega) hL ?_
  show px_Gx _ _ (400, [(4, .int (nI I)), (3, .ref (52 + n)), (2, .ref (38 + n)), (1, .ref 8), (0, .ref 0)], [.int (xs (I + 2)), .int (xs (I + 1)), .ref 8], hp) _
  refine px_gx (fun _ K => px_a 1 (f' := (401, [(4, .int (nI I)), (3, .ref (52 + n)), (2, .ref (38 + n)), (1, .ref 8), (0, .ref 0)], [.ref (52 + n), .int (xs (I + 2)), .int (xs (I + 1)), .ref 8], hp)) rfl K) ?_
  obtain ⟨k1, hp1, g1, S1⟩ := l_h11 hN In.1 (p0 := (xs (I + 1))) (p1 := (xs (I + 2)))
  refine px_gx (fun _ K => px_cl (as := [.ref 8, .int (xs (I + 1)), .int (xs (I + 2)), .ref (52 + n)]) (rest := []) rfl rfl g1 K) ?_
  have G1 := S1.2.1
  have In1 := In.S S1 (by decide)
  have R1 : l_R n hp1 := l_R_fr In.1 G1 (by decide) (by decide) R
  show px_Gx _ _ (404, [(4, .int (nI I)), (3, .ref (52 + n)), (2, .ref (38 + n)), (1, .ref 8), (0, .ref 0)], [.int k1], hp1) _
  refine px_gx (fun _ K => px_a 6 (f' := (412, [(5, .int k1), (4, .int (nI I)), (3, .ref (52 + n)), (2, .ref (38 + n)), (1, .ref 8), (0, .ref 0)], [.int (nI I + 1), .ref 0, .ref (38 + n)], hp1)) rfl K) ?_
  refine l_ld 1 1 rfl rfl In1.2.1 (by omega) hL ?_
  show px_Gx _ _ (413, [(5, .int k1), (4, .int (nI I)), (3, .ref (52 + n)), (2, .ref (38 + n)), (1, .ref 8), (0, .ref 0)], [.int (xs (I + 1)), .ref (38 + n)], hp1) _
  refine px_gx (fun _ K => px_a 4 (f' := (418, [(5, .int k1), (4, .int (nI I)), (3, .ref (52 + n)), (2, .ref (38 + n)), (1, .ref 8), (0, .ref 0)], [.int (nI I + 2), .ref 0, .int (xs (I + 1)), .ref (38 + n)], hp1)) rfl K) ?_
  refine l_ld 2 2 rfl rfl In1.2.1 (by omega) hL ?_
  show px_Gx _ _ (419, [(5, .int k1), (4, .int (nI I)), (3, .ref (52 + n)), (2, .ref (38 + n)), (1, .ref 8), (0, .ref 0)], [.int (xs (I + 2)), .int (xs (I + 1)), .ref (38 + n)], hp1) _
  refine l_cv ((ct_101 hN).deep (d' := 11) (by decide)) In1.1 (a := 38 + n) (as := [.int (xs (I + 1)), .int (xs (I + 2))]) (rest := []) rfl rfl (by rw [r24]; rfl) (by rw [r24]; decide) rfl rfl rfl (Nat.le_of_ble_eq_true rfl) ⟨pa_r24, pa_top_ok _, pa_top_ok _, trivial⟩ rfl (fun v2 hp2 g2 hv2 H2 G2 L2 Z2 => ?_)
  have In2 := In1.D H2 G2 (by decide) L2 Z2
  have R2 : l_R n hp2 := l_R_fr In1.1 G2 (by decide) (by decide) R1
  obtain ⟨z2, rfl, -, -⟩ := pa_gri (lo := (-2147483648)) (hi := 2147483647) hv2
  show px_Gx _ _ (422, [(5, .int k1), (4, .int (nI I)), (3, .ref (52 + n)), (2, .ref (38 + n)), (1, .ref 8), (0, .ref 0)], [.int z2], hp2) _
  refine px_gx (fun _ K => px_a 2 (f' := (654, [(6, .int z2), (5, .int k1), (4, .int (nI I)), (3, .ref (52 + n)), (2, .ref (38 + n)), (1, .ref 8), (0, .ref 0)], [], hp2)) rfl K) ?_
  refine px_gx (fun _ K => px_a 1 (f' := (657, [(4, .int (nI I + 4)), (6, .int z2), (5, .int k1), (3, .ref (52 + n)), (2, .ref (38 + n)), (1, .ref 8), (0, .ref 0)], [], hp2)) rfl K) ?_
  rw [show nI I + 4 = nI (I + 4) from nI_add I 4]
  show px_Gx _ _ (657, [(4, .int (nI (I + 4))), (6, .int z2), (5, .int k1), (3, .ref (52 + n)), (2, .ref (38 + n)), (1, .ref 8), (0, .ref 0)], [], hp2) _
  refine px_gx (fun _ K => px_a 1 (f' := (43, [(4, .int (nI (I + 4))), (6, .int z2), (5, .int k1), (3, .ref (52 + n)), (2, .ref (38 + n)), (1, .ref 8), (0, .ref 0)], [], hp2)) rfl K) ?_
  refine px_wk [(4, .int (nI (I + 4))), (3, .ref (52 + n)), (2, .ref (38 + n)), (1, .ref 8), (0, .ref 0)] ⟨rfl, rfl, rfl, rfl, rfl, trivial⟩ ?_
  exact K hp2 (In2.up (by omega)) R2
set_option maxRecDepth 20000 in
set_option maxHeartbeats 2000000 in
theorem l_case_8 {n : Nat} (hN : pa_N n) {L I S0 B : Nat} {xs : Nat → Int32} (hL : L ≤ 10000) (hI : I + 4 ≤ L) {hp : px_H} (In : l_In n L xs S0 hp B) (R : l_R n hp) {P : px_O → px_H → Prop} (K : ∀ hp1, l_In n L xs S0 hp1 (B + 1) → l_R n hp1 → px_Gx 12 6 (43, [(4, .int (nI (I + 4))), (3, .ref (52 + n)), (2, .ref (38 + n)), (1, .ref 8), (0, .ref 0)], [], hp1) P) : px_Gx 12 6 (427, [(4, .int (nI I)), (3, .ref (52 + n)), (2, .ref (38 + n)), (1, .ref 8), (0, .ref 0)], [], hp) P := by
  refine px_gx (fun _ K => px_a 5 (f' := (433, [(4, .int (nI I)), (3, .ref (52 + n)), (2, .ref (38 + n)), (1, .ref 8), (0, .ref 0)], [.int (nI I + 1), .ref 0, .ref 8], hp)) rfl K) ?_
  refine l_ld 1 1 rfl rfl In.2.1 (by omega) hL ?_
  show px_Gx _ _ (434, [(4, .int (nI I)), (3, .ref (52 + n)), (2, .ref (38 + n)), (1, .ref 8), (0, .ref 0)], [.int (xs (I + 1)), .ref 8], hp) _
  refine l_cv ((ct_66 hN).deep (d' := 11) (by decide)) In.1 (a := 8) (as := [.int (xs (I + 1))]) (rest := []) rfl rfl rfl (by show (8 : Nat) ≠ 99; decide) rfl rfl rfl (Nat.le_of_ble_eq_true rfl) ⟨l_ri rfl (by decide), pa_top_ok _, trivial⟩ rfl (fun v1 hp1 g1 hv1 H1 G1 L1 Z1 => ?_)
  have In1 := In.D H1 G1 (by decide) L1 Z1
  have R1 : l_R n hp1 := l_R_fr In.1 G1 (by decide) (by decide) R
  obtain ⟨z1, rfl, -, -⟩ := pa_gri (lo := (-2147483648)) (hi := 2147483647) hv1
  show px_Gx _ _ (437, [(4, .int (nI I)), (3, .ref (52 + n)), (2, .ref (38 + n)), (1, .ref 8), (0, .ref 0)], [.int z1], hp1) _
  refine px_gx (fun _ K => px_a 6 (f' := (444, [(4, .int (nI I)), (3, .ref (52 + n)), (2, .ref (38 + n)), (1, .ref 8), (0, .ref 0)], [.int (nI I + 1), .ref 0, .ref (38 + n)], hp1)) rfl K) ?_
  refine l_ld 1 1 rfl rfl In1.2.1 (by omega) hL ?_
  show px_Gx _ _ (445, [(4, .int (nI I)), (3, .ref (52 + n)), (2, .ref (38 + n)), (1, .ref 8), (0, .ref 0)], [.int (xs (I + 1)), .ref (38 + n)], hp1) _
  refine l_cv ((ct_98 hN).deep (d' := 11) (by decide)) In1.1 (a := 38 + n) (as := [.int (xs (I + 1))]) (rest := []) rfl rfl (by rw [r24]; rfl) (by rw [r24]; decide) rfl rfl rfl (Nat.le_of_ble_eq_true rfl) ⟨pa_r24, pa_top_ok _, trivial⟩ rfl (fun v2 hp2 g2 hv2 H2 G2 L2 Z2 => ?_)
  have In2 := In1.D H2 G2 (by decide) L2 Z2
  have R2 : l_R n hp2 := l_R_fr In1.1 G2 (by decide) (by decide) R1
  obtain ⟨z2, rfl, -, -⟩ := pa_gri (lo := (-2147483648)) (hi := 2147483647) hv2
  show px_Gx _ _ (448, [(4, .int (nI I)), (3, .ref (52 + n)), (2, .ref (38 + n)), (1, .ref 8), (0, .ref 0)], [.int z2], hp2) _
  refine px_gx (fun _ K => px_a 2 (f' := (654, [(4, .int (nI I)), (3, .ref (52 + n)), (2, .ref (38 + n)), (1, .ref 8), (0, .ref 0)], [], hp2)) rfl K) ?_
  refine px_gx (fun _ K => px_a 1 (f' := (657, [(4, .int (nI I + 4)), (3, .ref (52 + n)), (2, .ref (38 + n)), (1, .ref 8), (0, .ref 0)], [], hp2)) rfl K) ?_
  rw [show nI I + 4 = nI (I + 4) from nI_add I 4]
  show px_Gx _ _ (657, [(4, .int (nI (I + 4))), (3, .ref (52 + n)), (2, .ref (38 + n)), (1, .ref 8), (0, .ref 0)], [], hp2) _
  refine px_gx (fun _ K => px_a 1 (f' := (43, [(4, .int (nI (I + 4))), (3, .ref (52 + n)), (2, .ref (38 + n)), (1, .ref 8), (0, .ref 0)], [], hp2)) rfl K) ?_
  refine px_wk [(4, .int (nI (I + 4))), (3, .ref (52 + n)), (2, .ref (38 + n)), (1, .ref 8), (0, .ref 0)] ⟨rfl, rfl, rfl, rfl, rfl, trivial⟩ ?_
  exact K hp2 (In2.up (by omega)) R2
set_option maxRecDepth 20000 in
set_option maxHeartbeats 2000000 in
theorem l_case_9 {n : Nat} (hN : pa_N n) {L I S0 B : Nat} {xs : Nat → Int32} (hL : L ≤ 10000) (hI : I + 4 ≤ L) {hp : px_H} (In : l_In n L xs S0 hp B) (R : l_R n hp) {P : px_O → px_H → Prop} (K : ∀ hp1, l_In n L xs S0 hp1 (B + 1) → l_R n hp1 → px_Gx 12 6 (43, [(4, .int (nI (I + 4))), (3, .ref (52 + n)), (2, .ref (38 + n)), (1, .ref 8), (0, .ref 0)], [], hp1) P) : px_Gx 12 6 (452, [(4, .int (nI I)), (3, .ref (52 + n)), (2, .ref (38 + n)), (1, .ref 8), (0, .ref 0)], [], hp) P := by
  refine px_gx (fun _ K => px_a 5 (f' := (458, [(4, .int (nI I)), (3, .ref (52 + n)), (2, .ref (38 + n)), (1, .ref 8), (0, .ref 0)], [.int (nI I + 1), .ref 0, .ref 8], hp)) rfl K) ?_
  refine l_ld 1 1 rfl rfl In.2.1 (by omega) hL ?_
  show px_Gx _ _ (459, [(4, .int (nI I)), (3, .ref (52 + n)), (2, .ref (38 + n)), (1, .ref 8), (0, .ref 0)], [.int (xs (I + 1)), .ref 8], hp) _
  refine px_gx (fun _ K => px_a 4 (f' := (464, [(4, .int (nI I)), (3, .ref (52 + n)), (2, .ref (38 + n)), (1, .ref 8), (0, .ref 0)], [.int (nI I + 2), .ref 0, .int (xs (I + 1)), .ref 8], hp)) rfl K) ?_
  refine l_ld 2 2 rfl rfl In.2.1 (by omega) hL ?_
  show px_Gx _ _ (465, [(4, .int (nI I)), (3, .ref (52 + n)), (2, .ref (38 + n)), (1, .ref 8), (0, .ref 0)], [.int (xs (I + 2)), .int (xs (I + 1)), .ref 8], hp) _
  refine px_gx (fun _ K => px_a 4 (f' := (470, [(4, .int (nI I)), (3, .ref (52 + n)), (2, .ref (38 + n)), (1, .ref 8), (0, .ref 0)], [.int (nI I + 3), .ref 0, .int (xs (I + 2)), .int (xs (I + 1)), .ref 8], hp)) rfl K) ?_
  refine l_ld 3 3 rfl rfl In.2.1 (by omega) hL ?_
  show px_Gx _ _ (471, [(4, .int (nI I)), (3, .ref (52 + n)), (2, .ref (38 + n)), (1, .ref 8), (0, .ref 0)], [.int (xs (I + 3)), .int (xs (I + 2)), .int (xs (I + 1)), .ref 8], hp) _
  refine px_gx (fun _ K => px_a 1 (f' := (472, [(4, .int (nI I)), (3, .ref (52 + n)), (2, .ref (38 + n)), (1, .ref 8), (0, .ref 0)], [.ref (52 + n), .int (xs (I + 3)), .int (xs (I + 2)), .int (xs (I + 1)), .ref 8], hp)) rfl K) ?_
  obtain ⟨k1, hp1, g1, S1⟩ := l_h7 hN In.1 (p0 := (xs (I + 1))) (p1 := (xs (I + 2))) (p2 := (xs (I + 3)))
  refine px_gx (fun _ K => px_cl (as := [.ref 8, .int (xs (I + 1)), .int (xs (I + 2)), .int (xs (I + 3)), .ref (52 + n)]) (rest := []) rfl rfl g1 K) ?_
  have G1 := S1.2.1
  have In1 := In.S S1 (by decide)
  have R1 : l_R n hp1 := l_R_fr In.1 G1 (by decide) (by decide) R
  show px_Gx _ _ (475, [(4, .int (nI I)), (3, .ref (52 + n)), (2, .ref (38 + n)), (1, .ref 8), (0, .ref 0)], [.int k1], hp1) _
  refine px_gx (fun _ K => px_a 6 (f' := (483, [(5, .int k1), (4, .int (nI I)), (3, .ref (52 + n)), (2, .ref (38 + n)), (1, .ref 8), (0, .ref 0)], [.int (nI I + 1), .ref 0, .ref (38 + n)], hp1)) rfl K) ?_
  refine l_ld 1 1 rfl rfl In1.2.1 (by omega) hL ?_
  show px_Gx _ _ (484, [(5, .int k1), (4, .int (nI I)), (3, .ref (52 + n)), (2, .ref (38 + n)), (1, .ref 8), (0, .ref 0)], [.int (xs (I + 1)), .ref (38 + n)], hp1) _
  refine px_gx (fun _ K => px_a 4 (f' := (489, [(5, .int k1), (4, .int (nI I)), (3, .ref (52 + n)), (2, .ref (38 + n)), (1, .ref 8), (0, .ref 0)], [.int (nI I + 2), .ref 0, .int (xs (I + 1)), .ref (38 + n)], hp1)) rfl K) ?_
  refine l_ld 2 2 rfl rfl In1.2.1 (by omega) hL ?_
  show px_Gx _ _ (490, [(5, .int k1), (4, .int (nI I)), (3, .ref (52 + n)), (2, .ref (38 + n)), (1, .ref 8), (0, .ref 0)], [.int (xs (I + 2)), .int (xs (I + 1)), .ref (38 + n)], hp1) _
  refine px_gx (fun _ K => px_a 4 (f' := (495, [(5, .int k1), (4, .int (nI I)), (3, .ref (52 + n)), (2, .ref (38 + n)), (1, .ref 8), (0, .ref 0)], [.int (nI I + 3), .ref 0, .int (xs (I + 2)), .int (xs (I + 1)), .ref (38 + n)], hp1)) rfl K) ?_
  refine l_ld 3 3 rfl rfl In1.2.1 (by omega) hL ?_
  show px_Gx _ _ (496, [(5, .int k1), (4, .int (nI I)), (3, .ref (52 + n)), (2, .ref (38 + n)), (1, .ref 8), (0, .ref 0)], [.int (xs (I + 3)), .int (xs (I + 2)), .int (xs (I + 1)), .ref (38 + n)], hp1) _
  refine l_cv ((ct_83 hN).deep (d' := 11) (by decide)) In1.1 (a := 38 + n) (as := [.int (xs (I + 1)), .int (xs (I + 2)), .int (xs (I + 3))]) (rest := []) rfl rfl (by rw [r24]; rfl) (by rw [r24]; decide) rfl rfl rfl (Nat.le_of_ble_eq_true rfl) ⟨pa_r24, pa_top_ok _, pa_top_ok _, pa_top_ok _, trivial⟩ rfl (fun v2 hp2 g2 hv2 H2 G2 L2 Z2 => ?_)
  have In2 := In1.D H2 G2 (by decide) L2 Z2
  have R2 : l_R n hp2 := l_R_fr In1.1 G2 (by decide) (by decide) R1
  obtain ⟨z2, rfl, -, -⟩ := pa_gri (lo := 0) (hi := 1) hv2
  show px_Gx _ _ (499, [(5, .int k1), (4, .int (nI I)), (3, .ref (52 + n)), (2, .ref (38 + n)), (1, .ref 8), (0, .ref 0)], [.int z2], hp2) _
  refine px_gx (fun _ K => px_a 2 (f' := (654, [(6, .int z2), (5, .int k1), (4, .int (nI I)), (3, .ref (52 + n)), (2, .ref (38 + n)), (1, .ref 8), (0, .ref 0)], [], hp2)) rfl K) ?_
  refine px_gx (fun _ K => px_a 1 (f' := (657, [(4, .int (nI I + 4)), (6, .int z2), (5, .int k1), (3, .ref (52 + n)), (2, .ref (38 + n)), (1, .ref 8), (0, .ref 0)], [], hp2)) rfl K) ?_
  rw [show nI I + 4 = nI (I + 4) from nI_add I 4]
  show px_Gx _ _ (657, [(4, .int (nI (I + 4))), (6, .int z2), (5, .int k1), (3, .ref (52 + n)), (2, .ref (38 + n)), (1, .ref 8), (0, .ref 0)], [], hp2) _
  refine px_gx (fun _ K => px_a 1 (f' := (43, [(4, .int (nI (I + 4))), (6, .int z2), (5, .int k1), (3, .ref (52 + n)), (2, .ref (38 + n)), (1, .ref 8), (0, .ref 0)], [], hp2)) rfl K) ?_
  refine px_wk [(4, .int (nI (I + 4))), (3, .ref (52 + n)), (2, .ref (38 + n)), (1, .ref 8), (0, .ref 0)] ⟨rfl, rfl, rfl, rfl, rfl, trivial⟩ ?_
  exact K hp2 (In2.up (by omega)) R2
set_option maxRecDepth 20000 in
set_option maxHeartbeats 2000000 in
theorem l_case_10 {n : Nat} (hN : pa_N n) {L I S0 B : Nat} {xs : Nat → Int32} (hL : L ≤ 10000) (hI : I + 4 ≤ L) {hp : px_H} (In : l_In n L xs S0 hp B) (R : l_R n hp) {P : px_O → px_H → Prop} (K : ∀ hp1, l_In n L xs S0 hp1 (B + 1) → l_R n hp1 → px_Gx 12 6 (43, [(4, .int (nI (I + 4))), (3, .ref (52 + n)), (2, .ref (38 + n)), (1, .ref 8), (0, .ref 0)], [], hp1) P) : px_Gx 12 6 (504, [(4, .int (nI I)), (3, .ref (52 + n)), (2, .ref (38 + n)), (1, .ref 8), (0, .ref 0)], [], hp) P := by
  refine px_gx (fun _ K => px_a 1 (f' := (505, [(4, .int (nI I)), (3, .ref (52 + n)), (2, .ref (38 + n)), (1, .ref 8), (0, .ref 0)], [.ref 8], hp)) rfl K) ?_
  refine l_cv ((ct_65 hN).deep (d' := 11) (by decide)) In.1 (a := 8) (as := []) (rest := []) rfl rfl rfl (by show (8 : Nat) ≠ 99; decide) rfl rfl rfl (Nat.le_of_ble_eq_true rfl) ⟨l_ri rfl (by decide), trivial⟩ rfl (fun v1 hp1 g1 hv1 H1 G1 L1 Z1 => ?_)
  have In1 := In.D H1 G1 (by decide) L1 Z1
  have R1 : l_R n hp1 := l_R_fr In.1 G1 (by decide) (by decide) R
  obtain ⟨z1, rfl, -, -⟩ := pa_gri (lo := (-2147483648)) (hi := 2147483647) hv1
  show px_Gx _ _ (508, [(4, .int (nI I)), (3, .ref (52 + n)), (2, .ref (38 + n)), (1, .ref 8), (0, .ref 0)], [.int z1], hp1) _
  refine px_gx (fun _ K => px_a 2 (f' := (510, [(4, .int (nI I)), (3, .ref (52 + n)), (2, .ref (38 + n)), (1, .ref 8), (0, .ref 0)], [.ref (38 + n)], hp1)) rfl K) ?_
  refine l_cv ((ct_95 hN).deep (d' := 11) (by decide)) In1.1 (a := 38 + n) (as := []) (rest := []) rfl rfl (by rw [r24]; rfl) (by rw [r24]; decide) rfl rfl rfl (Nat.le_of_ble_eq_true rfl) ⟨pa_r24, trivial⟩ rfl (fun v2 hp2 g2 hv2 H2 G2 L2 Z2 => ?_)
  have In2 := In1.D H2 G2 (by decide) L2 Z2
  have R2 : l_R n hp2 := l_R_fr In1.1 G2 (by decide) (by decide) R1
  obtain ⟨z2, rfl, -, -⟩ := pa_gri (lo := (-2147483648)) (hi := 2147483647) hv2
  show px_Gx _ _ (513, [(4, .int (nI I)), (3, .ref (52 + n)), (2, .ref (38 + n)), (1, .ref 8), (0, .ref 0)], [.int z2], hp2) _
  refine px_gx (fun _ K => px_a 2 (f' := (654, [(4, .int (nI I)), (3, .ref (52 + n)), (2, .ref (38 + n)), (1, .ref 8), (0, .ref 0)], [], hp2)) rfl K) ?_
  refine px_gx (fun _ K => px_a 1 (f' := (657, [(4, .int (nI I + 4)), (3, .ref (52 + n)), (2, .ref (38 + n)), (1, .ref 8), (0, .ref 0)], [], hp2)) rfl K) ?_
  rw [show nI I + 4 = nI (I + 4) from nI_add I 4]
  show px_Gx _ _ (657, [(4, .int (nI (I + 4))), (3, .ref (52 + n)), (2, .ref (38 + n)), (1, .ref 8), (0, .ref 0)], [], hp2) _
  refine px_gx (fun _ K => px_a 1 (f' := (43, [(4, .int (nI (I + 4))), (3, .ref (52 + n)), (2, .ref (38 + n)), (1, .ref 8), (0, .ref 0)], [], hp2)) rfl K) ?_
  refine px_wk [(4, .int (nI (I + 4))), (3, .ref (52 + n)), (2, .ref (38 + n)), (1, .ref 8), (0, .ref 0)] ⟨rfl, rfl, rfl, rfl, rfl, trivial⟩ ?_
  exact K hp2 (In2.up (by omega)) R2
set_option maxRecDepth 20000 in
set_option maxHeartbeats 2000000 in
theorem l_case_11 {n : Nat} (hN : pa_N n) {L I S0 B : Nat} {xs : Nat → Int32} (hL : L ≤ 10000) (hI : I + 4 ≤ L) {hp : px_H} (In : l_In n L xs S0 hp B) (R : l_R n hp) {P : px_O → px_H → Prop} (K : ∀ hp1, l_In n L xs S0 hp1 (B + 1) → l_R n hp1 → px_Gx 12 6 (43, [(4, .int (nI (I + 4))), (3, .ref (52 + n)), (2, .ref (38 + n)), (1, .ref 8), (0, .ref 0)], [], hp1) P) : px_Gx 12 6 (517, [(4, .int (nI I)), (3, .ref (52 + n)), (2, .ref (38 + n)), (1, .ref 8), (0, .ref 0)], [], hp) P := by
  refine px_gx (fun _ K => px_a 5 (f' := (523, [(4, .int (nI I)), (3, .ref (52 + n)), (2, .ref (38 + n)), (1, .ref 8), (0, .ref 0)], [.int (nI I + 1), .ref 0, .ref 8], hp)) rfl K) ?_
  refine l_ld 1 1 rfl rfl In.2.1 (by omega) hL ?_
  show px_Gx _ _ (524, [(4, .int (nI I)), (3, .ref (52 + n)), (2, .ref (38 + n)), (1, .ref 8), (0, .ref 0)], [.int (xs (I + 1)), .ref 8], hp) _
  refine l_cv ((ct_44 hN).deep (d' := 11) (by decide)) In.1 (a := 8) (as := [.int (xs (I + 1))]) (rest := []) rfl rfl rfl (by show (8 : Nat) ≠ 99; decide) rfl rfl rfl (Nat.le_of_ble_eq_true rfl) ⟨l_ri rfl (by decide), pa_top_ok _, trivial⟩ rfl (fun v1 hp1 g1 hv1 H1 G1 L1 Z1 => ?_)
  have In1 := In.D H1 G1 (by decide) L1 Z1
  have R1 : l_R n hp1 := l_R_fr In.1 G1 (by decide) (by decide) R
  obtain ⟨z1, rfl, -, -⟩ := pa_gri (lo := (-2147483648)) (hi := 2147483647) hv1
  show px_Gx _ _ (527, [(4, .int (nI I)), (3, .ref (52 + n)), (2, .ref (38 + n)), (1, .ref 8), (0, .ref 0)], [.int z1], hp1) _
  refine px_gx (fun _ K => px_a 6 (f' := (534, [(4, .int (nI I)), (3, .ref (52 + n)), (2, .ref (38 + n)), (1, .ref 8), (0, .ref 0)], [.int (nI I + 1), .ref 0, .ref (38 + n)], hp1)) rfl K) ?_
  refine l_ld 1 1 rfl rfl In1.2.1 (by omega) hL ?_
  show px_Gx _ _ (535, [(4, .int (nI I)), (3, .ref (52 + n)), (2, .ref (38 + n)), (1, .ref 8), (0, .ref 0)], [.int (xs (I + 1)), .ref (38 + n)], hp1) _
  refine l_cv ((ct_69 hN).deep (d' := 11) (by decide)) In1.1 (a := 38 + n) (as := [.int (xs (I + 1))]) (rest := []) rfl rfl (by rw [r24]; rfl) (by rw [r24]; decide) rfl rfl rfl (Nat.le_of_ble_eq_true rfl) ⟨pa_r24, pa_top_ok _, trivial⟩ rfl (fun v2 hp2 g2 hv2 H2 G2 L2 Z2 => ?_)
  have In2 := In1.D H2 G2 (by decide) L2 Z2
  have R2 : l_R n hp2 := l_R_fr In1.1 G2 (by decide) (by decide) R1
  obtain ⟨z2, rfl, -, -⟩ := pa_gri (lo := (-2147483648)) (hi := 2147483647) hv2
  show px_Gx _ _ (538, [(4, .int (nI I)), (3, .ref (52 + n)), (2, .ref (38 + n)), (1, .ref 8), (0, .ref 0)], [.int z2], hp2) _
  refine px_gx (fun _ K => px_a 2 (f' := (654, [(4, .int (nI I)), (3, .ref (52 + n)), (2, .ref (38 + n)), (1, .ref 8), (0, .ref 0)], [], hp2)) rfl K) ?_
  refine px_gx (fun _ K => px_a 1 (f' := (657, [(4, .int (nI I + 4)), (3, .ref (52 + n)), (2, .ref (38 + n)), (1, .ref 8), (0, .ref 0)], [], hp2)) rfl K) ?_
  rw [show nI I + 4 = nI (I + 4) from nI_add I 4]
  show px_Gx _ _ (657, [(4, .int (nI (I + 4))), (3, .ref (52 + n)), (2, .ref (38 + n)), (1, .ref 8), (0, .ref 0)], [], hp2) _
  refine px_gx (fun _ K => px_a 1 (f' := (43, [(4, .int (nI (I + 4))), (3, .ref (52 + n)), (2, .ref (38 + n)), (1, .ref 8), (0, .ref 0)], [], hp2)) rfl K) ?_
  refine px_wk [(4, .int (nI (I + 4))), (3, .ref (52 + n)), (2, .ref (38 + n)), (1, .ref 8), (0, .ref 0)] ⟨rfl, rfl, rfl, rfl, rfl, trivial⟩ ?_
  exact K hp2 (In2.up (by omega)) R2
set_option maxRecDepth 20000 in
set_option maxHeartbeats 2000000 in
theorem l_case_12 {n : Nat} (hN : pa_N n) {L I S0 B : Nat} {xs : Nat → Int32} (hL : L ≤ 10000) (hI : I + 4 ≤ L) {hp : px_H} (In : l_In n L xs S0 hp B) (R : l_R n hp) {P : px_O → px_H → Prop} (K : ∀ hp1, l_In n L xs S0 hp1 (B + 1) → l_R n hp1 → px_Gx 12 6 (43, [(4, .int (nI (I + 4))), (3, .ref (52 + n)), (2, .ref (38 + n)), (1, .ref 8), (0, .ref 0)], [], hp1) P) : px_Gx 12 6 (542, [(4, .int (nI I)), (3, .ref (52 + n)), (2, .ref (38 + n)), (1, .ref 8), (0, .ref 0)], [], hp) P := by
  refine px_gx (fun _ K => px_a 5 (f' := (548, [(4, .int (nI I)), (3, .ref (52 + n)), (2, .ref (38 + n)), (1, .ref 8), (0, .ref 0)], [.int (nI I + 1), .ref 0, .ref 8], hp)) rfl K) ?_
  refine l_ld 1 1 rfl rfl In.2.1 (by omega) hL ?_
  show px_Gx _ _ (549, [(4, .int (nI I)), (3, .ref (52 + n)), (2, .ref (38 + n)), (1, .ref 8), (0, .ref 0)], [.int (xs (I + 1)), .ref 8], hp) _
  refine l_cv ((ct_59 hN).deep (d' := 11) (by decide)) In.1 (a := 8) (as := [.int (xs (I + 1))]) (rest := []) rfl rfl rfl (by show (8 : Nat) ≠ 99; decide) rfl rfl rfl (Nat.le_of_ble_eq_true rfl) ⟨l_ri rfl (by decide), pa_top_ok _, trivial⟩ rfl (fun v1 hp1 g1 hv1 H1 G1 L1 Z1 => ?_)
  have In1 := In.D H1 G1 (by decide) L1 Z1
  have R1 : l_R n hp1 := l_R_fr In.1 G1 (by decide) (by decide) R
  obtain ⟨z1, rfl, -, -⟩ := pa_gri (lo := 0) (hi := 1) hv1
  show px_Gx _ _ (552, [(4, .int (nI I)), (3, .ref (52 + n)), (2, .ref (38 + n)), (1, .ref 8), (0, .ref 0)], [.int z1], hp1) _
  refine px_gx (fun _ K => px_a 6 (f' := (559, [(4, .int (nI I)), (3, .ref (52 + n)), (2, .ref (38 + n)), (1, .ref 8), (0, .ref 0)], [.int (nI I + 1), .ref 0, .ref (38 + n)], hp1)) rfl K) ?_
  refine l_ld 1 1 rfl rfl In1.2.1 (by omega) hL ?_
  show px_Gx _ _ (560, [(4, .int (nI I)), (3, .ref (52 + n)), (2, .ref (38 + n)), (1, .ref 8), (0, .ref 0)], [.int (xs (I + 1)), .ref (38 + n)], hp1) _
  refine l_cv ((ct_88 hN).deep (d' := 11) (by decide)) In1.1 (a := 38 + n) (as := [.int (xs (I + 1))]) (rest := []) rfl rfl (by rw [r24]; rfl) (by rw [r24]; decide) rfl rfl rfl (Nat.le_of_ble_eq_true rfl) ⟨pa_r24, pa_top_ok _, trivial⟩ rfl (fun v2 hp2 g2 hv2 H2 G2 L2 Z2 => ?_)
  have In2 := In1.D H2 G2 (by decide) L2 Z2
  have R2 : l_R n hp2 := l_R_fr In1.1 G2 (by decide) (by decide) R1
  obtain ⟨z2, rfl, -, -⟩ := pa_gri (lo := 0) (hi := 1) hv2
  show px_Gx _ _ (563, [(4, .int (nI I)), (3, .ref (52 + n)), (2, .ref (38 + n)), (1, .ref 8), (0, .ref 0)], [.int z2], hp2) _
  refine px_gx (fun _ K => px_a 2 (f' := (654, [(4, .int (nI I)), (3, .ref (52 + n)), (2, .ref (38 + n)), (1, .ref 8), (0, .ref 0)], [], hp2)) rfl K) ?_
  refine px_gx (fun _ K => px_a 1 (f' := (657, [(4, .int (nI I + 4)), (3, .ref (52 + n)), (2, .ref (38 + n)), (1, .ref 8), (0, .ref 0)], [], hp2)) rfl K) ?_
  rw [show nI I + 4 = nI (I + 4) from nI_add I 4]
  show px_Gx _ _ (657, [(4, .int (nI (I + 4))), (3, .ref (52 + n)), (2, .ref (38 + n)), (1, .ref 8), (0, .ref 0)], [], hp2) _
  refine px_gx (fun _ K => px_a 1 (f' := (43, [(4, .int (nI (I + 4))), (3, .ref (52 + n)), (2, .ref (38 + n)), (1, .ref 8), (0, .ref 0)], [], hp2)) rfl K) ?_
  refine px_wk [(4, .int (nI (I + 4))), (3, .ref (52 + n)), (2, .ref (38 + n)), (1, .ref 8), (0, .ref 0)] ⟨rfl, rfl, rfl, rfl, rfl, trivial⟩ ?_
  exact K hp2 (In2.up (by omega)) R2
set_option maxRecDepth 20000 in
set_option maxHeartbeats 2000000 in
theorem l_case_13 {n : Nat} (hN : pa_N n) {L I S0 B : Nat} {xs : Nat → Int32} (hL : L ≤ 10000) (hI : I + 4 ≤ L) {hp : px_H} (In : l_In n L xs S0 hp B) (R : l_R n hp) {P : px_O → px_H → Prop} (K : ∀ hp1, l_In n L xs S0 hp1 (B + 1) → l_R n hp1 → px_Gx 12 6 (43, [(4, .int (nI (I + 4))), (3, .ref (52 + n)), (2, .ref (38 + n)), (1, .ref 8), (0, .ref 0)], [], hp1) P) : px_Gx 12 6 (567, [(4, .int (nI I)), (3, .ref (52 + n)), (2, .ref (38 + n)), (1, .ref 8), (0, .ref 0)], [], hp) P := by
  refine px_gx (fun _ K => px_a 5 (f' := (573, [(4, .int (nI I)), (3, .ref (52 + n)), (2, .ref (38 + n)), (1, .ref 8), (0, .ref 0)], [.int (nI I + 1), .ref 0, .ref 8], hp)) rfl K) ?_
  refine l_ld 1 1 rfl rfl In.2.1 (by omega) hL ?_
  show px_Gx _ _ (574, [(4, .int (nI I)), (3, .ref (52 + n)), (2, .ref (38 + n)), (1, .ref 8), (0, .ref 0)], [.int (xs (I + 1)), .ref 8], hp) _
  refine l_cv ((ct_45 hN).deep (d' := 11) (by decide)) In.1 (a := 8) (as := [.int (xs (I + 1))]) (rest := []) rfl rfl rfl (by show (8 : Nat) ≠ 99; decide) rfl rfl rfl (Nat.le_of_ble_eq_true rfl) ⟨l_ri rfl (by decide), pa_top_ok _, trivial⟩ rfl (fun v1 hp1 g1 hv1 H1 G1 L1 Z1 => ?_)
  have In1 := In.D H1 G1 (by decide) L1 Z1
  have R1 : l_R n hp1 := l_R_fr In.1 G1 (by decide) (by decide) R
  obtain ⟨z1, rfl, -, -⟩ := pa_gri (lo := (-1)) (hi := 3) hv1
  show px_Gx _ _ (577, [(4, .int (nI I)), (3, .ref (52 + n)), (2, .ref (38 + n)), (1, .ref 8), (0, .ref 0)], [.int z1], hp1) _
  refine px_gx (fun _ K => px_a 6 (f' := (584, [(4, .int (nI I)), (3, .ref (52 + n)), (2, .ref (38 + n)), (1, .ref 8), (0, .ref 0)], [.int (nI I + 1), .ref 0, .ref (38 + n)], hp1)) rfl K) ?_
  refine l_ld 1 1 rfl rfl In1.2.1 (by omega) hL ?_
  show px_Gx _ _ (585, [(4, .int (nI I)), (3, .ref (52 + n)), (2, .ref (38 + n)), (1, .ref 8), (0, .ref 0)], [.int (xs (I + 1)), .ref (38 + n)], hp1) _
  refine l_cv ((ct_70 hN).deep (d' := 11) (by decide)) In1.1 (a := 38 + n) (as := [.int (xs (I + 1))]) (rest := []) rfl rfl (by rw [r24]; rfl) (by rw [r24]; decide) rfl rfl rfl (Nat.le_of_ble_eq_true rfl) ⟨pa_r24, pa_top_ok _, trivial⟩ rfl (fun v2 hp2 g2 hv2 H2 G2 L2 Z2 => ?_)
  have In2 := In1.D H2 G2 (by decide) L2 Z2
  have R2 : l_R n hp2 := l_R_fr In1.1 G2 (by decide) (by decide) R1
  obtain ⟨z2, rfl, -, -⟩ := pa_gri (lo := (-1)) (hi := 3) hv2
  show px_Gx _ _ (588, [(4, .int (nI I)), (3, .ref (52 + n)), (2, .ref (38 + n)), (1, .ref 8), (0, .ref 0)], [.int z2], hp2) _
  refine px_gx (fun _ K => px_a 2 (f' := (654, [(4, .int (nI I)), (3, .ref (52 + n)), (2, .ref (38 + n)), (1, .ref 8), (0, .ref 0)], [], hp2)) rfl K) ?_
  refine px_gx (fun _ K => px_a 1 (f' := (657, [(4, .int (nI I + 4)), (3, .ref (52 + n)), (2, .ref (38 + n)), (1, .ref 8), (0, .ref 0)], [], hp2)) rfl K) ?_
  rw [show nI I + 4 = nI (I + 4) from nI_add I 4]
  show px_Gx _ _ (657, [(4, .int (nI (I + 4))), (3, .ref (52 + n)), (2, .ref (38 + n)), (1, .ref 8), (0, .ref 0)], [], hp2) _
  refine px_gx (fun _ K => px_a 1 (f' := (43, [(4, .int (nI (I + 4))), (3, .ref (52 + n)), (2, .ref (38 + n)), (1, .ref 8), (0, .ref 0)], [], hp2)) rfl K) ?_
  refine px_wk [(4, .int (nI (I + 4))), (3, .ref (52 + n)), (2, .ref (38 + n)), (1, .ref 8), (0, .ref 0)] ⟨rfl, rfl, rfl, rfl, rfl, trivial⟩ ?_
  exact K hp2 (In2.up (by omega)) R2
set_option maxRecDepth 20000 in
set_option maxHeartbeats 2000000 in
theorem l_case_14 {n : Nat} (hN : pa_N n) {L I S0 B : Nat} {xs : Nat → Int32} (hL : L ≤ 10000) (hI : I + 4 ≤ L) {hp : px_H} (In : l_In n L xs S0 hp B) (R : l_R n hp) {P : px_O → px_H → Prop} (K : ∀ hp1, l_In n L xs S0 hp1 (B + 1) → l_R n hp1 → px_Gx 12 6 (43, [(4, .int (nI (I + 4))), (3, .ref (52 + n)), (2, .ref (38 + n)), (1, .ref 8), (0, .ref 0)], [], hp1) P) : px_Gx 12 6 (592, [(4, .int (nI I)), (3, .ref (52 + n)), (2, .ref (38 + n)), (1, .ref 8), (0, .ref 0)], [], hp) P := by
  refine px_gx (fun _ K => px_a 5 (f' := (598, [(4, .int (nI I)), (3, .ref (52 + n)), (2, .ref (38 + n)), (1, .ref 8), (0, .ref 0)], [.int (nI I + 1), .ref 0, .ref 8], hp)) rfl K) ?_
  refine l_ld 1 1 rfl rfl In.2.1 (by omega) hL ?_
  show px_Gx _ _ (599, [(4, .int (nI I)), (3, .ref (52 + n)), (2, .ref (38 + n)), (1, .ref 8), (0, .ref 0)], [.int (xs (I + 1)), .ref 8], hp) _
  refine l_cv ((ct_62 hN).deep (d' := 11) (by decide)) In.1 (a := 8) (as := [.int (xs (I + 1))]) (rest := []) rfl rfl rfl (by show (8 : Nat) ≠ 99; decide) rfl rfl rfl (Nat.le_of_ble_eq_true rfl) ⟨l_ri rfl (by decide), pa_top_ok _, trivial⟩ rfl (fun v1 hp1 g1 hv1 H1 G1 L1 Z1 => ?_)
  have In1 := In.D H1 G1 (by decide) L1 Z1
  have R1 : l_R n hp1 := l_R_fr In.1 G1 (by decide) (by decide) R
  obtain ⟨z1, rfl, -, -⟩ := pa_gri (lo := (-1)) (hi := 84) hv1
  show px_Gx _ _ (602, [(4, .int (nI I)), (3, .ref (52 + n)), (2, .ref (38 + n)), (1, .ref 8), (0, .ref 0)], [.int z1], hp1) _
  refine px_gx (fun _ K => px_a 6 (f' := (609, [(4, .int (nI I)), (3, .ref (52 + n)), (2, .ref (38 + n)), (1, .ref 8), (0, .ref 0)], [.int (nI I + 1), .ref 0, .ref (38 + n)], hp1)) rfl K) ?_
  refine l_ld 1 1 rfl rfl In1.2.1 (by omega) hL ?_
  show px_Gx _ _ (610, [(4, .int (nI I)), (3, .ref (52 + n)), (2, .ref (38 + n)), (1, .ref 8), (0, .ref 0)], [.int (xs (I + 1)), .ref (38 + n)], hp1) _
  refine l_cv ((ct_90 hN).deep (d' := 11) (by decide)) In1.1 (a := 38 + n) (as := [.int (xs (I + 1))]) (rest := []) rfl rfl (by rw [r24]; rfl) (by rw [r24]; decide) rfl rfl rfl (Nat.le_of_ble_eq_true rfl) ⟨pa_r24, pa_top_ok _, trivial⟩ rfl (fun v2 hp2 g2 hv2 H2 G2 L2 Z2 => ?_)
  have In2 := In1.D H2 G2 (by decide) L2 Z2
  have R2 : l_R n hp2 := l_R_fr In1.1 G2 (by decide) (by decide) R1
  obtain ⟨z2, rfl, -, -⟩ := pa_gri (lo := (-1)) (hi := 200) hv2
  show px_Gx _ _ (613, [(4, .int (nI I)), (3, .ref (52 + n)), (2, .ref (38 + n)), (1, .ref 8), (0, .ref 0)], [.int z2], hp2) _
  refine px_gx (fun _ K => px_a 2 (f' := (654, [(4, .int (nI I)), (3, .ref (52 + n)), (2, .ref (38 + n)), (1, .ref 8), (0, .ref 0)], [], hp2)) rfl K) ?_
  refine px_gx (fun _ K => px_a 1 (f' := (657, [(4, .int (nI I + 4)), (3, .ref (52 + n)), (2, .ref (38 + n)), (1, .ref 8), (0, .ref 0)], [], hp2)) rfl K) ?_
  rw [show nI I + 4 = nI (I + 4) from nI_add I 4]
  show px_Gx _ _ (657, [(4, .int (nI (I + 4))), (3, .ref (52 + n)), (2, .ref (38 + n)), (1, .ref 8), (0, .ref 0)], [], hp2) _
  refine px_gx (fun _ K => px_a 1 (f' := (43, [(4, .int (nI (I + 4))), (3, .ref (52 + n)), (2, .ref (38 + n)), (1, .ref 8), (0, .ref 0)], [], hp2)) rfl K) ?_
  refine px_wk [(4, .int (nI (I + 4))), (3, .ref (52 + n)), (2, .ref (38 + n)), (1, .ref 8), (0, .ref 0)] ⟨rfl, rfl, rfl, rfl, rfl, trivial⟩ ?_
  exact K hp2 (In2.up (by omega)) R2
set_option maxRecDepth 20000 in
set_option maxHeartbeats 2000000 in
theorem l_case_15 {n : Nat} (hN : pa_N n) {L I S0 B : Nat} {xs : Nat → Int32} (hL : L ≤ 10000) (hI : I + 4 ≤ L) {hp : px_H} (In : l_In n L xs S0 hp B) (R : l_R n hp) {P : px_O → px_H → Prop} (K : ∀ hp1, l_In n L xs S0 hp1 (B + 1) → l_R n hp1 → px_Gx 12 6 (43, [(4, .int (nI (I + 4))), (3, .ref (52 + n)), (2, .ref (38 + n)), (1, .ref 8), (0, .ref 0)], [], hp1) P) : px_Gx 12 6 (617, [(4, .int (nI I)), (3, .ref (52 + n)), (2, .ref (38 + n)), (1, .ref 8), (0, .ref 0)], [], hp) P := by
  refine px_gx (fun _ K => px_a 5 (f' := (623, [(4, .int (nI I)), (3, .ref (52 + n)), (2, .ref (38 + n)), (1, .ref 8), (0, .ref 0)], [.int (nI I + 1), .ref 0, .ref 8], hp)) rfl K) ?_
  refine l_ld 1 1 rfl rfl In.2.1 (by omega) hL ?_
  show px_Gx _ _ (624, [(4, .int (nI I)), (3, .ref (52 + n)), (2, .ref (38 + n)), (1, .ref 8), (0, .ref 0)], [.int (xs (I + 1)), .ref 8], hp) _
  refine px_gx (fun _ K => px_a 4 (f' := (629, [(4, .int (nI I)), (3, .ref (52 + n)), (2, .ref (38 + n)), (1, .ref 8), (0, .ref 0)], [.int (nI I + 2), .ref 0, .int (xs (I + 1)), .ref 8], hp)) rfl K) ?_
  refine l_ld 2 2 rfl rfl In.2.1 (by omega) hL ?_
  show px_Gx _ _ (630, [(4, .int (nI I)), (3, .ref (52 + n)), (2, .ref (38 + n)), (1, .ref 8), (0, .ref 0)], [.int (xs (I + 2)), .int (xs (I + 1)), .ref 8], hp) _
  refine l_cv ((ct_61 hN).deep (d' := 11) (by decide)) In.1 (a := 8) (as := [.int (xs (I + 1)), .int (xs (I + 2))]) (rest := []) rfl rfl rfl (by show (8 : Nat) ≠ 99; decide) rfl rfl rfl (Nat.le_of_ble_eq_true rfl) ⟨l_ri rfl (by decide), pa_top_ok _, pa_top_ok _, trivial⟩ rfl (fun v1 hp1 g1 hv1 H1 G1 L1 Z1 => ?_)
  have In1 := In.D H1 G1 (by decide) L1 Z1
  have R1 : l_R n hp1 := l_R_fr In.1 G1 (by decide) (by decide) R
  obtain ⟨z1, rfl, -, -⟩ := pa_gri (lo := (-2147483648)) (hi := 2147483647) hv1
  show px_Gx _ _ (633, [(4, .int (nI I)), (3, .ref (52 + n)), (2, .ref (38 + n)), (1, .ref 8), (0, .ref 0)], [.int z1], hp1) _
  refine px_gx (fun _ K => px_a 6 (f' := (640, [(4, .int (nI I)), (3, .ref (52 + n)), (2, .ref (38 + n)), (1, .ref 8), (0, .ref 0)], [.int (nI I + 1), .ref 0, .ref (38 + n)], hp1)) rfl K) ?_
  refine l_ld 1 1 rfl rfl In1.2.1 (by omega) hL ?_
  show px_Gx _ _ (641, [(4, .int (nI I)), (3, .ref (52 + n)), (2, .ref (38 + n)), (1, .ref 8), (0, .ref 0)], [.int (xs (I + 1)), .ref (38 + n)], hp1) _
  refine px_gx (fun _ K => px_a 4 (f' := (646, [(4, .int (nI I)), (3, .ref (52 + n)), (2, .ref (38 + n)), (1, .ref 8), (0, .ref 0)], [.int (nI I + 2), .ref 0, .int (xs (I + 1)), .ref (38 + n)], hp1)) rfl K) ?_
  refine l_ld 2 2 rfl rfl In1.2.1 (by omega) hL ?_
  show px_Gx _ _ (647, [(4, .int (nI I)), (3, .ref (52 + n)), (2, .ref (38 + n)), (1, .ref 8), (0, .ref 0)], [.int (xs (I + 2)), .int (xs (I + 1)), .ref (38 + n)], hp1) _
  refine l_cv ((ct_89 hN).deep (d' := 11) (by decide)) In1.1 (a := 38 + n) (as := [.int (xs (I + 1)), .int (xs (I + 2))]) (rest := []) rfl rfl (by rw [r24]; rfl) (by rw [r24]; decide) rfl rfl rfl (Nat.le_of_ble_eq_true rfl) ⟨pa_r24, pa_top_ok _, pa_top_ok _, trivial⟩ rfl (fun v2 hp2 g2 hv2 H2 G2 L2 Z2 => ?_)
  have In2 := In1.D H2 G2 (by decide) L2 Z2
  have R2 : l_R n hp2 := l_R_fr In1.1 G2 (by decide) (by decide) R1
  obtain ⟨z2, rfl, -, -⟩ := pa_gri (lo := (-2147483648)) (hi := 2147483647) hv2
  show px_Gx _ _ (650, [(4, .int (nI I)), (3, .ref (52 + n)), (2, .ref (38 + n)), (1, .ref 8), (0, .ref 0)], [.int z2], hp2) _
  refine px_gx (fun _ K => px_a 2 (f' := (654, [(4, .int (nI I)), (3, .ref (52 + n)), (2, .ref (38 + n)), (1, .ref 8), (0, .ref 0)], [], hp2)) rfl K) ?_
  refine px_gx (fun _ K => px_a 1 (f' := (657, [(4, .int (nI I + 4)), (3, .ref (52 + n)), (2, .ref (38 + n)), (1, .ref 8), (0, .ref 0)], [], hp2)) rfl K) ?_
  rw [show nI I + 4 = nI (I + 4) from nI_add I 4]
  show px_Gx _ _ (657, [(4, .int (nI (I + 4))), (3, .ref (52 + n)), (2, .ref (38 + n)), (1, .ref 8), (0, .ref 0)], [], hp2) _
  refine px_gx (fun _ K => px_a 1 (f' := (43, [(4, .int (nI (I + 4))), (3, .ref (52 + n)), (2, .ref (38 + n)), (1, .ref 8), (0, .ref 0)], [], hp2)) rfl K) ?_
  refine px_wk [(4, .int (nI (I + 4))), (3, .ref (52 + n)), (2, .ref (38 + n)), (1, .ref 8), (0, .ref 0)] ⟨rfl, rfl, rfl, rfl, rfl, trivial⟩ ?_
  exact K hp2 (In2.up (by omega)) R2
