set_option maxRecDepth 20000 in
set_option maxHeartbeats 2000000 in
theorem l_case_0 {n : Nat} (hN : pa_N n) {L I S0 B : Nat} {xs : Nat → Int32} (hL : L ≤ 10000) (hI : I + 4 ≤ L) {hp : px_H} (In : l_In n L xs S0 hp B) (R : l_R n hp) {P : px_O → px_H → Prop} (K : ∀ hp1, l_In n L xs S0 hp1 (B + 1) → l_R n hp1 → px_Gx 12 6 (43, [(4, .int (nI (I + 4))), (3, .ref (52 + n)), (2, .ref (38 + n)), (1, .ref 8), (0, .ref 0)], [], hp1) P) : px_Gx 12 6 (136, [(4, .int (nI I)), (3, .ref (52 + n)), (2, .ref (38 + n)), (1, .ref 8), (0, .ref 0)], [], hp) P := by
  refine px_gx (fun _ K => px_a 5 (f' := (142, [(4, .int (nI I)), (3, .ref (52 + n)), (2, .ref (38 + n)), (1, .ref 8), (0, .ref 0)], [.int (nI I + 1), .ref 0, .ref 8], hp)) rfl K) ?_
  refine l_ld 1 1 rfl rfl In.2.1 (by omega) hL ?_
  show px_Gx _ _ (143, [(4, .int (nI I)), (3, .ref (52 + n)), (2, .ref (38 + n)), (1, .ref 8), (0, .ref 0)], [.int (xs (I + 1)), .ref 8], hp) _
  refine px_gx (fun _ K => px_a 4 (f' := (148, [(4, .int (nI I)), (3, .ref (52 + n)), (2, .ref (38 + n)), (1, .ref 8), (0, .ref 0)], [.int (nI I + 2), .ref 0, .int (xs (I + 1)), .ref 8], hp)) rfl K) ?_
  refine l_ld 2 2 rfl rfl In.2.1 (by omega) hL ?_
  show px_Gx _ _ (149, [(4, .int (nI I)), (3, .ref (52 + n)), (2, .ref (38 + n)), (1, .ref 8), (0, .ref 0)], [.int (xs (I + 2)), .int (xs (I + 1)), .ref 8], hp) _
  refine px_gx (fun _ K => px_a 4 (f' := (154, [(4, .int (nI I)), (3, .ref (52 + n)), (2, .ref (38 + n)), (1, .ref 8), (0, .ref 0)], [.int (nI I + 3), .ref 0, .int (xs (I + 2)), .int (xs (I + 1)), .ref 8], hp)) rfl K) ?_
  refine l_ld 3 3 rfl rfl In.2.1 (by omega) hL ?_
  show px_Gx _ _ (155, [(4, .int (nI I)), (3, .ref (52 + n)), (2, .ref (38 + n)), (1, .ref 8), (0, .ref 0)], [.int (xs (I + 3)), .int (xs (I + 2)), .int (xs (I + 1)), .ref 8], hp) _
  by_cases h1 : (xs (I + 3)) = 0
  · refine px_gx (fun _ K => px_b1 true 162 rfl rfl (decide_eq_true h1) K) ?_
    show px_Gx _ _ (162, [(4, .int (nI I)), (3, .ref (52 + n)), (2, .ref (38 + n)), (1, .ref 8), (0, .ref 0)], [.int (xs (I + 2)), .int (xs (I + 1)), .ref 8], hp) _
    refine px_gx (fun _ K => px_a 2 (f' := (164, [(4, .int (nI I)), (3, .ref (52 + n)), (2, .ref (38 + n)), (1, .ref 8), (0, .ref 0)], [.ref (52 + n), .int 0, .int (xs (I + 2)), .int (xs (I + 1)), .ref 8], hp)) rfl K) ?_
    obtain ⟨W, V, sh, us, w1, hW, hv1V, hV, hn, wh, f5, a1, q1, q3, e_sq, e_fm, e_eq⟩ := R
    obtain ⟨fc, fd, hc⟩ := l_obj In.1 hW hV wh.1 wh.2.1 f5
    have n36 : n ≤ 36 := hN.2
    obtain ⟨k2, hp2, g2, S2, sh2, fx, cx⟩ := l_cellS hN In.1 (p0 := (xs (I + 1))) (p1 := (xs (I + 2))) (p2 := 0) (by decide) (by decide) hW hV hc
    refine px_gx (fun _ K => px_cl (as := [.ref 8, .int (xs (I + 1)), .int (xs (I + 2)), .int 0, .ref (52 + n)]) (rest := []) rfl rfl g2 K) ?_
    have G2 := S2.2.1
    have In2 := In.S S2 (by decide)
    have whx := r_wh_fr In.1 G2 (by decide) (by decide) (by decide) (by decide) wh
    have a1x := r_in_fr G2 (by decide) a1
    have e_sqx := r_sq_fr In.1 G2 (by decide) (by decide) (by decide) (by decide) (by decide) (by decide) e_sq
    have e_fmx := r_fm_fr In.1 G2 (by decide) (by decide) (by decide) e_fm
    have e_eqx := r_eq_fr In.1 G2 (by decide) (by decide) e_eq
    rcases cx with ⟨ho, rfl, rfl⟩ | ⟨ho, rfl, c, o0, c1, c2, fo0, cx⟩
    · show px_Gx _ _ (167, [(4, .int (nI I)), (3, .ref (52 + n)), (2, .ref (38 + n)), (1, .ref 8), (0, .ref 0)], [.int 1], hp2) _
      refine px_gx (fun _ K => px_a 6 (f' := (175, [(5, .int 1), (4, .int (nI I)), (3, .ref (52 + n)), (2, .ref (38 + n)), (1, .ref 8), (0, .ref 0)], [.int (nI I + 1), .ref 0, .ref (38 + n)], hp2)) rfl K) ?_
      refine l_ld 1 1 rfl rfl In2.2.1 (by omega) hL ?_
      show px_Gx _ _ (176, [(5, .int 1), (4, .int (nI I)), (3, .ref (52 + n)), (2, .ref (38 + n)), (1, .ref 8), (0, .ref 0)], [.int (xs (I + 1)), .ref (38 + n)], hp2) _
      refine px_gx (fun _ K => px_a 4 (f' := (181, [(5, .int 1), (4, .int (nI I)), (3, .ref (52 + n)), (2, .ref (38 + n)), (1, .ref 8), (0, .ref 0)], [.int (nI I + 2), .ref 0, .int (xs (I + 1)), .ref (38 + n)], hp2)) rfl K) ?_
      refine l_ld 2 2 rfl rfl In2.2.1 (by omega) hL ?_
      show px_Gx _ _ (182, [(5, .int 1), (4, .int (nI I)), (3, .ref (52 + n)), (2, .ref (38 + n)), (1, .ref 8), (0, .ref 0)], [.int (xs (I + 2)), .int (xs (I + 1)), .ref (38 + n)], hp2) _
      refine px_gx (fun _ K => px_a 4 (f' := (187, [(5, .int 1), (4, .int (nI I)), (3, .ref (52 + n)), (2, .ref (38 + n)), (1, .ref 8), (0, .ref 0)], [.int (nI I + 3), .ref 0, .int (xs (I + 2)), .int (xs (I + 1)), .ref (38 + n)], hp2)) rfl K) ?_
      refine l_ld 3 3 rfl rfl In2.2.1 (by omega) hL ?_
      show px_Gx _ _ (188, [(5, .int 1), (4, .int (nI I)), (3, .ref (52 + n)), (2, .ref (38 + n)), (1, .ref 8), (0, .ref 0)], [.int (xs (I + 3)), .int (xs (I + 2)), .int (xs (I + 1)), .ref (38 + n)], hp2) _
      refine px_gx (fun _ K => px_b1 true 195 rfl rfl (decide_eq_true h1) K) ?_
      show px_Gx _ _ (195, [(5, .int 1), (4, .int (nI I)), (3, .ref (52 + n)), (2, .ref (38 + n)), (1, .ref 8), (0, .ref 0)], [.int (xs (I + 2)), .int (xs (I + 1)), .ref (38 + n)], hp2) _
      refine px_gx (fun _ K => px_a 1 (f' := (196, [(5, .int 1), (4, .int (nI I)), (3, .ref (52 + n)), (2, .ref (38 + n)), (1, .ref 8), (0, .ref 0)], [.int 0, .int (xs (I + 2)), .int (xs (I + 1)), .ref (38 + n)], hp2)) rfl K) ?_
      obtain ⟨th, pn, pl, fo, le, ru, hm⟩ := l_objm In2.1 whx.2.2.1 whx.2.2.2
      refine l_cv ((ct_71 hN).deep (d' := 11) (by decide)) In2.1 (a := 38 + n) (as := [.int (xs (I + 1)), .int (xs (I + 2)), .int 0]) (rest := []) rfl rfl (by rw [r24]; rfl) (by rw [r24]; decide) rfl rfl rfl (Nat.le_of_ble_eq_true rfl) ⟨pa_r24, pa_top_ok _, pa_top_ok _, pa_in (by decide) (by decide), trivial⟩ rfl (fun v3 hp3 g3 hv3 H3 G3 L3 Z3 => ?_)
      have In3 := In2.D H3 G3 (by decide) L3 Z3
      obtain ⟨z3, rfl, -, -⟩ := pa_gri (lo := 0) (hi := 1) hv3
      show px_Gx _ _ (199, [(5, .int 1), (4, .int (nI I)), (3, .ref (52 + n)), (2, .ref (38 + n)), (1, .ref 8), (0, .ref 0)], [.int z3], hp3) _
      obtain ⟨o2, hpm, gm, hmx⟩ := m_cellx (d := 10) (x := (xs (I + 1))) (y := (xs (I + 2))) (v := 0) (by decide) (by decide) hm In2.1 a1x
      have em := px_det g3 gm
      cases em
      obtain ⟨rm, thm, vsm, e1, fth, am, hmx⟩ := hmx
      cases e1
      have f5x := fx
      have why := r_wh_fr In2.1 G3 (by decide) (by decide) (by decide) (by decide) whx
      have f5y := r_sh_fr In2.1 G3 (by decide) f5x
      have e_sqy := r_sq_fr In2.1 G3 (by decide) (by decide) (by decide) (by decide) (by decide) (by decide) e_sqx
      have e_fmy := r_fm_fr In2.1 G3 (by decide) (by decide) (by decide) e_fmx
      have e_eqy := r_eq_fr In2.1 G3 (by decide) (by decide) e_eqx
      obtain ⟨rfl, rfl⟩ : thm = 1 ∧ vsm = _ := by
        rcases hmx with ⟨-, b1, b2⟩ | ⟨b1, -⟩
        · exact ⟨b1, b2⟩
        · exact absurd ho b1
      have R3 : l_R n hp3 := ⟨W, V, _, _, w1, hW, hv1V, hV, hn, why, f5y, am, q1, q3, e_sqy, e_fmy, e_eqy⟩
      refine px_gx (fun _ K => px_a 2 (f' := (654, [(6, .int z3), (5, .int 1), (4, .int (nI I)), (3, .ref (52 + n)), (2, .ref (38 + n)), (1, .ref 8), (0, .ref 0)], [], hp3)) rfl K) ?_
      refine px_gx (fun _ K => px_a 1 (f' := (657, [(4, .int (nI I + 4)), (6, .int z3), (5, .int 1), (3, .ref (52 + n)), (2, .ref (38 + n)), (1, .ref 8), (0, .ref 0)], [], hp3)) rfl K) ?_
      rw [show nI I + 4 = nI (I + 4) from nI_add I 4]
      show px_Gx _ _ (657, [(4, .int (nI (I + 4))), (6, .int z3), (5, .int 1), (3, .ref (52 + n)), (2, .ref (38 + n)), (1, .ref 8), (0, .ref 0)], [], hp3) _
      refine px_gx (fun _ K => px_a 1 (f' := (43, [(4, .int (nI (I + 4))), (6, .int z3), (5, .int 1), (3, .ref (52 + n)), (2, .ref (38 + n)), (1, .ref 8), (0, .ref 0)], [], hp3)) rfl K) ?_
      refine px_wk [(4, .int (nI (I + 4))), (3, .ref (52 + n)), (2, .ref (38 + n)), (1, .ref 8), (0, .ref 0)] ⟨rfl, rfl, rfl, rfl, rfl, trivial⟩ ?_
      exact K hp3 (In3.up (by omega)) R3
    · show px_Gx _ _ (167, [(4, .int (nI I)), (3, .ref (52 + n)), (2, .ref (38 + n)), (1, .ref 8), (0, .ref 0)], [.int 0], hp2) _
      rcases cx with ⟨cx, rfl, rfl⟩ | ⟨cx, rfl, rfl⟩
      · show px_Gx _ _ (167, [(4, .int (nI I)), (3, .ref (52 + n)), (2, .ref (38 + n)), (1, .ref 8), (0, .ref 0)], [.int 0], hp2) _
        refine px_gx (fun _ K => px_a 6 (f' := (175, [(5, .int 0), (4, .int (nI I)), (3, .ref (52 + n)), (2, .ref (38 + n)), (1, .ref 8), (0, .ref 0)], [.int (nI I + 1), .ref 0, .ref (38 + n)], hp2)) rfl K) ?_
        refine l_ld 1 1 rfl rfl In2.2.1 (by omega) hL ?_
        show px_Gx _ _ (176, [(5, .int 0), (4, .int (nI I)), (3, .ref (52 + n)), (2, .ref (38 + n)), (1, .ref 8), (0, .ref 0)], [.int (xs (I + 1)), .ref (38 + n)], hp2) _
        refine px_gx (fun _ K => px_a 4 (f' := (181, [(5, .int 0), (4, .int (nI I)), (3, .ref (52 + n)), (2, .ref (38 + n)), (1, .ref 8), (0, .ref 0)], [.int (nI I + 2), .ref 0, .int (xs (I + 1)), .ref (38 + n)], hp2)) rfl K) ?_
        refine l_ld 2 2 rfl rfl In2.2.1 (by omega) hL ?_
        show px_Gx _ _ (182, [(5, .int 0), (4, .int (nI I)), (3, .ref (52 + n)), (2, .ref (38 + n)), (1, .ref 8), (0, .ref 0)], [.int (xs (I + 2)), .int (xs (I + 1)), .ref (38 + n)], hp2) _
        refine px_gx (fun _ K => px_a 4 (f' := (187, [(5, .int 0), (4, .int (nI I)), (3, .ref (52 + n)), (2, .ref (38 + n)), (1, .ref 8), (0, .ref 0)], [.int (nI I + 3), .ref 0, .int (xs (I + 2)), .int (xs (I + 1)), .ref (38 + n)], hp2)) rfl K) ?_
        refine l_ld 3 3 rfl rfl In2.2.1 (by omega) hL ?_
        show px_Gx _ _ (188, [(5, .int 0), (4, .int (nI I)), (3, .ref (52 + n)), (2, .ref (38 + n)), (1, .ref 8), (0, .ref 0)], [.int (xs (I + 3)), .int (xs (I + 2)), .int (xs (I + 1)), .ref (38 + n)], hp2) _
        refine px_gx (fun _ K => px_b1 true 195 rfl rfl (decide_eq_true h1) K) ?_
        show px_Gx _ _ (195, [(5, .int 0), (4, .int (nI I)), (3, .ref (52 + n)), (2, .ref (38 + n)), (1, .ref 8), (0, .ref 0)], [.int (xs (I + 2)), .int (xs (I + 1)), .ref (38 + n)], hp2) _
        refine px_gx (fun _ K => px_a 1 (f' := (196, [(5, .int 0), (4, .int (nI I)), (3, .ref (52 + n)), (2, .ref (38 + n)), (1, .ref 8), (0, .ref 0)], [.int 0, .int (xs (I + 2)), .int (xs (I + 1)), .ref (38 + n)], hp2)) rfl K) ?_
        obtain ⟨th, pn, pl, fo, le, ru, hm⟩ := l_objm In2.1 whx.2.2.1 whx.2.2.2
        refine l_cv ((ct_71 hN).deep (d' := 11) (by decide)) In2.1 (a := 38 + n) (as := [.int (xs (I + 1)), .int (xs (I + 2)), .int 0]) (rest := []) rfl rfl (by rw [r24]; rfl) (by rw [r24]; decide) rfl rfl rfl (Nat.le_of_ble_eq_true rfl) ⟨pa_r24, pa_top_ok _, pa_top_ok _, pa_in (by decide) (by decide), trivial⟩ rfl (fun v4 hp4 g4 hv4 H4 G4 L4 Z4 => ?_)
        have In4 := In2.D H4 G4 (by decide) L4 Z4
        obtain ⟨z4, rfl, -, -⟩ := pa_gri (lo := 0) (hi := 1) hv4
        show px_Gx _ _ (199, [(5, .int 0), (4, .int (nI I)), (3, .ref (52 + n)), (2, .ref (38 + n)), (1, .ref 8), (0, .ref 0)], [.int z4], hp4) _
        obtain ⟨o2, hpm, gm, hmx⟩ := m_cellx (d := 10) (x := (xs (I + 1))) (y := (xs (I + 2))) (v := 0) (by decide) (by decide) hm In2.1 a1x
        have em := px_det g4 gm
        cases em
        obtain ⟨rm, thm, vsm, e1, fth, am, hmx⟩ := hmx
        cases e1
        have f5x := fx
        have why := r_wh_fr In2.1 G4 (by decide) (by decide) (by decide) (by decide) whx
        have f5y := r_sh_fr In2.1 G4 (by decide) f5x
        have e_sqy := r_sq_fr In2.1 G4 (by decide) (by decide) (by decide) (by decide) (by decide) (by decide) e_sqx
        have e_fmy := r_fm_fr In2.1 G4 (by decide) (by decide) (by decide) e_fmx
        have e_eqy := r_eq_fr In2.1 G4 (by decide) (by decide) e_eqx
        have foy : pa_fd hp4 (52 + n) 0 = _ := (l_fdo In2.1 G4 (by decide)).trans fo0
        obtain ⟨b0, b1, hmy⟩ := hmx.resolve_left (fun z => ho z.1)
        subst b1
        have cn : c < n := by omega
        rw [c2] at hmy
        rw [q1 c cn] at hmy
        obtain ⟨-, b2, b3⟩ := hmy.resolve_right (fun z => z.1 (by rw [cx]))
        subst b2
        subst b3
        have R4 : l_R n hp4 := ⟨W, V, _, _, w1, hW, hv1V, hV, hn, why, f5y, am, q1, q3, e_sqy, e_fmy, e_eqy⟩
        show px_Gx _ _ (199, [(5, .int 0), (4, .int (nI I)), (3, .ref (52 + n)), (2, .ref (38 + n)), (1, .ref 8), (0, .ref 0)], [.int 0], hp4) _
        refine px_gx (fun _ K => px_a 2 (f' := (654, [(6, .int 0), (5, .int 0), (4, .int (nI I)), (3, .ref (52 + n)), (2, .ref (38 + n)), (1, .ref 8), (0, .ref 0)], [], hp4)) rfl K) ?_
        refine px_gx (fun _ K => px_a 1 (f' := (657, [(4, .int (nI I + 4)), (6, .int 0), (5, .int 0), (3, .ref (52 + n)), (2, .ref (38 + n)), (1, .ref 8), (0, .ref 0)], [], hp4)) rfl K) ?_
        rw [show nI I + 4 = nI (I + 4) from nI_add I 4]
        show px_Gx _ _ (657, [(4, .int (nI (I + 4))), (6, .int 0), (5, .int 0), (3, .ref (52 + n)), (2, .ref (38 + n)), (1, .ref 8), (0, .ref 0)], [], hp4) _
        refine px_gx (fun _ K => px_a 1 (f' := (43, [(4, .int (nI (I + 4))), (6, .int 0), (5, .int 0), (3, .ref (52 + n)), (2, .ref (38 + n)), (1, .ref 8), (0, .ref 0)], [], hp4)) rfl K) ?_
        refine px_wk [(4, .int (nI (I + 4))), (3, .ref (52 + n)), (2, .ref (38 + n)), (1, .ref 8), (0, .ref 0)] ⟨rfl, rfl, rfl, rfl, rfl, trivial⟩ ?_
        exact K hp4 (In4.up (by omega)) R4
      · show px_Gx _ _ (167, [(4, .int (nI I)), (3, .ref (52 + n)), (2, .ref (38 + n)), (1, .ref 8), (0, .ref 0)], [.int 0], hp2) _
        refine px_gx (fun _ K => px_a 6 (f' := (175, [(5, .int 0), (4, .int (nI I)), (3, .ref (52 + n)), (2, .ref (38 + n)), (1, .ref 8), (0, .ref 0)], [.int (nI I + 1), .ref 0, .ref (38 + n)], hp2)) rfl K) ?_
        refine l_ld 1 1 rfl rfl In2.2.1 (by omega) hL ?_
        show px_Gx _ _ (176, [(5, .int 0), (4, .int (nI I)), (3, .ref (52 + n)), (2, .ref (38 + n)), (1, .ref 8), (0, .ref 0)], [.int (xs (I + 1)), .ref (38 + n)], hp2) _
        refine px_gx (fun _ K => px_a 4 (f' := (181, [(5, .int 0), (4, .int (nI I)), (3, .ref (52 + n)), (2, .ref (38 + n)), (1, .ref 8), (0, .ref 0)], [.int (nI I + 2), .ref 0, .int (xs (I + 1)), .ref (38 + n)], hp2)) rfl K) ?_
        refine l_ld 2 2 rfl rfl In2.2.1 (by omega) hL ?_
        show px_Gx _ _ (182, [(5, .int 0), (4, .int (nI I)), (3, .ref (52 + n)), (2, .ref (38 + n)), (1, .ref 8), (0, .ref 0)], [.int (xs (I + 2)), .int (xs (I + 1)), .ref (38 + n)], hp2) _
        refine px_gx (fun _ K => px_a 4 (f' := (187, [(5, .int 0), (4, .int (nI I)), (3, .ref (52 + n)), (2, .ref (38 + n)), (1, .ref 8), (0, .ref 0)], [.int (nI I + 3), .ref 0, .int (xs (I + 2)), .int (xs (I + 1)), .ref (38 + n)], hp2)) rfl K) ?_
        refine l_ld 3 3 rfl rfl In2.2.1 (by omega) hL ?_
        show px_Gx _ _ (188, [(5, .int 0), (4, .int (nI I)), (3, .ref (52 + n)), (2, .ref (38 + n)), (1, .ref 8), (0, .ref 0)], [.int (xs (I + 3)), .int (xs (I + 2)), .int (xs (I + 1)), .ref (38 + n)], hp2) _
        refine px_gx (fun _ K => px_b1 true 195 rfl rfl (decide_eq_true h1) K) ?_
        show px_Gx _ _ (195, [(5, .int 0), (4, .int (nI I)), (3, .ref (52 + n)), (2, .ref (38 + n)), (1, .ref 8), (0, .ref 0)], [.int (xs (I + 2)), .int (xs (I + 1)), .ref (38 + n)], hp2) _
        refine px_gx (fun _ K => px_a 1 (f' := (196, [(5, .int 0), (4, .int (nI I)), (3, .ref (52 + n)), (2, .ref (38 + n)), (1, .ref 8), (0, .ref 0)], [.int 0, .int (xs (I + 2)), .int (xs (I + 1)), .ref (38 + n)], hp2)) rfl K) ?_
        obtain ⟨th, pn, pl, fo, le, ru, hm⟩ := l_objm In2.1 whx.2.2.1 whx.2.2.2
        refine l_cv ((ct_71 hN).deep (d' := 11) (by decide)) In2.1 (a := 38 + n) (as := [.int (xs (I + 1)), .int (xs (I + 2)), .int 0]) (rest := []) rfl rfl (by rw [r24]; rfl) (by rw [r24]; decide) rfl rfl rfl (Nat.le_of_ble_eq_true rfl) ⟨pa_r24, pa_top_ok _, pa_top_ok _, pa_in (by decide) (by decide), trivial⟩ rfl (fun v5 hp5 g5 hv5 H5 G5 L5 Z5 => ?_)
        have In5 := In2.D H5 G5 (by decide) L5 Z5
        obtain ⟨z5, rfl, -, -⟩ := pa_gri (lo := 0) (hi := 1) hv5
        show px_Gx _ _ (199, [(5, .int 0), (4, .int (nI I)), (3, .ref (52 + n)), (2, .ref (38 + n)), (1, .ref 8), (0, .ref 0)], [.int z5], hp5) _
        obtain ⟨o2, hpm, gm, hmx⟩ := m_cellx (d := 10) (x := (xs (I + 1))) (y := (xs (I + 2))) (v := 0) (by decide) (by decide) hm In2.1 a1x
        have em := px_det g5 gm
        cases em
        obtain ⟨rm, thm, vsm, e1, fth, am, hmx⟩ := hmx
        cases e1
        have f5x := fx
        have why := r_wh_fr In2.1 G5 (by decide) (by decide) (by decide) (by decide) whx
        have f5y := r_sh_fr In2.1 G5 (by decide) f5x
        have e_sqy := r_sq_fr In2.1 G5 (by decide) (by decide) (by decide) (by decide) (by decide) (by decide) e_sqx
        have e_fmy := r_fm_fr In2.1 G5 (by decide) (by decide) (by decide) e_fmx
        have e_eqy := r_eq_fr In2.1 G5 (by decide) (by decide) e_eqx
        have foy : pa_fd hp5 (52 + n) 0 = _ := (l_fdo In2.1 G5 (by decide)).trans fo0
        obtain ⟨b0, b1, hmy⟩ := hmx.resolve_left (fun z => ho z.1)
        subst b1
        have cn : c < n := by omega
        rw [c2] at hmy
        rw [q1 c cn] at hmy
        obtain ⟨-, b2, b3⟩ := hmy.resolve_left (fun z => cx (by have z1 := z.1; injection z1 with z1; injection z1))
        subst b2
        have hlu : n ≤ us.length := by
          obtain ⟨vq, hq1, hq2, -⟩ := pa_ara (a := 39 + n) (i := 7) (lo := 0) (hi := 1) In2.1 (by omega) (by decide) (by decide) rfl
          rw [a1x] at hq1; cases hq1; omega
        rw [b3] at am
        have R5 : l_R n hp5 := ⟨W, V, _, _, w1, hW, hv1V, hV, hn, why, f5y, am, (l_shset n36 cn hlu q1 (Or.inl rfl) cx), (l_sh3 n36 cn q3), e_sqy, e_fmy, e_eqy⟩
        show px_Gx _ _ (199, [(5, .int 0), (4, .int (nI I)), (3, .ref (52 + n)), (2, .ref (38 + n)), (1, .ref 8), (0, .ref 0)], [.int 1], hp5) _
        refine px_gx (fun _ K => px_a 2 (f' := (654, [(6, .int 1), (5, .int 0), (4, .int (nI I)), (3, .ref (52 + n)), (2, .ref (38 + n)), (1, .ref 8), (0, .ref 0)], [], hp5)) rfl K) ?_
        refine px_gx (fun _ K => px_a 1 (f' := (657, [(4, .int (nI I + 4)), (6, .int 1), (5, .int 0), (3, .ref (52 + n)), (2, .ref (38 + n)), (1, .ref 8), (0, .ref 0)], [], hp5)) rfl K) ?_
        rw [show nI I + 4 = nI (I + 4) from nI_add I 4]
        show px_Gx _ _ (657, [(4, .int (nI (I + 4))), (6, .int 1), (5, .int 0), (3, .ref (52 + n)), (2, .ref (38 + n)), (1, .ref 8), (0, .ref 0)], [], hp5) _
        refine px_gx (fun _ K => px_a 1 (f' := (43, [(4, .int (nI (I + 4))), (6, .int 1), (5, .int 0), (3, .ref (52 + n)), (2, .ref (38 + n)), (1, .ref 8), (0, .ref 0)], [], hp5)) rfl K) ?_
        refine px_wk [(4, .int (nI (I + 4))), (3, .ref (52 + n)), (2, .ref (38 + n)), (1, .ref 8), (0, .ref 0)] ⟨rfl, rfl, rfl, rfl, rfl, trivial⟩ ?_
        exact K hp5 (In5.up (by omega)) R5
  · refine px_gx (fun _ K => px_b1 false 162 rfl rfl (decide_eq_false h1) K) ?_
    show px_Gx _ _ (158, [(4, .int (nI I)), (3, .ref (52 + n)), (2, .ref (38 + n)), (1, .ref 8), (0, .ref 0)], [.int (xs (I + 2)), .int (xs (I + 1)), .ref 8], hp) _
    refine px_gx (fun _ K => px_a 3 (f' := (164, [(4, .int (nI I)), (3, .ref (52 + n)), (2, .ref (38 + n)), (1, .ref 8), (0, .ref 0)], [.ref (52 + n), .int 1, .int (xs (I + 2)), .int (xs (I + 1)), .ref 8], hp)) rfl K) ?_
    obtain ⟨W, V, sh, us, w1, hW, hv1V, hV, hn, wh, f5, a1, q1, q3, e_sq, e_fm, e_eq⟩ := R
    obtain ⟨fc, fd, hc⟩ := l_obj In.1 hW hV wh.1 wh.2.1 f5
    have n36 : n ≤ 36 := hN.2
    obtain ⟨k6, hp6, g6, S6, sh2, fx, cx⟩ := l_cellS hN In.1 (p0 := (xs (I + 1))) (p1 := (xs (I + 2))) (p2 := 1) (by decide) (by decide) hW hV hc
    refine px_gx (fun _ K => px_cl (as := [.ref 8, .int (xs (I + 1)), .int (xs (I + 2)), .int 1, .ref (52 + n)]) (rest := []) rfl rfl g6 K) ?_
    have G6 := S6.2.1
    have In6 := In.S S6 (by decide)
    have whx := r_wh_fr In.1 G6 (by decide) (by decide) (by decide) (by decide) wh
    have a1x := r_in_fr G6 (by decide) a1
    have e_sqx := r_sq_fr In.1 G6 (by decide) (by decide) (by decide) (by decide) (by decide) (by decide) e_sq
    have e_fmx := r_fm_fr In.1 G6 (by decide) (by decide) (by decide) e_fm
    have e_eqx := r_eq_fr In.1 G6 (by decide) (by decide) e_eq
    rcases cx with ⟨ho, rfl, rfl⟩ | ⟨ho, rfl, c, o0, c1, c2, fo0, cx⟩
    · show px_Gx _ _ (167, [(4, .int (nI I)), (3, .ref (52 + n)), (2, .ref (38 + n)), (1, .ref 8), (0, .ref 0)], [.int 1], hp6) _
      refine px_gx (fun _ K => px_a 6 (f' := (175, [(5, .int 1), (4, .int (nI I)), (3, .ref (52 + n)), (2, .ref (38 + n)), (1, .ref 8), (0, .ref 0)], [.int (nI I + 1), .ref 0, .ref (38 + n)], hp6)) rfl K) ?_
      refine l_ld 1 1 rfl rfl In6.2.1 (by omega) hL ?_
      show px_Gx _ _ (176, [(5, .int 1), (4, .int (nI I)), (3, .ref (52 + n)), (2, .ref (38 + n)), (1, .ref 8), (0, .ref 0)], [.int (xs (I + 1)), .ref (38 + n)], hp6) _
      refine px_gx (fun _ K => px_a 4 (f' := (181, [(5, .int 1), (4, .int (nI I)), (3, .ref (52 + n)), (2, .ref (38 + n)), (1, .ref 8), (0, .ref 0)], [.int (nI I + 2), .ref 0, .int (xs (I + 1)), .ref (38 + n)], hp6)) rfl K) ?_
      refine l_ld 2 2 rfl rfl In6.2.1 (by omega) hL ?_
      show px_Gx _ _ (182, [(5, .int 1), (4, .int (nI I)), (3, .ref (52 + n)), (2, .ref (38 + n)), (1, .ref 8), (0, .ref 0)], [.int (xs (I + 2)), .int (xs (I + 1)), .ref (38 + n)], hp6) _
      refine px_gx (fun _ K => px_a 4 (f' := (187, [(5, .int 1), (4, .int (nI I)), (3, .ref (52 + n)), (2, .ref (38 + n)), (1, .ref 8), (0, .ref 0)], [.int (nI I + 3), .ref 0, .int (xs (I + 2)), .int (xs (I + 1)), .ref (38 + n)], hp6)) rfl K) ?_
      refine l_ld 3 3 rfl rfl In6.2.1 (by omega) hL ?_
      show px_Gx _ _ (188, [(5, .int 1), (4, .int (nI I)), (3, .ref (52 + n)), (2, .ref (38 + n)), (1, .ref 8), (0, .ref 0)], [.int (xs (I + 3)), .int (xs (I + 2)), .int (xs (I + 1)), .ref (38 + n)], hp6) _
      refine px_gx (fun _ K => px_b1 false 195 rfl rfl (decide_eq_false h1) K) ?_
      show px_Gx _ _ (191, [(5, .int 1), (4, .int (nI I)), (3, .ref (52 + n)), (2, .ref (38 + n)), (1, .ref 8), (0, .ref 0)], [.int (xs (I + 2)), .int (xs (I + 1)), .ref (38 + n)], hp6) _
      refine px_gx (fun _ K => px_a 2 (f' := (196, [(5, .int 1), (4, .int (nI I)), (3, .ref (52 + n)), (2, .ref (38 + n)), (1, .ref 8), (0, .ref 0)], [.int 1, .int (xs (I + 2)), .int (xs (I + 1)), .ref (38 + n)], hp6)) rfl K) ?_
      obtain ⟨th, pn, pl, fo, le, ru, hm⟩ := l_objm In6.1 whx.2.2.1 whx.2.2.2
      refine l_cv ((ct_71 hN).deep (d' := 11) (by decide)) In6.1 (a := 38 + n) (as := [.int (xs (I + 1)), .int (xs (I + 2)), .int 1]) (rest := []) rfl rfl (by rw [r24]; rfl) (by rw [r24]; decide) rfl rfl rfl (Nat.le_of_ble_eq_true rfl) ⟨pa_r24, pa_top_ok _, pa_top_ok _, pa_in (by decide) (by decide), trivial⟩ rfl (fun v7 hp7 g7 hv7 H7 G7 L7 Z7 => ?_)
      have In7 := In6.D H7 G7 (by decide) L7 Z7
      obtain ⟨z7, rfl, -, -⟩ := pa_gri (lo := 0) (hi := 1) hv7
      show px_Gx _ _ (199, [(5, .int 1), (4, .int (nI I)), (3, .ref (52 + n)), (2, .ref (38 + n)), (1, .ref 8), (0, .ref 0)], [.int z7], hp7) _
      obtain ⟨o2, hpm, gm, hmx⟩ := m_cellx (d := 10) (x := (xs (I + 1))) (y := (xs (I + 2))) (v := 1) (by decide) (by decide) hm In6.1 a1x
      have em := px_det g7 gm
      cases em
      obtain ⟨rm, thm, vsm, e1, fth, am, hmx⟩ := hmx
      cases e1
      have f5x := fx
      have why := r_wh_fr In6.1 G7 (by decide) (by decide) (by decide) (by decide) whx
      have f5y := r_sh_fr In6.1 G7 (by decide) f5x
      have e_sqy := r_sq_fr In6.1 G7 (by decide) (by decide) (by decide) (by decide) (by decide) (by decide) e_sqx
      have e_fmy := r_fm_fr In6.1 G7 (by decide) (by decide) (by decide) e_fmx
      have e_eqy := r_eq_fr In6.1 G7 (by decide) (by decide) e_eqx
      obtain ⟨rfl, rfl⟩ : thm = 1 ∧ vsm = _ := by
        rcases hmx with ⟨-, b1, b2⟩ | ⟨b1, -⟩
        · exact ⟨b1, b2⟩
        · exact absurd ho b1
      have R7 : l_R n hp7 := ⟨W, V, _, _, w1, hW, hv1V, hV, hn, why, f5y, am, q1, q3, e_sqy, e_fmy, e_eqy⟩
      refine px_gx (fun _ K => px_a 2 (f' := (654, [(6, .int z7), (5, .int 1), (4, .int (nI I)), (3, .ref (52 + n)), (2, .ref (38 + n)), (1, .ref 8), (0, .ref 0)], [], hp7)) rfl K) ?_
      refine px_gx (fun _ K => px_a 1 (f' := (657, [(4, .int (nI I + 4)), (6, .int z7), (5, .int 1), (3, .ref (52 + n)), (2, .ref (38 + n)), (1, .ref 8), (0, .ref 0)], [], hp7)) rfl K) ?_
      rw [show nI I + 4 = nI (I + 4) from nI_add I 4]
      show px_Gx _ _ (657, [(4, .int (nI (I + 4))), (6, .int z7), (5, .int 1), (3, .ref (52 + n)), (2, .ref (38 + n)), (1, .ref 8), (0, .ref 0)], [], hp7) _
      refine px_gx (fun _ K => px_a 1 (f' := (43, [(4, .int (nI (I + 4))), (6, .int z7), (5, .int 1), (3, .ref (52 + n)), (2, .ref (38 + n)), (1, .ref 8), (0, .ref 0)], [], hp7)) rfl K) ?_
      refine px_wk [(4, .int (nI (I + 4))), (3, .ref (52 + n)), (2, .ref (38 + n)), (1, .ref 8), (0, .ref 0)] ⟨rfl, rfl, rfl, rfl, rfl, trivial⟩ ?_
      exact K hp7 (In7.up (by omega)) R7
    · show px_Gx _ _ (167, [(4, .int (nI I)), (3, .ref (52 + n)), (2, .ref (38 + n)), (1, .ref 8), (0, .ref 0)], [.int 0], hp6) _
      rcases cx with ⟨cx, rfl, rfl⟩ | ⟨cx, rfl, rfl⟩
      · show px_Gx _ _ (167, [(4, .int (nI I)), (3, .ref (52 + n)), (2, .ref (38 + n)), (1, .ref 8), (0, .ref 0)], [.int 0], hp6) _
        refine px_gx (fun _ K => px_a 6 (f' := (175, [(5, .int 0), (4, .int (nI I)), (3, .ref (52 + n)), (2, .ref (38 + n)), (1, .ref 8), (0, .ref 0)], [.int (nI I + 1), .ref 0, .ref (38 + n)], hp6)) rfl K) ?_
        refine l_ld 1 1 rfl rfl In6.2.1 (by omega) hL ?_
        show px_Gx _ _ (176, [(5, .int 0), (4, .int (nI I)), (3, .ref (52 + n)), (2, .ref (38 + n)), (1, .ref 8), (0, .ref 0)], [.int (xs (I + 1)), .ref (38 + n)], hp6) _
        refine px_gx (fun _ K => px_a 4 (f' := (181, [(5, .int 0), (4, .int (nI I)), (3, .ref (52 + n)), (2, .ref (38 + n)), (1, .ref 8), (0, .ref 0)], [.int (nI I + 2), .ref 0, .int (xs (I + 1)), .ref (38 + n)], hp6)) rfl K) ?_
        refine l_ld 2 2 rfl rfl In6.2.1 (by omega) hL ?_
        show px_Gx _ _ (182, [(5, .int 0), (4, .int (nI I)), (3, .ref (52 + n)), (2, .ref (38 + n)), (1, .ref 8), (0, .ref 0)], [.int (xs (I + 2)), .int (xs (I + 1)), .ref (38 + n)], hp6) _
        refine px_gx (fun _ K => px_a 4 (f' := (187, [(5, .int 0), (4, .int (nI I)), (3, .ref (52 + n)), (2, .ref (38 + n)), (1, .ref 8), (0, .ref 0)], [.int (nI I + 3), .ref 0, .int (xs (I + 2)), .int (xs (I + 1)), .ref (38 + n)], hp6)) rfl K) ?_
        refine l_ld 3 3 rfl rfl In6.2.1 (by omega) hL ?_
        show px_Gx _ _ (188, [(5, .int 0), (4, .int (nI I)), (3, .ref (52 + n)), (2, .ref (38 + n)), (1, .ref 8), (0, .ref 0)], [.int (xs (I + 3)), .int (xs (I + 2)), .int (xs (I + 1)), .ref (38 + n)], hp6) _
        refine px_gx (fun _ K => px_b1 false 195 rfl rfl (decide_eq_false h1) K) ?_
        show px_Gx _ _ (191, [(5, .int 0), (4, .int (nI I)), (3, .ref (52 + n)), (2, .ref (38 + n)), (1, .ref 8), (0, .ref 0)], [.int (xs (I + 2)), .int (xs (I + 1)), .ref (38 + n)], hp6) _
        refine px_gx (fun _ K => px_a 2 (f' := (196, [(5, .int 0), (4, .int (nI I)), (3, .ref (52 + n)), (2, .ref (38 + n)), (1, .ref 8), (0, .ref 0)], [.int 1, .int (xs (I + 2)), .int (xs (I + 1)), .ref (38 + n)], hp6)) rfl K) ?_
        obtain ⟨th, pn, pl, fo, le, ru, hm⟩ := l_objm In6.1 whx.2.2.1 whx.2.2.2
        refine l_cv ((ct_71 hN).deep (d' := 11) (by decide)) In6.1 (a := 38 + n) (as := [.int (xs (I + 1)), .int (xs (I + 2)), .int 1]) (rest := []) rfl rfl (by rw [r24]; rfl) (by rw [r24]; decide) rfl rfl rfl (Nat.le_of_ble_eq_true rfl) ⟨pa_r24, pa_top_ok _, pa_top_ok _, pa_in (by decide) (by decide), trivial⟩ rfl (fun v8 hp8 g8 hv8 H8 G8 L8 Z8 => ?_)
        have In8 := In6.D H8 G8 (by decide) L8 Z8
        obtain ⟨z8, rfl, -, -⟩ := pa_gri (lo := 0) (hi := 1) hv8
        show px_Gx _ _ (199, [(5, .int 0), (4, .int (nI I)), (3, .ref (52 + n)), (2, .ref (38 + n)), (1, .ref 8), (0, .ref 0)], [.int z8], hp8) _
        obtain ⟨o2, hpm, gm, hmx⟩ := m_cellx (d := 10) (x := (xs (I + 1))) (y := (xs (I + 2))) (v := 1) (by decide) (by decide) hm In6.1 a1x
        have em := px_det g8 gm
        cases em
        obtain ⟨rm, thm, vsm, e1, fth, am, hmx⟩ := hmx
        cases e1
        have f5x := fx
        have why := r_wh_fr In6.1 G8 (by decide) (by decide) (by decide) (by decide) whx
        have f5y := r_sh_fr In6.1 G8 (by decide) f5x
        have e_sqy := r_sq_fr In6.1 G8 (by decide) (by decide) (by decide) (by decide) (by decide) (by decide) e_sqx
        have e_fmy := r_fm_fr In6.1 G8 (by decide) (by decide) (by decide) e_fmx
        have e_eqy := r_eq_fr In6.1 G8 (by decide) (by decide) e_eqx
        have foy : pa_fd hp8 (52 + n) 0 = _ := (l_fdo In6.1 G8 (by decide)).trans fo0
        obtain ⟨b0, b1, hmy⟩ := hmx.resolve_left (fun z => ho z.1)
        subst b1
        have cn : c < n := by omega
        rw [c2] at hmy
        rw [q1 c cn] at hmy
        obtain ⟨-, b2, b3⟩ := hmy.resolve_right (fun z => z.1 (by rw [cx]))
        subst b2
        subst b3
        have R8 : l_R n hp8 := ⟨W, V, _, _, w1, hW, hv1V, hV, hn, why, f5y, am, q1, q3, e_sqy, e_fmy, e_eqy⟩
        show px_Gx _ _ (199, [(5, .int 0), (4, .int (nI I)), (3, .ref (52 + n)), (2, .ref (38 + n)), (1, .ref 8), (0, .ref 0)], [.int 0], hp8) _
        refine px_gx (fun _ K => px_a 2 (f' := (654, [(6, .int 0), (5, .int 0), (4, .int (nI I)), (3, .ref (52 + n)), (2, .ref (38 + n)), (1, .ref 8), (0, .ref 0)], [], hp8)) rfl K) ?_
        refine px_gx (fun _ K => px_a 1 (f' := (657, [(4, .int (nI I + 4)), (6, .int 0), (5, .int 0), (3, .ref (52 + n)), (2, .ref (38 + n)), (1, .ref 8), (0, .ref 0)], [], hp8)) rfl K) ?_
        rw [show nI I + 4 = nI (I + 4) from nI_add I 4]
        show px_Gx _ _ (657, [(4, .int (nI (I + 4))), (6, .int 0), (5, .int 0), (3, .ref (52 + n)), (2, .ref (38 + n)), (1, .ref 8), (0, .ref 0)], [], hp8) _
        refine px_gx (fun _ K => px_a 1 (f' := (43, [(4, .int (nI (I + 4))), (6, .int 0), (5, .int 0), (3, .ref (52 + n)), (2, .ref (38 + n)), (1, .ref 8), (0, .ref 0)], [], hp8)) rfl K) ?_
        refine px_wk [(4, .int (nI (I + 4))), (3, .ref (52 + n)), (2, .ref (38 + n)), (1, .ref 8), (0, .ref 0)] ⟨rfl, rfl, rfl, rfl, rfl, trivial⟩ ?_
        exact K hp8 (In8.up (by omega)) R8
      · show px_Gx _ _ (167, [(4, .int (nI I)), (3, .ref (52 + n)), (2, .ref (38 + n)), (1, .ref 8), (0, .ref 0)], [.int 0], hp6) _
        refine px_gx (fun _ K => px_a 6 (f' := (175, [(5, .int 0), (4, .int (nI I)), (3, .ref (52 + n)), (2, .ref (38 + n)), (1, .ref 8), (0, .ref 0)], [.int (nI I + 1), .ref 0, .ref (38 + n)], hp6)) rfl K) ?_
        refine l_ld 1 1 rfl rfl In6.2.1 (by omega) hL ?_
        show px_Gx _ _ (176, [(5, .int 0), (4, .int (nI I)), (3, .ref (52 + n)), (2, .ref (38 + n)), (1, .ref 8), (0, .ref 0)], [.int (xs (I + 1)), .ref (38 + n)], hp6) _
        refine px_gx (fun _ K => px_a 4 (f' := (181, [(5, .int 0), (4, .int (nI I)), (3, .ref (52 + n)), (2, .ref (38 + n)), (1, .ref 8), (0, .ref 0)], [.int (nI I + 2), .ref 0, .int (xs (I + 1)), .ref (38 + n)], hp6)) rfl K) ?_
        refine l_ld 2 2 rfl rfl In6.2.1 (by omega) hL ?_
        show px_Gx _ _ (182, [(5, .int 0), (4, .int (nI I)), (3, .ref (52 + n)), (2, .ref (38 + n)), (1, .ref 8), (0, .ref 0)], [.int (xs (I + 2)), .int (xs (I + 1)), .ref (38 + n)], hp6) _
        refine px_gx (fun _ K => px_a 4 (f' := (187, [(5, .int 0), (4, .int (nI I)), (3, .ref (52 + n)), (2, .ref (38 + n)), (1, .ref 8), (0, .ref 0)], [.int (nI I + 3), .ref 0, .int (xs (I + 2)), .int (xs (I + 1)), .ref (38 + n)], hp6)) rfl K) ?_
        refine l_ld 3 3 rfl rfl In6.2.1 (by omega) hL ?_
        show px_Gx _ _ (188, [(5, .int 0), (4, .int (nI I)), (3, .ref (52 + n)), (2, .ref (38 + n)), (1, .ref 8), (0, .ref 0)], [.int (xs (I + 3)), .int (xs (I + 2)), .int (xs (I + 1)), .ref (38 + n)], hp6) _
        refine px_gx (fun _ K => px_b1 false 195 rfl rfl (decide_eq_false h1) K) ?_
        show px_Gx _ _ (191, [(5, .int 0), (4, .int (nI I)), (3, .ref (52 + n)), (2, .ref (38 + n)), (1, .ref 8), (0, .ref 0)], [.int (xs (I + 2)), .int (xs (I + 1)), .ref (38 + n)], hp6) _
        refine px_gx (fun _ K => px_a 2 (f' := (196, [(5, .int 0), (4, .int (nI I)), (3, .ref (52 + n)), (2, .ref (38 + n)), (1, .ref 8), (0, .ref 0)], [.int 1, .int (xs (I + 2)), .int (xs (I + 1)), .ref (38 + n)], hp6)) rfl K) ?_
        obtain ⟨th, pn, pl, fo, le, ru, hm⟩ := l_objm In6.1 whx.2.2.1 whx.2.2.2
        refine l_cv ((ct_71 hN).deep (d' := 11) (by decide)) In6.1 (a := 38 + n) (as := [.int (xs (I + 1)), .int (xs (I + 2)), .int 1]) (rest := []) rfl rfl (by rw [r24]; rfl) (by rw [r24]; decide) rfl rfl rfl (Nat.le_of_ble_eq_true rfl) ⟨pa_r24, pa_top_ok _, pa_top_ok _, pa_in (by decide) (by decide), trivial⟩ rfl (fun v9 hp9 g9 hv9 H9 G9 L9 Z9 => ?_)
        have In9 := In6.D H9 G9 (by decide) L9 Z9
        obtain ⟨z9, rfl, -, -⟩ := pa_gri (lo := 0) (hi := 1) hv9
        show px_Gx _ _ (199, [(5, .int 0), (4, .int (nI I)), (3, .ref (52 + n)), (2, .ref (38 + n)), (1, .ref 8), (0, .ref 0)], [.int z9], hp9) _
        obtain ⟨o2, hpm, gm, hmx⟩ := m_cellx (d := 10) (x := (xs (I + 1))) (y := (xs (I + 2))) (v := 1) (by decide) (by decide) hm In6.1 a1x
        have em := px_det g9 gm
        cases em
        obtain ⟨rm, thm, vsm, e1, fth, am, hmx⟩ := hmx
        cases e1
        have f5x := fx
        have why := r_wh_fr In6.1 G9 (by decide) (by decide) (by decide) (by decide) whx
        have f5y := r_sh_fr In6.1 G9 (by decide) f5x
        have e_sqy := r_sq_fr In6.1 G9 (by decide) (by decide) (by decide) (by decide) (by decide) (by decide) e_sqx
        have e_fmy := r_fm_fr In6.1 G9 (by decide) (by decide) (by decide) e_fmx
        have e_eqy := r_eq_fr In6.1 G9 (by decide) (by decide) e_eqx
        have foy : pa_fd hp9 (52 + n) 0 = _ := (l_fdo In6.1 G9 (by decide)).trans fo0
        obtain ⟨b0, b1, hmy⟩ := hmx.resolve_left (fun z => ho z.1)
        subst b1
        have cn : c < n := by omega
        rw [c2] at hmy
        rw [q1 c cn] at hmy
        obtain ⟨-, b2, b3⟩ := hmy.resolve_left (fun z => cx (by have z1 := z.1; injection z1 with z1; injection z1))
        subst b2
        have hlu : n ≤ us.length := by
          obtain ⟨vq, hq1, hq2, -⟩ := pa_ara (a := 39 + n) (i := 7) (lo := 0) (hi := 1) In6.1 (by omega) (by decide) (by decide) rfl
          rw [a1x] at hq1; cases hq1; omega
        rw [b3] at am
        have R9 : l_R n hp9 := ⟨W, V, _, _, w1, hW, hv1V, hV, hn, why, f5y, am, (l_shset n36 cn hlu q1 (Or.inr rfl) cx), (l_sh3 n36 cn q3), e_sqy, e_fmy, e_eqy⟩
        show px_Gx _ _ (199, [(5, .int 0), (4, .int (nI I)), (3, .ref (52 + n)), (2, .ref (38 + n)), (1, .ref 8), (0, .ref 0)], [.int 1], hp9) _
        refine px_gx (fun _ K => px_a 2 (f' := (654, [(6, .int 1), (5, .int 0), (4, .int (nI I)), (3, .ref (52 + n)), (2, .ref (38 + n)), (1, .ref 8), (0, .ref 0)], [], hp9)) rfl K) ?_
        refine px_gx (fun _ K => px_a 1 (f' := (657, [(4, .int (nI I + 4)), (6, .int 1), (5, .int 0), (3, .ref (52 + n)), (2, .ref (38 + n)), (1, .ref 8), (0, .ref 0)], [], hp9)) rfl K) ?_
        rw [show nI I + 4 = nI (I + 4) from nI_add I 4]
        show px_Gx _ _ (657, [(4, .int (nI (I + 4))), (6, .int 1), (5, .int 0), (3, .ref (52 + n)), (2, .ref (38 + n)), (1, .ref 8), (0, .ref 0)], [], hp9) _
        refine px_gx (fun _ K => px_a 1 (f' := (43, [(4, .int (nI (I + 4))), (6, .int 1), (5, .int 0), (3, .ref (52 + n)), (2, .ref (38 + n)), (1, .ref 8), (0, .ref 0)], [], hp9)) rfl K) ?_
        refine px_wk [(4, .int (nI (I + 4))), (3, .ref (52 + n)), (2, .ref (38 + n)), (1, .ref 8), (0, .ref 0)] ⟨rfl, rfl, rfl, rfl, rfl, trivial⟩ ?_
        exact K hp9 (In9.up (by omega)) R9
set_option maxRecDepth 20000 in
set_option maxHeartbeats 2000000 in
theorem l_case_1 {n : Nat} (hN : pa_N n) {L I S0 B : Nat} {xs : Nat → Int32} (hL : L ≤ 10000) (hI : I + 4 ≤ L) {hp : px_H} (In : l_In n L xs S0 hp B) (R : l_R n hp) {P : px_O → px_H → Prop} (K : ∀ hp1, l_In n L xs S0 hp1 (B + 1) → l_R n hp1 → px_Gx 12 6 (43, [(4, .int (nI (I + 4))), (3, .ref (52 + n)), (2, .ref (38 + n)), (1, .ref 8), (0, .ref 0)], [], hp1) P) : px_Gx 12 6 (204, [(4, .int (nI I)), (3, .ref (52 + n)), (2, .ref (38 + n)), (1, .ref 8), (0, .ref 0)], [], hp) P := by
  refine px_gx (fun _ K => px_a 1 (f' := (205, [(4, .int (nI I)), (3, .ref (52 + n)), (2, .ref (38 + n)), (1, .ref 8), (0, .ref 0)], [.ref 8], hp)) rfl K) ?_
  obtain ⟨W, V, sh, us, w1, hW, hv1V, hV, hn, wh, f5, a1, q1, q3, e_sq, e_fm, e_eq⟩ := R
  obtain ⟨fc, fd, hc⟩ := l_obj In.1 hW hV wh.1 wh.2.1 f5
  have n36 : n ≤ 36 := hN.2
  obtain ⟨h9, zs, uq, pc, hz, hu, f7, f4, pc6, Q⟩ := e_sq
  obtain rfl : fc = nI pc := by
    rw [pa_fd_get hc] at f7
    have f8 : some (Value.int fc) = some (Value.int (nI pc)) := f7
    injection f8 with f8
    injection f8
  refine l_cv ((ct_56 hN).deep (d' := 11) (by decide)) In.1 (a := 8) (as := []) (rest := []) rfl rfl rfl (by show (8 : Nat) ≠ 99; decide) rfl rfl rfl (Nat.le_of_ble_eq_true rfl) ⟨l_ri rfl (by decide), trivial⟩ rfl (fun v1 hp1 g1 hv1 H1 G1 L1 Z1 => ?_)
  have In1 := In.D H1 G1 (by decide) L1 Z1
  obtain ⟨z1, rfl, -, -⟩ := pa_gri (lo := (-1)) (hi := 5) hv1
  show px_Gx _ _ (208, [(4, .int (nI I)), (3, .ref (52 + n)), (2, .ref (38 + n)), (1, .ref 8), (0, .ref 0)], [.int z1], hp1) _
  obtain ⟨o, hpx, gx, rx, fcx, e1, f7x, sm, cx⟩ := x_pc (d := 11) hc
  have ex := px_det g1 gx
  cases ex
  have whx := r_wh_fr In.1 G1 (by decide) (by decide) (by decide) (by decide) wh
  have f5x := r_sh_fr In.1 G1 (by decide) f5
  have a1x := r_in_fr G1 (by decide) a1
  have e_fmx := r_fm_fr In.1 G1 (by decide) (by decide) (by decide) e_fm
  have e_eqx := r_eq_fr In.1 G1 (by decide) (by decide) e_eq
  have h9x := l_fo G1 h9 (r := 9) rfl (by decide)
  have hzx := l_fa G1 hz (rr 8 (by decide) (by decide) (by omega)) (by decide) (by decide)
  have hux := l_fa G1 hu (rr 9 (by decide) (by decide) (by omega)) (by decide) (by decide)
  have f4x := (l_fd In.1 G1 (k := 4) (r24 n) (by decide) (by decide) (by decide)).trans f4
  have fox : ∀ j, j < 6 → pa_fd hp1 (10 + 3 * j) 4 = pa_fd hp (10 + 3 * j) 4 := fun j hj => l_fd In.1 G1 (r10 hj) (by decide) (by decide) (by decide)
  refine px_gx (fun _ K => px_a 2 (f' := (210, [(4, .int (nI I)), (3, .ref (52 + n)), (2, .ref (38 + n)), (1, .ref 8), (0, .ref 0)], [.ref (38 + n)], hp1)) rfl K) ?_
  obtain ⟨th, pn, pl, fo, le, ru, hm⟩ := l_objm In1.1 whx.2.2.1 whx.2.2.2
  obtain rfl : pn = nI pc := by
    have f9 := f4x
    rw [pa_fd_get hm] at f9
    have f8 : some (Value.int pn) = some (Value.int (nI pc)) := f9
    injection f8 with f8
    injection f8
  have hlz : zs.length = 6 := by
    obtain ⟨vq, hq1, hq2, -⟩ := pa_ara (a := 40 + n) (i := 8) (lo := 0) (hi := 6) In1.1 (by omega) (by decide) (by decide) rfl
    rw [hzx] at hq1; cases hq1; omega
  have hlu : uq.length = 36 := by
    obtain ⟨vq, hq1, hq2, -⟩ := pa_ara (a := 41 + n) (i := 9) (lo := 0) (hi := 15) In1.1 (by omega) (by decide) (by decide) rfl
    rw [hux] at hq1; cases hq1; omega
  refine l_cv ((ct_84 hN).deep (d' := 11) (by decide)) In1.1 (a := 38 + n) (as := []) (rest := []) rfl rfl (by rw [r24]; rfl) (by rw [r24]; decide) rfl rfl rfl (Nat.le_of_ble_eq_true rfl) ⟨pa_r24, trivial⟩ rfl (fun v2 hp2 g2 hv2 H2 G2 L2 Z2 => ?_)
  have In2 := In1.D H2 G2 (by decide) L2 Z2
  obtain ⟨z2, rfl, -, -⟩ := pa_gri (lo := (-1)) (hi := 5) hv2
  show px_Gx _ _ (213, [(4, .int (nI I)), (3, .ref (52 + n)), (2, .ref (38 + n)), (1, .ref 8), (0, .ref 0)], [.int z2], hp2) _
  obtain ⟨o2, hpm, gm, rm, pnm, zsm, e2, f4y, hzy, huy, cm⟩ := m_pc (d := 11) hm hzx hux (nI_pos (by omega)) hlz (by rw [nI_toInt (by omega)]; omega)
  have em := px_det g2 gm
  cases em
  have why := r_wh_fr In1.1 G2 (by decide) (by decide) (by decide) (by decide) whx
  have f5y := r_sh_fr In1.1 G2 (by decide) f5x
  have a1y := r_in_fr G2 (by decide) a1x
  have e_fmy := r_fm_fr In1.1 G2 (by decide) (by decide) (by decide) e_fmx
  have e_eqy := r_eq_fr In1.1 G2 (by decide) (by decide) e_eqx
  have h9y := l_fo G2 h9x (r := 9) rfl (by decide)
  have f7y := (l_fd In1.1 G2 (r := 8) (a := 8) (k := 7) rfl (by decide) (by decide) (by decide)).trans f7x
  have foy : ∀ j, j < 6 → pa_fd hp2 (10 + 3 * j) 4 = pa_fd hp (10 + 3 * j) 4 := fun j hj => (l_fd In1.1 G2 (r10 hj) (by decide) (by decide) (by decide)).trans (fox j hj)
  have e_sqy : r_sq n hp2 := q_pc pc6 h9y hzy huy f7y f4y foy Q cx cm
  have R2 : l_R n hp2 := ⟨W, V, _, _, w1, hW, hv1V, hV, hn, why, f5y, a1y, q1, q3, e_sqy, e_fmy, e_eqy⟩
  refine px_gx (fun _ K => px_a 2 (f' := (654, [(4, .int (nI I)), (3, .ref (52 + n)), (2, .ref (38 + n)), (1, .ref 8), (0, .ref 0)], [], hp2)) rfl K) ?_
  refine px_gx (fun _ K => px_a 1 (f' := (657, [(4, .int (nI I + 4)), (3, .ref (52 + n)), (2, .ref (38 + n)), (1, .ref 8), (0, .ref 0)], [], hp2)) rfl K) ?_
  rw [show nI I + 4 = nI (I + 4) from nI_add I 4]
  show px_Gx _ _ (657, [(4, .int (nI (I + 4))), (3, .ref (52 + n)), (2, .ref (38 + n)), (1, .ref 8), (0, .ref 0)], [], hp2) _
  refine px_gx (fun _ K => px_a 1 (f' := (43, [(4, .int (nI (I + 4))), (3, .ref (52 + n)), (2, .ref (38 + n)), (1, .ref 8), (0, .ref 0)], [], hp2)) rfl K) ?_
  refine px_wk [(4, .int (nI (I + 4))), (3, .ref (52 + n)), (2, .ref (38 + n)), (1, .ref 8), (0, .ref 0)] ⟨rfl, rfl, rfl, rfl, rfl, trivial⟩ ?_
  exact K hp2 (In2.up (by omega)) R2
set_option maxRecDepth 20000 in
set_option maxHeartbeats 2000000 in
theorem l_case_2 {n : Nat} (hN : pa_N n) {L I S0 B : Nat} {xs : Nat → Int32} (hL : L ≤ 10000) (hI : I + 4 ≤ L) {hp : px_H} (In : l_In n L xs S0 hp B) (R : l_R n hp) {P : px_O → px_H → Prop} (K : ∀ hp1, l_In n L xs S0 hp1 (B + 1) → l_R n hp1 → px_Gx 12 6 (43, [(4, .int (nI (I + 4))), (3, .ref (52 + n)), (2, .ref (38 + n)), (1, .ref 8), (0, .ref 0)], [], hp1) P) : px_Gx 12 6 (217, [(4, .int (nI I)), (3, .ref (52 + n)), (2, .ref (38 + n)), (1, .ref 8), (0, .ref 0)], [], hp) P := by
  refine px_gx (fun _ K => px_a 5 (f' := (223, [(4, .int (nI I)), (3, .ref (52 + n)), (2, .ref (38 + n)), (1, .ref 8), (0, .ref 0)], [.int (nI I + 1), .ref 0, .ref 8], hp)) rfl K) ?_
  refine l_ld 1 1 rfl rfl In.2.1 (by omega) hL ?_
  show px_Gx _ _ (224, [(4, .int (nI I)), (3, .ref (52 + n)), (2, .ref (38 + n)), (1, .ref 8), (0, .ref 0)], [.int (xs (I + 1)), .ref 8], hp) _
  refine px_gx (fun _ K => px_a 4 (f' := (229, [(4, .int (nI I)), (3, .ref (52 + n)), (2, .ref (38 + n)), (1, .ref 8), (0, .ref 0)], [.int (nI I + 2), .ref 0, .int (xs (I + 1)), .ref 8], hp)) rfl K) ?_
  refine l_ld 2 2 rfl rfl In.2.1 (by omega) hL ?_
  show px_Gx _ _ (230, [(4, .int (nI I)), (3, .ref (52 + n)), (2, .ref (38 + n)), (1, .ref 8), (0, .ref 0)], [.int (xs (I + 2)), .int (xs (I + 1)), .ref 8], hp) _
  refine px_gx (fun _ K => px_a 4 (f' := (235, [(4, .int (nI I)), (3, .ref (52 + n)), (2, .ref (38 + n)), (1, .ref 8), (0, .ref 0)], [.int (nI I + 3), .ref 0, .int (xs (I + 2)), .int (xs (I + 1)), .ref 8], hp)) rfl K) ?_
  refine l_ld 3 3 rfl rfl In.2.1 (by omega) hL ?_
  show px_Gx _ _ (236, [(4, .int (nI I)), (3, .ref (52 + n)), (2, .ref (38 + n)), (1, .ref 8), (0, .ref 0)], [.int (xs (I + 3)), .int (xs (I + 2)), .int (xs (I + 1)), .ref 8], hp) _
  refine px_gx (fun _ K => px_a 1 (f' := (237, [(4, .int (nI I)), (3, .ref (52 + n)), (2, .ref (38 + n)), (1, .ref 8), (0, .ref 0)], [.ref (52 + n), .int (xs (I + 3)), .int (xs (I + 2)), .int (xs (I + 1)), .ref 8], hp)) rfl K) ?_
  obtain ⟨W, V, sh, us, w1, hW, hv1V, hV, hn, wh, f5, a1, q1, q3, e_sq, e_fm, e_eq⟩ := R
  obtain ⟨fc, fd, hc⟩ := l_obj In.1 hW hV wh.1 wh.2.1 f5
  have n36 : n ≤ 36 := hN.2
  obtain ⟨h9, zs, uq, pc, hz, hu, f7, f4, pc6, Q⟩ := e_sq
  obtain rfl : fc = nI pc := by
    rw [pa_fd_get hc] at f7
    have f8 : some (Value.int fc) = some (Value.int (nI pc)) := f7
    injection f8 with f8
    injection f8
  have QP : ∀ k, k < 6 → ∃ N, N < 65536 ∧ pa_fd hp (10 + 3 * k) 4 = some (.int (nI N)) ∧ pb_cnt 16 N ≤ 6 := fun k hk => by
    obtain ⟨⟨N, l, c1, c2, c3, c4, c5, -⟩, -⟩ := Q k hk
    exact ⟨N, c1, c2, by omega⟩
  obtain ⟨k1, hp1, g1, S1, cx⟩ := l_squareS hN In.1 (p0 := (xs (I + 1))) (p1 := (xs (I + 2))) (p2 := (xs (I + 3))) hc (by rw [nI_toInt (by omega)]; omega) h9 QP
  refine px_gx (fun _ K => px_cl (as := [.ref 8, .int (xs (I + 1)), .int (xs (I + 2)), .int (xs (I + 3)), .ref (52 + n)]) (rest := []) rfl rfl g1 K) ?_
  have G1 := S1.2.1
  have In1 := In.S S1 (by decide)
  obtain ⟨kF, hpF, gF, RF⟩ := l_squareF hN In.1 (p0 := (xs (I + 1))) (p1 := (xs (I + 2))) (p2 := (xs (I + 3))) hc (by rw [nI_toInt (by omega)]; omega) h9 QP hW hV e_fm
  have e_fmx : r_fm hp1 W V := by
    have eF := px_det gF g1
    injection eF with eF1 eF2
    rw [← eF2]
    exact RF
  have whx := r_wh_fr In.1 G1 (by decide) (by decide) (by decide) (by decide) wh
  have f5x := r_sh_fr In.1 G1 (by decide) f5
  have a1x := r_in_fr G1 (by decide) a1
  have e_eqx := r_eq_fr In.1 G1 (by decide) (by decide) e_eq
  have h9x := l_fo G1 h9 (r := 9) rfl (by decide)
  have hzx := l_fa G1 hz (rr 8 (by decide) (by decide) (by omega)) (by decide) (by decide)
  have hux := l_fa G1 hu (rr 9 (by decide) (by decide) (by omega)) (by decide) (by decide)
  have f7x := (l_fd In.1 G1 (r := 8) (a := 8) (k := 7) rfl (by decide) (by decide) (by decide)).trans f7
  have f4x := (l_fd In.1 G1 (k := 4) (r24 n) (by decide) (by decide) (by decide)).trans f4
  rcases cx with ⟨ho, rfl, sm⟩ | ⟨ho, hO, rfl, sm⟩ | ⟨ho, hO, rfl, kk, X, Y, N, o0, hkk, hX, hY, ek, eX, eY, h16, fN, fo0, cx⟩
  · show px_Gx _ _ (240, [(4, .int (nI I)), (3, .ref (52 + n)), (2, .ref (38 + n)), (1, .ref 8), (0, .ref 0)], [.int 1], hp1) _
    refine px_gx (fun _ K => px_a 6 (f' := (248, [(5, .int 1), (4, .int (nI I)), (3, .ref (52 + n)), (2, .ref (38 + n)), (1, .ref 8), (0, .ref 0)], [.int (nI I + 1), .ref 0, .ref (38 + n)], hp1)) rfl K) ?_
    refine l_ld 1 1 rfl rfl In1.2.1 (by omega) hL ?_
    show px_Gx _ _ (249, [(5, .int 1), (4, .int (nI I)), (3, .ref (52 + n)), (2, .ref (38 + n)), (1, .ref 8), (0, .ref 0)], [.int (xs (I + 1)), .ref (38 + n)], hp1) _
    refine px_gx (fun _ K => px_a 4 (f' := (254, [(5, .int 1), (4, .int (nI I)), (3, .ref (52 + n)), (2, .ref (38 + n)), (1, .ref 8), (0, .ref 0)], [.int (nI I + 2), .ref 0, .int (xs (I + 1)), .ref (38 + n)], hp1)) rfl K) ?_
    refine l_ld 2 2 rfl rfl In1.2.1 (by omega) hL ?_
    show px_Gx _ _ (255, [(5, .int 1), (4, .int (nI I)), (3, .ref (52 + n)), (2, .ref (38 + n)), (1, .ref 8), (0, .ref 0)], [.int (xs (I + 2)), .int (xs (I + 1)), .ref (38 + n)], hp1) _
    refine px_gx (fun _ K => px_a 4 (f' := (260, [(5, .int 1), (4, .int (nI I)), (3, .ref (52 + n)), (2, .ref (38 + n)), (1, .ref 8), (0, .ref 0)], [.int (nI I + 3), .ref 0, .int (xs (I + 2)), .int (xs (I + 1)), .ref (38 + n)], hp1)) rfl K) ?_
    refine l_ld 3 3 rfl rfl In1.2.1 (by omega) hL ?_
    show px_Gx _ _ (261, [(5, .int 1), (4, .int (nI I)), (3, .ref (52 + n)), (2, .ref (38 + n)), (1, .ref 8), (0, .ref 0)], [.int (xs (I + 3)), .int (xs (I + 2)), .int (xs (I + 1)), .ref (38 + n)], hp1) _
    obtain ⟨th, pn, pl, fo, le, ru, hm⟩ := l_objm In1.1 whx.2.2.1 whx.2.2.2
    obtain rfl : pn = nI pc := by
      have f9 := f4x
      rw [pa_fd_get hm] at f9
      have f8 : some (Value.int pn) = some (Value.int (nI pc)) := f9
      injection f8 with f8
      injection f8
    have hlz : zs.length = 6 := by
      obtain ⟨vq, hq1, hq2, -⟩ := pa_ara (a := 40 + n) (i := 8) (lo := 0) (hi := 6) In1.1 (by omega) (by decide) (by decide) rfl
      rw [hzx] at hq1; cases hq1; omega
    have hlu : uq.length = 36 := by
      obtain ⟨vq, hq1, hq2, -⟩ := pa_ara (a := 41 + n) (i := 9) (lo := 0) (hi := 15) In1.1 (by omega) (by decide) (by decide) rfl
      rw [hux] at hq1; cases hq1; omega
    refine l_cv ((ct_94 hN).deep (d' := 11) (by decide)) In1.1 (a := 38 + n) (as := [.int (xs (I + 1)), .int (xs (I + 2)), .int (xs (I + 3))]) (rest := []) rfl rfl (by rw [r24]; rfl) (by rw [r24]; decide) rfl rfl rfl (Nat.le_of_ble_eq_true rfl) ⟨pa_r24, pa_top_ok _, pa_top_ok _, pa_top_ok _, trivial⟩ rfl (fun v2 hp2 g2 hv2 H2 G2 L2 Z2 => ?_)
    have In2 := In1.D H2 G2 (by decide) L2 Z2
    obtain ⟨z2, rfl, -, -⟩ := pa_gri (lo := 0) (hi := 1) hv2
    show px_Gx _ _ (264, [(5, .int 1), (4, .int (nI I)), (3, .ref (52 + n)), (2, .ref (38 + n)), (1, .ref 8), (0, .ref 0)], [.int z2], hp2) _
    obtain ⟨o2, hpm, gm, e1, hzy, huy, fth⟩ := m_sqA (d := 10) (x := (xs (I + 2))) (y := (xs (I + 3))) hm hzx hux ho
    have em := px_det g2 gm
    cases em
    obtain rfl : z2 = 0 := by
      injection e1 with e1
      injection e1 with e1
      injection e1
    have why := r_wh_fr In1.1 G2 (by decide) (by decide) (by decide) (by decide) whx
    have f5y := r_sh_fr In1.1 G2 (by decide) f5x
    have a1y := r_in_fr G2 (by decide) a1x
    have e_fmy := r_fm_fr In1.1 G2 (by decide) (by decide) (by decide) e_fmx
    have e_eqy := r_eq_fr In1.1 G2 (by decide) (by decide) e_eqx
    have h9y := l_fo G2 h9x (r := 9) rfl (by decide)
    have f7y := (l_fd In1.1 G2 (r := 8) (a := 8) (k := 7) rfl (by decide) (by decide) (by decide)).trans f7x
    have f4y := (l_fd In1.1 G2 (k := 4) (r24 n) (by decide) (by decide) (by decide)).trans f4x
    have e_sqy : r_sq n hp2 := ⟨h9y, _, _, pc, hzy, huy, f7y, f4y, pc6, fun j hj => by rw [l_fd In1.1 G2 (r10 hj) (by decide) (by decide) (by decide), sm j hj]; exact Q j hj⟩
    have R2 : l_R n hp2 := ⟨W, V, _, _, w1, hW, hv1V, hV, hn, why, f5y, a1y, q1, q3, e_sqy, e_fmy, e_eqy⟩
    show px_Gx _ _ (264, [(5, .int 1), (4, .int (nI I)), (3, .ref (52 + n)), (2, .ref (38 + n)), (1, .ref 8), (0, .ref 0)], [.int 0], hp2) _
    refine px_gx (fun _ K => px_a 2 (f' := (654, [(6, .int 0), (5, .int 1), (4, .int (nI I)), (3, .ref (52 + n)), (2, .ref (38 + n)), (1, .ref 8), (0, .ref 0)], [], hp2)) rfl K) ?_
    refine px_gx (fun _ K => px_a 1 (f' := (657, [(4, .int (nI I + 4)), (6, .int 0), (5, .int 1), (3, .ref (52 + n)), (2, .ref (38 + n)), (1, .ref 8), (0, .ref 0)], [], hp2)) rfl K) ?_
    rw [show nI I + 4 = nI (I + 4) from nI_add I 4]
    show px_Gx _ _ (657, [(4, .int (nI (I + 4))), (6, .int 0), (5, .int 1), (3, .ref (52 + n)), (2, .ref (38 + n)), (1, .ref 8), (0, .ref 0)], [], hp2) _
    refine px_gx (fun _ K => px_a 1 (f' := (43, [(4, .int (nI (I + 4))), (6, .int 0), (5, .int 1), (3, .ref (52 + n)), (2, .ref (38 + n)), (1, .ref 8), (0, .ref 0)], [], hp2)) rfl K) ?_
    refine px_wk [(4, .int (nI (I + 4))), (3, .ref (52 + n)), (2, .ref (38 + n)), (1, .ref 8), (0, .ref 0)] ⟨rfl, rfl, rfl, rfl, rfl, trivial⟩ ?_
    exact K hp2 (In2.up (by omega)) R2
  · show px_Gx _ _ (240, [(4, .int (nI I)), (3, .ref (52 + n)), (2, .ref (38 + n)), (1, .ref 8), (0, .ref 0)], [.int 2], hp1) _
    refine px_gx (fun _ K => px_a 6 (f' := (248, [(5, .int 2), (4, .int (nI I)), (3, .ref (52 + n)), (2, .ref (38 + n)), (1, .ref 8), (0, .ref 0)], [.int (nI I + 1), .ref 0, .ref (38 + n)], hp1)) rfl K) ?_
    refine l_ld 1 1 rfl rfl In1.2.1 (by omega) hL ?_
    show px_Gx _ _ (249, [(5, .int 2), (4, .int (nI I)), (3, .ref (52 + n)), (2, .ref (38 + n)), (1, .ref 8), (0, .ref 0)], [.int (xs (I + 1)), .ref (38 + n)], hp1) _
    refine px_gx (fun _ K => px_a 4 (f' := (254, [(5, .int 2), (4, .int (nI I)), (3, .ref (52 + n)), (2, .ref (38 + n)), (1, .ref 8), (0, .ref 0)], [.int (nI I + 2), .ref 0, .int (xs (I + 1)), .ref (38 + n)], hp1)) rfl K) ?_
    refine l_ld 2 2 rfl rfl In1.2.1 (by omega) hL ?_
    show px_Gx _ _ (255, [(5, .int 2), (4, .int (nI I)), (3, .ref (52 + n)), (2, .ref (38 + n)), (1, .ref 8), (0, .ref 0)], [.int (xs (I + 2)), .int (xs (I + 1)), .ref (38 + n)], hp1) _
    refine px_gx (fun _ K => px_a 4 (f' := (260, [(5, .int 2), (4, .int (nI I)), (3, .ref (52 + n)), (2, .ref (38 + n)), (1, .ref 8), (0, .ref 0)], [.int (nI I + 3), .ref 0, .int (xs (I + 2)), .int (xs (I + 1)), .ref (38 + n)], hp1)) rfl K) ?_
    refine l_ld 3 3 rfl rfl In1.2.1 (by omega) hL ?_
    show px_Gx _ _ (261, [(5, .int 2), (4, .int (nI I)), (3, .ref (52 + n)), (2, .ref (38 + n)), (1, .ref 8), (0, .ref 0)], [.int (xs (I + 3)), .int (xs (I + 2)), .int (xs (I + 1)), .ref (38 + n)], hp1) _
    obtain ⟨th, pn, pl, fo, le, ru, hm⟩ := l_objm In1.1 whx.2.2.1 whx.2.2.2
    obtain rfl : pn = nI pc := by
      have f9 := f4x
      rw [pa_fd_get hm] at f9
      have f8 : some (Value.int pn) = some (Value.int (nI pc)) := f9
      injection f8 with f8
      injection f8
    have hlz : zs.length = 6 := by
      obtain ⟨vq, hq1, hq2, -⟩ := pa_ara (a := 40 + n) (i := 8) (lo := 0) (hi := 6) In1.1 (by omega) (by decide) (by decide) rfl
      rw [hzx] at hq1; cases hq1; omega
    have hlu : uq.length = 36 := by
      obtain ⟨vq, hq1, hq2, -⟩ := pa_ara (a := 41 + n) (i := 9) (lo := 0) (hi := 15) In1.1 (by omega) (by decide) (by decide) rfl
      rw [hux] at hq1; cases hq1; omega
    refine l_cv ((ct_94 hN).deep (d' := 11) (by decide)) In1.1 (a := 38 + n) (as := [.int (xs (I + 1)), .int (xs (I + 2)), .int (xs (I + 3))]) (rest := []) rfl rfl (by rw [r24]; rfl) (by rw [r24]; decide) rfl rfl rfl (Nat.le_of_ble_eq_true rfl) ⟨pa_r24, pa_top_ok _, pa_top_ok _, pa_top_ok _, trivial⟩ rfl (fun v3 hp3 g3 hv3 H3 G3 L3 Z3 => ?_)
    have In3 := In1.D H3 G3 (by decide) L3 Z3
    obtain ⟨z3, rfl, -, -⟩ := pa_gri (lo := 0) (hi := 1) hv3
    show px_Gx _ _ (264, [(5, .int 2), (4, .int (nI I)), (3, .ref (52 + n)), (2, .ref (38 + n)), (1, .ref 8), (0, .ref 0)], [.int z3], hp3) _
    obtain ⟨o2, hpm, gm, e1, hzy, huy, fth⟩ := m_sqB (d := 10) (x := (xs (I + 2))) (y := (xs (I + 3))) hm hzx hux ho hO
    have em := px_det g3 gm
    cases em
    obtain rfl : z3 = 0 := by
      injection e1 with e1
      injection e1 with e1
      injection e1
    have why := r_wh_fr In1.1 G3 (by decide) (by decide) (by decide) (by decide) whx
    have f5y := r_sh_fr In1.1 G3 (by decide) f5x
    have a1y := r_in_fr G3 (by decide) a1x
    have e_fmy := r_fm_fr In1.1 G3 (by decide) (by decide) (by decide) e_fmx
    have e_eqy := r_eq_fr In1.1 G3 (by decide) (by decide) e_eqx
    have h9y := l_fo G3 h9x (r := 9) rfl (by decide)
    have f7y := (l_fd In1.1 G3 (r := 8) (a := 8) (k := 7) rfl (by decide) (by decide) (by decide)).trans f7x
    have f4y := (l_fd In1.1 G3 (k := 4) (r24 n) (by decide) (by decide) (by decide)).trans f4x
    have e_sqy : r_sq n hp3 := ⟨h9y, _, _, pc, hzy, huy, f7y, f4y, pc6, fun j hj => by rw [l_fd In1.1 G3 (r10 hj) (by decide) (by decide) (by decide), sm j hj]; exact Q j hj⟩
    have R3 : l_R n hp3 := ⟨W, V, _, _, w1, hW, hv1V, hV, hn, why, f5y, a1y, q1, q3, e_sqy, e_fmy, e_eqy⟩
    show px_Gx _ _ (264, [(5, .int 2), (4, .int (nI I)), (3, .ref (52 + n)), (2, .ref (38 + n)), (1, .ref 8), (0, .ref 0)], [.int 0], hp3) _
    refine px_gx (fun _ K => px_a 2 (f' := (654, [(6, .int 0), (5, .int 2), (4, .int (nI I)), (3, .ref (52 + n)), (2, .ref (38 + n)), (1, .ref 8), (0, .ref 0)], [], hp3)) rfl K) ?_
    refine px_gx (fun _ K => px_a 1 (f' := (657, [(4, .int (nI I + 4)), (6, .int 0), (5, .int 2), (3, .ref (52 + n)), (2, .ref (38 + n)), (1, .ref 8), (0, .ref 0)], [], hp3)) rfl K) ?_
    rw [show nI I + 4 = nI (I + 4) from nI_add I 4]
    show px_Gx _ _ (657, [(4, .int (nI (I + 4))), (6, .int 0), (5, .int 2), (3, .ref (52 + n)), (2, .ref (38 + n)), (1, .ref 8), (0, .ref 0)], [], hp3) _
    refine px_gx (fun _ K => px_a 1 (f' := (43, [(4, .int (nI (I + 4))), (6, .int 0), (5, .int 2), (3, .ref (52 + n)), (2, .ref (38 + n)), (1, .ref 8), (0, .ref 0)], [], hp3)) rfl K) ?_
    refine px_wk [(4, .int (nI (I + 4))), (3, .ref (52 + n)), (2, .ref (38 + n)), (1, .ref 8), (0, .ref 0)] ⟨rfl, rfl, rfl, rfl, rfl, trivial⟩ ?_
    exact K hp3 (In3.up (by omega)) R3
  · show px_Gx _ _ (240, [(4, .int (nI I)), (3, .ref (52 + n)), (2, .ref (38 + n)), (1, .ref 8), (0, .ref 0)], [.int 0], hp1) _
    rcases cx with ⟨cx, rfl, sm⟩ | ⟨cx, cx2, rfl, up⟩
    · show px_Gx _ _ (240, [(4, .int (nI I)), (3, .ref (52 + n)), (2, .ref (38 + n)), (1, .ref 8), (0, .ref 0)], [.int 0], hp1) _
      refine px_gx (fun _ K => px_a 6 (f' := (248, [(5, .int 0), (4, .int (nI I)), (3, .ref (52 + n)), (2, .ref (38 + n)), (1, .ref 8), (0, .ref 0)], [.int (nI I + 1), .ref 0, .ref (38 + n)], hp1)) rfl K) ?_
      refine l_ld 1 1 rfl rfl In1.2.1 (by omega) hL ?_
      show px_Gx _ _ (249, [(5, .int 0), (4, .int (nI I)), (3, .ref (52 + n)), (2, .ref (38 + n)), (1, .ref 8), (0, .ref 0)], [.int (xs (I + 1)), .ref (38 + n)], hp1) _
      refine px_gx (fun _ K => px_a 4 (f' := (254, [(5, .int 0), (4, .int (nI I)), (3, .ref (52 + n)), (2, .ref (38 + n)), (1, .ref 8), (0, .ref 0)], [.int (nI I + 2), .ref 0, .int (xs (I + 1)), .ref (38 + n)], hp1)) rfl K) ?_
      refine l_ld 2 2 rfl rfl In1.2.1 (by omega) hL ?_
      show px_Gx _ _ (255, [(5, .int 0), (4, .int (nI I)), (3, .ref (52 + n)), (2, .ref (38 + n)), (1, .ref 8), (0, .ref 0)], [.int (xs (I + 2)), .int (xs (I + 1)), .ref (38 + n)], hp1) _
      refine px_gx (fun _ K => px_a 4 (f' := (260, [(5, .int 0), (4, .int (nI I)), (3, .ref (52 + n)), (2, .ref (38 + n)), (1, .ref 8), (0, .ref 0)], [.int (nI I + 3), .ref 0, .int (xs (I + 2)), .int (xs (I + 1)), .ref (38 + n)], hp1)) rfl K) ?_
      refine l_ld 3 3 rfl rfl In1.2.1 (by omega) hL ?_
      show px_Gx _ _ (261, [(5, .int 0), (4, .int (nI I)), (3, .ref (52 + n)), (2, .ref (38 + n)), (1, .ref 8), (0, .ref 0)], [.int (xs (I + 3)), .int (xs (I + 2)), .int (xs (I + 1)), .ref (38 + n)], hp1) _
      obtain ⟨th, pn, pl, fo, le, ru, hm⟩ := l_objm In1.1 whx.2.2.1 whx.2.2.2
      obtain rfl : pn = nI pc := by
        have f9 := f4x
        rw [pa_fd_get hm] at f9
        have f8 : some (Value.int pn) = some (Value.int (nI pc)) := f9
        injection f8 with f8
        injection f8
      have hlz : zs.length = 6 := by
        obtain ⟨vq, hq1, hq2, -⟩ := pa_ara (a := 40 + n) (i := 8) (lo := 0) (hi := 6) In1.1 (by omega) (by decide) (by decide) rfl
        rw [hzx] at hq1; cases hq1; omega
      have hlu : uq.length = 36 := by
        obtain ⟨vq, hq1, hq2, -⟩ := pa_ara (a := 41 + n) (i := 9) (lo := 0) (hi := 15) In1.1 (by omega) (by decide) (by decide) rfl
        rw [hux] at hq1; cases hq1; omega
      refine l_cv ((ct_94 hN).deep (d' := 11) (by decide)) In1.1 (a := 38 + n) (as := [.int (xs (I + 1)), .int (xs (I + 2)), .int (xs (I + 3))]) (rest := []) rfl rfl (by rw [r24]; rfl) (by rw [r24]; decide) rfl rfl rfl (Nat.le_of_ble_eq_true rfl) ⟨pa_r24, pa_top_ok _, pa_top_ok _, pa_top_ok _, trivial⟩ rfl (fun v4 hp4 g4 hv4 H4 G4 L4 Z4 => ?_)
      have In4 := In1.D H4 G4 (by decide) L4 Z4
      obtain ⟨z4, rfl, -, -⟩ := pa_gri (lo := 0) (hi := 1) hv4
      show px_Gx _ _ (264, [(5, .int 0), (4, .int (nI I)), (3, .ref (52 + n)), (2, .ref (38 + n)), (1, .ref 8), (0, .ref 0)], [.int z4], hp4) _
      have Qk := (Q kk hkk).1
      rw [fN] at Qk
      obtain ⟨l, a3, a4, a5, a6, a7, a8⟩ := q_get h16 Qk
      obtain ⟨o2, hpm, gm, hmx⟩ := m_sqi (d := 10) (k := kk) (X := X) (Y := Y) (x := (xs (I + 2))) (y := (xs (I + 3))) hm hzx hux ho hO ek eX eY hX hY hkk a3 a4 a8 a7 hlz hlu
      have em := px_det g4 gm
      cases em
      obtain ⟨-, e1, hzy, huy, fth⟩ := hmx.resolve_right (fun z => cx.elim (fun c => z.1 ((a6 _).mpr c)) (fun c => by have := z.2.1; omega))
      obtain rfl : z4 = 0 := by
        injection e1 with e1
        injection e1 with e1
        injection e1
      have foy : pa_fd hp4 (52 + n) 0 = _ := (l_fdo In1.1 G4 (by decide)).trans fo0
      have why := r_wh_fr In1.1 G4 (by decide) (by decide) (by decide) (by decide) whx
      have f5y := r_sh_fr In1.1 G4 (by decide) f5x
      have a1y := r_in_fr G4 (by decide) a1x
      have e_fmy := r_fm_fr In1.1 G4 (by decide) (by decide) (by decide) e_fmx
      have e_eqy := r_eq_fr In1.1 G4 (by decide) (by decide) e_eqx
      have h9y := l_fo G4 h9x (r := 9) rfl (by decide)
      have f7y := (l_fd In1.1 G4 (r := 8) (a := 8) (k := 7) rfl (by decide) (by decide) (by decide)).trans f7x
      have f4y := (l_fd In1.1 G4 (k := 4) (r24 n) (by decide) (by decide) (by decide)).trans f4x
      have e_sqy : r_sq n hp4 := ⟨h9y, _, _, pc, hzy, huy, f7y, f4y, pc6, fun j hj => by rw [l_fd In1.1 G4 (r10 hj) (by decide) (by decide) (by decide), sm j hj]; exact Q j hj⟩
      have R4 : l_R n hp4 := ⟨W, V, _, _, w1, hW, hv1V, hV, hn, why, f5y, a1y, q1, q3, e_sqy, e_fmy, e_eqy⟩
      show px_Gx _ _ (264, [(5, .int 0), (4, .int (nI I)), (3, .ref (52 + n)), (2, .ref (38 + n)), (1, .ref 8), (0, .ref 0)], [.int 0], hp4) _
      refine px_gx (fun _ K => px_a 2 (f' := (654, [(6, .int 0), (5, .int 0), (4, .int (nI I)), (3, .ref (52 + n)), (2, .ref (38 + n)), (1, .ref 8), (0, .ref 0)], [], hp4)) rfl K) ?_
      refine px_gx (fun _ K => px_a 1 (f' := (657, [(4, .int (nI I + 4)), (6, .int 0), (5, .int 0), (3, .ref (52 + n)), (2, .ref (38 + n)), (1, .ref 8), (0, .ref 0)], [], hp4)) rfl K) ?_
      rw [show nI I + 4 = nI (I + 4) from nI_add I 4]
      show px_Gx _ _ (657, [(4, .int (nI (I + 4))), (6, .int 0), (5, .int 0), (3, .ref (52 + n)), (2, .ref (38 + n)), (1, .ref 8), (0, .ref 0)], [], hp4) _
      refine px_gx (fun _ K => px_a 1 (f' := (43, [(4, .int (nI (I + 4))), (6, .int 0), (5, .int 0), (3, .ref (52 + n)), (2, .ref (38 + n)), (1, .ref 8), (0, .ref 0)], [], hp4)) rfl K) ?_
      refine px_wk [(4, .int (nI (I + 4))), (3, .ref (52 + n)), (2, .ref (38 + n)), (1, .ref 8), (0, .ref 0)] ⟨rfl, rfl, rfl, rfl, rfl, trivial⟩ ?_
      exact K hp4 (In4.up (by omega)) R4
    · show px_Gx _ _ (240, [(4, .int (nI I)), (3, .ref (52 + n)), (2, .ref (38 + n)), (1, .ref 8), (0, .ref 0)], [.int 0], hp1) _
      refine px_gx (fun _ K => px_a 6 (f' := (248, [(5, .int 0), (4, .int (nI I)), (3, .ref (52 + n)), (2, .ref (38 + n)), (1, .ref 8), (0, .ref 0)], [.int (nI I + 1), .ref 0, .ref (38 + n)], hp1)) rfl K) ?_
      refine l_ld 1 1 rfl rfl In1.2.1 (by omega) hL ?_
      show px_Gx _ _ (249, [(5, .int 0), (4, .int (nI I)), (3, .ref (52 + n)), (2, .ref (38 + n)), (1, .ref 8), (0, .ref 0)], [.int (xs (I + 1)), .ref (38 + n)], hp1) _
      refine px_gx (fun _ K => px_a 4 (f' := (254, [(5, .int 0), (4, .int (nI I)), (3, .ref (52 + n)), (2, .ref (38 + n)), (1, .ref 8), (0, .ref 0)], [.int (nI I + 2), .ref 0, .int (xs (I + 1)), .ref (38 + n)], hp1)) rfl K) ?_
      refine l_ld 2 2 rfl rfl In1.2.1 (by omega) hL ?_
      show px_Gx _ _ (255, [(5, .int 0), (4, .int (nI I)), (3, .ref (52 + n)), (2, .ref (38 + n)), (1, .ref 8), (0, .ref 0)], [.int (xs (I + 2)), .int (xs (I + 1)), .ref (38 + n)], hp1) _
      refine px_gx (fun _ K => px_a 4 (f' := (260, [(5, .int 0), (4, .int (nI I)), (3, .ref (52 + n)), (2, .ref (38 + n)), (1, .ref 8), (0, .ref 0)], [.int (nI I + 3), .ref 0, .int (xs (I + 2)), .int (xs (I + 1)), .ref (38 + n)], hp1)) rfl K) ?_
      refine l_ld 3 3 rfl rfl In1.2.1 (by omega) hL ?_
      show px_Gx _ _ (261, [(5, .int 0), (4, .int (nI I)), (3, .ref (52 + n)), (2, .ref (38 + n)), (1, .ref 8), (0, .ref 0)], [.int (xs (I + 3)), .int (xs (I + 2)), .int (xs (I + 1)), .ref (38 + n)], hp1) _
      obtain ⟨th, pn, pl, fo, le, ru, hm⟩ := l_objm In1.1 whx.2.2.1 whx.2.2.2
      obtain rfl : pn = nI pc := by
        have f9 := f4x
        rw [pa_fd_get hm] at f9
        have f8 : some (Value.int pn) = some (Value.int (nI pc)) := f9
        injection f8 with f8
        injection f8
      have hlz : zs.length = 6 := by
        obtain ⟨vq, hq1, hq2, -⟩ := pa_ara (a := 40 + n) (i := 8) (lo := 0) (hi := 6) In1.1 (by omega) (by decide) (by decide) rfl
        rw [hzx] at hq1; cases hq1; omega
      have hlu : uq.length = 36 := by
        obtain ⟨vq, hq1, hq2, -⟩ := pa_ara (a := 41 + n) (i := 9) (lo := 0) (hi := 15) In1.1 (by omega) (by decide) (by decide) rfl
        rw [hux] at hq1; cases hq1; omega
      refine l_cv ((ct_94 hN).deep (d' := 11) (by decide)) In1.1 (a := 38 + n) (as := [.int (xs (I + 1)), .int (xs (I + 2)), .int (xs (I + 3))]) (rest := []) rfl rfl (by rw [r24]; rfl) (by rw [r24]; decide) rfl rfl rfl (Nat.le_of_ble_eq_true rfl) ⟨pa_r24, pa_top_ok _, pa_top_ok _, pa_top_ok _, trivial⟩ rfl (fun v5 hp5 g5 hv5 H5 G5 L5 Z5 => ?_)
      have In5 := In1.D H5 G5 (by decide) L5 Z5
      obtain ⟨z5, rfl, -, -⟩ := pa_gri (lo := 0) (hi := 1) hv5
      show px_Gx _ _ (264, [(5, .int 0), (4, .int (nI I)), (3, .ref (52 + n)), (2, .ref (38 + n)), (1, .ref 8), (0, .ref 0)], [.int z5], hp5) _
      have Qk := (Q kk hkk).1
      rw [fN] at Qk
      obtain ⟨l, a3, a4, a5, a6, a7, a8⟩ := q_get h16 Qk
      obtain ⟨o2, hpm, gm, hmx⟩ := m_sqi (d := 10) (k := kk) (X := X) (Y := Y) (x := (xs (I + 2))) (y := (xs (I + 3))) hm hzx hux ho hO ek eX eY hX hY hkk a3 a4 a8 a7 hlz hlu
      have em := px_det g5 gm
      cases em
      obtain ⟨-, l6, e1, hzy, huy, fth⟩ := hmx.resolve_left (fun z => z.1.elim (fun c => by rw [(a6 _).mp c] at cx; cases cx) (fun c => by omega))
      obtain rfl : z5 = 1 := by
        injection e1 with e1
        injection e1 with e1
        injection e1
      have foy : pa_fd hp5 (52 + n) 0 = _ := (l_fdo In1.1 G5 (by decide)).trans fo0
      have why := r_wh_fr In1.1 G5 (by decide) (by decide) (by decide) (by decide) whx
      have f5y := r_sh_fr In1.1 G5 (by decide) f5x
      have a1y := r_in_fr G5 (by decide) a1x
      have e_fmy := r_fm_fr In1.1 G5 (by decide) (by decide) (by decide) e_fmx
      have e_eqy := r_eq_fr In1.1 G5 (by decide) (by decide) e_eqx
      have h9y := l_fo G5 h9x (r := 9) rfl (by decide)
      have f7y := (l_fd In1.1 G5 (r := 8) (a := 8) (k := 7) rfl (by decide) (by decide) (by decide)).trans f7x
      have f4y := (l_fd In1.1 G5 (k := 4) (r24 n) (by decide) (by decide) (by decide)).trans f4x
      have kpc : kk < pc := by
        apply Nat.lt_of_not_le
        intro c
        apply ho
        right
        rw [ek, Int32.le_iff_toInt_le, nI_toInt (by omega), nI_toInt (by omega)]
        omega
      have QU := q_upd (v := fun j => pa_fd hp (10 + 3 * j) 4) hlz hlu hkk h16 (show 4 * Y + X < 16 by omega) l6 cx a5 a6 a7 (fun j hj => (Q j hj).1)
      have e_sqy : r_sq n hp5 := ⟨h9y, _, _, pc, hzy, huy, f7y, f4y, pc6, fun j hj => ⟨by rw [l_fd In1.1 G5 (r10 hj) (by decide) (by decide) (by decide), up j hj]; exact QU j hj, fun c => by rw [List.getElem?_set_ne (by omega)]; exact (Q j hj).2 c⟩⟩
      have R5 : l_R n hp5 := ⟨W, V, _, _, w1, hW, hv1V, hV, hn, why, f5y, a1y, q1, q3, e_sqy, e_fmy, e_eqy⟩
      show px_Gx _ _ (264, [(5, .int 0), (4, .int (nI I)), (3, .ref (52 + n)), (2, .ref (38 + n)), (1, .ref 8), (0, .ref 0)], [.int 1], hp5) _
      refine px_gx (fun _ K => px_a 2 (f' := (654, [(6, .int 1), (5, .int 0), (4, .int (nI I)), (3, .ref (52 + n)), (2, .ref (38 + n)), (1, .ref 8), (0, .ref 0)], [], hp5)) rfl K) ?_
      refine px_gx (fun _ K => px_a 1 (f' := (657, [(4, .int (nI I + 4)), (6, .int 1), (5, .int 0), (3, .ref (52 + n)), (2, .ref (38 + n)), (1, .ref 8), (0, .ref 0)], [], hp5)) rfl K) ?_
      rw [show nI I + 4 = nI (I + 4) from nI_add I 4]
      show px_Gx _ _ (657, [(4, .int (nI (I + 4))), (6, .int 1), (5, .int 0), (3, .ref (52 + n)), (2, .ref (38 + n)), (1, .ref 8), (0, .ref 0)], [], hp5) _
      refine px_gx (fun _ K => px_a 1 (f' := (43, [(4, .int (nI (I + 4))), (6, .int 1), (5, .int 0), (3, .ref (52 + n)), (2, .ref (38 + n)), (1, .ref 8), (0, .ref 0)], [], hp5)) rfl K) ?_
      refine px_wk [(4, .int (nI (I + 4))), (3, .ref (52 + n)), (2, .ref (38 + n)), (1, .ref 8), (0, .ref 0)] ⟨rfl, rfl, rfl, rfl, rfl, trivial⟩ ?_
      exact K hp5 (In5.up (by omega)) R5
set_option maxRecDepth 20000 in
set_option maxHeartbeats 2000000 in
theorem l_case_3 {n : Nat} (hN : pa_N n) {L I S0 B : Nat} {xs : Nat → Int32} (hL : L ≤ 10000) (hI : I + 4 ≤ L) {hp : px_H} (In : l_In n L xs S0 hp B) (R : l_R n hp) {P : px_O → px_H → Prop} (K : ∀ hp1, l_In n L xs S0 hp1 (B + 1) → l_R n hp1 → px_Gx 12 6 (43, [(4, .int (nI (I + 4))), (3, .ref (52 + n)), (2, .ref (38 + n)), (1, .ref 8), (0, .ref 0)], [], hp1) P) : px_Gx 12 6 (269, [(4, .int (nI I)), (3, .ref (52 + n)), (2, .ref (38 + n)), (1, .ref 8), (0, .ref 0)], [], hp) P := by
  refine px_gx (fun _ K => px_a 5 (f' := (275, [(4, .int (nI I)), (3, .ref (52 + n)), (2, .ref (38 + n)), (1, .ref 8), (0, .ref 0)], [.int (nI I + 1), .ref 0, .ref 8], hp)) rfl K) ?_
  refine l_ld 1 1 rfl rfl In.2.1 (by omega) hL ?_
  show px_Gx _ _ (276, [(4, .int (nI I)), (3, .ref (52 + n)), (2, .ref (38 + n)), (1, .ref 8), (0, .ref 0)], [.int (xs (I + 1)), .ref 8], hp) _
  refine px_gx (fun _ K => px_a 1 (f' := (277, [(4, .int (nI I)), (3, .ref (52 + n)), (2, .ref (38 + n)), (1, .ref 8), (0, .ref 0)], [.ref (52 + n), .int (xs (I + 1)), .ref 8], hp)) rfl K) ?_
  obtain ⟨W, V, sh, us, w1, hW, hv1V, hV, hn, wh, f5, a1, q1, q3, e_sq, e_fm, e_eq⟩ := R
  obtain ⟨fc, fd, hc⟩ := l_obj In.1 hW hV wh.1 wh.2.1 f5
  have n36 : n ≤ 36 := hN.2
  have e_sq0 := e_sq
  obtain ⟨h9, zs, uq, pc, hz, hu, f7, f4, pc6, Q⟩ := e_sq
  obtain rfl : fc = nI pc := by
    rw [pa_fd_get hc] at f7
    have f8 : some (Value.int fc) = some (Value.int (nI pc)) := f7
    injection f8 with f8
    injection f8
  obtain ⟨k1, hp1, g1, S1, e_fmx, -⟩ := l_pls hN In.1 (p := (xs (I + 1))) hc (by rw [nI_toInt (by omega)]; omega) h9 hW hV e_fm
  refine px_gx (fun _ K => px_cl (as := [.ref 8, .int (xs (I + 1)), .ref (52 + n)]) (rest := []) rfl rfl g1 K) ?_
  have G1 := S1.2.1
  have In1 := In.S S1 (by decide)
  have whx := r_wh_fr In.1 G1 (by decide) (by decide) (by decide) (by decide) wh
  have f5x := r_sh_fr In.1 G1 (by decide) f5
  have a1x := r_in_fr G1 (by decide) a1
  have e_eqx := r_eq_fr In.1 G1 (by decide) (by decide) e_eq
  have e_sqx := r_sq_fr In.1 G1 (by decide) (by decide) (by decide) (by decide) (by decide) (by decide) e_sq0
  have R1 : l_R n hp1 := ⟨W, V, _, _, w1, hW, hv1V, hV, hn, whx, f5x, a1x, q1, q3, e_sqx, e_fmx, e_eqx⟩
  show px_Gx _ _ (280, [(4, .int (nI I)), (3, .ref (52 + n)), (2, .ref (38 + n)), (1, .ref 8), (0, .ref 0)], [.int k1], hp1) _
  refine px_gx (fun _ K => px_a 6 (f' := (288, [(5, .int k1), (4, .int (nI I)), (3, .ref (52 + n)), (2, .ref (38 + n)), (1, .ref 8), (0, .ref 0)], [.int (nI I + 1), .ref 0, .ref (38 + n)], hp1)) rfl K) ?_
  refine l_ld 1 1 rfl rfl In1.2.1 (by omega) hL ?_
  show px_Gx _ _ (289, [(5, .int k1), (4, .int (nI I)), (3, .ref (52 + n)), (2, .ref (38 + n)), (1, .ref 8), (0, .ref 0)], [.int (xs (I + 1)), .ref (38 + n)], hp1) _
  refine l_cv ((ct_87 hN).deep (d' := 11) (by decide)) In1.1 (a := 38 + n) (as := [.int (xs (I + 1))]) (rest := []) rfl rfl (by rw [r24]; rfl) (by rw [r24]; decide) rfl rfl rfl (Nat.le_of_ble_eq_true rfl) ⟨pa_r24, pa_top_ok _, trivial⟩ rfl (fun v2 hp2 g2 hv2 H2 G2 L2 Z2 => ?_)
  have In2 := In1.D H2 G2 (by decide) L2 Z2
  have R2 : l_R n hp2 := l_R_fr In1.1 G2 (by decide) (by decide) (by decide) (by decide) (by decide) (by decide) (by decide) (by decide) (by decide) (by decide) (by decide) (by decide) (by decide) (by decide) (by decide) (by decide) (by decide) R1
  obtain ⟨z2, rfl, -, -⟩ := pa_gri (lo := 0) (hi := 512) hv2
  show px_Gx _ _ (292, [(5, .int k1), (4, .int (nI I)), (3, .ref (52 + n)), (2, .ref (38 + n)), (1, .ref 8), (0, .ref 0)], [.int z2], hp2) _
  refine px_gx (fun _ K => px_a 2 (f' := (654, [(6, .int z2), (5, .int k1), (4, .int (nI I)), (3, .ref (52 + n)), (2, .ref (38 + n)), (1, .ref 8), (0, .ref 0)], [], hp2)) rfl K) ?_
  refine px_gx (fun _ K => px_a 1 (f' := (657, [(4, .int (nI I + 4)), (6, .int z2), (5, .int k1), (3, .ref (52 + n)), (2, .ref (38 + n)), (1, .ref 8), (0, .ref 0)], [], hp2)) rfl K) ?_
  rw [show nI I + 4 = nI (I + 4) from nI_add I 4]
  show px_Gx _ _ (657, [(4, .int (nI (I + 4))), (6, .int z2), (5, .int k1), (3, .ref (52 + n)), (2, .ref (38 + n)), (1, .ref 8), (0, .ref 0)], [], hp2) _
  refine px_gx (fun _ K => px_a 1 (f' := (43, [(4, .int (nI (I + 4))), (6, .int z2), (5, .int k1), (3, .ref (52 + n)), (2, .ref (38 + n)), (1, .ref 8), (0, .ref 0)], [], hp2)) rfl K) ?_
  refine px_wk [(4, .int (nI (I + 4))), (3, .ref (52 + n)), (2, .ref (38 + n)), (1, .ref 8), (0, .ref 0)] ⟨rfl, rfl, rfl, rfl, rfl, trivial⟩ ?_
  exact K hp2 (In2.up (by omega)) R2
set_option maxRecDepth 20000 in
set_option maxHeartbeats 2000000 in
theorem l_case_4 {n : Nat} (hN : pa_N n) {L I S0 B : Nat} {xs : Nat → Int32} (hL : L ≤ 10000) (hI : I + 4 ≤ L) {hp : px_H} (In : l_In n L xs S0 hp B) (R : l_R n hp) {P : px_O → px_H → Prop} (K : ∀ hp1, l_In n L xs S0 hp1 (B + 1) → l_R n hp1 → px_Gx 12 6 (43, [(4, .int (nI (I + 4))), (3, .ref (52 + n)), (2, .ref (38 + n)), (1, .ref 8), (0, .ref 0)], [], hp1) P) : px_Gx 12 6 (297, [(4, .int (nI I)), (3, .ref (52 + n)), (2, .ref (38 + n)), (1, .ref 8), (0, .ref 0)], [], hp) P := by
  refine px_gx (fun _ K => px_a 5 (f' := (303, [(4, .int (nI I)), (3, .ref (52 + n)), (2, .ref (38 + n)), (1, .ref 8), (0, .ref 0)], [.int (nI I + 1), .ref 0, .ref 8], hp)) rfl K) ?_
  refine l_ld 1 1 rfl rfl In.2.1 (by omega) hL ?_
  show px_Gx _ _ (304, [(4, .int (nI I)), (3, .ref (52 + n)), (2, .ref (38 + n)), (1, .ref 8), (0, .ref 0)], [.int (xs (I + 1)), .ref 8], hp) _
  refine px_gx (fun _ K => px_a 4 (f' := (309, [(4, .int (nI I)), (3, .ref (52 + n)), (2, .ref (38 + n)), (1, .ref 8), (0, .ref 0)], [.int (nI I + 2), .ref 0, .int (xs (I + 1)), .ref 8], hp)) rfl K) ?_
  refine l_ld 2 2 rfl rfl In.2.1 (by omega) hL ?_
  show px_Gx _ _ (310, [(4, .int (nI I)), (3, .ref (52 + n)), (2, .ref (38 + n)), (1, .ref 8), (0, .ref 0)], [.int (xs (I + 2)), .int (xs (I + 1)), .ref 8], hp) _
  refine px_gx (fun _ K => px_a 4 (f' := (315, [(4, .int (nI I)), (3, .ref (52 + n)), (2, .ref (38 + n)), (1, .ref 8), (0, .ref 0)], [.int (nI I + 3), .ref 0, .int (xs (I + 2)), .int (xs (I + 1)), .ref 8], hp)) rfl K) ?_
  refine l_ld 3 3 rfl rfl In.2.1 (by omega) hL ?_
  show px_Gx _ _ (316, [(4, .int (nI I)), (3, .ref (52 + n)), (2, .ref (38 + n)), (1, .ref 8), (0, .ref 0)], [.int (xs (I + 3)), .int (xs (I + 2)), .int (xs (I + 1)), .ref 8], hp) _
  refine px_gx (fun _ K => px_a 1 (f' := (317, [(4, .int (nI I)), (3, .ref (52 + n)), (2, .ref (38 + n)), (1, .ref 8), (0, .ref 0)], [.ref (52 + n), .int (xs (I + 3)), .int (xs (I + 2)), .int (xs (I + 1)), .ref 8], hp)) rfl K) ?_
  obtain ⟨W, V, sh, us, w1, hW, hv1V, hV, hn, wh, f5, a1, q1, q3, e_sq, e_fm, e_eq⟩ := R
  obtain ⟨fc, fd, hc⟩ := l_obj In.1 hW hV wh.1 wh.2.1 f5
  have n36 : n ≤ 36 := hN.2
  have e_sq0 := e_sq
  obtain ⟨h9, zs, uq, pc, hz, hu, f7, f4, pc6, Q⟩ := e_sq
  obtain rfl : fc = nI pc := by
    rw [pa_fd_get hc] at f7
    have f8 : some (Value.int fc) = some (Value.int (nI pc)) := f7
    injection f8 with f8
    injection f8
  obtain ⟨k1, hp1, g1, S1⟩ := l_h8 hN In.1 (p0 := (xs (I + 1))) (p1 := (xs (I + 2))) (p2 := (xs (I + 3)))
  obtain ⟨kF, hpF, gF, RF⟩ := l_plc hN In.1 (p := (xs (I + 1))) (p1 := (xs (I + 2))) (p2 := (xs (I + 3))) hc (by rw [nI_toInt (by omega)]; omega) h9 hW hV e_fm
  have e_fmx : r_fm hp1 W V := by
    have eF := px_det gF g1
    injection eF with eF1 eF2
    rw [← eF2]
    exact RF
  refine px_gx (fun _ K => px_cl (as := [.ref 8, .int (xs (I + 1)), .int (xs (I + 2)), .int (xs (I + 3)), .ref (52 + n)]) (rest := []) rfl rfl g1 K) ?_
  have G1 := S1.2.1
  have In1 := In.S S1 (by decide)
  have whx := r_wh_fr In.1 G1 (by decide) (by decide) (by decide) (by decide) wh
  have f5x := r_sh_fr In.1 G1 (by decide) f5
  have a1x := r_in_fr G1 (by decide) a1
  have e_eqx := r_eq_fr In.1 G1 (by decide) (by decide) e_eq
  have e_sqx := r_sq_fr In.1 G1 (by decide) (by decide) (by decide) (by decide) (by decide) (by decide) e_sq0
  have R1 : l_R n hp1 := ⟨W, V, _, _, w1, hW, hv1V, hV, hn, whx, f5x, a1x, q1, q3, e_sqx, e_fmx, e_eqx⟩
  show px_Gx _ _ (320, [(4, .int (nI I)), (3, .ref (52 + n)), (2, .ref (38 + n)), (1, .ref 8), (0, .ref 0)], [.int k1], hp1) _
  refine px_gx (fun _ K => px_a 6 (f' := (328, [(5, .int k1), (4, .int (nI I)), (3, .ref (52 + n)), (2, .ref (38 + n)), (1, .ref 8), (0, .ref 0)], [.int (nI I + 1), .ref 0, .ref (38 + n)], hp1)) rfl K) ?_
  refine l_ld 1 1 rfl rfl In1.2.1 (by omega) hL ?_
  show px_Gx _ _ (329, [(5, .int k1), (4, .int (nI I)), (3, .ref (52 + n)), (2, .ref (38 + n)), (1, .ref 8), (0, .ref 0)], [.int (xs (I + 1)), .ref (38 + n)], hp1) _
  refine px_gx (fun _ K => px_a 4 (f' := (334, [(5, .int k1), (4, .int (nI I)), (3, .ref (52 + n)), (2, .ref (38 + n)), (1, .ref 8), (0, .ref 0)], [.int (nI I + 2), .ref 0, .int (xs (I + 1)), .ref (38 + n)], hp1)) rfl K) ?_
  refine l_ld 2 2 rfl rfl In1.2.1 (by omega) hL ?_
  show px_Gx _ _ (335, [(5, .int k1), (4, .int (nI I)), (3, .ref (52 + n)), (2, .ref (38 + n)), (1, .ref 8), (0, .ref 0)], [.int (xs (I + 2)), .int (xs (I + 1)), .ref (38 + n)], hp1) _
  refine px_gx (fun _ K => px_a 4 (f' := (340, [(5, .int k1), (4, .int (nI I)), (3, .ref (52 + n)), (2, .ref (38 + n)), (1, .ref 8), (0, .ref 0)], [.int (nI I + 3), .ref 0, .int (xs (I + 2)), .int (xs (I + 1)), .ref (38 + n)], hp1)) rfl K) ?_
  refine l_ld 3 3 rfl rfl In1.2.1 (by omega) hL ?_
  show px_Gx _ _ (341, [(5, .int k1), (4, .int (nI I)), (3, .ref (52 + n)), (2, .ref (38 + n)), (1, .ref 8), (0, .ref 0)], [.int (xs (I + 3)), .int (xs (I + 2)), .int (xs (I + 1)), .ref (38 + n)], hp1) _
  refine l_cv ((ct_86 hN).deep (d' := 11) (by decide)) In1.1 (a := 38 + n) (as := [.int (xs (I + 1)), .int (xs (I + 2)), .int (xs (I + 3))]) (rest := []) rfl rfl (by rw [r24]; rfl) (by rw [r24]; decide) rfl rfl rfl (Nat.le_of_ble_eq_true rfl) ⟨pa_r24, pa_top_ok _, pa_top_ok _, pa_top_ok _, trivial⟩ rfl (fun v2 hp2 g2 hv2 H2 G2 L2 Z2 => ?_)
  have In2 := In1.D H2 G2 (by decide) L2 Z2
  have R2 : l_R n hp2 := l_R_fr In1.1 G2 (by decide) (by decide) (by decide) (by decide) (by decide) (by decide) (by decide) (by decide) (by decide) (by decide) (by decide) (by decide) (by decide) (by decide) (by decide) (by decide) (by decide) R1
  obtain ⟨z2, rfl, -, -⟩ := pa_gri (lo := (-1)) (hi := 35) hv2
  show px_Gx _ _ (344, [(5, .int k1), (4, .int (nI I)), (3, .ref (52 + n)), (2, .ref (38 + n)), (1, .ref 8), (0, .ref 0)], [.int z2], hp2) _
  refine px_gx (fun _ K => px_a 2 (f' := (654, [(6, .int z2), (5, .int k1), (4, .int (nI I)), (3, .ref (52 + n)), (2, .ref (38 + n)), (1, .ref 8), (0, .ref 0)], [], hp2)) rfl K) ?_
  refine px_gx (fun _ K => px_a 1 (f' := (657, [(4, .int (nI I + 4)), (6, .int z2), (5, .int k1), (3, .ref (52 + n)), (2, .ref (38 + n)), (1, .ref 8), (0, .ref 0)], [], hp2)) rfl K) ?_
  rw [show nI I + 4 = nI (I + 4) from nI_add I 4]
  show px_Gx _ _ (657, [(4, .int (nI (I + 4))), (6, .int z2), (5, .int k1), (3, .ref (52 + n)), (2, .ref (38 + n)), (1, .ref 8), (0, .ref 0)], [], hp2) _
  refine px_gx (fun _ K => px_a 1 (f' := (43, [(4, .int (nI (I + 4))), (6, .int z2), (5, .int k1), (3, .ref (52 + n)), (2, .ref (38 + n)), (1, .ref 8), (0, .ref 0)], [], hp2)) rfl K) ?_
  refine px_wk [(4, .int (nI (I + 4))), (3, .ref (52 + n)), (2, .ref (38 + n)), (1, .ref 8), (0, .ref 0)] ⟨rfl, rfl, rfl, rfl, rfl, trivial⟩ ?_
  exact K hp2 (In2.up (by omega)) R2
set_option maxRecDepth 20000 in
set_option maxHeartbeats 2000000 in
theorem l_case_5 {n : Nat} (hN : pa_N n) {L I S0 B : Nat} {xs : Nat → Int32} (hL : L ≤ 10000) (hI : I + 4 ≤ L) {hp : px_H} (In : l_In n L xs S0 hp B) (R : l_R n hp) {P : px_O → px_H → Prop} (K : ∀ hp1, l_In n L xs S0 hp1 (B + 1) → l_R n hp1 → px_Gx 12 6 (43, [(4, .int (nI (I + 4))), (3, .ref (52 + n)), (2, .ref (38 + n)), (1, .ref 8), (0, .ref 0)], [], hp1) P) : px_Gx 12 6 (349, [(4, .int (nI I)), (3, .ref (52 + n)), (2, .ref (38 + n)), (1, .ref 8), (0, .ref 0)], [], hp) P := by
  refine px_gx (fun _ K => px_a 1 (f' := (350, [(4, .int (nI I)), (3, .ref (52 + n)), (2, .ref (38 + n)), (1, .ref 8), (0, .ref 0)], [.ref 8], hp)) rfl K) ?_
  refine l_cv ((ct_63 hN).deep (d' := 11) (by decide)) In.1 (a := 8) (as := []) (rest := []) rfl rfl rfl (by show (8 : Nat) ≠ 99; decide) rfl rfl rfl (Nat.le_of_ble_eq_true rfl) ⟨l_ri rfl (by decide), trivial⟩ rfl (fun v1 hp1 g1 hv1 H1 G1 L1 Z1 => ?_)
  have In1 := In.D H1 G1 (by decide) L1 Z1
  have R1 : l_R n hp1 := l_R_fr In.1 G1 (by decide) (by decide) (by decide) (by decide) (by decide) (by decide) (by decide) (by decide) (by decide) (by decide) (by decide) (by decide) (by decide) (by decide) (by decide) (by decide) (by decide) R
  obtain ⟨z1, rfl, -, -⟩ := pa_gri (lo := 0) (hi := 1) hv1
  show px_Gx _ _ (353, [(4, .int (nI I)), (3, .ref (52 + n)), (2, .ref (38 + n)), (1, .ref 8), (0, .ref 0)], [.int z1], hp1) _
  refine px_gx (fun _ K => px_a 2 (f' := (355, [(4, .int (nI I)), (3, .ref (52 + n)), (2, .ref (38 + n)), (1, .ref 8), (0, .ref 0)], [.ref (38 + n)], hp1)) rfl K) ?_
  refine l_cv ((ct_93 hN).deep (d' := 11) (by decide)) In1.1 (a := 38 + n) (as := []) (rest := []) rfl rfl (by rw [r24]; rfl) (by rw [r24]; decide) rfl rfl rfl (Nat.le_of_ble_eq_true rfl) ⟨pa_r24, trivial⟩ rfl (fun v2 hp2 g2 hv2 H2 G2 L2 Z2 => ?_)
  have In2 := In1.D H2 G2 (by decide) L2 Z2
  have R2 : l_R n hp2 := l_R_fr In1.1 G2 (by decide) (by decide) (by decide) (by decide) (by decide) (by decide) (by decide) (by decide) (by decide) (by decide) (by decide) (by decide) (by decide) (by decide) (by decide) (by decide) (by decide) R1
  obtain ⟨z2, rfl, -, -⟩ := pa_gri (lo := 0) (hi := 1) hv2
  show px_Gx _ _ (358, [(4, .int (nI I)), (3, .ref (52 + n)), (2, .ref (38 + n)), (1, .ref 8), (0, .ref 0)], [.int z2], hp2) _
  refine px_gx (fun _ K => px_a 2 (f' := (654, [(4, .int (nI I)), (3, .ref (52 + n)), (2, .ref (38 + n)), (1, .ref 8), (0, .ref 0)], [], hp2)) rfl K) ?_
  refine px_gx (fun _ K => px_a 1 (f' := (657, [(4, .int (nI I + 4)), (3, .ref (52 + n)), (2, .ref (38 + n)), (1, .ref 8), (0, .ref 0)], [], hp2)) rfl K) ?_
  rw [show nI I + 4 = nI (I + 4) from nI_add I 4]
  show px_Gx _ _ (657, [(4, .int (nI (I + 4))), (3, .ref (52 + n)), (2, .ref (38 + n)), (1, .ref 8), (0, .ref 0)], [], hp2) _
  refine px_gx (fun _ K => px_a 1 (f' := (43, [(4, .int (nI (I + 4))), (3, .ref (52 + n)), (2, .ref (38 + n)), (1, .ref 8), (0, .ref 0)], [], hp2)) rfl K) ?_
  refine px_wk [(4, .int (nI (I + 4))), (3, .ref (52 + n)), (2, .ref (38 + n)), (1, .ref 8), (0, .ref 0)] ⟨rfl, rfl, rfl, rfl, rfl, trivial⟩ ?_
  exact K hp2 (In2.up (by omega)) R2
set_option maxRecDepth 20000 in
set_option maxHeartbeats 2000000 in
theorem l_case_6 {n : Nat} (hN : pa_N n) {L I S0 B : Nat} {xs : Nat → Int32} (hL : L ≤ 10000) (hI : I + 4 ≤ L) {hp : px_H} (In : l_In n L xs S0 hp B) (R : l_R n hp) {P : px_O → px_H → Prop} (K : ∀ hp1, l_In n L xs S0 hp1 (B + 1) → l_R n hp1 → px_Gx 12 6 (43, [(4, .int (nI (I + 4))), (3, .ref (52 + n)), (2, .ref (38 + n)), (1, .ref 8), (0, .ref 0)], [], hp1) P) : px_Gx 12 6 (362, [(4, .int (nI I)), (3, .ref (52 + n)), (2, .ref (38 + n)), (1, .ref 8), (0, .ref 0)], [], hp) P := by
  refine px_gx (fun _ K => px_a 5 (f' := (368, [(4, .int (nI I)), (3, .ref (52 + n)), (2, .ref (38 + n)), (1, .ref 8), (0, .ref 0)], [.int (nI I + 1), .ref 0, .ref 8], hp)) rfl K) ?_
  refine l_ld 1 1 rfl rfl In.2.1 (by omega) hL ?_
  show px_Gx _ _ (369, [(4, .int (nI I)), (3, .ref (52 + n)), (2, .ref (38 + n)), (1, .ref 8), (0, .ref 0)], [.int (xs (I + 1)), .ref 8], hp) _
  obtain ⟨W, V, sh, us, w1, hW, hv1V, hV, hn, wh, f5, a1, q1, q3, e_sq, e_fm, e_eq⟩ := R
  obtain ⟨fc, fd, hc⟩ := l_obj In.1 hW hV wh.1 wh.2.1 f5
  have n36 : n ≤ 36 := hN.2
  have e_sq0 := e_sq
  obtain ⟨h9, zs, uq, pc, hz, hu, f7, f4, pc6, Q⟩ := e_sq
  obtain rfl : fc = nI pc := by
    rw [pa_fd_get hc] at f7
    have f8 : some (Value.int fc) = some (Value.int (nI pc)) := f7
    injection f8 with f8
    injection f8
  refine l_cv ((ct_48 hN).deep (d' := 11) (by decide)) In.1 (a := 8) (as := [.int (xs (I + 1))]) (rest := []) rfl rfl rfl (by show (8 : Nat) ≠ 99; decide) rfl rfl rfl (Nat.le_of_ble_eq_true rfl) ⟨l_ri rfl (by decide), pa_top_ok _, trivial⟩ rfl (fun v1 hp1 g1 hv1 H1 G1 L1 Z1 => ?_)
  have In1 := In.D H1 G1 (by decide) L1 Z1
  obtain ⟨z1, rfl, -, -⟩ := pa_gri (lo := (-1)) (hi := 1) hv1
  show px_Gx _ _ (372, [(4, .int (nI I)), (3, .ref (52 + n)), (2, .ref (38 + n)), (1, .ref 8), (0, .ref 0)], [.int z1], hp1) _
  obtain ⟨oF, hpF, gF, RF, -⟩ := x_colF (d := 5) (m := (xs (I + 1))) hN pc6 hW hV In.1 hc h9 e_fm
  have e_fmx : r_fm hp1 W V := by
    have eF := px_det gF g1
    injection eF with eF1 eF2
    rw [← eF2]
    exact RF
  have whx := r_wh_fr In.1 G1 (by decide) (by decide) (by decide) (by decide) wh
  have f5x := r_sh_fr In.1 G1 (by decide) f5
  have a1x := r_in_fr G1 (by decide) a1
  have e_eqx := r_eq_fr In.1 G1 (by decide) (by decide) e_eq
  have e_sqx := r_sq_fr In.1 G1 (by decide) (by decide) (by decide) (by decide) (by decide) (by decide) e_sq0
  have h9x := l_fo G1 h9 (r := 9) rfl (by decide)
  have hzx := l_fa G1 hz (rr 8 (by decide) (by decide) (by omega)) (by decide) (by decide)
  have hux := l_fa G1 hu (rr 9 (by decide) (by decide) (by omega)) (by decide) (by decide)
  have f7x := (l_fd In.1 G1 (r := 8) (a := 8) (k := 7) rfl (by decide) (by decide) (by decide)).trans f7
  have f4x := (l_fd In.1 G1 (k := 4) (r24 n) (by decide) (by decide) (by decide)).trans f4
  obtain ⟨hNq, lq, hlq⟩ := q_lq Q
  by_cases hvm : ((xs (I + 1)) = 2 ∨ (xs (I + 1)) = 3 ∨ (xs (I + 1)) = 5 ∨ (xs (I + 1)) = 7 ∨ (xs (I + 1)) = 11 ∨ (xs (I + 1)) = 13)
  · obtain ⟨m, hmm, pm⟩ := c_pm8 hvm
    have gC := g1
    rw [hmm] at gC
    obtain ⟨o3, hp3, g3, e3⟩ := x_colX (d := 5) (m := m) hN pm pc6 hW hV (Nq := fun q => z_nv (pa_fd hp (10 + 3 * q) 4)) (fun q hq => (hNq q hq).2) In.1 hc h9 e_fm (fun q hq => (hNq q hq).1) (r_eq_P hN In.1 e_eq)
    have ax := c_ans (px_det gC g3) e3
    refine px_gx (fun _ K => px_a 5 (f' := (378, [(4, .int (nI I)), (3, .ref (52 + n)), (2, .ref (38 + n)), (1, .ref 8), (0, .ref 0)], [.int (nI I + 1), .ref 0, .ref (38 + n), .int z1], hp1)) rfl K) ?_
    refine l_ld 1 1 rfl rfl In1.2.1 (by omega) hL ?_
    show px_Gx _ _ (379, [(4, .int (nI I)), (3, .ref (52 + n)), (2, .ref (38 + n)), (1, .ref 8), (0, .ref 0)], [.int (xs (I + 1)), .ref (38 + n), .int z1], hp1) _
    obtain ⟨th, pn, pl, fo, le, ru, hm⟩ := l_objm In1.1 whx.2.2.1 whx.2.2.2
    obtain rfl : pn = nI pc := by
      have f9 := f4x
      rw [pa_fd_get hm] at f9
      have f8 : some (Value.int pn) = some (Value.int (nI pc)) := f9
      injection f8 with f8
      injection f8
    have hlz : zs.length = 6 := by
      obtain ⟨vq, hq1, hq2, -⟩ := pa_ara (a := 40 + n) (i := 8) (lo := 0) (hi := 6) In1.1 (by omega) (by decide) (by decide) rfl
      rw [hzx] at hq1; cases hq1; omega
    have hlu : uq.length = 36 := by
      obtain ⟨vq, hq1, hq2, -⟩ := pa_ara (a := 41 + n) (i := 9) (lo := 0) (hi := 15) In1.1 (by omega) (by decide) (by decide) rfl
      rw [hux] at hq1; cases hq1; omega
    refine l_cv ((ct_73 hN).deep (d' := 11) (by decide)) In1.1 (a := 38 + n) (as := [.int (xs (I + 1))]) (rest := [.int z1]) rfl rfl (by rw [r24]; rfl) (by rw [r24]; decide) rfl rfl rfl (Nat.le_of_ble_eq_true rfl) ⟨pa_r24, pa_top_ok _, trivial⟩ rfl (fun v2 hp2 g2 hv2 H2 G2 L2 Z2 => ?_)
    have In2 := In1.D H2 G2 (by decide) L2 Z2
    obtain ⟨z2, rfl, -, -⟩ := pa_gri (lo := (-2147483648)) (hi := 2147483647) hv2
    show px_Gx _ _ (382, [(4, .int (nI I)), (3, .ref (52 + n)), (2, .ref (38 + n)), (1, .ref 8), (0, .ref 0)], [.int z2, .int z1], hp2) _
    have hsq : ∀ k, k < pc → zs[k]? = some (.int (nI (lq k).length)) ∧ (lq k).length ≤ 6 ∧ ∀ (j q : Nat), (lq k)[j]? = some q → uq[6 * k + j]? = some (.int (nI q)) ∧ q < 16 := fun k hk => ⟨(hlq k (by omega)).1, (hlq k (by omega)).2.1, (hlq k (by omega)).2.2.1⟩
    have gD := g2
    rw [hmm] at gD
    obtain ⟨o4, hp4, g4, e4⟩ := m_colX (d := 5) (m := m) hN pm hW hV hn rfl rfl pc6 q1 q3 hsq In1.1 hm a1x hzx hux
    have ay := c_ans (px_det gD g4) e4
    obtain rfl : z1 = z2 := c_ansz (s_same n36 hW hV q3 (fun q hq => (hNq q (by omega)).2) (fun q hq => ⟨(hlq q (by omega)).2.2.2.1, (hlq q (by omega)).2.2.2.2⟩)) ax ay
    show px_Gx _ _ (382, [(4, .int (nI I)), (3, .ref (52 + n)), (2, .ref (38 + n)), (1, .ref 8), (0, .ref 0)], [.int z1, .int z1], hp2) _
    have why := r_wh_fr In1.1 G2 (by decide) (by decide) (by decide) (by decide) whx
    have f5y := r_sh_fr In1.1 G2 (by decide) f5x
    have a1y := r_in_fr G2 (by decide) a1x
    have e_sqy := r_sq_fr In1.1 G2 (by decide) (by decide) (by decide) (by decide) (by decide) (by decide) e_sqx
    have e_fmy := r_fm_fr In1.1 G2 (by decide) (by decide) (by decide) e_fmx
    have e_eqy := r_eq_fr In1.1 G2 (by decide) (by decide) e_eqx
    have R2 : l_R n hp2 := ⟨W, V, _, _, w1, hW, hv1V, hV, hn, why, f5y, a1y, q1, q3, e_sqy, e_fmy, e_eqy⟩
    refine px_gx (fun _ K => px_b2 true 654 rfl rfl (decide_eq_true rfl) K) ?_
    show px_Gx _ _ (654, [(4, .int (nI I)), (3, .ref (52 + n)), (2, .ref (38 + n)), (1, .ref 8), (0, .ref 0)], [], hp2) _
    refine px_gx (fun _ K => px_a 1 (f' := (657, [(4, .int (nI I + 4)), (3, .ref (52 + n)), (2, .ref (38 + n)), (1, .ref 8), (0, .ref 0)], [], hp2)) rfl K) ?_
    rw [show nI I + 4 = nI (I + 4) from nI_add I 4]
    show px_Gx _ _ (657, [(4, .int (nI (I + 4))), (3, .ref (52 + n)), (2, .ref (38 + n)), (1, .ref 8), (0, .ref 0)], [], hp2) _
    refine px_gx (fun _ K => px_a 1 (f' := (43, [(4, .int (nI (I + 4))), (3, .ref (52 + n)), (2, .ref (38 + n)), (1, .ref 8), (0, .ref 0)], [], hp2)) rfl K) ?_
    refine px_wk [(4, .int (nI (I + 4))), (3, .ref (52 + n)), (2, .ref (38 + n)), (1, .ref 8), (0, .ref 0)] ⟨rfl, rfl, rfl, rfl, rfl, trivial⟩ ?_
    exact K hp2 (In2.up (by omega)) R2
  · obtain ⟨o3, hp3, g3, e3⟩ := x_colN (d := 10) hc hvm
    have ax := c_ansN (px_det g1 g3) e3
    refine px_gx (fun _ K => px_a 5 (f' := (378, [(4, .int (nI I)), (3, .ref (52 + n)), (2, .ref (38 + n)), (1, .ref 8), (0, .ref 0)], [.int (nI I + 1), .ref 0, .ref (38 + n), .int z1], hp1)) rfl K) ?_
    refine l_ld 1 1 rfl rfl In1.2.1 (by omega) hL ?_
    show px_Gx _ _ (379, [(4, .int (nI I)), (3, .ref (52 + n)), (2, .ref (38 + n)), (1, .ref 8), (0, .ref 0)], [.int (xs (I + 1)), .ref (38 + n), .int z1], hp1) _
    obtain ⟨th, pn, pl, fo, le, ru, hm⟩ := l_objm In1.1 whx.2.2.1 whx.2.2.2
    obtain rfl : pn = nI pc := by
      have f9 := f4x
      rw [pa_fd_get hm] at f9
      have f8 : some (Value.int pn) = some (Value.int (nI pc)) := f9
      injection f8 with f8
      injection f8
    have hlz : zs.length = 6 := by
      obtain ⟨vq, hq1, hq2, -⟩ := pa_ara (a := 40 + n) (i := 8) (lo := 0) (hi := 6) In1.1 (by omega) (by decide) (by decide) rfl
      rw [hzx] at hq1; cases hq1; omega
    have hlu : uq.length = 36 := by
      obtain ⟨vq, hq1, hq2, -⟩ := pa_ara (a := 41 + n) (i := 9) (lo := 0) (hi := 15) In1.1 (by omega) (by decide) (by decide) rfl
      rw [hux] at hq1; cases hq1; omega
    refine l_cv ((ct_73 hN).deep (d' := 11) (by decide)) In1.1 (a := 38 + n) (as := [.int (xs (I + 1))]) (rest := [.int z1]) rfl rfl (by rw [r24]; rfl) (by rw [r24]; decide) rfl rfl rfl (Nat.le_of_ble_eq_true rfl) ⟨pa_r24, pa_top_ok _, trivial⟩ rfl (fun v3 hp3 g3 hv3 H3 G3 L3 Z3 => ?_)
    have In3 := In1.D H3 G3 (by decide) L3 Z3
    obtain ⟨z3, rfl, -, -⟩ := pa_gri (lo := (-2147483648)) (hi := 2147483647) hv3
    show px_Gx _ _ (382, [(4, .int (nI I)), (3, .ref (52 + n)), (2, .ref (38 + n)), (1, .ref 8), (0, .ref 0)], [.int z3, .int z1], hp3) _
    have hsq : ∀ k, k < pc → zs[k]? = some (.int (nI (lq k).length)) ∧ (lq k).length ≤ 6 ∧ ∀ (j q : Nat), (lq k)[j]? = some q → uq[6 * k + j]? = some (.int (nI q)) ∧ q < 16 := fun k hk => ⟨(hlq k (by omega)).1, (hlq k (by omega)).2.1, (hlq k (by omega)).2.2.1⟩
    obtain ⟨o4, hp4, g4, e4⟩ := m_colN (d := 5) hN hm In1.1 hvm
    have ay := c_ansN (px_det g3 g4) e4
    obtain rfl : z1 = z3 := ax.trans ay.symm
    show px_Gx _ _ (382, [(4, .int (nI I)), (3, .ref (52 + n)), (2, .ref (38 + n)), (1, .ref 8), (0, .ref 0)], [.int z1, .int z1], hp3) _
    have why := r_wh_fr In1.1 G3 (by decide) (by decide) (by decide) (by decide) whx
    have f5y := r_sh_fr In1.1 G3 (by decide) f5x
    have a1y := r_in_fr G3 (by decide) a1x
    have e_sqy := r_sq_fr In1.1 G3 (by decide) (by decide) (by decide) (by decide) (by decide) (by decide) e_sqx
    have e_fmy := r_fm_fr In1.1 G3 (by decide) (by decide) (by decide) e_fmx
    have e_eqy := r_eq_fr In1.1 G3 (by decide) (by decide) e_eqx
    have R3 : l_R n hp3 := ⟨W, V, _, _, w1, hW, hv1V, hV, hn, why, f5y, a1y, q1, q3, e_sqy, e_fmy, e_eqy⟩
    refine px_gx (fun _ K => px_b2 true 654 rfl rfl (decide_eq_true rfl) K) ?_
    show px_Gx _ _ (654, [(4, .int (nI I)), (3, .ref (52 + n)), (2, .ref (38 + n)), (1, .ref 8), (0, .ref 0)], [], hp3) _
    refine px_gx (fun _ K => px_a 1 (f' := (657, [(4, .int (nI I + 4)), (3, .ref (52 + n)), (2, .ref (38 + n)), (1, .ref 8), (0, .ref 0)], [], hp3)) rfl K) ?_
    rw [show nI I + 4 = nI (I + 4) from nI_add I 4]
    show px_Gx _ _ (657, [(4, .int (nI (I + 4))), (3, .ref (52 + n)), (2, .ref (38 + n)), (1, .ref 8), (0, .ref 0)], [], hp3) _
    refine px_gx (fun _ K => px_a 1 (f' := (43, [(4, .int (nI (I + 4))), (3, .ref (52 + n)), (2, .ref (38 + n)), (1, .ref 8), (0, .ref 0)], [], hp3)) rfl K) ?_
    refine px_wk [(4, .int (nI (I + 4))), (3, .ref (52 + n)), (2, .ref (38 + n)), (1, .ref 8), (0, .ref 0)] ⟨rfl, rfl, rfl, rfl, rfl, trivial⟩ ?_
    exact K hp3 (In3.up (by omega)) R3
set_option maxRecDepth 20000 in
set_option maxHeartbeats 2000000 in
theorem l_case_7 {n : Nat} (hN : pa_N n) {L I S0 B : Nat} {xs : Nat → Int32} (hL : L ≤ 10000) (hI : I + 4 ≤ L) {hp : px_H} (In : l_In n L xs S0 hp B) (R : l_R n hp) {P : px_O → px_H → Prop} (K : ∀ hp1, l_In n L xs S0 hp1 (B + 1) → l_R n hp1 → px_Gx 12 6 (43, [(4, .int (nI (I + 4))), (3, .ref (52 + n)), (2, .ref (38 + n)), (1, .ref 8), (0, .ref 0)], [], hp1) P) : px_Gx 12 6 (387, [(4, .int (nI I)), (3, .ref (52 + n)), (2, .ref (38 + n)), (1, .ref 8), (0, .ref 0)], [], hp) P := by
  refine px_gx (fun _ K => px_a 5 (f' := (393, [(4, .int (nI I)), (3, .ref (52 + n)), (2, .ref (38 + n)), (1, .ref 8), (0, .ref 0)], [.int (nI I + 1), .ref 0, .ref 8], hp)) rfl K) ?_
  refine l_ld 1 1 rfl rfl In.2.1 (by omega) hL ?_
  show px_Gx _ _ (394, [(4, .int (nI I)), (3, .ref (52 + n)), (2, .ref (38 + n)), (1, .ref 8), (0, .ref 0)], [.int (xs (I + 1)), .ref 8], hp) _
  refine px_gx (fun _ K => px_a 4 (f' := (399, [(4, .int (nI I)), (3, .ref (52 + n)), (2, .ref (38 + n)), (1, .ref 8), (0, .ref 0)], [.int (nI I + 2), .ref 0, .int (xs (I + 1)), .ref 8], hp)) rfl K) ?_
  refine l_ld 2 2 rfl rfl In.2.1 (by omega) hL ?_
  show px_Gx _ _ (400, [(4, .int (nI I)), (3, .ref (52 + n)), (2, .ref (38 + n)), (1, .ref 8), (0, .ref 0)], [.int (xs (I + 2)), .int (xs (I + 1)), .ref 8], hp) _
  refine px_gx (fun _ K => px_a 1 (f' := (401, [(4, .int (nI I)), (3, .ref (52 + n)), (2, .ref (38 + n)), (1, .ref 8), (0, .ref 0)], [.ref (52 + n), .int (xs (I + 2)), .int (xs (I + 1)), .ref 8], hp)) rfl K) ?_
  obtain ⟨k1, hp1, g1, S1⟩ := l_h11 hN In.1 (p0 := (xs (I + 1))) (p1 := (xs (I + 2)))
  refine px_gx (fun _ K => px_cl (as := [.ref 8, .int (xs (I + 1)), .int (xs (I + 2)), .ref (52 + n)]) (rest := []) rfl rfl g1 K) ?_
  have G1 := S1.2.1
  have In1 := In.S S1 (by decide)
  have R1 : l_R n hp1 := l_R_fr In.1 G1 (by decide) (by decide) (by decide) (by decide) (by decide) (by decide) (by decide) (by decide) (by decide) (by decide) (by decide) (by decide) (by decide) (by decide) (by decide) (by decide) (by decide) R
  show px_Gx _ _ (404, [(4, .int (nI I)), (3, .ref (52 + n)), (2, .ref (38 + n)), (1, .ref 8), (0, .ref 0)], [.int k1], hp1) _
  refine px_gx (fun _ K => px_a 6 (f' := (412, [(5, .int k1), (4, .int (nI I)), (3, .ref (52 + n)), (2, .ref (38 + n)), (1, .ref 8), (0, .ref 0)], [.int (nI I + 1), .ref 0, .ref (38 + n)], hp1)) rfl K) ?_
  refine l_ld 1 1 rfl rfl In1.2.1 (by omega) hL ?_
  show px_Gx _ _ (413, [(5, .int k1), (4, .int (nI I)), (3, .ref (52 + n)), (2, .ref (38 + n)), (1, .ref 8), (0, .ref 0)], [.int (xs (I + 1)), .ref (38 + n)], hp1) _
  refine px_gx (fun _ K => px_a 4 (f' := (418, [(5, .int k1), (4, .int (nI I)), (3, .ref (52 + n)), (2, .ref (38 + n)), (1, .ref 8), (0, .ref 0)], [.int (nI I + 2), .ref 0, .int (xs (I + 1)), .ref (38 + n)], hp1)) rfl K) ?_
  refine l_ld 2 2 rfl rfl In1.2.1 (by omega) hL ?_
  show px_Gx _ _ (419, [(5, .int k1), (4, .int (nI I)), (3, .ref (52 + n)), (2, .ref (38 + n)), (1, .ref 8), (0, .ref 0)], [.int (xs (I + 2)), .int (xs (I + 1)), .ref (38 + n)], hp1) _
  refine l_cv ((ct_101 hN).deep (d' := 11) (by decide)) In1.1 (a := 38 + n) (as := [.int (xs (I + 1)), .int (xs (I + 2))]) (rest := []) rfl rfl (by rw [r24]; rfl) (by rw [r24]; decide) rfl rfl rfl (Nat.le_of_ble_eq_true rfl) ⟨pa_r24, pa_top_ok _, pa_top_ok _, trivial⟩ rfl (fun v2 hp2 g2 hv2 H2 G2 L2 Z2 => ?_)
  have In2 := In1.D H2 G2 (by decide) L2 Z2
  have R2 : l_R n hp2 := l_R_fr In1.1 G2 (by decide) (by decide) (by decide) (by decide) (by decide) (by decide) (by decide) (by decide) (by decide) (by decide) (by decide) (by decide) (by decide) (by decide) (by decide) (by decide) (by decide) R1
  obtain ⟨z2, rfl, -, -⟩ := pa_gri (lo := (-2147483648)) (hi := 2147483647) hv2
  show px_Gx _ _ (422, [(5, .int k1), (4, .int (nI I)), (3, .ref (52 + n)), (2, .ref (38 + n)), (1, .ref 8), (0, .ref 0)], [.int z2], hp2) _
  refine px_gx (fun _ K => px_a 2 (f' := (654, [(6, .int z2), (5, .int k1), (4, .int (nI I)), (3, .ref (52 + n)), (2, .ref (38 + n)), (1, .ref 8), (0, .ref 0)], [], hp2)) rfl K) ?_
  refine px_gx (fun _ K => px_a 1 (f' := (657, [(4, .int (nI I + 4)), (6, .int z2), (5, .int k1), (3, .ref (52 + n)), (2, .ref (38 + n)), (1, .ref 8), (0, .ref 0)], [], hp2)) rfl K) ?_
  rw [show nI I + 4 = nI (I + 4) from nI_add I 4]
  show px_Gx _ _ (657, [(4, .int (nI (I + 4))), (6, .int z2), (5, .int k1), (3, .ref (52 + n)), (2, .ref (38 + n)), (1, .ref 8), (0, .ref 0)], [], hp2) _
  refine px_gx (fun _ K => px_a 1 (f' := (43, [(4, .int (nI (I + 4))), (6, .int z2), (5, .int k1), (3, .ref (52 + n)), (2, .ref (38 + n)), (1, .ref 8), (0, .ref 0)], [], hp2)) rfl K) ?_
  refine px_wk [(4, .int (nI (I + 4))), (3, .ref (52 + n)), (2, .ref (38 + n)), (1, .ref 8), (0, .ref 0)] ⟨rfl, rfl, rfl, rfl, rfl, trivial⟩ ?_
  exact K hp2 (In2.up (by omega)) R2
set_option maxRecDepth 20000 in
set_option maxHeartbeats 2000000 in
theorem l_case_8 {n : Nat} (hN : pa_N n) {L I S0 B : Nat} {xs : Nat → Int32} (hL : L ≤ 10000) (hI : I + 4 ≤ L) {hp : px_H} (In : l_In n L xs S0 hp B) (R : l_R n hp) {P : px_O → px_H → Prop} (K : ∀ hp1, l_In n L xs S0 hp1 (B + 1) → l_R n hp1 → px_Gx 12 6 (43, [(4, .int (nI (I + 4))), (3, .ref (52 + n)), (2, .ref (38 + n)), (1, .ref 8), (0, .ref 0)], [], hp1) P) : px_Gx 12 6 (427, [(4, .int (nI I)), (3, .ref (52 + n)), (2, .ref (38 + n)), (1, .ref 8), (0, .ref 0)], [], hp) P := by
  refine px_gx (fun _ K => px_a 5 (f' := (433, [(4, .int (nI I)), (3, .ref (52 + n)), (2, .ref (38 + n)), (1, .ref 8), (0, .ref 0)], [.int (nI I + 1), .ref 0, .ref 8], hp)) rfl K) ?_
  refine l_ld 1 1 rfl rfl In.2.1 (by omega) hL ?_
  show px_Gx _ _ (434, [(4, .int (nI I)), (3, .ref (52 + n)), (2, .ref (38 + n)), (1, .ref 8), (0, .ref 0)], [.int (xs (I + 1)), .ref 8], hp) _
  refine l_cv ((ct_66 hN).deep (d' := 11) (by decide)) In.1 (a := 8) (as := [.int (xs (I + 1))]) (rest := []) rfl rfl rfl (by show (8 : Nat) ≠ 99; decide) rfl rfl rfl (Nat.le_of_ble_eq_true rfl) ⟨l_ri rfl (by decide), pa_top_ok _, trivial⟩ rfl (fun v1 hp1 g1 hv1 H1 G1 L1 Z1 => ?_)
  have In1 := In.D H1 G1 (by decide) L1 Z1
  have R1 : l_R n hp1 := l_R_fr In.1 G1 (by decide) (by decide) (by decide) (by decide) (by decide) (by decide) (by decide) (by decide) (by decide) (by decide) (by decide) (by decide) (by decide) (by decide) (by decide) (by decide) (by decide) R
  obtain ⟨z1, rfl, -, -⟩ := pa_gri (lo := (-2147483648)) (hi := 2147483647) hv1
  show px_Gx _ _ (437, [(4, .int (nI I)), (3, .ref (52 + n)), (2, .ref (38 + n)), (1, .ref 8), (0, .ref 0)], [.int z1], hp1) _
  refine px_gx (fun _ K => px_a 6 (f' := (444, [(4, .int (nI I)), (3, .ref (52 + n)), (2, .ref (38 + n)), (1, .ref 8), (0, .ref 0)], [.int (nI I + 1), .ref 0, .ref (38 + n)], hp1)) rfl K) ?_
  refine l_ld 1 1 rfl rfl In1.2.1 (by omega) hL ?_
  show px_Gx _ _ (445, [(4, .int (nI I)), (3, .ref (52 + n)), (2, .ref (38 + n)), (1, .ref 8), (0, .ref 0)], [.int (xs (I + 1)), .ref (38 + n)], hp1) _
  refine l_cv ((ct_98 hN).deep (d' := 11) (by decide)) In1.1 (a := 38 + n) (as := [.int (xs (I + 1))]) (rest := []) rfl rfl (by rw [r24]; rfl) (by rw [r24]; decide) rfl rfl rfl (Nat.le_of_ble_eq_true rfl) ⟨pa_r24, pa_top_ok _, trivial⟩ rfl (fun v2 hp2 g2 hv2 H2 G2 L2 Z2 => ?_)
  have In2 := In1.D H2 G2 (by decide) L2 Z2
  have R2 : l_R n hp2 := l_R_fr In1.1 G2 (by decide) (by decide) (by decide) (by decide) (by decide) (by decide) (by decide) (by decide) (by decide) (by decide) (by decide) (by decide) (by decide) (by decide) (by decide) (by decide) (by decide) R1
  obtain ⟨z2, rfl, -, -⟩ := pa_gri (lo := (-2147483648)) (hi := 2147483647) hv2
  show px_Gx _ _ (448, [(4, .int (nI I)), (3, .ref (52 + n)), (2, .ref (38 + n)), (1, .ref 8), (0, .ref 0)], [.int z2], hp2) _
  refine px_gx (fun _ K => px_a 2 (f' := (654, [(4, .int (nI I)), (3, .ref (52 + n)), (2, .ref (38 + n)), (1, .ref 8), (0, .ref 0)], [], hp2)) rfl K) ?_
  refine px_gx (fun _ K => px_a 1 (f' := (657, [(4, .int (nI I + 4)), (3, .ref (52 + n)), (2, .ref (38 + n)), (1, .ref 8), (0, .ref 0)], [], hp2)) rfl K) ?_
  rw [show nI I + 4 = nI (I + 4) from nI_add I 4]
  show px_Gx _ _ (657, [(4, .int (nI (I + 4))), (3, .ref (52 + n)), (2, .ref (38 + n)), (1, .ref 8), (0, .ref 0)], [], hp2) _
  refine px_gx (fun _ K => px_a 1 (f' := (43, [(4, .int (nI (I + 4))), (3, .ref (52 + n)), (2, .ref (38 + n)), (1, .ref 8), (0, .ref 0)], [], hp2)) rfl K) ?_
  refine px_wk [(4, .int (nI (I + 4))), (3, .ref (52 + n)), (2, .ref (38 + n)), (1, .ref 8), (0, .ref 0)] ⟨rfl, rfl, rfl, rfl, rfl, trivial⟩ ?_
  exact K hp2 (In2.up (by omega)) R2
set_option maxRecDepth 20000 in
set_option maxHeartbeats 2000000 in
theorem l_case_9 {n : Nat} (hN : pa_N n) {L I S0 B : Nat} {xs : Nat → Int32} (hL : L ≤ 10000) (hI : I + 4 ≤ L) {hp : px_H} (In : l_In n L xs S0 hp B) (R : l_R n hp) {P : px_O → px_H → Prop} (K : ∀ hp1, l_In n L xs S0 hp1 (B + 1) → l_R n hp1 → px_Gx 12 6 (43, [(4, .int (nI (I + 4))), (3, .ref (52 + n)), (2, .ref (38 + n)), (1, .ref 8), (0, .ref 0)], [], hp1) P) : px_Gx 12 6 (452, [(4, .int (nI I)), (3, .ref (52 + n)), (2, .ref (38 + n)), (1, .ref 8), (0, .ref 0)], [], hp) P := by
  refine px_gx (fun _ K => px_a 5 (f' := (458, [(4, .int (nI I)), (3, .ref (52 + n)), (2, .ref (38 + n)), (1, .ref 8), (0, .ref 0)], [.int (nI I + 1), .ref 0, .ref 8], hp)) rfl K) ?_
  refine l_ld 1 1 rfl rfl In.2.1 (by omega) hL ?_
  show px_Gx _ _ (459, [(4, .int (nI I)), (3, .ref (52 + n)), (2, .ref (38 + n)), (1, .ref 8), (0, .ref 0)], [.int (xs (I + 1)), .ref 8], hp) _
  refine px_gx (fun _ K => px_a 4 (f' := (464, [(4, .int (nI I)), (3, .ref (52 + n)), (2, .ref (38 + n)), (1, .ref 8), (0, .ref 0)], [.int (nI I + 2), .ref 0, .int (xs (I + 1)), .ref 8], hp)) rfl K) ?_
  refine l_ld 2 2 rfl rfl In.2.1 (by omega) hL ?_
  show px_Gx _ _ (465, [(4, .int (nI I)), (3, .ref (52 + n)), (2, .ref (38 + n)), (1, .ref 8), (0, .ref 0)], [.int (xs (I + 2)), .int (xs (I + 1)), .ref 8], hp) _
  refine px_gx (fun _ K => px_a 4 (f' := (470, [(4, .int (nI I)), (3, .ref (52 + n)), (2, .ref (38 + n)), (1, .ref 8), (0, .ref 0)], [.int (nI I + 3), .ref 0, .int (xs (I + 2)), .int (xs (I + 1)), .ref 8], hp)) rfl K) ?_
  refine l_ld 3 3 rfl rfl In.2.1 (by omega) hL ?_
  show px_Gx _ _ (471, [(4, .int (nI I)), (3, .ref (52 + n)), (2, .ref (38 + n)), (1, .ref 8), (0, .ref 0)], [.int (xs (I + 3)), .int (xs (I + 2)), .int (xs (I + 1)), .ref 8], hp) _
  refine px_gx (fun _ K => px_a 1 (f' := (472, [(4, .int (nI I)), (3, .ref (52 + n)), (2, .ref (38 + n)), (1, .ref 8), (0, .ref 0)], [.ref (52 + n), .int (xs (I + 3)), .int (xs (I + 2)), .int (xs (I + 1)), .ref 8], hp)) rfl K) ?_
  obtain ⟨k1, hp1, g1, S1⟩ := l_h7 hN In.1 (p0 := (xs (I + 1))) (p1 := (xs (I + 2))) (p2 := (xs (I + 3)))
  refine px_gx (fun _ K => px_cl (as := [.ref 8, .int (xs (I + 1)), .int (xs (I + 2)), .int (xs (I + 3)), .ref (52 + n)]) (rest := []) rfl rfl g1 K) ?_
  have G1 := S1.2.1
  have In1 := In.S S1 (by decide)
  have R1 : l_R n hp1 := l_R_fr In.1 G1 (by decide) (by decide) (by decide) (by decide) (by decide) (by decide) (by decide) (by decide) (by decide) (by decide) (by decide) (by decide) (by decide) (by decide) (by decide) (by decide) (by decide) R
  show px_Gx _ _ (475, [(4, .int (nI I)), (3, .ref (52 + n)), (2, .ref (38 + n)), (1, .ref 8), (0, .ref 0)], [.int k1], hp1) _
  refine px_gx (fun _ K => px_a 6 (f' := (483, [(5, .int k1), (4, .int (nI I)), (3, .ref (52 + n)), (2, .ref (38 + n)), (1, .ref 8), (0, .ref 0)], [.int (nI I + 1), .ref 0, .ref (38 + n)], hp1)) rfl K) ?_
  refine l_ld 1 1 rfl rfl In1.2.1 (by omega) hL ?_
  show px_Gx _ _ (484, [(5, .int k1), (4, .int (nI I)), (3, .ref (52 + n)), (2, .ref (38 + n)), (1, .ref 8), (0, .ref 0)], [.int (xs (I + 1)), .ref (38 + n)], hp1) _
  refine px_gx (fun _ K => px_a 4 (f' := (489, [(5, .int k1), (4, .int (nI I)), (3, .ref (52 + n)), (2, .ref (38 + n)), (1, .ref 8), (0, .ref 0)], [.int (nI I + 2), .ref 0, .int (xs (I + 1)), .ref (38 + n)], hp1)) rfl K) ?_
  refine l_ld 2 2 rfl rfl In1.2.1 (by omega) hL ?_
  show px_Gx _ _ (490, [(5, .int k1), (4, .int (nI I)), (3, .ref (52 + n)), (2, .ref (38 + n)), (1, .ref 8), (0, .ref 0)], [.int (xs (I + 2)), .int (xs (I + 1)), .ref (38 + n)], hp1) _
  refine px_gx (fun _ K => px_a 4 (f' := (495, [(5, .int k1), (4, .int (nI I)), (3, .ref (52 + n)), (2, .ref (38 + n)), (1, .ref 8), (0, .ref 0)], [.int (nI I + 3), .ref 0, .int (xs (I + 2)), .int (xs (I + 1)), .ref (38 + n)], hp1)) rfl K) ?_
  refine l_ld 3 3 rfl rfl In1.2.1 (by omega) hL ?_
  show px_Gx _ _ (496, [(5, .int k1), (4, .int (nI I)), (3, .ref (52 + n)), (2, .ref (38 + n)), (1, .ref 8), (0, .ref 0)], [.int (xs (I + 3)), .int (xs (I + 2)), .int (xs (I + 1)), .ref (38 + n)], hp1) _
  refine l_cv ((ct_83 hN).deep (d' := 11) (by decide)) In1.1 (a := 38 + n) (as := [.int (xs (I + 1)), .int (xs (I + 2)), .int (xs (I + 3))]) (rest := []) rfl rfl (by rw [r24]; rfl) (by rw [r24]; decide) rfl rfl rfl (Nat.le_of_ble_eq_true rfl) ⟨pa_r24, pa_top_ok _, pa_top_ok _, pa_top_ok _, trivial⟩ rfl (fun v2 hp2 g2 hv2 H2 G2 L2 Z2 => ?_)
  have In2 := In1.D H2 G2 (by decide) L2 Z2
  have R2 : l_R n hp2 := l_R_fr In1.1 G2 (by decide) (by decide) (by decide) (by decide) (by decide) (by decide) (by decide) (by decide) (by decide) (by decide) (by decide) (by decide) (by decide) (by decide) (by decide) (by decide) (by decide) R1
  obtain ⟨z2, rfl, -, -⟩ := pa_gri (lo := 0) (hi := 1) hv2
  show px_Gx _ _ (499, [(5, .int k1), (4, .int (nI I)), (3, .ref (52 + n)), (2, .ref (38 + n)), (1, .ref 8), (0, .ref 0)], [.int z2], hp2) _
  refine px_gx (fun _ K => px_a 2 (f' := (654, [(6, .int z2), (5, .int k1), (4, .int (nI I)), (3, .ref (52 + n)), (2, .ref (38 + n)), (1, .ref 8), (0, .ref 0)], [], hp2)) rfl K) ?_
  refine px_gx (fun _ K => px_a 1 (f' := (657, [(4, .int (nI I + 4)), (6, .int z2), (5, .int k1), (3, .ref (52 + n)), (2, .ref (38 + n)), (1, .ref 8), (0, .ref 0)], [], hp2)) rfl K) ?_
  rw [show nI I + 4 = nI (I + 4) from nI_add I 4]
  show px_Gx _ _ (657, [(4, .int (nI (I + 4))), (6, .int z2), (5, .int k1), (3, .ref (52 + n)), (2, .ref (38 + n)), (1, .ref 8), (0, .ref 0)], [], hp2) _
  refine px_gx (fun _ K => px_a 1 (f' := (43, [(4, .int (nI (I + 4))), (6, .int z2), (5, .int k1), (3, .ref (52 + n)), (2, .ref (38 + n)), (1, .ref 8), (0, .ref 0)], [], hp2)) rfl K) ?_
  refine px_wk [(4, .int (nI (I + 4))), (3, .ref (52 + n)), (2, .ref (38 + n)), (1, .ref 8), (0, .ref 0)] ⟨rfl, rfl, rfl, rfl, rfl, trivial⟩ ?_
  exact K hp2 (In2.up (by omega)) R2
set_option maxRecDepth 20000 in
set_option maxHeartbeats 2000000 in
theorem l_case_10 {n : Nat} (hN : pa_N n) {L I S0 B : Nat} {xs : Nat → Int32} (hL : L ≤ 10000) (hI : I + 4 ≤ L) {hp : px_H} (In : l_In n L xs S0 hp B) (R : l_R n hp) {P : px_O → px_H → Prop} (K : ∀ hp1, l_In n L xs S0 hp1 (B + 1) → l_R n hp1 → px_Gx 12 6 (43, [(4, .int (nI (I + 4))), (3, .ref (52 + n)), (2, .ref (38 + n)), (1, .ref 8), (0, .ref 0)], [], hp1) P) : px_Gx 12 6 (504, [(4, .int (nI I)), (3, .ref (52 + n)), (2, .ref (38 + n)), (1, .ref 8), (0, .ref 0)], [], hp) P := by
  refine px_gx (fun _ K => px_a 1 (f' := (505, [(4, .int (nI I)), (3, .ref (52 + n)), (2, .ref (38 + n)), (1, .ref 8), (0, .ref 0)], [.ref 8], hp)) rfl K) ?_
  refine l_cv ((ct_65 hN).deep (d' := 11) (by decide)) In.1 (a := 8) (as := []) (rest := []) rfl rfl rfl (by show (8 : Nat) ≠ 99; decide) rfl rfl rfl (Nat.le_of_ble_eq_true rfl) ⟨l_ri rfl (by decide), trivial⟩ rfl (fun v1 hp1 g1 hv1 H1 G1 L1 Z1 => ?_)
  have In1 := In.D H1 G1 (by decide) L1 Z1
  have R1 : l_R n hp1 := l_R_fr In.1 G1 (by decide) (by decide) (by decide) (by decide) (by decide) (by decide) (by decide) (by decide) (by decide) (by decide) (by decide) (by decide) (by decide) (by decide) (by decide) (by decide) (by decide) R
  obtain ⟨z1, rfl, -, -⟩ := pa_gri (lo := (-2147483648)) (hi := 2147483647) hv1
  show px_Gx _ _ (508, [(4, .int (nI I)), (3, .ref (52 + n)), (2, .ref (38 + n)), (1, .ref 8), (0, .ref 0)], [.int z1], hp1) _
  refine px_gx (fun _ K => px_a 2 (f' := (510, [(4, .int (nI I)), (3, .ref (52 + n)), (2, .ref (38 + n)), (1, .ref 8), (0, .ref 0)], [.ref (38 + n)], hp1)) rfl K) ?_
  refine l_cv ((ct_95 hN).deep (d' := 11) (by decide)) In1.1 (a := 38 + n) (as := []) (rest := []) rfl rfl (by rw [r24]; rfl) (by rw [r24]; decide) rfl rfl rfl (Nat.le_of_ble_eq_true rfl) ⟨pa_r24, trivial⟩ rfl (fun v2 hp2 g2 hv2 H2 G2 L2 Z2 => ?_)
  have In2 := In1.D H2 G2 (by decide) L2 Z2
  have R2 : l_R n hp2 := l_R_fr In1.1 G2 (by decide) (by decide) (by decide) (by decide) (by decide) (by decide) (by decide) (by decide) (by decide) (by decide) (by decide) (by decide) (by decide) (by decide) (by decide) (by decide) (by decide) R1
  obtain ⟨z2, rfl, -, -⟩ := pa_gri (lo := (-2147483648)) (hi := 2147483647) hv2
  show px_Gx _ _ (513, [(4, .int (nI I)), (3, .ref (52 + n)), (2, .ref (38 + n)), (1, .ref 8), (0, .ref 0)], [.int z2], hp2) _
  refine px_gx (fun _ K => px_a 2 (f' := (654, [(4, .int (nI I)), (3, .ref (52 + n)), (2, .ref (38 + n)), (1, .ref 8), (0, .ref 0)], [], hp2)) rfl K) ?_
  refine px_gx (fun _ K => px_a 1 (f' := (657, [(4, .int (nI I + 4)), (3, .ref (52 + n)), (2, .ref (38 + n)), (1, .ref 8), (0, .ref 0)], [], hp2)) rfl K) ?_
  rw [show nI I + 4 = nI (I + 4) from nI_add I 4]
  show px_Gx _ _ (657, [(4, .int (nI (I + 4))), (3, .ref (52 + n)), (2, .ref (38 + n)), (1, .ref 8), (0, .ref 0)], [], hp2) _
  refine px_gx (fun _ K => px_a 1 (f' := (43, [(4, .int (nI (I + 4))), (3, .ref (52 + n)), (2, .ref (38 + n)), (1, .ref 8), (0, .ref 0)], [], hp2)) rfl K) ?_
  refine px_wk [(4, .int (nI (I + 4))), (3, .ref (52 + n)), (2, .ref (38 + n)), (1, .ref 8), (0, .ref 0)] ⟨rfl, rfl, rfl, rfl, rfl, trivial⟩ ?_
  exact K hp2 (In2.up (by omega)) R2
set_option maxRecDepth 20000 in
set_option maxHeartbeats 2000000 in
theorem l_case_11 {n : Nat} (hN : pa_N n) {L I S0 B : Nat} {xs : Nat → Int32} (hL : L ≤ 10000) (hI : I + 4 ≤ L) {hp : px_H} (In : l_In n L xs S0 hp B) (R : l_R n hp) {P : px_O → px_H → Prop} (K : ∀ hp1, l_In n L xs S0 hp1 (B + 1) → l_R n hp1 → px_Gx 12 6 (43, [(4, .int (nI (I + 4))), (3, .ref (52 + n)), (2, .ref (38 + n)), (1, .ref 8), (0, .ref 0)], [], hp1) P) : px_Gx 12 6 (517, [(4, .int (nI I)), (3, .ref (52 + n)), (2, .ref (38 + n)), (1, .ref 8), (0, .ref 0)], [], hp) P := by
  refine px_gx (fun _ K => px_a 5 (f' := (523, [(4, .int (nI I)), (3, .ref (52 + n)), (2, .ref (38 + n)), (1, .ref 8), (0, .ref 0)], [.int (nI I + 1), .ref 0, .ref 8], hp)) rfl K) ?_
  refine l_ld 1 1 rfl rfl In.2.1 (by omega) hL ?_
  show px_Gx _ _ (524, [(4, .int (nI I)), (3, .ref (52 + n)), (2, .ref (38 + n)), (1, .ref 8), (0, .ref 0)], [.int (xs (I + 1)), .ref 8], hp) _
  obtain ⟨W, V, sh, us, w1, hW, hv1V, hV, hn, wh, f5, a1, q1, q3, e_sq, e_fm, e_eq⟩ := R
  obtain ⟨fc, fd, hc⟩ := l_obj In.1 hW hV wh.1 wh.2.1 f5
  have n36 : n ≤ 36 := hN.2
  have e_sq0 := e_sq
  obtain ⟨h9, zs, uq, pc, hz, hu, f7, f4, pc6, Q⟩ := e_sq
  obtain rfl : fc = nI pc := by
    rw [pa_fd_get hc] at f7
    have f8 : some (Value.int fc) = some (Value.int (nI pc)) := f7
    injection f8 with f8
    injection f8
  refine l_cv ((ct_44 hN).deep (d' := 11) (by decide)) In.1 (a := 8) (as := [.int (xs (I + 1))]) (rest := []) rfl rfl rfl (by show (8 : Nat) ≠ 99; decide) rfl rfl rfl (Nat.le_of_ble_eq_true rfl) ⟨l_ri rfl (by decide), pa_top_ok _, trivial⟩ rfl (fun v1 hp1 g1 hv1 H1 G1 L1 Z1 => ?_)
  have In1 := In.D H1 G1 (by decide) L1 Z1
  obtain ⟨z1, rfl, -, -⟩ := pa_gri (lo := (-2147483648)) (hi := 2147483647) hv1
  show px_Gx _ _ (527, [(4, .int (nI I)), (3, .ref (52 + n)), (2, .ref (38 + n)), (1, .ref 8), (0, .ref 0)], [.int z1], hp1) _
  obtain ⟨oF, hpF, gF, RF, -⟩ := x_badF (d := 6) (m := (xs (I + 1))) hN pc6 hW hV In.1 hc h9 e_fm
  have e_fmx : r_fm hp1 W V := by
    have eF := px_det gF g1
    injection eF with eF1 eF2
    rw [← eF2]
    exact RF
  have whx := r_wh_fr In.1 G1 (by decide) (by decide) (by decide) (by decide) wh
  have f5x := r_sh_fr In.1 G1 (by decide) f5
  have a1x := r_in_fr G1 (by decide) a1
  have e_eqx := r_eq_fr In.1 G1 (by decide) (by decide) e_eq
  have e_sqx := r_sq_fr In.1 G1 (by decide) (by decide) (by decide) (by decide) (by decide) (by decide) e_sq0
  have R1 : l_R n hp1 := ⟨W, V, _, _, w1, hW, hv1V, hV, hn, whx, f5x, a1x, q1, q3, e_sqx, e_fmx, e_eqx⟩
  refine px_gx (fun _ K => px_a 6 (f' := (534, [(4, .int (nI I)), (3, .ref (52 + n)), (2, .ref (38 + n)), (1, .ref 8), (0, .ref 0)], [.int (nI I + 1), .ref 0, .ref (38 + n)], hp1)) rfl K) ?_
  refine l_ld 1 1 rfl rfl In1.2.1 (by omega) hL ?_
  show px_Gx _ _ (535, [(4, .int (nI I)), (3, .ref (52 + n)), (2, .ref (38 + n)), (1, .ref 8), (0, .ref 0)], [.int (xs (I + 1)), .ref (38 + n)], hp1) _
  refine l_cv ((ct_69 hN).deep (d' := 11) (by decide)) In1.1 (a := 38 + n) (as := [.int (xs (I + 1))]) (rest := []) rfl rfl (by rw [r24]; rfl) (by rw [r24]; decide) rfl rfl rfl (Nat.le_of_ble_eq_true rfl) ⟨pa_r24, pa_top_ok _, trivial⟩ rfl (fun v2 hp2 g2 hv2 H2 G2 L2 Z2 => ?_)
  have In2 := In1.D H2 G2 (by decide) L2 Z2
  have R2 : l_R n hp2 := l_R_fr In1.1 G2 (by decide) (by decide) (by decide) (by decide) (by decide) (by decide) (by decide) (by decide) (by decide) (by decide) (by decide) (by decide) (by decide) (by decide) (by decide) (by decide) (by decide) R1
  obtain ⟨z2, rfl, -, -⟩ := pa_gri (lo := (-2147483648)) (hi := 2147483647) hv2
  show px_Gx _ _ (538, [(4, .int (nI I)), (3, .ref (52 + n)), (2, .ref (38 + n)), (1, .ref 8), (0, .ref 0)], [.int z2], hp2) _
  refine px_gx (fun _ K => px_a 2 (f' := (654, [(4, .int (nI I)), (3, .ref (52 + n)), (2, .ref (38 + n)), (1, .ref 8), (0, .ref 0)], [], hp2)) rfl K) ?_
  refine px_gx (fun _ K => px_a 1 (f' := (657, [(4, .int (nI I + 4)), (3, .ref (52 + n)), (2, .ref (38 + n)), (1, .ref 8), (0, .ref 0)], [], hp2)) rfl K) ?_
  rw [show nI I + 4 = nI (I + 4) from nI_add I 4]
  show px_Gx _ _ (657, [(4, .int (nI (I + 4))), (3, .ref (52 + n)), (2, .ref (38 + n)), (1, .ref 8), (0, .ref 0)], [], hp2) _
  refine px_gx (fun _ K => px_a 1 (f' := (43, [(4, .int (nI (I + 4))), (3, .ref (52 + n)), (2, .ref (38 + n)), (1, .ref 8), (0, .ref 0)], [], hp2)) rfl K) ?_
  refine px_wk [(4, .int (nI (I + 4))), (3, .ref (52 + n)), (2, .ref (38 + n)), (1, .ref 8), (0, .ref 0)] ⟨rfl, rfl, rfl, rfl, rfl, trivial⟩ ?_
  exact K hp2 (In2.up (by omega)) R2
set_option maxRecDepth 20000 in
set_option maxHeartbeats 2000000 in
theorem l_case_12 {n : Nat} (hN : pa_N n) {L I S0 B : Nat} {xs : Nat → Int32} (hL : L ≤ 10000) (hI : I + 4 ≤ L) {hp : px_H} (In : l_In n L xs S0 hp B) (R : l_R n hp) {P : px_O → px_H → Prop} (K : ∀ hp1, l_In n L xs S0 hp1 (B + 1) → l_R n hp1 → px_Gx 12 6 (43, [(4, .int (nI (I + 4))), (3, .ref (52 + n)), (2, .ref (38 + n)), (1, .ref 8), (0, .ref 0)], [], hp1) P) : px_Gx 12 6 (542, [(4, .int (nI I)), (3, .ref (52 + n)), (2, .ref (38 + n)), (1, .ref 8), (0, .ref 0)], [], hp) P := by
  refine px_gx (fun _ K => px_a 5 (f' := (548, [(4, .int (nI I)), (3, .ref (52 + n)), (2, .ref (38 + n)), (1, .ref 8), (0, .ref 0)], [.int (nI I + 1), .ref 0, .ref 8], hp)) rfl K) ?_
  refine l_ld 1 1 rfl rfl In.2.1 (by omega) hL ?_
  show px_Gx _ _ (549, [(4, .int (nI I)), (3, .ref (52 + n)), (2, .ref (38 + n)), (1, .ref 8), (0, .ref 0)], [.int (xs (I + 1)), .ref 8], hp) _
  obtain ⟨W, V, sh, us, w1, hW, hv1V, hV, hn, wh, f5, a1, q1, q3, e_sq, e_fm, e_eq⟩ := R
  obtain ⟨fc, fd, hc⟩ := l_obj In.1 hW hV wh.1 wh.2.1 f5
  have n36 : n ≤ 36 := hN.2
  have e_sq0 := e_sq
  obtain ⟨h9, zs, uq, pc, hz, hu, f7, f4, pc6, Q⟩ := e_sq
  obtain rfl : fc = nI pc := by
    rw [pa_fd_get hc] at f7
    have f8 : some (Value.int fc) = some (Value.int (nI pc)) := f7
    injection f8 with f8
    injection f8
  refine l_cv ((ct_59 hN).deep (d' := 11) (by decide)) In.1 (a := 8) (as := [.int (xs (I + 1))]) (rest := []) rfl rfl rfl (by show (8 : Nat) ≠ 99; decide) rfl rfl rfl (Nat.le_of_ble_eq_true rfl) ⟨l_ri rfl (by decide), pa_top_ok _, trivial⟩ rfl (fun v1 hp1 g1 hv1 H1 G1 L1 Z1 => ?_)
  have In1 := In.D H1 G1 (by decide) L1 Z1
  obtain ⟨z1, rfl, -, -⟩ := pa_gri (lo := 0) (hi := 1) hv1
  show px_Gx _ _ (552, [(4, .int (nI I)), (3, .ref (52 + n)), (2, .ref (38 + n)), (1, .ref 8), (0, .ref 0)], [.int z1], hp1) _
  obtain ⟨oF, hpF, gF, RF, -⟩ := x_prvF (d := 5) (m := (xs (I + 1))) hN pc6 hW hV In.1 hc h9 e_fm
  have e_fmx : r_fm hp1 W V := by
    have eF := px_det gF g1
    injection eF with eF1 eF2
    rw [← eF2]
    exact RF
  have whx := r_wh_fr In.1 G1 (by decide) (by decide) (by decide) (by decide) wh
  have f5x := r_sh_fr In.1 G1 (by decide) f5
  have a1x := r_in_fr G1 (by decide) a1
  have e_eqx := r_eq_fr In.1 G1 (by decide) (by decide) e_eq
  have e_sqx := r_sq_fr In.1 G1 (by decide) (by decide) (by decide) (by decide) (by decide) (by decide) e_sq0
  have R1 : l_R n hp1 := ⟨W, V, _, _, w1, hW, hv1V, hV, hn, whx, f5x, a1x, q1, q3, e_sqx, e_fmx, e_eqx⟩
  refine px_gx (fun _ K => px_a 6 (f' := (559, [(4, .int (nI I)), (3, .ref (52 + n)), (2, .ref (38 + n)), (1, .ref 8), (0, .ref 0)], [.int (nI I + 1), .ref 0, .ref (38 + n)], hp1)) rfl K) ?_
  refine l_ld 1 1 rfl rfl In1.2.1 (by omega) hL ?_
  show px_Gx _ _ (560, [(4, .int (nI I)), (3, .ref (52 + n)), (2, .ref (38 + n)), (1, .ref 8), (0, .ref 0)], [.int (xs (I + 1)), .ref (38 + n)], hp1) _
  refine l_cv ((ct_88 hN).deep (d' := 11) (by decide)) In1.1 (a := 38 + n) (as := [.int (xs (I + 1))]) (rest := []) rfl rfl (by rw [r24]; rfl) (by rw [r24]; decide) rfl rfl rfl (Nat.le_of_ble_eq_true rfl) ⟨pa_r24, pa_top_ok _, trivial⟩ rfl (fun v2 hp2 g2 hv2 H2 G2 L2 Z2 => ?_)
  have In2 := In1.D H2 G2 (by decide) L2 Z2
  have R2 : l_R n hp2 := l_R_fr In1.1 G2 (by decide) (by decide) (by decide) (by decide) (by decide) (by decide) (by decide) (by decide) (by decide) (by decide) (by decide) (by decide) (by decide) (by decide) (by decide) (by decide) (by decide) R1
  obtain ⟨z2, rfl, -, -⟩ := pa_gri (lo := 0) (hi := 1) hv2
  show px_Gx _ _ (563, [(4, .int (nI I)), (3, .ref (52 + n)), (2, .ref (38 + n)), (1, .ref 8), (0, .ref 0)], [.int z2], hp2) _
  refine px_gx (fun _ K => px_a 2 (f' := (654, [(4, .int (nI I)), (3, .ref (52 + n)), (2, .ref (38 + n)), (1, .ref 8), (0, .ref 0)], [], hp2)) rfl K) ?_
  refine px_gx (fun _ K => px_a 1 (f' := (657, [(4, .int (nI I + 4)), (3, .ref (52 + n)), (2, .ref (38 + n)), (1, .ref 8), (0, .ref 0)], [], hp2)) rfl K) ?_
  rw [show nI I + 4 = nI (I + 4) from nI_add I 4]
  show px_Gx _ _ (657, [(4, .int (nI (I + 4))), (3, .ref (52 + n)), (2, .ref (38 + n)), (1, .ref 8), (0, .ref 0)], [], hp2) _
  refine px_gx (fun _ K => px_a 1 (f' := (43, [(4, .int (nI (I + 4))), (3, .ref (52 + n)), (2, .ref (38 + n)), (1, .ref 8), (0, .ref 0)], [], hp2)) rfl K) ?_
  refine px_wk [(4, .int (nI (I + 4))), (3, .ref (52 + n)), (2, .ref (38 + n)), (1, .ref 8), (0, .ref 0)] ⟨rfl, rfl, rfl, rfl, rfl, trivial⟩ ?_
  exact K hp2 (In2.up (by omega)) R2
set_option maxRecDepth 20000 in
set_option maxHeartbeats 2000000 in
theorem l_case_13 {n : Nat} (hN : pa_N n) {L I S0 B : Nat} {xs : Nat → Int32} (hL : L ≤ 10000) (hI : I + 4 ≤ L) {hp : px_H} (In : l_In n L xs S0 hp B) (R : l_R n hp) {P : px_O → px_H → Prop} (K : ∀ hp1, l_In n L xs S0 hp1 (B + 1) → l_R n hp1 → px_Gx 12 6 (43, [(4, .int (nI (I + 4))), (3, .ref (52 + n)), (2, .ref (38 + n)), (1, .ref 8), (0, .ref 0)], [], hp1) P) : px_Gx 12 6 (567, [(4, .int (nI I)), (3, .ref (52 + n)), (2, .ref (38 + n)), (1, .ref 8), (0, .ref 0)], [], hp) P := by
  refine px_gx (fun _ K => px_a 5 (f' := (573, [(4, .int (nI I)), (3, .ref (52 + n)), (2, .ref (38 + n)), (1, .ref 8), (0, .ref 0)], [.int (nI I + 1), .ref 0, .ref 8], hp)) rfl K) ?_
  refine l_ld 1 1 rfl rfl In.2.1 (by omega) hL ?_
  show px_Gx _ _ (574, [(4, .int (nI I)), (3, .ref (52 + n)), (2, .ref (38 + n)), (1, .ref 8), (0, .ref 0)], [.int (xs (I + 1)), .ref 8], hp) _
  refine l_cv ((ct_45 hN).deep (d' := 11) (by decide)) In.1 (a := 8) (as := [.int (xs (I + 1))]) (rest := []) rfl rfl rfl (by show (8 : Nat) ≠ 99; decide) rfl rfl rfl (Nat.le_of_ble_eq_true rfl) ⟨l_ri rfl (by decide), pa_top_ok _, trivial⟩ rfl (fun v1 hp1 g1 hv1 H1 G1 L1 Z1 => ?_)
  have In1 := In.D H1 G1 (by decide) L1 Z1
  have R1 : l_R n hp1 := l_R_fr In.1 G1 (by decide) (by decide) (by decide) (by decide) (by decide) (by decide) (by decide) (by decide) (by decide) (by decide) (by decide) (by decide) (by decide) (by decide) (by decide) (by decide) (by decide) R
  obtain ⟨z1, rfl, -, -⟩ := pa_gri (lo := (-1)) (hi := 3) hv1
  show px_Gx _ _ (577, [(4, .int (nI I)), (3, .ref (52 + n)), (2, .ref (38 + n)), (1, .ref 8), (0, .ref 0)], [.int z1], hp1) _
  refine px_gx (fun _ K => px_a 6 (f' := (584, [(4, .int (nI I)), (3, .ref (52 + n)), (2, .ref (38 + n)), (1, .ref 8), (0, .ref 0)], [.int (nI I + 1), .ref 0, .ref (38 + n)], hp1)) rfl K) ?_
  refine l_ld 1 1 rfl rfl In1.2.1 (by omega) hL ?_
  show px_Gx _ _ (585, [(4, .int (nI I)), (3, .ref (52 + n)), (2, .ref (38 + n)), (1, .ref 8), (0, .ref 0)], [.int (xs (I + 1)), .ref (38 + n)], hp1) _
  refine l_cv ((ct_70 hN).deep (d' := 11) (by decide)) In1.1 (a := 38 + n) (as := [.int (xs (I + 1))]) (rest := []) rfl rfl (by rw [r24]; rfl) (by rw [r24]; decide) rfl rfl rfl (Nat.le_of_ble_eq_true rfl) ⟨pa_r24, pa_top_ok _, trivial⟩ rfl (fun v2 hp2 g2 hv2 H2 G2 L2 Z2 => ?_)
  have In2 := In1.D H2 G2 (by decide) L2 Z2
  have R2 : l_R n hp2 := l_R_fr In1.1 G2 (by decide) (by decide) (by decide) (by decide) (by decide) (by decide) (by decide) (by decide) (by decide) (by decide) (by decide) (by decide) (by decide) (by decide) (by decide) (by decide) (by decide) R1
  obtain ⟨z2, rfl, -, -⟩ := pa_gri (lo := (-1)) (hi := 3) hv2
  show px_Gx _ _ (588, [(4, .int (nI I)), (3, .ref (52 + n)), (2, .ref (38 + n)), (1, .ref 8), (0, .ref 0)], [.int z2], hp2) _
  refine px_gx (fun _ K => px_a 2 (f' := (654, [(4, .int (nI I)), (3, .ref (52 + n)), (2, .ref (38 + n)), (1, .ref 8), (0, .ref 0)], [], hp2)) rfl K) ?_
  refine px_gx (fun _ K => px_a 1 (f' := (657, [(4, .int (nI I + 4)), (3, .ref (52 + n)), (2, .ref (38 + n)), (1, .ref 8), (0, .ref 0)], [], hp2)) rfl K) ?_
  rw [show nI I + 4 = nI (I + 4) from nI_add I 4]
  show px_Gx _ _ (657, [(4, .int (nI (I + 4))), (3, .ref (52 + n)), (2, .ref (38 + n)), (1, .ref 8), (0, .ref 0)], [], hp2) _
  refine px_gx (fun _ K => px_a 1 (f' := (43, [(4, .int (nI (I + 4))), (3, .ref (52 + n)), (2, .ref (38 + n)), (1, .ref 8), (0, .ref 0)], [], hp2)) rfl K) ?_
  refine px_wk [(4, .int (nI (I + 4))), (3, .ref (52 + n)), (2, .ref (38 + n)), (1, .ref 8), (0, .ref 0)] ⟨rfl, rfl, rfl, rfl, rfl, trivial⟩ ?_
  exact K hp2 (In2.up (by omega)) R2
set_option maxRecDepth 20000 in
set_option maxHeartbeats 2000000 in
theorem l_case_14 {n : Nat} (hN : pa_N n) {L I S0 B : Nat} {xs : Nat → Int32} (hL : L ≤ 10000) (hI : I + 4 ≤ L) {hp : px_H} (In : l_In n L xs S0 hp B) (R : l_R n hp) {P : px_O → px_H → Prop} (K : ∀ hp1, l_In n L xs S0 hp1 (B + 1) → l_R n hp1 → px_Gx 12 6 (43, [(4, .int (nI (I + 4))), (3, .ref (52 + n)), (2, .ref (38 + n)), (1, .ref 8), (0, .ref 0)], [], hp1) P) : px_Gx 12 6 (592, [(4, .int (nI I)), (3, .ref (52 + n)), (2, .ref (38 + n)), (1, .ref 8), (0, .ref 0)], [], hp) P := by
  refine px_gx (fun _ K => px_a 5 (f' := (598, [(4, .int (nI I)), (3, .ref (52 + n)), (2, .ref (38 + n)), (1, .ref 8), (0, .ref 0)], [.int (nI I + 1), .ref 0, .ref 8], hp)) rfl K) ?_
  refine l_ld 1 1 rfl rfl In.2.1 (by omega) hL ?_
  show px_Gx _ _ (599, [(4, .int (nI I)), (3, .ref (52 + n)), (2, .ref (38 + n)), (1, .ref 8), (0, .ref 0)], [.int (xs (I + 1)), .ref 8], hp) _
  refine l_cv ((ct_62 hN).deep (d' := 11) (by decide)) In.1 (a := 8) (as := [.int (xs (I + 1))]) (rest := []) rfl rfl rfl (by show (8 : Nat) ≠ 99; decide) rfl rfl rfl (Nat.le_of_ble_eq_true rfl) ⟨l_ri rfl (by decide), pa_top_ok _, trivial⟩ rfl (fun v1 hp1 g1 hv1 H1 G1 L1 Z1 => ?_)
  have In1 := In.D H1 G1 (by decide) L1 Z1
  have R1 : l_R n hp1 := l_R_fr In.1 G1 (by decide) (by decide) (by decide) (by decide) (by decide) (by decide) (by decide) (by decide) (by decide) (by decide) (by decide) (by decide) (by decide) (by decide) (by decide) (by decide) (by decide) R
  obtain ⟨z1, rfl, -, -⟩ := pa_gri (lo := (-1)) (hi := 84) hv1
  show px_Gx _ _ (602, [(4, .int (nI I)), (3, .ref (52 + n)), (2, .ref (38 + n)), (1, .ref 8), (0, .ref 0)], [.int z1], hp1) _
  refine px_gx (fun _ K => px_a 6 (f' := (609, [(4, .int (nI I)), (3, .ref (52 + n)), (2, .ref (38 + n)), (1, .ref 8), (0, .ref 0)], [.int (nI I + 1), .ref 0, .ref (38 + n)], hp1)) rfl K) ?_
  refine l_ld 1 1 rfl rfl In1.2.1 (by omega) hL ?_
  show px_Gx _ _ (610, [(4, .int (nI I)), (3, .ref (52 + n)), (2, .ref (38 + n)), (1, .ref 8), (0, .ref 0)], [.int (xs (I + 1)), .ref (38 + n)], hp1) _
  refine l_cv ((ct_90 hN).deep (d' := 11) (by decide)) In1.1 (a := 38 + n) (as := [.int (xs (I + 1))]) (rest := []) rfl rfl (by rw [r24]; rfl) (by rw [r24]; decide) rfl rfl rfl (Nat.le_of_ble_eq_true rfl) ⟨pa_r24, pa_top_ok _, trivial⟩ rfl (fun v2 hp2 g2 hv2 H2 G2 L2 Z2 => ?_)
  have In2 := In1.D H2 G2 (by decide) L2 Z2
  have R2 : l_R n hp2 := l_R_fr In1.1 G2 (by decide) (by decide) (by decide) (by decide) (by decide) (by decide) (by decide) (by decide) (by decide) (by decide) (by decide) (by decide) (by decide) (by decide) (by decide) (by decide) (by decide) R1
  obtain ⟨z2, rfl, -, -⟩ := pa_gri (lo := (-1)) (hi := 200) hv2
  show px_Gx _ _ (613, [(4, .int (nI I)), (3, .ref (52 + n)), (2, .ref (38 + n)), (1, .ref 8), (0, .ref 0)], [.int z2], hp2) _
  refine px_gx (fun _ K => px_a 2 (f' := (654, [(4, .int (nI I)), (3, .ref (52 + n)), (2, .ref (38 + n)), (1, .ref 8), (0, .ref 0)], [], hp2)) rfl K) ?_
  refine px_gx (fun _ K => px_a 1 (f' := (657, [(4, .int (nI I + 4)), (3, .ref (52 + n)), (2, .ref (38 + n)), (1, .ref 8), (0, .ref 0)], [], hp2)) rfl K) ?_
  rw [show nI I + 4 = nI (I + 4) from nI_add I 4]
  show px_Gx _ _ (657, [(4, .int (nI (I + 4))), (3, .ref (52 + n)), (2, .ref (38 + n)), (1, .ref 8), (0, .ref 0)], [], hp2) _
  refine px_gx (fun _ K => px_a 1 (f' := (43, [(4, .int (nI (I + 4))), (3, .ref (52 + n)), (2, .ref (38 + n)), (1, .ref 8), (0, .ref 0)], [], hp2)) rfl K) ?_
  refine px_wk [(4, .int (nI (I + 4))), (3, .ref (52 + n)), (2, .ref (38 + n)), (1, .ref 8), (0, .ref 0)] ⟨rfl, rfl, rfl, rfl, rfl, trivial⟩ ?_
  exact K hp2 (In2.up (by omega)) R2
set_option maxRecDepth 20000 in
set_option maxHeartbeats 2000000 in
theorem l_case_15 {n : Nat} (hN : pa_N n) {L I S0 B : Nat} {xs : Nat → Int32} (hL : L ≤ 10000) (hI : I + 4 ≤ L) {hp : px_H} (In : l_In n L xs S0 hp B) (R : l_R n hp) {P : px_O → px_H → Prop} (K : ∀ hp1, l_In n L xs S0 hp1 (B + 1) → l_R n hp1 → px_Gx 12 6 (43, [(4, .int (nI (I + 4))), (3, .ref (52 + n)), (2, .ref (38 + n)), (1, .ref 8), (0, .ref 0)], [], hp1) P) : px_Gx 12 6 (617, [(4, .int (nI I)), (3, .ref (52 + n)), (2, .ref (38 + n)), (1, .ref 8), (0, .ref 0)], [], hp) P := by
  refine px_gx (fun _ K => px_a 5 (f' := (623, [(4, .int (nI I)), (3, .ref (52 + n)), (2, .ref (38 + n)), (1, .ref 8), (0, .ref 0)], [.int (nI I + 1), .ref 0, .ref 8], hp)) rfl K) ?_
  refine l_ld 1 1 rfl rfl In.2.1 (by omega) hL ?_
  show px_Gx _ _ (624, [(4, .int (nI I)), (3, .ref (52 + n)), (2, .ref (38 + n)), (1, .ref 8), (0, .ref 0)], [.int (xs (I + 1)), .ref 8], hp) _
  refine px_gx (fun _ K => px_a 4 (f' := (629, [(4, .int (nI I)), (3, .ref (52 + n)), (2, .ref (38 + n)), (1, .ref 8), (0, .ref 0)], [.int (nI I + 2), .ref 0, .int (xs (I + 1)), .ref 8], hp)) rfl K) ?_
  refine l_ld 2 2 rfl rfl In.2.1 (by omega) hL ?_
  show px_Gx _ _ (630, [(4, .int (nI I)), (3, .ref (52 + n)), (2, .ref (38 + n)), (1, .ref 8), (0, .ref 0)], [.int (xs (I + 2)), .int (xs (I + 1)), .ref 8], hp) _
  refine l_cv ((ct_61 hN).deep (d' := 11) (by decide)) In.1 (a := 8) (as := [.int (xs (I + 1)), .int (xs (I + 2))]) (rest := []) rfl rfl rfl (by show (8 : Nat) ≠ 99; decide) rfl rfl rfl (Nat.le_of_ble_eq_true rfl) ⟨l_ri rfl (by decide), pa_top_ok _, pa_top_ok _, trivial⟩ rfl (fun v1 hp1 g1 hv1 H1 G1 L1 Z1 => ?_)
  have In1 := In.D H1 G1 (by decide) L1 Z1
  have R1 : l_R n hp1 := l_R_fr In.1 G1 (by decide) (by decide) (by decide) (by decide) (by decide) (by decide) (by decide) (by decide) (by decide) (by decide) (by decide) (by decide) (by decide) (by decide) (by decide) (by decide) (by decide) R
  obtain ⟨z1, rfl, -, -⟩ := pa_gri (lo := (-2147483648)) (hi := 2147483647) hv1
  show px_Gx _ _ (633, [(4, .int (nI I)), (3, .ref (52 + n)), (2, .ref (38 + n)), (1, .ref 8), (0, .ref 0)], [.int z1], hp1) _
  refine px_gx (fun _ K => px_a 6 (f' := (640, [(4, .int (nI I)), (3, .ref (52 + n)), (2, .ref (38 + n)), (1, .ref 8), (0, .ref 0)], [.int (nI I + 1), .ref 0, .ref (38 + n)], hp1)) rfl K) ?_
  refine l_ld 1 1 rfl rfl In1.2.1 (by omega) hL ?_
  show px_Gx _ _ (641, [(4, .int (nI I)), (3, .ref (52 + n)), (2, .ref (38 + n)), (1, .ref 8), (0, .ref 0)], [.int (xs (I + 1)), .ref (38 + n)], hp1) _
  refine px_gx (fun _ K => px_a 4 (f' := (646, [(4, .int (nI I)), (3, .ref (52 + n)), (2, .ref (38 + n)), (1, .ref 8), (0, .ref 0)], [.int (nI I + 2), .ref 0, .int (xs (I + 1)), .ref (38 + n)], hp1)) rfl K) ?_
  refine l_ld 2 2 rfl rfl In1.2.1 (by omega) hL ?_
  show px_Gx _ _ (647, [(4, .int (nI I)), (3, .ref (52 + n)), (2, .ref (38 + n)), (1, .ref 8), (0, .ref 0)], [.int (xs (I + 2)), .int (xs (I + 1)), .ref (38 + n)], hp1) _
  refine l_cv ((ct_89 hN).deep (d' := 11) (by decide)) In1.1 (a := 38 + n) (as := [.int (xs (I + 1)), .int (xs (I + 2))]) (rest := []) rfl rfl (by rw [r24]; rfl) (by rw [r24]; decide) rfl rfl rfl (Nat.le_of_ble_eq_true rfl) ⟨pa_r24, pa_top_ok _, pa_top_ok _, trivial⟩ rfl (fun v2 hp2 g2 hv2 H2 G2 L2 Z2 => ?_)
  have In2 := In1.D H2 G2 (by decide) L2 Z2
  have R2 : l_R n hp2 := l_R_fr In1.1 G2 (by decide) (by decide) (by decide) (by decide) (by decide) (by decide) (by decide) (by decide) (by decide) (by decide) (by decide) (by decide) (by decide) (by decide) (by decide) (by decide) (by decide) R1
  obtain ⟨z2, rfl, -, -⟩ := pa_gri (lo := (-2147483648)) (hi := 2147483647) hv2
  show px_Gx _ _ (650, [(4, .int (nI I)), (3, .ref (52 + n)), (2, .ref (38 + n)), (1, .ref 8), (0, .ref 0)], [.int z2], hp2) _
  refine px_gx (fun _ K => px_a 2 (f' := (654, [(4, .int (nI I)), (3, .ref (52 + n)), (2, .ref (38 + n)), (1, .ref 8), (0, .ref 0)], [], hp2)) rfl K) ?_
  refine px_gx (fun _ K => px_a 1 (f' := (657, [(4, .int (nI I + 4)), (3, .ref (52 + n)), (2, .ref (38 + n)), (1, .ref 8), (0, .ref 0)], [], hp2)) rfl K) ?_
  rw [show nI I + 4 = nI (I + 4) from nI_add I 4]
  show px_Gx _ _ (657, [(4, .int (nI (I + 4))), (3, .ref (52 + n)), (2, .ref (38 + n)), (1, .ref 8), (0, .ref 0)], [], hp2) _
  refine px_gx (fun _ K => px_a 1 (f' := (43, [(4, .int (nI (I + 4))), (3, .ref (52 + n)), (2, .ref (38 + n)), (1, .ref 8), (0, .ref 0)], [], hp2)) rfl K) ?_
  refine px_wk [(4, .int (nI (I + 4))), (3, .ref (52 + n)), (2, .ref (38 + n)), (1, .ref 8), (0, .ref 0)] ⟨rfl, rfl, rfl, rfl, rfl, trivial⟩ ?_
  exact K hp2 (In2.up (by omega)) R2
