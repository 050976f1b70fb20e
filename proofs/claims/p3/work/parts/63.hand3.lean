theorem p_isPiece_i {d n : Nat} {hp : px_H} {th w h pn pl fo le ru : Int32} {q : Int32} (hm : hp[38 + n]? = some (4, [.int th, .int w, .int h, .ref (39 + n), .int pn, .ref (40 + n), .ref (41 + n), .ref (42 + n), .int pl, .ref (43 + n), .ref (44 + n), .ref (45 + n), .ref (46 + n), .int fo, .ref (47 + n), .int le, .ref (48 + n), .int ru, .ref (49 + n), .ref (50 + n), .ref (51 + n)])) (ho : ¬ (q < 0 ∨ pn ≤ q)) : px_Go d 79 (0, [(0, .ref (38 + n)), (1, .int q)], [], hp) (.inl (some (.int 1)), hp) :=
  p_isPiece_3 hm (fun z => ho (Or.inl z)) (fun z => ho (Or.inr z))
def ck_94 : pa_K := ([pa_rf 24, pa_top, pa_top, pa_top], some (pa_i 0 1), false, [(24, 0), (24, 13), (26, 0), (27, 0)])
set_option maxRecDepth 20000 in
set_option maxHeartbeats 4000000 in
theorem m_square_l {d n : Nat} {hp0 hp : px_H} {th w h pn pl fo le ru : Int32} (hm : hp[38 + n]? = some (4, [.int th, .int w, .int h, .ref (39 + n), .int pn, .ref (40 + n), .ref (41 + n), .ref (42 + n), .int pl, .ref (43 + n), .ref (44 + n), .ref (45 + n), .ref (46 + n), .int fo, .ref (47 + n), .int le, .ref (48 + n), .int ru, .ref (49 + n), .ref (50 + n), .ref (51 + n)])) (bth1 : 0 ≤ th.toInt) (bth2 : th.toInt ≤ 2) (bw1 : 1 ≤ w.toInt) (bw2 : w.toInt ≤ 6) (bh1 : 1 ≤ h.toInt) (bh2 : h.toInt ≤ 6) (bpn1 : 0 ≤ pn.toInt) (bpn2 : pn.toInt ≤ 6) (bpl1 : 0 ≤ pl.toInt) (bpl2 : pl.toInt ≤ 512) (bfo1 : 0 ≤ fo.toInt) (bfo2 : fo.toInt ≤ 1) (ble1 : 0 ≤ le.toInt) (ble2 : le.toInt ≤ 200) (bru1 : 0 ≤ ru.toInt) (bru2 : ru.toInt ≤ 200) (H : pa_Hi n hp) (F0 : pa_Fr n [(24, 0), (24, 13), (26, 0), (27, 0)] hp0 hp) (L0 : hp.length = hp0.length) {x y z : Int32} (x1 : 0 ≤ x.toInt) (x2 : x.toInt ≤ 5) (y1 : 0 ≤ y.toInt) (y2 : y.toInt ≤ 3) (z1 : 0 ≤ z.toInt) (z2 : z.toInt ≤ 3) : ∀ (k : Nat) (i : Int32), i.toInt + k = 7 → 0 ≤ i.toInt → i.toInt ≤ 6 → px_Gx d 94 (57, [(4, .int i), (0, .ref (38 + n)), (1, .int x), (2, .int y), (3, .int z)], [], hp) (pa_Po n ck_94 hp0) := by
  have cl0 : Int32.toInt 0 = 0 := rfl
  have cl1 : Int32.toInt 1 = 1 := rfl
  have cl4 : Int32.toInt 4 = 4 := rfl
  have cl6 : Int32.toInt 6 = 6 := rfl
  intro k
  induction k with
  | zero =>
    intro i h1 h2 h3
    omega
  | succ k ih =>
    intro i h1 h2 h3
    refine px_gx (fun _ K => px_a 2 (f' := (60, [(4, .int i), (0, .ref (38 + n)), (1, .int x), (2, .int y), (3, .int z)], [.ref (38 + n), .int i], hp)) rfl K) ?_
    refine px_gx (fun _ K => px_gf (38 + n) 13 4 5 (.ref (40 + n)) rfl rfl hm rfl K) ?_
    show px_Gx _ _ (63, [(4, .int i), (0, .ref (38 + n)), (1, .int x), (2, .int y), (3, .int z)], [.ref (40 + n), .int i], hp) _
    refine px_gx (fun _ K => px_a 1 (f' := (64, [(4, .int i), (0, .ref (38 + n)), (1, .int x), (2, .int y), (3, .int z)], [.int x, .ref (40 + n), .int i], hp)) rfl K) ?_
    obtain ⟨vs10, hv10, hl10, hg10⟩ := pa_ara (a := 40 + n) (i := 8) (lo := 0) (hi := 6) H (by omega) (by decide) (by decide) rfl
    have hi9 : x.toNatClampNeg < vs10.length := by show (Int32.toInt x).toNat < _; omega
    obtain ⟨z9, ez9, lz9, uz9⟩ := hg10 _ hi9
    refine px_gx (fun _ K => px_al (40 + n) (.int z9) rfl hv10 (Or.inl ⟨rfl, Or.inl rfl⟩) (i32_nn (by omega)) ez9 K) ?_
    show px_Gx _ _ (65, [(4, .int i), (0, .ref (38 + n)), (1, .int x), (2, .int y), (3, .int z)], [.int z9, .int i], hp) _
    by_cases h11 : z9 ≤ i
    · have h11' := h11
      rw [Int32.le_iff_toInt_le] at h11'
      refine px_gx (fun _ K => px_b2 true 96 rfl rfl (decide_eq_true h11) K) ?_
      show px_Gx _ _ (96, [(4, .int i), (0, .ref (38 + n)), (1, .int x), (2, .int y), (3, .int z)], [], hp) _
      refine px_gx (fun _ K => px_a 1 (f' := (97, [(4, .int i), (0, .ref (38 + n)), (1, .int x), (2, .int y), (3, .int z)], [.ref (38 + n)], hp)) rfl K) ?_
      refine px_gx (fun _ K => px_gf (38 + n) 13 4 5 (.ref (40 + n)) rfl rfl hm rfl K) ?_
      show px_Gx _ _ (100, [(4, .int i), (0, .ref (38 + n)), (1, .int x), (2, .int y), (3, .int z)], [.ref (40 + n)], hp) _
      refine px_gx (fun _ K => px_a 1 (f' := (101, [(4, .int i), (0, .ref (38 + n)), (1, .int x), (2, .int y), (3, .int z)], [.int x, .ref (40 + n)], hp)) rfl K) ?_
      refine px_gx (fun _ K => px_al (40 + n) (.int z9) rfl hv10 (Or.inl ⟨rfl, Or.inl rfl⟩) (i32_nn (by omega)) ez9 K) ?_
      show px_Gx _ _ (102, [(4, .int i), (0, .ref (38 + n)), (1, .int x), (2, .int y), (3, .int z)], [.int z9], hp) _
      refine px_gx (fun _ K => px_a 1 (f' := (104, [(4, .int i), (0, .ref (38 + n)), (1, .int x), (2, .int y), (3, .int z)], [.int 6, .int z9], hp)) rfl K) ?_
      by_cases h13 : ¬ z9 = 6
      · have h13' := h13
        have h13'' : Int32.toInt z9 ≠ Int32.toInt 6 := fun z => h13 (Int32.toInt_inj.mp z)
        refine px_gx (fun _ K => px_b2 true 109 rfl rfl (decide_eq_true h13) K) ?_
        show px_Gx _ _ (109, [(4, .int i), (0, .ref (38 + n)), (1, .int x), (2, .int y), (3, .int z)], [], hp) _
        refine px_gx (fun _ K => px_a 1 (f' := (110, [(4, .int i), (0, .ref (38 + n)), (1, .int x), (2, .int y), (3, .int z)], [.ref (38 + n)], hp)) rfl K) ?_
        refine px_gx (fun _ K => px_gf (38 + n) 17 4 6 (.ref (41 + n)) rfl rfl hm rfl K) ?_
        show px_Gx _ _ (113, [(4, .int i), (0, .ref (38 + n)), (1, .int x), (2, .int y), (3, .int z)], [.ref (41 + n)], hp) _
        refine px_gx (fun _ K => px_a 3 (f' := (117, [(4, .int i), (0, .ref (38 + n)), (1, .int x), (2, .int y), (3, .int z)], [.int (6 * x), .ref (41 + n)], hp)) rfl K) ?_
        obtain ⟨z14, ez14, fz14⟩ : ∃ q : Int32, q = 6 * x ∧ q.toInt = 6 * Int32.toInt x := ⟨_, rfl, i32_mulL rfl (by omega) (by omega)⟩
        rw [← ez14]
        refine px_gx (fun _ K => px_a 1 (f' := (118, [(4, .int i), (0, .ref (38 + n)), (1, .int x), (2, .int y), (3, .int z)], [.ref (38 + n), .int z14, .ref (41 + n)], hp)) rfl K) ?_
        refine px_gx (fun _ K => px_gf (38 + n) 13 4 5 (.ref (40 + n)) rfl rfl hm rfl K) ?_
        show px_Gx _ _ (121, [(4, .int i), (0, .ref (38 + n)), (1, .int x), (2, .int y), (3, .int z)], [.ref (40 + n), .int z14, .ref (41 + n)], hp) _
        refine px_gx (fun _ K => px_a 1 (f' := (122, [(4, .int i), (0, .ref (38 + n)), (1, .int x), (2, .int y), (3, .int z)], [.int x, .ref (40 + n), .int z14, .ref (41 + n)], hp)) rfl K) ?_
        refine px_gx (fun _ K => px_al (40 + n) (.int z9) rfl hv10 (Or.inl ⟨rfl, Or.inl rfl⟩) (i32_nn (by omega)) ez9 K) ?_
        show px_Gx _ _ (123, [(4, .int i), (0, .ref (38 + n)), (1, .int x), (2, .int y), (3, .int z)], [.int z9, .int z14, .ref (41 + n)], hp) _
        refine px_gx (fun _ K => px_a 1 (f' := (124, [(4, .int i), (0, .ref (38 + n)), (1, .int x), (2, .int y), (3, .int z)], [.int (z14 + z9), .ref (41 + n)], hp)) rfl K) ?_
        obtain ⟨z16, ez16, fz16⟩ : ∃ q : Int32, q = z14 + z9 ∧ q.toInt = Int32.toInt z14 + Int32.toInt z9 := ⟨_, rfl, i32_add (by omega) (by omega)⟩
        rw [← ez16]
        refine px_gx (fun _ K => px_a 3 (f' := (127, [(4, .int i), (0, .ref (38 + n)), (1, .int x), (2, .int y), (3, .int z)], [.int (4 * z), .int z16, .ref (41 + n)], hp)) rfl K) ?_
        obtain ⟨z17, ez17, fz17⟩ : ∃ q : Int32, q = 4 * z ∧ q.toInt = 4 * Int32.toInt z := ⟨_, rfl, i32_mulL rfl (by omega) (by omega)⟩
        rw [← ez17]
        refine px_gx (fun _ K => px_a 2 (f' := (129, [(4, .int i), (0, .ref (38 + n)), (1, .int x), (2, .int y), (3, .int z)], [.int (z17 + y), .int z16, .ref (41 + n)], hp)) rfl K) ?_
        obtain ⟨z18, ez18, fz18⟩ : ∃ q : Int32, q = z17 + y ∧ q.toInt = Int32.toInt z17 + Int32.toInt y := ⟨_, rfl, i32_add (by omega) (by omega)⟩
        rw [← ez18]
        obtain ⟨vs20, hv20, hl20, hg20⟩ := pa_ara (a := 41 + n) (i := 9) (lo := 0) (hi := 15) H (by omega) (by decide) (by decide) rfl
        have hi19 : z16.toNatClampNeg < vs20.length := by show (Int32.toInt z16).toNat < _; omega
        refine px_gx (fun _ K => px_ias (41 + n) rfl hv20 (by omega) (i32_nn (by omega)) hi19 K) ?_
        show px_Gx _ _ (130, [(4, .int i), (0, .ref (38 + n)), (1, .int x), (2, .int y), (3, .int z)], [], hp.set (41 + n) (10, vs20.set z16.toNatClampNeg (.int z18))) _
        have hm19 : (hp.set (41 + n) (10, vs20.set z16.toNatClampNeg (.int z18)))[38 + n]? = some (4, [.int th, .int w, .int h, .ref (39 + n), .int pn, .ref (40 + n), .ref (41 + n), .ref (42 + n), .int pl, .ref (43 + n), .ref (44 + n), .ref (45 + n), .ref (46 + n), .int fo, .ref (47 + n), .int le, .ref (48 + n), .int ru, .ref (49 + n), .ref (50 + n), .ref (51 + n)]) := px_ne hm (by omega)
        have H19 : pa_Hi n (hp.set (41 + n) (10, vs20.set z16.toNatClampNeg (.int z18))) := pa_aS (i := 9) H (by omega) (by decide) (by decide) hv20 rfl (pa_in (by omega) (by omega))
        have F19 : pa_Fr n [(24, 0), (24, 13), (26, 0), (27, 0)] hp0 (hp.set (41 + n) (10, vs20.set z16.toNatClampNeg (.int z18))) := F0.trans (pa_aF (i := 9) (by omega) (by decide) (by decide) hv20 (by decide) (by decide))
        have L19 : (hp.set (41 + n) (10, vs20.set z16.toNatClampNeg (.int z18))).length = hp0.length := by rw [List.length_set]; exact L0
        have hv10_19 : (hp.set (41 + n) (10, vs20.set z16.toNatClampNeg (.int z18)))[40 + n]? = some (10, vs10) := px_ne hv10 (by omega)
        generalize hp.set (41 + n) (10, vs20.set z16.toNatClampNeg (.int z18)) = hp19 at hm19 H19 F19 L19 hv10_19 ⊢
        refine px_gx (fun _ K => px_a 1 (f' := (131, [(4, .int i), (0, .ref (38 + n)), (1, .int x), (2, .int y), (3, .int z)], [.ref (38 + n)], hp19)) rfl K) ?_
        refine px_gx (fun _ K => px_gf (38 + n) 13 4 5 (.ref (40 + n)) rfl rfl hm19 rfl K) ?_
        show px_Gx _ _ (134, [(4, .int i), (0, .ref (38 + n)), (1, .int x), (2, .int y), (3, .int z)], [.ref (40 + n)], hp19) _
        refine px_gx (fun _ K => px_a 2 (f' := (136, [(4, .int i), (0, .ref (38 + n)), (1, .int x), (2, .int y), (3, .int z)], [.int x, .ref (40 + n), .int x, .ref (40 + n)], hp19)) rfl K) ?_
        refine px_gx (fun _ K => px_al (40 + n) (.int z9) rfl hv10_19 (Or.inl ⟨rfl, Or.inl rfl⟩) (i32_nn (by omega)) ez9 K) ?_
        show px_Gx _ _ (137, [(4, .int i), (0, .ref (38 + n)), (1, .int x), (2, .int y), (3, .int z)], [.int z9, .int x, .ref (40 + n)], hp19) _
        refine px_gx (fun _ K => px_a 2 (f' := (139, [(4, .int i), (0, .ref (38 + n)), (1, .int x), (2, .int y), (3, .int z)], [.int (z9 + 1), .int x, .ref (40 + n)], hp19)) rfl K) ?_
        obtain ⟨z22, ez22, fz22⟩ : ∃ q : Int32, q = z9 + 1 ∧ q.toInt = Int32.toInt z9 + Int32.toInt 1 := ⟨_, rfl, i32_add (by omega) (by omega)⟩
        rw [← ez22]
        have hi23 : x.toNatClampNeg < vs10.length := by show (Int32.toInt x).toNat < _; omega
        refine px_gx (fun _ K => px_ias (40 + n) rfl hv10_19 (by omega) (i32_nn (by omega)) hi23 K) ?_
        show px_Gx _ _ (140, [(4, .int i), (0, .ref (38 + n)), (1, .int x), (2, .int y), (3, .int z)], [], hp19.set (40 + n) (10, vs10.set x.toNatClampNeg (.int z22))) _
        have hm23 : (hp19.set (40 + n) (10, vs10.set x.toNatClampNeg (.int z22)))[38 + n]? = some (4, [.int th, .int w, .int h, .ref (39 + n), .int pn, .ref (40 + n), .ref (41 + n), .ref (42 + n), .int pl, .ref (43 + n), .ref (44 + n), .ref (45 + n), .ref (46 + n), .int fo, .ref (47 + n), .int le, .ref (48 + n), .int ru, .ref (49 + n), .ref (50 + n), .ref (51 + n)]) := px_ne hm19 (by omega)
        have H23 : pa_Hi n (hp19.set (40 + n) (10, vs10.set x.toNatClampNeg (.int z22))) := pa_aS (i := 8) H19 (by omega) (by decide) (by decide) hv10_19 rfl (pa_in (by omega) (by omega))
        have F23 : pa_Fr n [(24, 0), (24, 13), (26, 0), (27, 0)] hp0 (hp19.set (40 + n) (10, vs10.set x.toNatClampNeg (.int z22))) := F19.trans (pa_aF (i := 8) (by omega) (by decide) (by decide) hv10_19 (by decide) (by decide))
        have L23 : (hp19.set (40 + n) (10, vs10.set x.toNatClampNeg (.int z22))).length = hp0.length := by rw [List.length_set]; exact L19
        generalize hp19.set (40 + n) (10, vs10.set x.toNatClampNeg (.int z22)) = hp23 at hm23 H23 F23 L23 ⊢
        refine px_gx (fun _ K => px_a 2 (f' := (142, [(4, .int i), (0, .ref (38 + n)), (1, .int x), (2, .int y), (3, .int z)], [.int 0, .ref (38 + n)], hp23)) rfl K) ?_
        refine px_gx (fun _ K => px_pf (38 + n) 72 4 13 rfl rfl hm23 (by omega) (by simp) (pa_nb (by omega) (by omega)) rfl (by decide) K) ?_
        show px_Gx _ _ (145, [(4, .int i), (0, .ref (38 + n)), (1, .int x), (2, .int y), (3, .int z)], [], hp23.set (38 + n) (4, [.int th, .int w, .int h, .ref (39 + n), .int pn, .ref (40 + n), .ref (41 + n), .ref (42 + n), .int pl, .ref (43 + n), .ref (44 + n), .ref (45 + n), .ref (46 + n), .int 0, .ref (47 + n), .int le, .ref (48 + n), .int ru, .ref (49 + n), .ref (50 + n), .ref (51 + n)])) _
        have hm24 : (hp23.set (38 + n) (4, [.int th, .int w, .int h, .ref (39 + n), .int pn, .ref (40 + n), .ref (41 + n), .ref (42 + n), .int pl, .ref (43 + n), .ref (44 + n), .ref (45 + n), .ref (46 + n), .int 0, .ref (47 + n), .int le, .ref (48 + n), .int ru, .ref (49 + n), .ref (50 + n), .ref (51 + n)]))[38 + n]? = some (4, [.int th, .int w, .int h, .ref (39 + n), .int pn, .ref (40 + n), .ref (41 + n), .ref (42 + n), .int pl, .ref (43 + n), .ref (44 + n), .ref (45 + n), .ref (46 + n), .int 0, .ref (47 + n), .int le, .ref (48 + n), .int ru, .ref (49 + n), .ref (50 + n), .ref (51 + n)]) := px_self hm23
        have H24 : pa_Hi n (hp23.set (38 + n) (4, [.int th, .int w, .int h, .ref (39 + n), .int pn, .ref (40 + n), .ref (41 + n), .ref (42 + n), .int pl, .ref (43 + n), .ref (44 + n), .ref (45 + n), .ref (46 + n), .int 0, .ref (47 + n), .int le, .ref (48 + n), .int ru, .ref (49 + n), .ref (50 + n), .ref (51 + n)])) := pa_ms (k := 13) (v := .int 0) H23 hm23 rfl (pa_in (by omega) (by omega))
        have F24 : pa_Fr n [(24, 0), (24, 13), (26, 0), (27, 0)] hp0 (hp23.set (38 + n) (4, [.int th, .int w, .int h, .ref (39 + n), .int pn, .ref (40 + n), .ref (41 + n), .ref (42 + n), .int pl, .ref (43 + n), .ref (44 + n), .ref (45 + n), .ref (46 + n), .int 0, .ref (47 + n), .int le, .ref (48 + n), .int ru, .ref (49 + n), .ref (50 + n), .ref (51 + n)])) := F23.trans (pa_mf (k := 13) (v := .int 0) hm23 (by decide) (by decide))
        have L24 : (hp23.set (38 + n) (4, [.int th, .int w, .int h, .ref (39 + n), .int pn, .ref (40 + n), .ref (41 + n), .ref (42 + n), .int pl, .ref (43 + n), .ref (44 + n), .ref (45 + n), .ref (46 + n), .int 0, .ref (47 + n), .int le, .ref (48 + n), .int ru, .ref (49 + n), .ref (50 + n), .ref (51 + n)])).length = hp0.length := by rw [List.length_set]; exact L23
        generalize hp23.set (38 + n) (4, [.int th, .int w, .int h, .ref (39 + n), .int pn, .ref (40 + n), .ref (41 + n), .ref (42 + n), .int pl, .ref (43 + n), .ref (44 + n), .ref (45 + n), .ref (46 + n), .int 0, .ref (47 + n), .int le, .ref (48 + n), .int ru, .ref (49 + n), .ref (50 + n), .ref (51 + n)]) = hp24 at hm24 H24 F24 L24 ⊢
        refine px_gx (fun _ K => px_a 1 (f' := (146, [(4, .int i), (0, .ref (38 + n)), (1, .int x), (2, .int y), (3, .int z)], [.int 1], hp24)) rfl K) ?_
        exact ⟨_, _, px_ri rfl rfl rfl, H24, F24, Or.inl ⟨_, rfl, pa_in (by omega) (by omega), L24⟩⟩
      · have h13' := h13
        have h13'' : Int32.toInt z9 = Int32.toInt 6 := congrArg Int32.toInt (Decidable.not_not.mp h13)
        refine px_gx (fun _ K => px_b2 false 109 rfl rfl (decide_eq_false h13) K) ?_
        show px_Gx _ _ (107, [(4, .int i), (0, .ref (38 + n)), (1, .int x), (2, .int y), (3, .int z)], [], hp) _
        refine px_gx (fun _ K => px_a 1 (f' := (108, [(4, .int i), (0, .ref (38 + n)), (1, .int x), (2, .int y), (3, .int z)], [.int 0], hp)) rfl K) ?_
        exact ⟨_, _, px_ri rfl rfl rfl, H, F0, Or.inl ⟨_, rfl, pa_in (by omega) (by omega), L0⟩⟩
    · have h11' := h11
      rw [Int32.le_iff_toInt_le] at h11'
      refine px_gx (fun _ K => px_b2 false 96 rfl rfl (decide_eq_false h11) K) ?_
      show px_Gx _ _ (68, [(4, .int i), (0, .ref (38 + n)), (1, .int x), (2, .int y), (3, .int z)], [], hp) _
      refine px_gx (fun _ K => px_a 1 (f' := (69, [(4, .int i), (0, .ref (38 + n)), (1, .int x), (2, .int y), (3, .int z)], [.ref (38 + n)], hp)) rfl K) ?_
      refine px_gx (fun _ K => px_gf (38 + n) 17 4 6 (.ref (41 + n)) rfl rfl hm rfl K) ?_
      show px_Gx _ _ (72, [(4, .int i), (0, .ref (38 + n)), (1, .int x), (2, .int y), (3, .int z)], [.ref (41 + n)], hp) _
      refine px_gx (fun _ K => px_a 3 (f' := (76, [(4, .int i), (0, .ref (38 + n)), (1, .int x), (2, .int y), (3, .int z)], [.int (6 * x), .ref (41 + n)], hp)) rfl K) ?_
      obtain ⟨z25, ez25, fz25⟩ : ∃ q : Int32, q = 6 * x ∧ q.toInt = 6 * Int32.toInt x := ⟨_, rfl, i32_mulL rfl (by omega) (by omega)⟩
      rw [← ez25]
      refine px_gx (fun _ K => px_a 2 (f' := (79, [(4, .int i), (0, .ref (38 + n)), (1, .int x), (2, .int y), (3, .int z)], [.int (z25 + i), .ref (41 + n)], hp)) rfl K) ?_
      obtain ⟨z26, ez26, fz26⟩ : ∃ q : Int32, q = z25 + i ∧ q.toInt = Int32.toInt z25 + Int32.toInt i := ⟨_, rfl, i32_add (by omega) (by omega)⟩
      rw [← ez26]
      obtain ⟨vs28, hv28, hl28, hg28⟩ := pa_ara (a := 41 + n) (i := 9) (lo := 0) (hi := 15) H (by omega) (by decide) (by decide) rfl
      have hi27 : z26.toNatClampNeg < vs28.length := by show (Int32.toInt z26).toNat < _; omega
      obtain ⟨z27, ez27, lz27, uz27⟩ := hg28 _ hi27
      refine px_gx (fun _ K => px_al (41 + n) (.int z27) rfl hv28 (Or.inl ⟨rfl, Or.inl rfl⟩) (i32_nn (by omega)) ez27 K) ?_
      show px_Gx _ _ (80, [(4, .int i), (0, .ref (38 + n)), (1, .int x), (2, .int y), (3, .int z)], [.int z27], hp) _
      refine px_gx (fun _ K => px_a 3 (f' := (83, [(4, .int i), (0, .ref (38 + n)), (1, .int x), (2, .int y), (3, .int z)], [.int (4 * z), .int z27], hp)) rfl K) ?_
      obtain ⟨z29, ez29, fz29⟩ : ∃ q : Int32, q = 4 * z ∧ q.toInt = 4 * Int32.toInt z := ⟨_, rfl, i32_mulL rfl (by omega) (by omega)⟩
      rw [← ez29]
      refine px_gx (fun _ K => px_a 2 (f' := (85, [(4, .int i), (0, .ref (38 + n)), (1, .int x), (2, .int y), (3, .int z)], [.int (z29 + y), .int z27], hp)) rfl K) ?_
      obtain ⟨z30, ez30, fz30⟩ : ∃ q : Int32, q = z29 + y ∧ q.toInt = Int32.toInt z29 + Int32.toInt y := ⟨_, rfl, i32_add (by omega) (by omega)⟩
      rw [← ez30]
      by_cases h31 : ¬ z27 = z30
      · have h31' := h31
        have h31'' : Int32.toInt z27 ≠ Int32.toInt z30 := fun z => h31 (Int32.toInt_inj.mp z)
        refine px_gx (fun _ K => px_b2 true 90 rfl rfl (decide_eq_true h31) K) ?_
        show px_Gx _ _ (90, [(4, .int i), (0, .ref (38 + n)), (1, .int x), (2, .int y), (3, .int z)], [], hp) _
        refine px_gx (fun _ K => px_a 1 (f' := (93, [(4, .int (i + 1)), (0, .ref (38 + n)), (1, .int x), (2, .int y), (3, .int z)], [], hp)) rfl K) ?_
        obtain ⟨z32, ez32, fz32⟩ : ∃ q : Int32, q = i + 1 ∧ q.toInt = Int32.toInt i + Int32.toInt 1 := ⟨_, rfl, i32_add (by omega) (by omega)⟩
        rw [← ez32]
        refine px_gx (fun _ K => px_a 1 (f' := (57, [(4, .int z32), (0, .ref (38 + n)), (1, .int x), (2, .int y), (3, .int z)], [], hp)) rfl K) ?_
        exact ih z32 (by omega) (by omega) (by omega)
      · have h31' := h31
        have h31'' : Int32.toInt z27 = Int32.toInt z30 := congrArg Int32.toInt (Decidable.not_not.mp h31)
        refine px_gx (fun _ K => px_b2 false 90 rfl rfl (decide_eq_false h31) K) ?_
        show px_Gx _ _ (88, [(4, .int i), (0, .ref (38 + n)), (1, .int x), (2, .int y), (3, .int z)], [], hp) _
        refine px_gx (fun _ K => px_a 1 (f' := (89, [(4, .int i), (0, .ref (38 + n)), (1, .int x), (2, .int y), (3, .int z)], [.int 0], hp)) rfl K) ?_
        exact ⟨_, _, px_ri rfl rfl rfl, H, F0, Or.inl ⟨_, rfl, pa_in (by omega) (by omega), L0⟩⟩
