theorem p_isPiece_i {d n : Nat} {hp : px_H} {th w h pn pl fo le ru : Int32} {q : Int32} (hm : hp[38 + n]? = some (4, [.int th, .int w, .int h, .ref (39 + n), .int pn, .ref (40 + n), .ref (41 + n), .ref (42 + n), .int pl, .ref (43 + n), .ref (44 + n), .ref (45 + n), .ref (46 + n), .int fo, .ref (47 + n), .int le, .ref (48 + n), .int ru, .ref (49 + n), .ref (50 + n), .ref (51 + n)])) (ho : ¬ (q < 0 ∨ pn ≤ q)) : px_Go d 79 (0, [(0, .ref (38 + n)), (1, .int q)], [], hp) (.inl (some (.int 1)), hp) :=
  p_isPiece_3 hm (fun z => ho (Or.inl z)) (fun z => ho (Or.inr z))
def ck_94 : pa_K := ([pa_rf 24, pa_top, pa_top, pa_top], some (pa_i 0 1), false, [(24, 0), (24, 13), (26, 0), (27, 0)])
set_option maxRecDepth 20000 in
set_option maxHeartbeats 4000000 in
theorem m_square_l {d n : Nat} {hp0 hp : px_H} {th w h pn pl fo le ru : Int32} (hm : hp[38 + n]? = some (4, [.int th, .int w, .int h, .ref (39 + n), .int pn, .ref (40 + n), .ref (41 + n), .ref (42 + n), .int pl, .ref (43 + n), .ref (44 + n), .ref (45 + n), .ref (46 + n), .int fo, .ref (47 + n), .int le, .ref (48 + n), .int ru, .ref (49 + n), .ref (50 + n), .ref (51 + n)])) (bth1 : 0 ≤ th.toInt) (bth2 : th.toInt ≤ 2) (bw1 : 1 ≤ w.toInt) (bw2 : w.toInt ≤ 6) (bh1 : 1 ≤ h.toInt) (bh2 : h.toInt ≤ 6) (bpn1 : 0 ≤ pn.toInt) (bpn2 : pn.toInt ≤ 6) (bpl1 : 0 ≤ pl.toInt) (bpl2 : pl.toInt ≤ 512) (bfo1 : 0 ≤ fo.toInt) (bfo2 : fo.toInt ≤ 1) (ble1 : 0 ≤ le.toInt) (ble2 : le.toInt ≤ 200) (bru1 : 0 ≤ ru.toInt) (bru2 : ru.toInt ≤ 200) (H : pa_Hi n hp) (F0 : pa_Fr n [(24, 0), (24, 13), (26, 0), (27, 0)] hp0 hp) (L0 : hp.length = hp0.length) {x y z : Int32} (x1 : 0 ≤ x.toInt) (x2 : x.toInt ≤ 5) (y1 : 0 ≤ y.toInt) (y2 : y.toInt ≤ 3) (z1 : 0 ≤ z.toInt) (z2 : z.toInt ≤ 3) : ∀ (k : Nat) (i : Int32), i.toInt + k = 7 → 0 ≤ i.toInt → i.toInt ≤ 6 → px_Gx d 94 (57, [(4, .int i), (0, .ref (38 + n)), (1, .int x), (2, .int y), (3, .int z)], [], hp) (pa_Po n ck_94 hp0) := by
  have cl0 : Int32.toInt 0 = 0 := rfl
  have cl1 : Int32.toInt 1 = 1 := rfl
  have cl4 : Int32.toInt 4 = 4 := rfl
  have cl6 : Int32.toInt 6 = 6 := rfl
  intro k
  induction k with
  | zero =>
    intro i h1 h2 h3
    omega
  | succ k ih =>
    intro i h1 h2 h3
    refine px_gx (fun _ K => px_a 2 (f' := (60, [(4, .int i), (0, .ref (38 + n)), (1, .int x), (2, .int y), (3, .int z)], [.ref (38 + n), .int i], hp)) rfl K) ?_
    refine px_gx (fun _ K => px_gf (38 + n) 13 4 5 (.ref (40 + n)) rfl rfl hm rfl K) ?_
    show px_Gx _ _ (63, [(4, .int i), (0, .ref (38 + n)), (1, .int x), (2, .int y), (3, .int z)], [.ref (40 + n), .int i], hp) _
    refine px_gx (fun _ K => px_a 1 (f' := (64, [(4, .int i), (0, .ref (38 + n)), (1, .int x), (2, .int y), (3, .int z)], [.int x, .ref (40 + n), .int i], hp)) rfl K) ?_
    obtain ⟨vs10, hv10, hl10, hg10⟩ := pa_ara (a := 40 + n) (i := 8) (lo := 0) (hi := 6) H (by omega) (by decide) (by decide) rfl
    have hi9 : x.toNatClampNeg < vs10.length := by show (Int32.toInt x).toNat < _; omega
    obtain ⟨z9, ez9, lz9, uz9⟩ := hg10 _ hi9
    refine px_gx (fun _ K => px_al (40 + n) (.int z9) rfl hv10 (Or.inl ⟨rfl, Or.inl rfl⟩) (i32_nn (by omega)) ez9 K) ?_
    show px_Gx _ _ (65, [(4, .int i), (0, .ref (38 + n)), (1, .int x), (2, .int y), (3, .int z)], [.int z9, .int i], hp) _
    by_cases h11 : z9 ≤ i
    · have h11' := h11
      rw [Int32.le_iff_toInt_le] at h11'
      refine px_gx (fun _ K => px_b2 true 96 rfl rfl (decide_eq_true h11) K) ?_
      show px_Gx _ _ (96, [(4, .int i), (0, .ref (38 + n)), (1, .int x), (2, .int y), (3, .int z)], [], hp) _
      refine px_gx (fun _ K => px_a 1 (f' := (97, [(4, .int i), (0, .ref (38 + n)), (1, .int x), (2, .int y), (3, .int z)], [.ref (38 + n)], hp)) rfl K) ?_
      refine px_gx (fun _ K => px_gf (38 + n) 13 4 5 (.ref (40 + n)) rfl rfl hm rfl K) ?_
      show px_Gx _ _ (100, [(4, .int i), (0, .ref (38 + n)), (1, .int x), (2, .int y), (3, .int z)], [.ref (40 + n)], hp) _
      refine px_gx (fun _ K => px_a 1 (f' := (101, [(4, .int i), (0, .ref (38 + n)), (1, .int x), (2, .int y), (3, .int z)], [.int x, .ref (40 + n)], hp)) rfl K) ?_
      refine px_gx (fun _ K => px_al (40 + n) (.int z9) rfl hv10 (Or.inl ⟨rfl, Or.inl rfl⟩) (i32_nn (by omega)) ez9 K) ?_
      show px_Gx _ _ (102, [(4, .int i), (0, .ref (38 + n)), (1, .int x), (2, .int y), (3, .int z)], [.int z9], hp) _
      refine px_gx (fun _ K => px_a 1 (f' := (104, [(4, .int i), (0, .ref (38 + n)), (1, .int x), (2, .int y), (3, .int z)], [.int 6, .int z9], hp)) rfl K) ?_
      by_cases h13 : ¬ z9 = 6
      · have h13' := h13
        have h13'' : Int32.toInt z9 ≠ Int32.toInt 6 := fun z => h13 (Int32.toInt_inj.mp z)
        refine px_gx (fun _ K => px_b2 true 109 rfl rfl (decide_eq_true h13) K) ?_
        show px_Gx _ _ (109, [(4, .int i), (0, .ref (38 + n)), (1, .int x), (2, .int y), (3, .int z)], [], hp) _
        refine px_gx (fun _ K => px_a 1 (f' := (110, [(4, .int i), (0, .ref (38 + n)), (1, .int x), (2, .int y), (3, .int z)], [.ref (38 + n)], hp)) rfl K) ?_
        refine px_gx (fun _ K => px_gf (38 + n) 17 4 6 (.ref (41 + n)) rfl rfl hm rfl K) ?_
        show px_Gx _ _ (113, [(4, .int i), (0, .ref (38 + n)), (1, .int x), (2, .int y), (3, .int z)], [.ref (41 + n)], hp) _
        refine px_gx (fun _ K => px_a 3 (f' := (117, [(4, .int i), (0, .ref (38 + n)), (1, .int x), (2, .int y), (3, .int z)], [.int (6 * x), .ref (41 + n)], hp)) rfl K) ?_
        obtain ⟨z14, ez14, fz14⟩ : ∃ q : Int32, q = 6 * x ∧ q.toInt = 6 * Int32.toInt x := ⟨_, rfl, i32_mulL rfl (by omega) (by omega)⟩
        rw [← ez14]
        refine px_gx (fun _ K => px_a 1 (f' := (118, [(4, .int i), (0, .ref (38 + n)), (1, .int x), (2, .int y), (3, .int z)], [.ref (38 + n), .int z14, .ref (41 + n)], hp)) rfl K) ?_
        refine px_gx (fun _ K => px_gf (38 + n) 13 4 5 (.ref (40 + n)) rfl rfl hm rfl K) ?_
        show px_Gx _ _ (121, [(4, .int i), (0, .ref (38 + n)), (1, .int x), (2, .int y), (3, .int z)], [.ref (40 + n), .int z14, .ref (41 + n)], hp) _
        refine px_gx (fun _ K => px_a 1 (f' := (122, [(4, .int i), (0, .ref (38 + n)), (1, .int x), (2, .int y), (3, .int z)], [.int x, .ref (40 + n), .int z14, .ref (41 + n)], hp)) rfl K) ?_
        refine px_gx (fun _ K => px_al (40 + n) (.int z9) rfl hv10 (Or.inl ⟨rfl, Or.inl rfl⟩) (i32_nn (by omega)) ez9 K) ?_
        show px_Gx _ _ (123, [(4, .int i), (0, .ref (38 + n)), (1, .int x), (2, .int y), (3, .int z)], [.int z9, .int z14, .ref (41 + n)], hp) _
        refine px_gx (fun _ K => px_a 1 (f' := (124, [(4, .int i), (0, .ref (38 + n)), (1, .int x), (2, .int y), (3, .int z)], [.int (z14 + z9), .ref (41 + n)], hp)) rfl K) ?_
        obtain ⟨z16, ez16, fz16⟩ : ∃ q : Int32, q = z14 + z9 ∧ q.toInt = Int32.toInt z14 + Int32.toInt z9 := ⟨_, rfl, i32_add (by omega) (by omega)⟩
        rw [← ez16]
        refine px_gx (fun _ K => px_a 3 (f' := (127, [(4, .int i), (0, .ref (38 + n)), (1, .int x), (2, .int y), (3, .int z)], [.int (4 * z), .int z16, .ref (41 + n)], hp)) rfl K) ?_
        obtain ⟨z17, ez17, fz17⟩ : ∃ q : Int32, q = 4 * z ∧ q.toInt = 4 * Int32.toInt z := ⟨_, rfl, i32_mulL rfl (by omega) (by omega)⟩
        rw [← ez17]
        refine px_gx (fun _ K => px_a 2 (f' := (129, [(4, .int i), (0, .ref (38 + n)), (1, .int x), (2, .int y), (3, .int z)], [.int (z17 + y), .int z16, .ref (41 + n)], hp)) rfl K) ?_
        obtain ⟨z18, ez18, fz18⟩ : ∃ q : Int32, q = z17 + y ∧ q.toInt = Int32.toInt z17 + Int32.toInt y := ⟨_, rfl, i32_add (by omega) (by omega)⟩
        rw [← ez18]
        obtain ⟨vs20, hv20, hl20, hg20⟩ := pa_ara (a := 41 + n) (i := 9) (lo := 0) (hi := 15) H (by omega) (by decide) (by decide) rfl
        have hi19 : z16.toNatClampNeg < vs20.length := by show (Int32.toInt z16).toNat < _; omega
        refine px_gx (fun _ K => px_ias (41 + n) rfl hv20 (by omega) (i32_nn (by omega)) hi19 K) ?_
        show px_Gx _ _ (130, [(4, .int i), (0, .ref (38 + n)), (1, .int x), (2, .int y), (3, .int z)], [], hp.set (41 + n) (10, vs20.set z16.toNatClampNeg (.int z18))) _
        have hm19 : (hp.set (41 + n) (10, vs20.set z16.toNatClampNeg (.int z18)))[38 + n]? = some (4, [.int th, .int w, .int h, .ref (39 + n), .int pn, .ref (40 + n), .ref (41 + n), .ref (42 + n), .int pl, .ref (43 + n), .ref (44 + n), .ref (45 + n), .ref (46 + n), .int fo, .ref (47 + n), .int le, .ref (48 + n), .int ru, .ref (49 + n), .ref (50 + n), .ref (51 + n)]) := px_ne hm (by omega)
        have H19 : pa_Hi n (hp.set (41 + n) (10, vs20.set z16.toNatClampNeg (.int z18))) := pa_aS (i := 9) H (by omega) (by decide) (by decide) hv20 rfl (pa_in (by omega) (by omega))
        have F19 : pa_Fr n [(24, 0), (24, 13), (26, 0), (27, 0)] hp0 (hp.set (41 + n) (10, vs20.set z16.toNatClampNeg (.int z18))) := F0.trans (pa_aF (i := 9) (by omega) (by decide) (by decide) hv20 (by decide) (by decide))
        have L19 : (hp.set (41 + n) (10, vs20.set z16.toNatClampNeg (.int z18))).length = hp0.length := List.length_set.trans L0
        have hv10_19 : (hp.set (41 + n) (10, vs20.set z16.toNatClampNeg (.int z18)))[40 + n]? = some (10, vs10) := px_ne hv10 (by omega)
        generalize hp.set (41 + n) (10, vs20.set z16.toNatClampNeg (.int z18)) = hp19 at hm19 H19 F19 L19 hv10_19 ⊢
        refine px_gx (fun _ K => px_a 1 (f' := (131, [(4, .int i), (0, .ref (38 + n)), (1, .int x), (2, .int y), (3, .int z)], [.ref (38 + n)], hp19)) rfl K) ?_
        refine px_gx (fun _ K => px_gf (38 + n) 13 4 5 (.ref (40 + n)) rfl rfl hm19 rfl K) ?_
        show px_Gx _ _ (134, [(4, .int i), (0, .ref (38 + n)), (1, .int x), (2, .int y), (3, .int z)], [.ref (40 + n)], hp19) _
        refine px_gx (fun _ K => px_a 2 (f' := (136, [(4, .int i), (0, .ref (38 + n)), (1, .int x), (2, .int y), (3, .int z)], [.int x, .ref (40 + n), .int x, .ref (40 + n)], hp19)) rfl K) ?_
        refine px_gx (fun _ K => px_al (40 + n) (.int z9) rfl hv10_19 (Or.inl ⟨rfl, Or.inl rfl⟩) (i32_nn (by omega)) ez9 K) ?_
        show px_Gx _ _ (137, [(4, .int i), (0, .ref (38 + n)), (1, .int x), (2, .int y), (3, .int z)], [.int z9, .int x, .ref (40 + n)], hp19) _
        refine px_gx (fun _ K => px_a 2 (f' := (139, [(4, .int i), (0, .ref (38 + n)), (1, .int x), (2, .int y), (3, .int z)], [.int (z9 + 1), .int x, .ref (40 + n)], hp19)) rfl K) ?_
        obtain ⟨z22, ez22, fz22⟩ : ∃ q : Int32, q = z9 + 1 ∧ q.toInt = Int32.toInt z9 + Int32.toInt 1 := ⟨_, rfl, i32_add (by omega) (by omega)⟩
        rw [← ez22]
        have hi23 : x.toNatClampNeg < vs10.length := by show (Int32.toInt x).toNat < _; omega
        refine px_gx (fun _ K => px_ias (40 + n) rfl hv10_19 (by omega) (i32_nn (by omega)) hi23 K) ?_
        show px_Gx _ _ (140, [(4, .int i), (0, .ref (38 + n)), (1, .int x), (2, .int y), (3, .int z)], [], hp19.set (40 + n) (10, vs10.set x.toNatClampNeg (.int z22))) _
        have hm23 : (hp19.set (40 + n) (10, vs10.set x.toNatClampNeg (.int z22)))[38 + n]? = some (4, [.int th, .int w, .int h, .ref (39 + n), .int pn, .ref (40 + n), .ref (41 + n), .ref (42 + n), .int pl, .ref (43 + n), .ref (44 + n), .ref (45 + n), .ref (46 + n), .int fo, .ref (47 + n), .int le, .ref (48 + n), .int ru, .ref (49 + n), .ref (50 + n), .ref (51 + n)]) := px_ne hm19 (by omega)
        have H23 : pa_Hi n (hp19.set (40 + n) (10, vs10.set x.toNatClampNeg (.int z22))) := pa_aS (i := 8) H19 (by omega) (by decide) (by decide) hv10_19 rfl (pa_in (by omega) (by omega))
        have F23 : pa_Fr n [(24, 0), (24, 13), (26, 0), (27, 0)] hp0 (hp19.set (40 + n) (10, vs10.set x.toNatClampNeg (.int z22))) := F19.trans (pa_aF (i := 8) (by omega) (by decide) (by decide) hv10_19 (by decide) (by decide))
        have L23 : (hp19.set (40 + n) (10, vs10.set x.toNatClampNeg (.int z22))).length = hp0.length := List.length_set.trans L19
        generalize hp19.set (40 + n) (10, vs10.set x.toNatClampNeg (.int z22)) = hp23 at hm23 H23 F23 L23 ⊢
        refine px_gx (fun _ K => px_a 2 (f' := (142, [(4, .int i), (0, .ref (38 + n)), (1, .int x), (2, .int y), (3, .int z)], [.int 0, .ref (38 + n)], hp23)) rfl K) ?_
        refine px_gx (fun _ K => px_pf (38 + n) 72 4 13 rfl rfl hm23 (by omega) (by simp) (pa_nb (by omega) (by omega)) rfl (by decide) K) ?_
        show px_Gx _ _ (145, [(4, .int i), (0, .ref (38 + n)), (1, .int x), (2, .int y), (3, .int z)], [], hp23.set (38 + n) (4, [.int th, .int w, .int h, .ref (39 + n), .int pn, .ref (40 + n), .ref (41 + n), .ref (42 + n), .int pl, .ref (43 + n), .ref (44 + n), .ref (45 + n), .ref (46 + n), .int 0, .ref (47 + n), .int le, .ref (48 + n), .int ru, .ref (49 + n), .ref (50 + n), .ref (51 + n)])) _
        have hm24 : (hp23.set (38 + n) (4, [.int th, .int w, .int h, .ref (39 + n), .int pn, .ref (40 + n), .ref (41 + n), .ref (42 + n), .int pl, .ref (43 + n), .ref (44 + n), .ref (45 + n), .ref (46 + n), .int 0, .ref (47 + n), .int le, .ref (48 + n), .int ru, .ref (49 + n), .ref (50 + n), .ref (51 + n)]))[38 + n]? = some (4, [.int th, .int w, .int h, .ref (39 + n), .int pn, .ref (40 + n), .ref (41 + n), .ref (42 + n), .int pl, .ref (43 + n), .ref (44 + n), .ref (45 + n), .ref (46 + n), .int 0, .ref (47 + n), .int le, .ref (48 + n), .int ru, .ref (49 + n), .ref (50 + n), .ref (51 + n)]) := px_self hm23
        have H24 : pa_Hi n (hp23.set (38 + n) (4, [.int th, .int w, .int h, .ref (39 + n), .int pn, .ref (40 + n), .ref (41 + n), .ref (42 + n), .int pl, .ref (43 + n), .ref (44 + n), .ref (45 + n), .ref (46 + n), .int 0, .ref (47 + n), .int le, .ref (48 + n), .int ru, .ref (49 + n), .ref (50 + n), .ref (51 + n)])) := pa_ms (k := 13) (v := .int 0) H23 hm23 rfl (pa_in (by omega) (by omega))
        have F24 : pa_Fr n [(24, 0), (24, 13), (26, 0), (27, 0)] hp0 (hp23.set (38 + n) (4, [.int th, .int w, .int h, .ref (39 + n), .int pn, .ref (40 + n), .ref (41 + n), .ref (42 + n), .int pl, .ref (43 + n), .ref (44 + n), .ref (45 + n), .ref (46 + n), .int 0, .ref (47 + n), .int le, .ref (48 + n), .int ru, .ref (49 + n), .ref (50 + n), .ref (51 + n)])) := F23.trans (pa_mf (k := 13) (v := .int 0) hm23 (by decide) (by decide))
        have L24 : (hp23.set (38 + n) (4, [.int th, .int w, .int h, .ref (39 + n), .int pn, .ref (40 + n), .ref (41 + n), .ref (42 + n), .int pl, .ref (43 + n), .ref (44 + n), .ref (45 + n), .ref (46 + n), .int 0, .ref (47 + n), .int le, .ref (48 + n), .int ru, .ref (49 + n), .ref (50 + n), .ref (51 + n)])).length = hp0.length := List.length_set.trans L23
        generalize hp23.set (38 + n) (4, [.int th, .int w, .int h, .ref (39 + n), .int pn, .ref (40 + n), .ref (41 + n), .ref (42 + n), .int pl, .ref (43 + n), .ref (44 + n), .ref (45 + n), .ref (46 + n), .int 0, .ref (47 + n), .int le, .ref (48 + n), .int ru, .ref (49 + n), .ref (50 + n), .ref (51 + n)]) = hp24 at hm24 H24 F24 L24 ⊢
        refine px_gx (fun _ K => px_a 1 (f' := (146, [(4, .int i), (0, .ref (38 + n)), (1, .int x), (2, .int y), (3, .int z)], [.int 1], hp24)) rfl K) ?_
        exact ⟨_, _, px_ri rfl rfl rfl, H24, F24, Or.inl ⟨_, rfl, pa_in (by omega) (by omega), L24⟩⟩
      · have h13' := h13
        have h13'' : Int32.toInt z9 = Int32.toInt 6 := congrArg Int32.toInt (Decidable.not_not.mp h13)
        refine px_gx (fun _ K => px_b2 false 109 rfl rfl (decide_eq_false h13) K) ?_
        show px_Gx _ _ (107, [(4, .int i), (0, .ref (38 + n)), (1, .int x), (2, .int y), (3, .int z)], [], hp) _
        refine px_gx (fun _ K => px_a 1 (f' := (108, [(4, .int i), (0, .ref (38 + n)), (1, .int x), (2, .int y), (3, .int z)], [.int 0], hp)) rfl K) ?_
        exact ⟨_, _, px_ri rfl rfl rfl, H, F0, Or.inl ⟨_, rfl, pa_in (by omega) (by omega), L0⟩⟩
    · have h11' := h11
      rw [Int32.le_iff_toInt_le] at h11'
      refine px_gx (fun _ K => px_b2 false 96 rfl rfl (decide_eq_false h11) K) ?_
      show px_Gx _ _ (68, [(4, .int i), (0, .ref (38 + n)), (1, .int x), (2, .int y), (3, .int z)], [], hp) _
      refine px_gx (fun _ K => px_a 1 (f' := (69, [(4, .int i), (0, .ref (38 + n)), (1, .int x), (2, .int y), (3, .int z)], [.ref (38 + n)], hp)) rfl K) ?_
      refine px_gx (fun _ K => px_gf (38 + n) 17 4 6 (.ref (41 + n)) rfl rfl hm rfl K) ?_
      show px_Gx _ _ (72, [(4, .int i), (0, .ref (38 + n)), (1, .int x), (2, .int y), (3, .int z)], [.ref (41 + n)], hp) _
      refine px_gx (fun _ K => px_a 3 (f' := (76, [(4, .int i), (0, .ref (38 + n)), (1, .int x), (2, .int y), (3, .int z)], [.int (6 * x), .ref (41 + n)], hp)) rfl K) ?_
      obtain ⟨z25, ez25, fz25⟩ : ∃ q : Int32, q = 6 * x ∧ q.toInt = 6 * Int32.toInt x := ⟨_, rfl, i32_mulL rfl (by omega) (by omega)⟩
      rw [← ez25]
      refine px_gx (fun _ K => px_a 2 (f' := (79, [(4, .int i), (0, .ref (38 + n)), (1, .int x), (2, .int y), (3, .int z)], [.int (z25 + i), .ref (41 + n)], hp)) rfl K) ?_
      obtain ⟨z26, ez26, fz26⟩ : ∃ q : Int32, q = z25 + i ∧ q.toInt = Int32.toInt z25 + Int32.toInt i := ⟨_, rfl, i32_add (by omega) (by omega)⟩
      rw [← ez26]
      obtain ⟨vs28, hv28, hl28, hg28⟩ := pa_ara (a := 41 + n) (i := 9) (lo := 0) (hi := 15) H (by omega) (by decide) (by decide) rfl
      have hi27 : z26.toNatClampNeg < vs28.length := by show (Int32.toInt z26).toNat < _; omega
      obtain ⟨z27, ez27, lz27, uz27⟩ := hg28 _ hi27
      refine px_gx (fun _ K => px_al (41 + n) (.int z27) rfl hv28 (Or.inl ⟨rfl, Or.inl rfl⟩) (i32_nn (by omega)) ez27 K) ?_
      show px_Gx _ _ (80, [(4, .int i), (0, .ref (38 + n)), (1, .int x), (2, .int y), (3, .int z)], [.int z27], hp) _
      refine px_gx (fun _ K => px_a 3 (f' := (83, [(4, .int i), (0, .ref (38 + n)), (1, .int x), (2, .int y), (3, .int z)], [.int (4 * z), .int z27], hp)) rfl K) ?_
      obtain ⟨z29, ez29, fz29⟩ : ∃ q : Int32, q = 4 * z ∧ q.toInt = 4 * Int32.toInt z := ⟨_, rfl, i32_mulL rfl (by omega) (by omega)⟩
      rw [← ez29]
      refine px_gx (fun _ K => px_a 2 (f' := (85, [(4, .int i), (0, .ref (38 + n)), (1, .int x), (2, .int y), (3, .int z)], [.int (z29 + y), .int z27], hp)) rfl K) ?_
      obtain ⟨z30, ez30, fz30⟩ : ∃ q : Int32, q = z29 + y ∧ q.toInt = Int32.toInt z29 + Int32.toInt y := ⟨_, rfl, i32_add (by omega) (by omega)⟩
      rw [← ez30]
      by_cases h31 : ¬ z27 = z30
      · have h31' := h31
        have h31'' : Int32.toInt z27 ≠ Int32.toInt z30 := fun z => h31 (Int32.toInt_inj.mp z)
        refine px_gx (fun _ K => px_b2 true 90 rfl rfl (decide_eq_true h31) K) ?_
        show px_Gx _ _ (90, [(4, .int i), (0, .ref (38 + n)), (1, .int x), (2, .int y), (3, .int z)], [], hp) _
        refine px_gx (fun _ K => px_a 1 (f' := (93, [(4, .int (i + 1)), (0, .ref (38 + n)), (1, .int x), (2, .int y), (3, .int z)], [], hp)) rfl K) ?_
        obtain ⟨z32, ez32, fz32⟩ : ∃ q : Int32, q = i + 1 ∧ q.toInt = Int32.toInt i + Int32.toInt 1 := ⟨_, rfl, i32_add (by omega) (by omega)⟩
        rw [← ez32]
        refine px_gx (fun _ K => px_a 1 (f' := (57, [(4, .int z32), (0, .ref (38 + n)), (1, .int x), (2, .int y), (3, .int z)], [], hp)) rfl K) ?_
        exact ih z32 (by omega) (by omega) (by omega)
      · have h31' := h31
        have h31'' : Int32.toInt z27 = Int32.toInt z30 := congrArg Int32.toInt (Decidable.not_not.mp h31)
        refine px_gx (fun _ K => px_b2 false 90 rfl rfl (decide_eq_false h31) K) ?_
        show px_Gx _ _ (88, [(4, .int i), (0, .ref (38 + n)), (1, .int x), (2, .int y), (3, .int z)], [], hp) _
        refine px_gx (fun _ K => px_a 1 (f' := (89, [(4, .int i), (0, .ref (38 + n)), (1, .int x), (2, .int y), (3, .int z)], [.int 0], hp)) rfl K) ?_
        exact ⟨_, _, px_ri rfl rfl rfl, H, F0, Or.inl ⟨_, rfl, pa_in (by omega) (by omega), L0⟩⟩
set_option maxRecDepth 20000 in
set_option maxHeartbeats 4000000 in
theorem m_square {d n : Nat} {hp0 : px_H} {th w h pn pl fo le ru : Int32} (hm : hp0[38 + n]? = some (4, [.int th, .int w, .int h, .ref (39 + n), .int pn, .ref (40 + n), .ref (41 + n), .ref (42 + n), .int pl, .ref (43 + n), .ref (44 + n), .ref (45 + n), .ref (46 + n), .int fo, .ref (47 + n), .int le, .ref (48 + n), .int ru, .ref (49 + n), .ref (50 + n), .ref (51 + n)])) (bth1 : 0 ≤ th.toInt) (bth2 : th.toInt ≤ 2) (bw1 : 1 ≤ w.toInt) (bw2 : w.toInt ≤ 6) (bh1 : 1 ≤ h.toInt) (bh2 : h.toInt ≤ 6) (bpn1 : 0 ≤ pn.toInt) (bpn2 : pn.toInt ≤ 6) (bpl1 : 0 ≤ pl.toInt) (bpl2 : pl.toInt ≤ 512) (bfo1 : 0 ≤ fo.toInt) (bfo2 : fo.toInt ≤ 1) (ble1 : 0 ≤ le.toInt) (ble2 : le.toInt ≤ 200) (bru1 : 0 ≤ ru.toInt) (bru2 : ru.toInt ≤ 200) (H : pa_Hi n hp0) {x y z : Int32} : px_Gx (d + 1) 94 (0, [(0, .ref (38 + n)), (1, .int x), (2, .int y), (3, .int z)], [], hp0) (pa_Po n ck_94 hp0) := by
  have cl0 : Int32.toInt 0 = 0 := rfl
  have cl1 : Int32.toInt 1 = 1 := rfl
  have cl2 : Int32.toInt 2 = 2 := rfl
  have cl3 : Int32.toInt 3 = 3 := rfl
  have cl7 : Int32.toInt 7 = 7 := rfl
  have F0 : pa_Fr n [(24, 0), (24, 13), (26, 0), (27, 0)] hp0 hp0 := pa_Fr.refl _
  have L0 : hp0.length = hp0.length := rfl
  refine px_gx (fun _ K => px_a 4 (f' := (4, [(0, .ref (38 + n)), (1, .int x), (2, .int y), (3, .int z)], [.int x, .ref (38 + n), .int 1, .ref (38 + n)], hp0)) rfl K) ?_
  by_cases h33 : (x < 0 ∨ pn ≤ x)
  · refine px_gx (fun _ K => px_cv (38 + n) (as := [.int x]) (rest := [.int 1, .ref (38 + n)]) rfl rfl hm rfl rfl rfl rfl (Nat.le_of_ble_eq_true rfl) (p_isPiece_o hm h33) K) ?_
    show px_Gx _ _ (7, [(0, .ref (38 + n)), (1, .int x), (2, .int y), (3, .int z)], [.int 0, .int 1, .ref (38 + n)], hp0) _
    refine px_gx (fun _ K => px_a 3 (f' := (15, [(0, .ref (38 + n)), (1, .int x), (2, .int y), (3, .int z)], [.int 1, .int 1, .ref (38 + n)], hp0)) rfl K) ?_
    refine px_gx (fun _ K => px_cv (38 + n) (as := [.int 1, .int 1]) (rest := []) rfl rfl hm rfl rfl rfl rfl (Nat.le_of_ble_eq_true rfl) (p_throwsIf_1 hm (by omega)) K) ?_
    show px_Gx _ _ (18, [(0, .ref (38 + n)), (1, .int x), (2, .int y), (3, .int z)], [.int 1], hp0.set (38 + n) (4, [.int 1, .int w, .int h, .ref (39 + n), .int pn, .ref (40 + n), .ref (41 + n), .ref (42 + n), .int pl, .ref (43 + n), .ref (44 + n), .ref (45 + n), .ref (46 + n), .int fo, .ref (47 + n), .int le, .ref (48 + n), .int ru, .ref (49 + n), .ref (50 + n), .ref (51 + n)])) _
    have hm34 : (hp0.set (38 + n) (4, [.int 1, .int w, .int h, .ref (39 + n), .int pn, .ref (40 + n), .ref (41 + n), .ref (42 + n), .int pl, .ref (43 + n), .ref (44 + n), .ref (45 + n), .ref (46 + n), .int fo, .ref (47 + n), .int le, .ref (48 + n), .int ru, .ref (49 + n), .ref (50 + n), .ref (51 + n)]))[38 + n]? = some (4, [.int 1, .int w, .int h, .ref (39 + n), .int pn, .ref (40 + n), .ref (41 + n), .ref (42 + n), .int pl, .ref (43 + n), .ref (44 + n), .ref (45 + n), .ref (46 + n), .int fo, .ref (47 + n), .int le, .ref (48 + n), .int ru, .ref (49 + n), .ref (50 + n), .ref (51 + n)]) := px_self hm
    have H34 : pa_Hi n (hp0.set (38 + n) (4, [.int 1, .int w, .int h, .ref (39 + n), .int pn, .ref (40 + n), .ref (41 + n), .ref (42 + n), .int pl, .ref (43 + n), .ref (44 + n), .ref (45 + n), .ref (46 + n), .int fo, .ref (47 + n), .int le, .ref (48 + n), .int ru, .ref (49 + n), .ref (50 + n), .ref (51 + n)])) := pa_ms (k := 0) (v := .int 1) H hm rfl (pa_in (by omega) (by omega))
    have F34 : pa_Fr n [(24, 0), (24, 13), (26, 0), (27, 0)] hp0 (hp0.set (38 + n) (4, [.int 1, .int w, .int h, .ref (39 + n), .int pn, .ref (40 + n), .ref (41 + n), .ref (42 + n), .int pl, .ref (43 + n), .ref (44 + n), .ref (45 + n), .ref (46 + n), .int fo, .ref (47 + n), .int le, .ref (48 + n), .int ru, .ref (49 + n), .ref (50 + n), .ref (51 + n)])) := F0.trans (pa_mf (k := 0) (v := .int 1) hm (by decide) (by decide))
    have L34 : (hp0.set (38 + n) (4, [.int 1, .int w, .int h, .ref (39 + n), .int pn, .ref (40 + n), .ref (41 + n), .ref (42 + n), .int pl, .ref (43 + n), .ref (44 + n), .ref (45 + n), .ref (46 + n), .int fo, .ref (47 + n), .int le, .ref (48 + n), .int ru, .ref (49 + n), .ref (50 + n), .ref (51 + n)])).length = hp0.length := List.length_set.trans L0
    generalize hp0.set (38 + n) (4, [.int 1, .int w, .int h, .ref (39 + n), .int pn, .ref (40 + n), .ref (41 + n), .ref (42 + n), .int pl, .ref (43 + n), .ref (44 + n), .ref (45 + n), .ref (46 + n), .int fo, .ref (47 + n), .int le, .ref (48 + n), .int ru, .ref (49 + n), .ref (50 + n), .ref (51 + n)]) = hp34 at hm34 H34 F34 L34 ⊢
    refine px_gx (fun _ K => px_a 2 (f' := (53, [(0, .ref (38 + n)), (1, .int x), (2, .int y), (3, .int z)], [.int 0], hp34)) rfl K) ?_
    exact ⟨_, _, px_ri rfl rfl rfl, H34, F34, Or.inl ⟨_, rfl, pa_in (by omega) (by omega), L34⟩⟩
  · refine px_gx (fun _ K => px_cv (38 + n) (as := [.int x]) (rest := [.int 1, .ref (38 + n)]) rfl rfl hm rfl rfl rfl rfl (Nat.le_of_ble_eq_true rfl) (p_isPiece_i hm h33) K) ?_
    show px_Gx _ _ (7, [(0, .ref (38 + n)), (1, .int x), (2, .int y), (3, .int z)], [.int 1, .int 1, .ref (38 + n)], hp0) _
    have h33a : ¬ x < 0 := fun z => h33 (Or.inl z)
    have h33b : ¬ pn ≤ x := fun z => h33 (Or.inr z)
    rw [Int32.lt_iff_toInt_lt] at h33a
    rw [Int32.le_iff_toInt_le] at h33b
    refine px_gx (fun _ K => px_a 2 (f' := (15, [(0, .ref (38 + n)), (1, .int x), (2, .int y), (3, .int z)], [.int 0, .int 1, .ref (38 + n)], hp0)) rfl K) ?_
    refine px_gx (fun _ K => px_cv (38 + n) (as := [.int 1, .int 0]) (rest := []) rfl rfl hm rfl rfl rfl rfl (Nat.le_of_ble_eq_true rfl) (p_throwsIf_0 hm (by omega)) K) ?_
    show px_Gx _ _ (18, [(0, .ref (38 + n)), (1, .int x), (2, .int y), (3, .int z)], [.int 0], hp0.set (38 + n) (4, [.int 0, .int w, .int h, .ref (39 + n), .int pn, .ref (40 + n), .ref (41 + n), .ref (42 + n), .int pl, .ref (43 + n), .ref (44 + n), .ref (45 + n), .ref (46 + n), .int fo, .ref (47 + n), .int le, .ref (48 + n), .int ru, .ref (49 + n), .ref (50 + n), .ref (51 + n)])) _
    have hm35 : (hp0.set (38 + n) (4, [.int 0, .int w, .int h, .ref (39 + n), .int pn, .ref (40 + n), .ref (41 + n), .ref (42 + n), .int pl, .ref (43 + n), .ref (44 + n), .ref (45 + n), .ref (46 + n), .int fo, .ref (47 + n), .int le, .ref (48 + n), .int ru, .ref (49 + n), .ref (50 + n), .ref (51 + n)]))[38 + n]? = some (4, [.int 0, .int w, .int h, .ref (39 + n), .int pn, .ref (40 + n), .ref (41 + n), .ref (42 + n), .int pl, .ref (43 + n), .ref (44 + n), .ref (45 + n), .ref (46 + n), .int fo, .ref (47 + n), .int le, .ref (48 + n), .int ru, .ref (49 + n), .ref (50 + n), .ref (51 + n)]) := px_self hm
    have H35 : pa_Hi n (hp0.set (38 + n) (4, [.int 0, .int w, .int h, .ref (39 + n), .int pn, .ref (40 + n), .ref (41 + n), .ref (42 + n), .int pl, .ref (43 + n), .ref (44 + n), .ref (45 + n), .ref (46 + n), .int fo, .ref (47 + n), .int le, .ref (48 + n), .int ru, .ref (49 + n), .ref (50 + n), .ref (51 + n)])) := pa_ms (k := 0) (v := .int 0) H hm rfl (pa_in (by omega) (by omega))
    have F35 : pa_Fr n [(24, 0), (24, 13), (26, 0), (27, 0)] hp0 (hp0.set (38 + n) (4, [.int 0, .int w, .int h, .ref (39 + n), .int pn, .ref (40 + n), .ref (41 + n), .ref (42 + n), .int pl, .ref (43 + n), .ref (44 + n), .ref (45 + n), .ref (46 + n), .int fo, .ref (47 + n), .int le, .ref (48 + n), .int ru, .ref (49 + n), .ref (50 + n), .ref (51 + n)])) := F0.trans (pa_mf (k := 0) (v := .int 0) hm (by decide) (by decide))
    have L35 : (hp0.set (38 + n) (4, [.int 0, .int w, .int h, .ref (39 + n), .int pn, .ref (40 + n), .ref (41 + n), .ref (42 + n), .int pl, .ref (43 + n), .ref (44 + n), .ref (45 + n), .ref (46 + n), .int fo, .ref (47 + n), .int le, .ref (48 + n), .int ru, .ref (49 + n), .ref (50 + n), .ref (51 + n)])).length = hp0.length := List.length_set.trans L0
    generalize hp0.set (38 + n) (4, [.int 0, .int w, .int h, .ref (39 + n), .int pn, .ref (40 + n), .ref (41 + n), .ref (42 + n), .int pl, .ref (43 + n), .ref (44 + n), .ref (45 + n), .ref (46 + n), .int fo, .ref (47 + n), .int le, .ref (48 + n), .int ru, .ref (49 + n), .ref (50 + n), .ref (51 + n)]) = hp35 at hm35 H35 F35 L35 ⊢
    refine px_gx (fun _ K => px_a 4 (f' := (24, [(0, .ref (38 + n)), (1, .int x), (2, .int y), (3, .int z)], [.int y, .int 2, .ref (38 + n)], hp35)) rfl K) ?_
    by_cases h36 : y < 0
    · have h36' := h36
      rw [Int32.lt_iff_toInt_lt] at h36'
      refine px_gx (fun _ K => px_b1 true 41 rfl rfl (decide_eq_true h36) K) ?_
      show px_Gx _ _ (41, [(0, .ref (38 + n)), (1, .int x), (2, .int y), (3, .int z)], [.int 2, .ref (38 + n)], hp35) _
      refine px_gx (fun _ K => px_a 2 (f' := (46, [(0, .ref (38 + n)), (1, .int x), (2, .int y), (3, .int z)], [.int 1, .int 2, .ref (38 + n)], hp35)) rfl K) ?_
      refine px_gx (fun _ K => px_cv (38 + n) (as := [.int 2, .int 1]) (rest := []) rfl rfl hm35 rfl rfl rfl rfl (Nat.le_of_ble_eq_true rfl) (p_throwsIf_1 hm35 (by omega)) K) ?_
      show px_Gx _ _ (49, [(0, .ref (38 + n)), (1, .int x), (2, .int y), (3, .int z)], [.int 1], hp35.set (38 + n) (4, [.int 2, .int w, .int h, .ref (39 + n), .int pn, .ref (40 + n), .ref (41 + n), .ref (42 + n), .int pl, .ref (43 + n), .ref (44 + n), .ref (45 + n), .ref (46 + n), .int fo, .ref (47 + n), .int le, .ref (48 + n), .int ru, .ref (49 + n), .ref (50 + n), .ref (51 + n)])) _
      have hm37 : (hp35.set (38 + n) (4, [.int 2, .int w, .int h, .ref (39 + n), .int pn, .ref (40 + n), .ref (41 + n), .ref (42 + n), .int pl, .ref (43 + n), .ref (44 + n), .ref (45 + n), .ref (46 + n), .int fo, .ref (47 + n), .int le, .ref (48 + n), .int ru, .ref (49 + n), .ref (50 + n), .ref (51 + n)]))[38 + n]? = some (4, [.int 2, .int w, .int h, .ref (39 + n), .int pn, .ref (40 + n), .ref (41 + n), .ref (42 + n), .int pl, .ref (43 + n), .ref (44 + n), .ref (45 + n), .ref (46 + n), .int fo, .ref (47 + n), .int le, .ref (48 + n), .int ru, .ref (49 + n), .ref (50 + n), .ref (51 + n)]) := px_self hm35
      have H37 : pa_Hi n (hp35.set (38 + n) (4, [.int 2, .int w, .int h, .ref (39 + n), .int pn, .ref (40 + n), .ref (41 + n), .ref (42 + n), .int pl, .ref (43 + n), .ref (44 + n), .ref (45 + n), .ref (46 + n), .int fo, .ref (47 + n), .int le, .ref (48 + n), .int ru, .ref (49 + n), .ref (50 + n), .ref (51 + n)])) := pa_ms (k := 0) (v := .int 2) H35 hm35 rfl (pa_in (by omega) (by omega))
      have F37 : pa_Fr n [(24, 0), (24, 13), (26, 0), (27, 0)] hp0 (hp35.set (38 + n) (4, [.int 2, .int w, .int h, .ref (39 + n), .int pn, .ref (40 + n), .ref (41 + n), .ref (42 + n), .int pl, .ref (43 + n), .ref (44 + n), .ref (45 + n), .ref (46 + n), .int fo, .ref (47 + n), .int le, .ref (48 + n), .int ru, .ref (49 + n), .ref (50 + n), .ref (51 + n)])) := F35.trans (pa_mf (k := 0) (v := .int 2) hm35 (by decide) (by decide))
      have L37 : (hp35.set (38 + n) (4, [.int 2, .int w, .int h, .ref (39 + n), .int pn, .ref (40 + n), .ref (41 + n), .ref (42 + n), .int pl, .ref (43 + n), .ref (44 + n), .ref (45 + n), .ref (46 + n), .int fo, .ref (47 + n), .int le, .ref (48 + n), .int ru, .ref (49 + n), .ref (50 + n), .ref (51 + n)])).length = hp0.length := List.length_set.trans L35
      generalize hp35.set (38 + n) (4, [.int 2, .int w, .int h, .ref (39 + n), .int pn, .ref (40 + n), .ref (41 + n), .ref (42 + n), .int pl, .ref (43 + n), .ref (44 + n), .ref (45 + n), .ref (46 + n), .int fo, .ref (47 + n), .int le, .ref (48 + n), .int ru, .ref (49 + n), .ref (50 + n), .ref (51 + n)]) = hp37 at hm37 H37 F37 L37 ⊢
      refine px_gx (fun _ K => px_a 2 (f' := (53, [(0, .ref (38 + n)), (1, .int x), (2, .int y), (3, .int z)], [.int 0], hp37)) rfl K) ?_
      exact ⟨_, _, px_ri rfl rfl rfl, H37, F37, Or.inl ⟨_, rfl, pa_in (by omega) (by omega), L37⟩⟩
    · have h36' := h36
      rw [Int32.lt_iff_toInt_lt] at h36'
      refine px_gx (fun _ K => px_b1 false 41 rfl rfl (decide_eq_false h36) K) ?_
      show px_Gx _ _ (27, [(0, .ref (38 + n)), (1, .int x), (2, .int y), (3, .int z)], [.int 2, .ref (38 + n)], hp35) _
      refine px_gx (fun _ K => px_a 2 (f' := (29, [(0, .ref (38 + n)), (1, .int x), (2, .int y), (3, .int z)], [.int 3, .int y, .int 2, .ref (38 + n)], hp35)) rfl K) ?_
      by_cases h38 : (3 : Int32) < y
      · have h38' := h38
        rw [Int32.lt_iff_toInt_lt] at h38'
        refine px_gx (fun _ K => px_b2 true 41 rfl rfl (decide_eq_true h38) K) ?_
        show px_Gx _ _ (41, [(0, .ref (38 + n)), (1, .int x), (2, .int y), (3, .int z)], [.int 2, .ref (38 + n)], hp35) _
        refine px_gx (fun _ K => px_a 2 (f' := (46, [(0, .ref (38 + n)), (1, .int x), (2, .int y), (3, .int z)], [.int 1, .int 2, .ref (38 + n)], hp35)) rfl K) ?_
        refine px_gx (fun _ K => px_cv (38 + n) (as := [.int 2, .int 1]) (rest := []) rfl rfl hm35 rfl rfl rfl rfl (Nat.le_of_ble_eq_true rfl) (p_throwsIf_1 hm35 (by omega)) K) ?_
        show px_Gx _ _ (49, [(0, .ref (38 + n)), (1, .int x), (2, .int y), (3, .int z)], [.int 1], hp35.set (38 + n) (4, [.int 2, .int w, .int h, .ref (39 + n), .int pn, .ref (40 + n), .ref (41 + n), .ref (42 + n), .int pl, .ref (43 + n), .ref (44 + n), .ref (45 + n), .ref (46 + n), .int fo, .ref (47 + n), .int le, .ref (48 + n), .int ru, .ref (49 + n), .ref (50 + n), .ref (51 + n)])) _
        have hm39 : (hp35.set (38 + n) (4, [.int 2, .int w, .int h, .ref (39 + n), .int pn, .ref (40 + n), .ref (41 + n), .ref (42 + n), .int pl, .ref (43 + n), .ref (44 + n), .ref (45 + n), .ref (46 + n), .int fo, .ref (47 + n), .int le, .ref (48 + n), .int ru, .ref (49 + n), .ref (50 + n), .ref (51 + n)]))[38 + n]? = some (4, [.int 2, .int w, .int h, .ref (39 + n), .int pn, .ref (40 + n), .ref (41 + n), .ref (42 + n), .int pl, .ref (43 + n), .ref (44 + n), .ref (45 + n), .ref (46 + n), .int fo, .ref (47 + n), .int le, .ref (48 + n), .int ru, .ref (49 + n), .ref (50 + n), .ref (51 + n)]) := px_self hm35
        have H39 : pa_Hi n (hp35.set (38 + n) (4, [.int 2, .int w, .int h, .ref (39 + n), .int pn, .ref (40 + n), .ref (41 + n), .ref (42 + n), .int pl, .ref (43 + n), .ref (44 + n), .ref (45 + n), .ref (46 + n), .int fo, .ref (47 + n), .int le, .ref (48 + n), .int ru, .ref (49 + n), .ref (50 + n), .ref (51 + n)])) := pa_ms (k := 0) (v := .int 2) H35 hm35 rfl (pa_in (by omega) (by omega))
        have F39 : pa_Fr n [(24, 0), (24, 13), (26, 0), (27, 0)] hp0 (hp35.set (38 + n) (4, [.int 2, .int w, .int h, .ref (39 + n), .int pn, .ref (40 + n), .ref (41 + n), .ref (42 + n), .int pl, .ref (43 + n), .ref (44 + n), .ref (45 + n), .ref (46 + n), .int fo, .ref (47 + n), .int le, .ref (48 + n), .int ru, .ref (49 + n), .ref (50 + n), .ref (51 + n)])) := F35.trans (pa_mf (k := 0) (v := .int 2) hm35 (by decide) (by decide))
        have L39 : (hp35.set (38 + n) (4, [.int 2, .int w, .int h, .ref (39 + n), .int pn, .ref (40 + n), .ref (41 + n), .ref (42 + n), .int pl, .ref (43 + n), .ref (44 + n), .ref (45 + n), .ref (46 + n), .int fo, .ref (47 + n), .int le, .ref (48 + n), .int ru, .ref (49 + n), .ref (50 + n), .ref (51 + n)])).length = hp0.length := List.length_set.trans L35
        generalize hp35.set (38 + n) (4, [.int 2, .int w, .int h, .ref (39 + n), .int pn, .ref (40 + n), .ref (41 + n), .ref (42 + n), .int pl, .ref (43 + n), .ref (44 + n), .ref (45 + n), .ref (46 + n), .int fo, .ref (47 + n), .int le, .ref (48 + n), .int ru, .ref (49 + n), .ref (50 + n), .ref (51 + n)]) = hp39 at hm39 H39 F39 L39 ⊢
        refine px_gx (fun _ K => px_a 2 (f' := (53, [(0, .ref (38 + n)), (1, .int x), (2, .int y), (3, .int z)], [.int 0], hp39)) rfl K) ?_
        exact ⟨_, _, px_ri rfl rfl rfl, H39, F39, Or.inl ⟨_, rfl, pa_in (by omega) (by omega), L39⟩⟩
      · have h38' := h38
        rw [Int32.lt_iff_toInt_lt] at h38'
        refine px_gx (fun _ K => px_b2 false 41 rfl rfl (decide_eq_false h38) K) ?_
        show px_Gx _ _ (32, [(0, .ref (38 + n)), (1, .int x), (2, .int y), (3, .int z)], [.int 2, .ref (38 + n)], hp35) _
        refine px_gx (fun _ K => px_a 1 (f' := (33, [(0, .ref (38 + n)), (1, .int x), (2, .int y), (3, .int z)], [.int z, .int 2, .ref (38 + n)], hp35)) rfl K) ?_
        by_cases h40 : z < 0
        · have h40' := h40
          rw [Int32.lt_iff_toInt_lt] at h40'
          refine px_gx (fun _ K => px_b1 true 41 rfl rfl (decide_eq_true h40) K) ?_
          show px_Gx _ _ (41, [(0, .ref (38 + n)), (1, .int x), (2, .int y), (3, .int z)], [.int 2, .ref (38 + n)], hp35) _
          refine px_gx (fun _ K => px_a 2 (f' := (46, [(0, .ref (38 + n)), (1, .int x), (2, .int y), (3, .int z)], [.int 1, .int 2, .ref (38 + n)], hp35)) rfl K) ?_
          refine px_gx (fun _ K => px_cv (38 + n) (as := [.int 2, .int 1]) (rest := []) rfl rfl hm35 rfl rfl rfl rfl (Nat.le_of_ble_eq_true rfl) (p_throwsIf_1 hm35 (by omega)) K) ?_
          show px_Gx _ _ (49, [(0, .ref (38 + n)), (1, .int x), (2, .int y), (3, .int z)], [.int 1], hp35.set (38 + n) (4, [.int 2, .int w, .int h, .ref (39 + n), .int pn, .ref (40 + n), .ref (41 + n), .ref (42 + n), .int pl, .ref (43 + n), .ref (44 + n), .ref (45 + n), .ref (46 + n), .int fo, .ref (47 + n), .int le, .ref (48 + n), .int ru, .ref (49 + n), .ref (50 + n), .ref (51 + n)])) _
          have hm41 : (hp35.set (38 + n) (4, [.int 2, .int w, .int h, .ref (39 + n), .int pn, .ref (40 + n), .ref (41 + n), .ref (42 + n), .int pl, .ref (43 + n), .ref (44 + n), .ref (45 + n), .ref (46 + n), .int fo, .ref (47 + n), .int le, .ref (48 + n), .int ru, .ref (49 + n), .ref (50 + n), .ref (51 + n)]))[38 + n]? = some (4, [.int 2, .int w, .int h, .ref (39 + n), .int pn, .ref (40 + n), .ref (41 + n), .ref (42 + n), .int pl, .ref (43 + n), .ref (44 + n), .ref (45 + n), .ref (46 + n), .int fo, .ref (47 + n), .int le, .ref (48 + n), .int ru, .ref (49 + n), .ref (50 + n), .ref (51 + n)]) := px_self hm35
          have H41 : pa_Hi n (hp35.set (38 + n) (4, [.int 2, .int w, .int h, .ref (39 + n), .int pn, .ref (40 + n), .ref (41 + n), .ref (42 + n), .int pl, .ref (43 + n), .ref (44 + n), .ref (45 + n), .ref (46 + n), .int fo, .ref (47 + n), .int le, .ref (48 + n), .int ru, .ref (49 + n), .ref (50 + n), .ref (51 + n)])) := pa_ms (k := 0) (v := .int 2) H35 hm35 rfl (pa_in (by omega) (by omega))
          have F41 : pa_Fr n [(24, 0), (24, 13), (26, 0), (27, 0)] hp0 (hp35.set (38 + n) (4, [.int 2, .int w, .int h, .ref (39 + n), .int pn, .ref (40 + n), .ref (41 + n), .ref (42 + n), .int pl, .ref (43 + n), .ref (44 + n), .ref (45 + n), .ref (46 + n), .int fo, .ref (47 + n), .int le, .ref (48 + n), .int ru, .ref (49 + n), .ref (50 + n), .ref (51 + n)])) := F35.trans (pa_mf (k := 0) (v := .int 2) hm35 (by decide) (by decide))
          have L41 : (hp35.set (38 + n) (4, [.int 2, .int w, .int h, .ref (39 + n), .int pn, .ref (40 + n), .ref (41 + n), .ref (42 + n), .int pl, .ref (43 + n), .ref (44 + n), .ref (45 + n), .ref (46 + n), .int fo, .ref (47 + n), .int le, .ref (48 + n), .int ru, .ref (49 + n), .ref (50 + n), .ref (51 + n)])).length = hp0.length := List.length_set.trans L35
          generalize hp35.set (38 + n) (4, [.int 2, .int w, .int h, .ref (39 + n), .int pn, .ref (40 + n), .ref (41 + n), .ref (42 + n), .int pl, .ref (43 + n), .ref (44 + n), .ref (45 + n), .ref (46 + n), .int fo, .ref (47 + n), .int le, .ref (48 + n), .int ru, .ref (49 + n), .ref (50 + n), .ref (51 + n)]) = hp41 at hm41 H41 F41 L41 ⊢
          refine px_gx (fun _ K => px_a 2 (f' := (53, [(0, .ref (38 + n)), (1, .int x), (2, .int y), (3, .int z)], [.int 0], hp41)) rfl K) ?_
          exact ⟨_, _, px_ri rfl rfl rfl, H41, F41, Or.inl ⟨_, rfl, pa_in (by omega) (by omega), L41⟩⟩
        · have h40' := h40
          rw [Int32.lt_iff_toInt_lt] at h40'
          refine px_gx (fun _ K => px_b1 false 41 rfl rfl (decide_eq_false h40) K) ?_
          show px_Gx _ _ (36, [(0, .ref (38 + n)), (1, .int x), (2, .int y), (3, .int z)], [.int 2, .ref (38 + n)], hp35) _
          refine px_gx (fun _ K => px_a 2 (f' := (38, [(0, .ref (38 + n)), (1, .int x), (2, .int y), (3, .int z)], [.int 3, .int z, .int 2, .ref (38 + n)], hp35)) rfl K) ?_
          by_cases h42 : z ≤ 3
          · have h42' := h42
            rw [Int32.le_iff_toInt_le] at h42'
            refine px_gx (fun _ K => px_b2 true 45 rfl rfl (decide_eq_true h42) K) ?_
            show px_Gx _ _ (45, [(0, .ref (38 + n)), (1, .int x), (2, .int y), (3, .int z)], [.int 2, .ref (38 + n)], hp35) _
            refine px_gx (fun _ K => px_a 1 (f' := (46, [(0, .ref (38 + n)), (1, .int x), (2, .int y), (3, .int z)], [.int 0, .int 2, .ref (38 + n)], hp35)) rfl K) ?_
            refine px_gx (fun _ K => px_cv (38 + n) (as := [.int 2, .int 0]) (rest := []) rfl rfl hm35 rfl rfl rfl rfl (Nat.le_of_ble_eq_true rfl) (p_throwsIf_0 hm35 (by omega)) K) ?_
            show px_Gx _ _ (49, [(0, .ref (38 + n)), (1, .int x), (2, .int y), (3, .int z)], [.int 0], hp35.set (38 + n) (4, [.int 0, .int w, .int h, .ref (39 + n), .int pn, .ref (40 + n), .ref (41 + n), .ref (42 + n), .int pl, .ref (43 + n), .ref (44 + n), .ref (45 + n), .ref (46 + n), .int fo, .ref (47 + n), .int le, .ref (48 + n), .int ru, .ref (49 + n), .ref (50 + n), .ref (51 + n)])) _
            have hm43 : (hp35.set (38 + n) (4, [.int 0, .int w, .int h, .ref (39 + n), .int pn, .ref (40 + n), .ref (41 + n), .ref (42 + n), .int pl, .ref (43 + n), .ref (44 + n), .ref (45 + n), .ref (46 + n), .int fo, .ref (47 + n), .int le, .ref (48 + n), .int ru, .ref (49 + n), .ref (50 + n), .ref (51 + n)]))[38 + n]? = some (4, [.int 0, .int w, .int h, .ref (39 + n), .int pn, .ref (40 + n), .ref (41 + n), .ref (42 + n), .int pl, .ref (43 + n), .ref (44 + n), .ref (45 + n), .ref (46 + n), .int fo, .ref (47 + n), .int le, .ref (48 + n), .int ru, .ref (49 + n), .ref (50 + n), .ref (51 + n)]) := px_self hm35
            have H43 : pa_Hi n (hp35.set (38 + n) (4, [.int 0, .int w, .int h, .ref (39 + n), .int pn, .ref (40 + n), .ref (41 + n), .ref (42 + n), .int pl, .ref (43 + n), .ref (44 + n), .ref (45 + n), .ref (46 + n), .int fo, .ref (47 + n), .int le, .ref (48 + n), .int ru, .ref (49 + n), .ref (50 + n), .ref (51 + n)])) := pa_ms (k := 0) (v := .int 0) H35 hm35 rfl (pa_in (by omega) (by omega))
            have F43 : pa_Fr n [(24, 0), (24, 13), (26, 0), (27, 0)] hp0 (hp35.set (38 + n) (4, [.int 0, .int w, .int h, .ref (39 + n), .int pn, .ref (40 + n), .ref (41 + n), .ref (42 + n), .int pl, .ref (43 + n), .ref (44 + n), .ref (45 + n), .ref (46 + n), .int fo, .ref (47 + n), .int le, .ref (48 + n), .int ru, .ref (49 + n), .ref (50 + n), .ref (51 + n)])) := F35.trans (pa_mf (k := 0) (v := .int 0) hm35 (by decide) (by decide))
            have L43 : (hp35.set (38 + n) (4, [.int 0, .int w, .int h, .ref (39 + n), .int pn, .ref (40 + n), .ref (41 + n), .ref (42 + n), .int pl, .ref (43 + n), .ref (44 + n), .ref (45 + n), .ref (46 + n), .int fo, .ref (47 + n), .int le, .ref (48 + n), .int ru, .ref (49 + n), .ref (50 + n), .ref (51 + n)])).length = hp0.length := List.length_set.trans L35
            generalize hp35.set (38 + n) (4, [.int 0, .int w, .int h, .ref (39 + n), .int pn, .ref (40 + n), .ref (41 + n), .ref (42 + n), .int pl, .ref (43 + n), .ref (44 + n), .ref (45 + n), .ref (46 + n), .int fo, .ref (47 + n), .int le, .ref (48 + n), .int ru, .ref (49 + n), .ref (50 + n), .ref (51 + n)]) = hp43 at hm43 H43 F43 L43 ⊢
            refine px_gx (fun _ K => px_a 3 (f' := (57, [(4, .int 0), (0, .ref (38 + n)), (1, .int x), (2, .int y), (3, .int z)], [], hp43)) rfl K) ?_
            exact m_square_l (x := x) (y := y) (z := z) hm43 (by omega) (by omega) (by omega) (by omega) (by omega) (by omega) (by omega) (by omega) (by omega) (by omega) (by omega) (by omega) (by omega) (by omega) (by omega) (by omega) H43 F43 L43 (by omega) (by omega) (by omega) (by omega) (by omega) (by omega) 7 0 (by omega) (by omega) (by omega)
          · have h42' := h42
            rw [Int32.le_iff_toInt_le] at h42'
            refine px_gx (fun _ K => px_b2 false 45 rfl rfl (decide_eq_false h42) K) ?_
            show px_Gx _ _ (41, [(0, .ref (38 + n)), (1, .int x), (2, .int y), (3, .int z)], [.int 2, .ref (38 + n)], hp35) _
            refine px_gx (fun _ K => px_a 2 (f' := (46, [(0, .ref (38 + n)), (1, .int x), (2, .int y), (3, .int z)], [.int 1, .int 2, .ref (38 + n)], hp35)) rfl K) ?_
            refine px_gx (fun _ K => px_cv (38 + n) (as := [.int 2, .int 1]) (rest := []) rfl rfl hm35 rfl rfl rfl rfl (Nat.le_of_ble_eq_true rfl) (p_throwsIf_1 hm35 (by omega)) K) ?_
            show px_Gx _ _ (49, [(0, .ref (38 + n)), (1, .int x), (2, .int y), (3, .int z)], [.int 1], hp35.set (38 + n) (4, [.int 2, .int w, .int h, .ref (39 + n), .int pn, .ref (40 + n), .ref (41 + n), .ref (42 + n), .int pl, .ref (43 + n), .ref (44 + n), .ref (45 + n), .ref (46 + n), .int fo, .ref (47 + n), .int le, .ref (48 + n), .int ru, .ref (49 + n), .ref (50 + n), .ref (51 + n)])) _
            have hm44 : (hp35.set (38 + n) (4, [.int 2, .int w, .int h, .ref (39 + n), .int pn, .ref (40 + n), .ref (41 + n), .ref (42 + n), .int pl, .ref (43 + n), .ref (44 + n), .ref (45 + n), .ref (46 + n), .int fo, .ref (47 + n), .int le, .ref (48 + n), .int ru, .ref (49 + n), .ref (50 + n), .ref (51 + n)]))[38 + n]? = some (4, [.int 2, .int w, .int h, .ref (39 + n), .int pn, .ref (40 + n), .ref (41 + n), .ref (42 + n), .int pl, .ref (43 + n), .ref (44 + n), .ref (45 + n), .ref (46 + n), .int fo, .ref (47 + n), .int le, .ref (48 + n), .int ru, .ref (49 + n), .ref (50 + n), .ref (51 + n)]) := px_self hm35
            have H44 : pa_Hi n (hp35.set (38 + n) (4, [.int 2, .int w, .int h, .ref (39 + n), .int pn, .ref (40 + n), .ref (41 + n), .ref (42 + n), .int pl, .ref (43 + n), .ref (44 + n), .ref (45 + n), .ref (46 + n), .int fo, .ref (47 + n), .int le, .ref (48 + n), .int ru, .ref (49 + n), .ref (50 + n), .ref (51 + n)])) := pa_ms (k := 0) (v := .int 2) H35 hm35 rfl (pa_in (by omega) (by omega))
            have F44 : pa_Fr n [(24, 0), (24, 13), (26, 0), (27, 0)] hp0 (hp35.set (38 + n) (4, [.int 2, .int w, .int h, .ref (39 + n), .int pn, .ref (40 + n), .ref (41 + n), .ref (42 + n), .int pl, .ref (43 + n), .ref (44 + n), .ref (45 + n), .ref (46 + n), .int fo, .ref (47 + n), .int le, .ref (48 + n), .int ru, .ref (49 + n), .ref (50 + n), .ref (51 + n)])) := F35.trans (pa_mf (k := 0) (v := .int 2) hm35 (by decide) (by decide))
            have L44 : (hp35.set (38 + n) (4, [.int 2, .int w, .int h, .ref (39 + n), .int pn, .ref (40 + n), .ref (41 + n), .ref (42 + n), .int pl, .ref (43 + n), .ref (44 + n), .ref (45 + n), .ref (46 + n), .int fo, .ref (47 + n), .int le, .ref (48 + n), .int ru, .ref (49 + n), .ref (50 + n), .ref (51 + n)])).length = hp0.length := List.length_set.trans L35
            generalize hp35.set (38 + n) (4, [.int 2, .int w, .int h, .ref (39 + n), .int pn, .ref (40 + n), .ref (41 + n), .ref (42 + n), .int pl, .ref (43 + n), .ref (44 + n), .ref (45 + n), .ref (46 + n), .int fo, .ref (47 + n), .int le, .ref (48 + n), .int ru, .ref (49 + n), .ref (50 + n), .ref (51 + n)]) = hp44 at hm44 H44 F44 L44 ⊢
            refine px_gx (fun _ K => px_a 2 (f' := (53, [(0, .ref (38 + n)), (1, .int x), (2, .int y), (3, .int z)], [.int 0], hp44)) rfl K) ?_
            exact ⟨_, _, px_ri rfl rfl rfl, H44, F44, Or.inl ⟨_, rfl, pa_in (by omega) (by omega), L44⟩⟩
theorem ct_94 {n : Nat} (hN : pa_N n) : pa_Ct pa_tb n 94 ck_94 3 := by
  intro as hp H ha
  obtain ⟨u0, us0, rfl, ⟨a, rfl, ha24, -⟩, ha1⟩ := pa_as1 ha
  obtain rfl := pa_g24 ha24
  obtain ⟨u1, us1, rfl, ⟨x, rfl, x1, x2⟩, ha2⟩ := pa_as1 ha1
  obtain ⟨u2, us2, rfl, ⟨y, rfl, y1, y2⟩, ha3⟩ := pa_as1 ha2
  obtain ⟨u3, us3, rfl, ⟨z, rfl, z1, z2⟩, ha4⟩ := pa_as1 ha3
  obtain rfl := pa_as0 ha4
  obtain ⟨th, w, h, pn, pl, fo, le, ru, hm, bth1, bth2, bw1, bw2, bh1, bh2, bpn1, bpn2, bpl1, bpl2, bfo1, bfo2, ble1, ble2, bru1, bru2⟩ := pa_mod H
  obtain ⟨o, hp', hg, hP⟩ := m_square (x := x) (y := y) (z := z) (d := 2) hm bth1 bth2 bw1 bw2 bh1 bh2 bpn1 bpn2 bpl1 bpl2 bfo1 bfo2 ble1 ble2 bru1 bru2 H
  exact ⟨o, hp', hg, hP, Or.inl rfl⟩
def ck_93 : pa_K := ([pa_rf 24], some (pa_i 0 1), false, [(24, 0), (37, 0)])
set_option maxRecDepth 20000 in
set_option maxHeartbeats 4000000 in
theorem m_sizes_p {d n : Nat} {hp0 : px_H} {th w h pn pl fo le ru : Int32} (bth1 : 0 ≤ th.toInt) (bth2 : th.toInt ≤ 2) (bw1 : 1 ≤ w.toInt) (bw2 : w.toInt ≤ 6) (bh1 : 1 ≤ h.toInt) (bh2 : h.toInt ≤ 6) (bpn1 : 0 ≤ pn.toInt) (bpn2 : pn.toInt ≤ 6) (bpl1 : 0 ≤ pl.toInt) (bpl2 : pl.toInt ≤ 512) (bfo1 : 0 ≤ fo.toInt) (bfo2 : fo.toInt ≤ 1) (ble1 : 0 ≤ le.toInt) (ble2 : le.toInt ≤ 200) (bru1 : 0 ≤ ru.toInt) (bru2 : ru.toInt ≤ 200) {al v : Int32} {P : px_O → px_H → Prop} (v1 : 0 ≤ v.toInt) (v2 : v.toInt ≤ 36) (K : ∀ (i : Int32) hp (hm : hp[38 + n]? = some (4, [.int th, .int w, .int h, .ref (39 + n), .int pn, .ref (40 + n), .ref (41 + n), .ref (42 + n), .int pl, .ref (43 + n), .ref (44 + n), .ref (45 + n), .ref (46 + n), .int fo, .ref (47 + n), .int le, .ref (48 + n), .int ru, .ref (49 + n), .ref (50 + n), .ref (51 + n)])) (H : pa_Hi n hp) (F : pa_Fr n [(24, 0), (37, 0)] hp0 hp) (L : hp.length = hp0.length), px_Gx d 93 (90, [(3, .int i), (2, .int v), (1, .int al), (0, .ref (38 + n))], [], hp) P) : ∀ (k : Nat) (i : Int32) hp (hm : hp[38 + n]? = some (4, [.int th, .int w, .int h, .ref (39 + n), .int pn, .ref (40 + n), .ref (41 + n), .ref (42 + n), .int pl, .ref (43 + n), .ref (44 + n), .ref (45 + n), .ref (46 + n), .int fo, .ref (47 + n), .int le, .ref (48 + n), .int ru, .ref (49 + n), .ref (50 + n), .ref (51 + n)])) (H : pa_Hi n hp) (F0 : pa_Fr n [(24, 0), (37, 0)] hp0 hp) (L0 : hp.length = hp0.length), i.toInt + k = 7 → 0 ≤ i.toInt → i.toInt ≤ 6 → px_Gx d 93 (34, [(3, .int i), (2, .int v), (1, .int al), (0, .ref (38 + n))], [], hp) P := by
  have cl0 : Int32.toInt 0 = 0 := rfl
  have cl1 : Int32.toInt 1 = 1 := rfl
  intro k
  induction k with
  | zero =>
    intro i hp hm H F0 L0 h1 h2 h3
    omega
  | succ k ih =>
    intro i hp hm H F0 L0 h1 h2 h3
    refine px_gx (fun _ K => px_a 2 (f' := (36, [(3, .int i), (2, .int v), (1, .int al), (0, .ref (38 + n))], [.ref (38 + n), .int i], hp)) rfl K) ?_
    refine px_gx (fun _ K => px_gf (38 + n) 61 4 4 (.int pn) rfl rfl hm rfl K) ?_
    show px_Gx _ _ (39, [(3, .int i), (2, .int v), (1, .int al), (0, .ref (38 + n))], [.int pn, .int i], hp) _
    by_cases h45 : pn ≤ i
    · have h45' := h45
      rw [Int32.le_iff_toInt_le] at h45'
      refine px_gx (fun _ K => px_b2 true 90 rfl rfl (decide_eq_true h45) K) ?_
      show px_Gx _ _ (90, [(3, .int i), (2, .int v), (1, .int al), (0, .ref (38 + n))], [], hp) _
      exact K _ hp hm H F0 L0
    · have h45' := h45
      rw [Int32.le_iff_toInt_le] at h45'
      refine px_gx (fun _ K => px_b2 false 90 rfl rfl (decide_eq_false h45) K) ?_
      show px_Gx _ _ (42, [(3, .int i), (2, .int v), (1, .int al), (0, .ref (38 + n))], [], hp) _
      refine px_gx (fun _ K => px_a 1 (f' := (43, [(3, .int i), (2, .int v), (1, .int al), (0, .ref (38 + n))], [.ref (38 + n)], hp)) rfl K) ?_
      refine px_gx (fun _ K => px_gf (38 + n) 13 4 5 (.ref (40 + n)) rfl rfl hm rfl K) ?_
      show px_Gx _ _ (46, [(3, .int i), (2, .int v), (1, .int al), (0, .ref (38 + n))], [.ref (40 + n)], hp) _
      refine px_gx (fun _ K => px_a 1 (f' := (47, [(3, .int i), (2, .int v), (1, .int al), (0, .ref (38 + n))], [.int i, .ref (40 + n)], hp)) rfl K) ?_
      obtain ⟨vs47, hv47, hl47, hg47⟩ := pa_ara (a := 40 + n) (i := 8) (lo := 0) (hi := 6) H (by omega) (by decide) (by decide) rfl
      have hi46 : i.toNatClampNeg < vs47.length := by show (Int32.toInt i).toNat < _; omega
      obtain ⟨z46, ez46, lz46, uz46⟩ := hg47 _ hi46
      refine px_gx (fun _ K => px_al (40 + n) (.int z46) rfl hv47 (Or.inl ⟨rfl, Or.inl rfl⟩) (i32_nn (by omega)) ez46 K) ?_
      show px_Gx _ _ (48, [(3, .int i), (2, .int v), (1, .int al), (0, .ref (38 + n))], [.int z46], hp) _
      by_cases h48 : z46 ≤ 0
      · have h48' := h48
        rw [Int32.le_iff_toInt_le] at h48'
        refine px_gx (fun _ K => px_b1 true 84 rfl rfl (decide_eq_true h48) K) ?_
        show px_Gx _ _ (84, [(3, .int i), (2, .int v), (1, .int al), (0, .ref (38 + n))], [], hp) _
        refine px_gx (fun _ K => px_a 1 (f' := (87, [(3, .int (i + 1)), (2, .int v), (1, .int al), (0, .ref (38 + n))], [], hp)) rfl K) ?_
        obtain ⟨z49, ez49, fz49⟩ : ∃ q : Int32, q = i + 1 ∧ q.toInt = Int32.toInt i + Int32.toInt 1 := ⟨_, rfl, i32_add (by omega) (by omega)⟩
        rw [← ez49]
        refine px_gx (fun _ K => px_a 1 (f' := (34, [(3, .int z49), (2, .int v), (1, .int al), (0, .ref (38 + n))], [], hp)) rfl K) ?_
        exact ih z49 hp hm H F0 L0 (by omega) (by omega) (by omega)
      · have h48' := h48
        rw [Int32.le_iff_toInt_le] at h48'
        refine px_gx (fun _ K => px_b1 false 84 rfl rfl (decide_eq_false h48) K) ?_
        show px_Gx _ _ (51, [(3, .int i), (2, .int v), (1, .int al), (0, .ref (38 + n))], [], hp) _
        refine px_gx (fun _ K => px_a 2 (f' := (53, [(3, .int i), (2, .int v), (1, .int al), (0, .ref (38 + n))], [.ref (38 + n), .int v], hp)) rfl K) ?_
        refine px_gx (fun _ K => px_gf (38 + n) 13 4 5 (.ref (40 + n)) rfl rfl hm rfl K) ?_
        show px_Gx _ _ (56, [(3, .int i), (2, .int v), (1, .int al), (0, .ref (38 + n))], [.ref (40 + n), .int v], hp) _
        refine px_gx (fun _ K => px_a 1 (f' := (57, [(3, .int i), (2, .int v), (1, .int al), (0, .ref (38 + n))], [.int i, .ref (40 + n), .int v], hp)) rfl K) ?_
        refine px_gx (fun _ K => px_al (40 + n) (.int z46) rfl hv47 (Or.inl ⟨rfl, Or.inl rfl⟩) (i32_nn (by omega)) ez46 K) ?_
        show px_Gx _ _ (58, [(3, .int i), (2, .int v), (1, .int al), (0, .ref (38 + n))], [.int z46, .int v], hp) _
        by_cases h51 : v < z46
        · have h51' := h51
          rw [Int32.lt_iff_toInt_lt] at h51'
          refine px_gx (fun _ K => px_b2 true 84 rfl rfl (decide_eq_true h51) K) ?_
          show px_Gx _ _ (84, [(3, .int i), (2, .int v), (1, .int al), (0, .ref (38 + n))], [], hp) _
          refine px_gx (fun _ K => px_a 1 (f' := (87, [(3, .int (i + 1)), (2, .int v), (1, .int al), (0, .ref (38 + n))], [], hp)) rfl K) ?_
          obtain ⟨z52, ez52, fz52⟩ : ∃ q : Int32, q = i + 1 ∧ q.toInt = Int32.toInt i + Int32.toInt 1 := ⟨_, rfl, i32_add (by omega) (by omega)⟩
          rw [← ez52]
          refine px_gx (fun _ K => px_a 1 (f' := (34, [(3, .int z52), (2, .int v), (1, .int al), (0, .ref (38 + n))], [], hp)) rfl K) ?_
          exact ih z52 hp hm H F0 L0 (by omega) (by omega) (by omega)
        · have h51' := h51
          rw [Int32.lt_iff_toInt_lt] at h51'
          refine px_gx (fun _ K => px_b2 false 84 rfl rfl (decide_eq_false h51) K) ?_
          show px_Gx _ _ (61, [(3, .int i), (2, .int v), (1, .int al), (0, .ref (38 + n))], [], hp) _
          refine px_gx (fun _ K => px_a 1 (f' := (62, [(3, .int i), (2, .int v), (1, .int al), (0, .ref (38 + n))], [.ref (38 + n)], hp)) rfl K) ?_
          refine px_gx (fun _ K => px_gf (38 + n) 48 4 20 (.ref (51 + n)) rfl rfl hm rfl K) ?_
          show px_Gx _ _ (65, [(3, .int i), (2, .int v), (1, .int al), (0, .ref (38 + n))], [.ref (51 + n)], hp) _
          refine px_gx (fun _ K => px_a 2 (f' := (67, [(3, .int i), (2, .int v), (1, .int al), (0, .ref (38 + n))], [.ref (38 + n), .int v, .ref (51 + n)], hp)) rfl K) ?_
          refine px_gx (fun _ K => px_gf (38 + n) 13 4 5 (.ref (40 + n)) rfl rfl hm rfl K) ?_
          show px_Gx _ _ (70, [(3, .int i), (2, .int v), (1, .int al), (0, .ref (38 + n))], [.ref (40 + n), .int v, .ref (51 + n)], hp) _
          refine px_gx (fun _ K => px_a 1 (f' := (71, [(3, .int i), (2, .int v), (1, .int al), (0, .ref (38 + n))], [.int i, .ref (40 + n), .int v, .ref (51 + n)], hp)) rfl K) ?_
          refine px_gx (fun _ K => px_al (40 + n) (.int z46) rfl hv47 (Or.inl ⟨rfl, Or.inl rfl⟩) (i32_nn (by omega)) ez46 K) ?_
          show px_Gx _ _ (72, [(3, .int i), (2, .int v), (1, .int al), (0, .ref (38 + n))], [.int z46, .int v, .ref (51 + n)], hp) _
          refine px_gx (fun _ K => px_a 1 (f' := (73, [(3, .int i), (2, .int v), (1, .int al), (0, .ref (38 + n))], [.int (v - z46), .ref (51 + n)], hp)) rfl K) ?_
          obtain ⟨z54, ez54, fz54⟩ : ∃ q : Int32, q = v - z46 ∧ q.toInt = Int32.toInt v - Int32.toInt z46 := ⟨_, rfl, i32_sub (by omega) (by omega)⟩
          rw [← ez54]
          obtain ⟨vs56, hv56, hl56, hg56⟩ := pa_ara (a := 51 + n) (i := 19) (lo := 0) (hi := 1) H (by omega) (by decide) (by decide) rfl
          have hi55 : z54.toNatClampNeg < vs56.length := by show (Int32.toInt z54).toNat < _; omega
          obtain ⟨z55, ez55, lz55, uz55⟩ := hg56 _ hi55
          refine px_gx (fun _ K => px_al (51 + n) (.int z55) rfl hv56 (Or.inr (Or.inr (Or.inl ⟨rfl, rfl⟩))) (i32_nn (by omega)) ez55 K) ?_
          show px_Gx _ _ (74, [(3, .int i), (2, .int v), (1, .int al), (0, .ref (38 + n))], [.int z55], hp) _
          by_cases h57 : z55 = 0
          · have h57' := h57
            replace h57' := congrArg Int32.toInt h57
            refine px_gx (fun _ K => px_b1 true 84 rfl rfl (decide_eq_true h57) K) ?_
            show px_Gx _ _ (84, [(3, .int i), (2, .int v), (1, .int al), (0, .ref (38 + n))], [], hp) _
            refine px_gx (fun _ K => px_a 1 (f' := (87, [(3, .int (i + 1)), (2, .int v), (1, .int al), (0, .ref (38 + n))], [], hp)) rfl K) ?_
            obtain ⟨z58, ez58, fz58⟩ : ∃ q : Int32, q = i + 1 ∧ q.toInt = Int32.toInt i + Int32.toInt 1 := ⟨_, rfl, i32_add (by omega) (by omega)⟩
            rw [← ez58]
            refine px_gx (fun _ K => px_a 1 (f' := (34, [(3, .int z58), (2, .int v), (1, .int al), (0, .ref (38 + n))], [], hp)) rfl K) ?_
            exact ih z58 hp hm H F0 L0 (by omega) (by omega) (by omega)
          · have h57' := h57
            have h57'' : Int32.toInt z55 ≠ Int32.toInt 0 := fun z => h57 (Int32.toInt_inj.mp z)
            refine px_gx (fun _ K => px_b1 false 84 rfl rfl (decide_eq_false h57) K) ?_
            show px_Gx _ _ (77, [(3, .int i), (2, .int v), (1, .int al), (0, .ref (38 + n))], [], hp) _
            refine px_gx (fun _ K => px_a 1 (f' := (78, [(3, .int i), (2, .int v), (1, .int al), (0, .ref (38 + n))], [.ref (38 + n)], hp)) rfl K) ?_
            refine px_gx (fun _ K => px_gf (38 + n) 48 4 20 (.ref (51 + n)) rfl rfl hm rfl K) ?_
            show px_Gx _ _ (81, [(3, .int i), (2, .int v), (1, .int al), (0, .ref (38 + n))], [.ref (51 + n)], hp) _
            refine px_gx (fun _ K => px_a 2 (f' := (83, [(3, .int i), (2, .int v), (1, .int al), (0, .ref (38 + n))], [.int 1, .int v, .ref (51 + n)], hp)) rfl K) ?_
            have hi59 : v.toNatClampNeg < vs56.length := by show (Int32.toInt v).toNat < _; omega
            refine px_gx (fun _ K => px_zas (51 + n) rfl hv56 (by omega) (i32_nn (by omega)) hi59 (pa_nb (by omega) (by omega)) K) ?_
            show px_Gx _ _ (84, [(3, .int i), (2, .int v), (1, .int al), (0, .ref (38 + n))], [], hp.set (51 + n) (12, vs56.set v.toNatClampNeg (.int 1))) _
            have hm59 : (hp.set (51 + n) (12, vs56.set v.toNatClampNeg (.int 1)))[38 + n]? = some (4, [.int th, .int w, .int h, .ref (39 + n), .int pn, .ref (40 + n), .ref (41 + n), .ref (42 + n), .int pl, .ref (43 + n), .ref (44 + n), .ref (45 + n), .ref (46 + n), .int fo, .ref (47 + n), .int le, .ref (48 + n), .int ru, .ref (49 + n), .ref (50 + n), .ref (51 + n)]) := px_ne hm (by omega)
            have H59 : pa_Hi n (hp.set (51 + n) (12, vs56.set v.toNatClampNeg (.int 1))) := pa_aS (i := 19) H (by omega) (by decide) (by decide) hv56 rfl (pa_in (by omega) (by omega))
            have F59 : pa_Fr n [(24, 0), (37, 0)] hp0 (hp.set (51 + n) (12, vs56.set v.toNatClampNeg (.int 1))) := F0.trans (pa_aF (i := 19) (by omega) (by decide) (by decide) hv56 (by decide) (by decide))
            have L59 : (hp.set (51 + n) (12, vs56.set v.toNatClampNeg (.int 1))).length = hp0.length := List.length_set.trans L0
            have hv47_59 : (hp.set (51 + n) (12, vs56.set v.toNatClampNeg (.int 1)))[40 + n]? = some (10, vs47) := px_ne hv47 (by omega)
            generalize hp.set (51 + n) (12, vs56.set v.toNatClampNeg (.int 1)) = hp59 at hm59 H59 F59 L59 hv47_59 ⊢
            refine px_gx (fun _ K => px_a 1 (f' := (87, [(3, .int (i + 1)), (2, .int v), (1, .int al), (0, .ref (38 + n))], [], hp59)) rfl K) ?_
            obtain ⟨z60, ez60, fz60⟩ : ∃ q : Int32, q = i + 1 ∧ q.toInt = Int32.toInt i + Int32.toInt 1 := ⟨_, rfl, i32_add (by omega) (by omega)⟩
            rw [← ez60]
            refine px_gx (fun _ K => px_a 1 (f' := (34, [(3, .int z60), (2, .int v), (1, .int al), (0, .ref (38 + n))], [], hp59)) rfl K) ?_
            exact ih z60 hp59 hm59 H59 F59 L59 (by omega) (by omega) (by omega)
set_option maxRecDepth 20000 in
set_option maxHeartbeats 4000000 in
theorem m_sizes_v {d n : Nat} {hp0 : px_H} {th w h pn pl fo le ru : Int32} (bth1 : 0 ≤ th.toInt) (bth2 : th.toInt ≤ 2) (bw1 : 1 ≤ w.toInt) (bw2 : w.toInt ≤ 6) (bh1 : 1 ≤ h.toInt) (bh2 : h.toInt ≤ 6) (bpn1 : 0 ≤ pn.toInt) (bpn2 : pn.toInt ≤ 6) (bpl1 : 0 ≤ pl.toInt) (bpl2 : pl.toInt ≤ 512) (bfo1 : 0 ≤ fo.toInt) (bfo2 : fo.toInt ≤ 1) (ble1 : 0 ≤ le.toInt) (ble2 : le.toInt ≤ 200) (bru1 : 0 ≤ ru.toInt) (bru2 : ru.toInt ≤ 200) {al : Int32} (a1 : 0 ≤ al.toInt) (a2 : al.toInt ≤ 36) : ∀ (k : Nat) (i v : Int32) hp (hm : hp[38 + n]? = some (4, [.int th, .int w, .int h, .ref (39 + n), .int pn, .ref (40 + n), .ref (41 + n), .ref (42 + n), .int pl, .ref (43 + n), .ref (44 + n), .ref (45 + n), .ref (46 + n), .int fo, .ref (47 + n), .int le, .ref (48 + n), .int ru, .ref (49 + n), .ref (50 + n), .ref (51 + n)])) (H : pa_Hi n hp) (F0 : pa_Fr n [(24, 0), (37, 0)] hp0 hp) (L0 : hp.length = hp0.length), v.toInt + k = 38 → 0 ≤ v.toInt → v.toInt ≤ 37 → px_Gx d 93 (12, [(2, .int v), (3, .int i), (1, .int al), (0, .ref (38 + n))], [], hp) (pa_Po n ck_93 hp0) := by
  have cl0 : Int32.toInt 0 = 0 := rfl
  have cl1 : Int32.toInt 1 = 1 := rfl
  intro k
  induction k with
  | zero =>
    intro i v hp hm H F0 L0 h1 h2 h3
    omega
  | succ k ih =>
    intro i v hp hm H F0 L0 h1 h2 h3
    refine px_gx (fun _ K => px_a 2 (f' := (14, [(2, .int v), (3, .int i), (1, .int al), (0, .ref (38 + n))], [.int al, .int v], hp)) rfl K) ?_
    by_cases h61 : al < v
    · have h61' := h61
      rw [Int32.lt_iff_toInt_lt] at h61'
      refine px_gx (fun _ K => px_b2 true 96 rfl rfl (decide_eq_true h61) K) ?_
      show px_Gx _ _ (96, [(2, .int v), (3, .int i), (1, .int al), (0, .ref (38 + n))], [], hp) _
      refine px_gx (fun _ K => px_a 1 (f' := (97, [(2, .int v), (3, .int i), (1, .int al), (0, .ref (38 + n))], [.ref (38 + n)], hp)) rfl K) ?_
      refine px_gx (fun _ K => px_gf (38 + n) 48 4 20 (.ref (51 + n)) rfl rfl hm rfl K) ?_
      show px_Gx _ _ (100, [(2, .int v), (3, .int i), (1, .int al), (0, .ref (38 + n))], [.ref (51 + n)], hp) _
      refine px_gx (fun _ K => px_a 1 (f' := (101, [(2, .int v), (3, .int i), (1, .int al), (0, .ref (38 + n))], [.int al, .ref (51 + n)], hp)) rfl K) ?_
      obtain ⟨vs63, hv63, hl63, hg63⟩ := pa_ara (a := 51 + n) (i := 19) (lo := 0) (hi := 1) H (by omega) (by decide) (by decide) rfl
      have hi62 : al.toNatClampNeg < vs63.length := by show (Int32.toInt al).toNat < _; omega
      obtain ⟨z62, ez62, lz62, uz62⟩ := hg63 _ hi62
      refine px_gx (fun _ K => px_al (51 + n) (.int z62) rfl hv63 (Or.inr (Or.inr (Or.inl ⟨rfl, rfl⟩))) (i32_nn (by omega)) ez62 K) ?_
      show px_Gx _ _ (102, [(2, .int v), (3, .int i), (1, .int al), (0, .ref (38 + n))], [.int z62], hp) _
      exact ⟨_, _, px_ri rfl rfl (pa_nb (by omega) (by omega)), H, F0, Or.inl ⟨_, rfl, pa_in (by omega) (by omega), L0⟩⟩
    · have h61' := h61
      rw [Int32.lt_iff_toInt_lt] at h61'
      refine px_gx (fun _ K => px_b2 false 96 rfl rfl (decide_eq_false h61) K) ?_
      show px_Gx _ _ (17, [(2, .int v), (3, .int i), (1, .int al), (0, .ref (38 + n))], [], hp) _
      refine px_gx (fun _ K => px_a 1 (f' := (18, [(2, .int v), (3, .int i), (1, .int al), (0, .ref (38 + n))], [.ref (38 + n)], hp)) rfl K) ?_
      refine px_gx (fun _ K => px_gf (38 + n) 48 4 20 (.ref (51 + n)) rfl rfl hm rfl K) ?_
      show px_Gx _ _ (21, [(2, .int v), (3, .int i), (1, .int al), (0, .ref (38 + n))], [.ref (51 + n)], hp) _
      refine px_gx (fun _ K => px_a 2 (f' := (23, [(2, .int v), (3, .int i), (1, .int al), (0, .ref (38 + n))], [.int v, .int v, .ref (51 + n)], hp)) rfl K) ?_
      by_cases h64 : ¬ v = 0
      · have h64' := h64
        have h64'' : Int32.toInt v ≠ Int32.toInt 0 := fun z => h64 (Int32.toInt_inj.mp z)
        refine px_gx (fun _ K => px_b1 true 30 rfl rfl (decide_eq_true h64) K) ?_
        show px_Gx _ _ (30, [(2, .int v), (3, .int i), (1, .int al), (0, .ref (38 + n))], [.int v, .ref (51 + n)], hp) _
        refine px_gx (fun _ K => px_a 1 (f' := (31, [(2, .int v), (3, .int i), (1, .int al), (0, .ref (38 + n))], [.int 0, .int v, .ref (51 + n)], hp)) rfl K) ?_
        obtain ⟨vs66, hv66, hl66, hg66⟩ := pa_ara (a := 51 + n) (i := 19) (lo := 0) (hi := 1) H (by omega) (by decide) (by decide) rfl
        have hi65 : v.toNatClampNeg < vs66.length := by show (Int32.toInt v).toNat < _; omega
        refine px_gx (fun _ K => px_zas (51 + n) rfl hv66 (by omega) (i32_nn (by omega)) hi65 (pa_nb (by omega) (by omega)) K) ?_
        show px_Gx _ _ (32, [(2, .int v), (3, .int i), (1, .int al), (0, .ref (38 + n))], [], hp.set (51 + n) (12, vs66.set v.toNatClampNeg (.int 0))) _
        have hm65 : (hp.set (51 + n) (12, vs66.set v.toNatClampNeg (.int 0)))[38 + n]? = some (4, [.int th, .int w, .int h, .ref (39 + n), .int pn, .ref (40 + n), .ref (41 + n), .ref (42 + n), .int pl, .ref (43 + n), .ref (44 + n), .ref (45 + n), .ref (46 + n), .int fo, .ref (47 + n), .int le, .ref (48 + n), .int ru, .ref (49 + n), .ref (50 + n), .ref (51 + n)]) := px_ne hm (by omega)
        have H65 : pa_Hi n (hp.set (51 + n) (12, vs66.set v.toNatClampNeg (.int 0))) := pa_aS (i := 19) H (by omega) (by decide) (by decide) hv66 rfl (pa_in (by omega) (by omega))
        have F65 : pa_Fr n [(24, 0), (37, 0)] hp0 (hp.set (51 + n) (12, vs66.set v.toNatClampNeg (.int 0))) := F0.trans (pa_aF (i := 19) (by omega) (by decide) (by decide) hv66 (by decide) (by decide))
        have L65 : (hp.set (51 + n) (12, vs66.set v.toNatClampNeg (.int 0))).length = hp0.length := List.length_set.trans L0
        generalize hp.set (51 + n) (12, vs66.set v.toNatClampNeg (.int 0)) = hp65 at hm65 H65 F65 L65 ⊢
        refine px_gx (fun _ K => px_a 2 (f' := (34, [(3, .int 0), (2, .int v), (1, .int al), (0, .ref (38 + n))], [], hp65)) rfl K) ?_
        refine m_sizes_p (al := al) (v := v) (by omega) (by omega) (by omega) (by omega) (by omega) (by omega) (by omega) (by omega) (by omega) (by omega) (by omega) (by omega) (by omega) (by omega) (by omega) (by omega) (by omega) (by omega) ?_ 7 0 hp65 hm65 H65 F65 L65 (by omega) (by omega) (by omega)
        intro i2 hp2 hm2 H2 F2 L2
        refine px_gx (fun _ K => px_a 1 (f' := (93, [(2, .int (v + 1)), (3, .int i2), (1, .int al), (0, .ref (38 + n))], [], hp2)) rfl K) ?_
        obtain ⟨z67, ez67, fz67⟩ : ∃ q : Int32, q = v + 1 ∧ q.toInt = Int32.toInt v + Int32.toInt 1 := ⟨_, rfl, i32_add (by omega) (by omega)⟩
        rw [← ez67]
        refine px_gx (fun _ K => px_a 1 (f' := (12, [(2, .int z67), (3, .int i2), (1, .int al), (0, .ref (38 + n))], [], hp2)) rfl K) ?_
        exact ih i2 z67 hp2 hm2 H2 F2 L2 (by omega) (by omega) (by omega)
      · have h64' := h64
        have h64'' : Int32.toInt v = Int32.toInt 0 := congrArg Int32.toInt (Decidable.not_not.mp h64)
        refine px_gx (fun _ K => px_b1 false 30 rfl rfl (decide_eq_false h64) K) ?_
        show px_Gx _ _ (26, [(2, .int v), (3, .int i), (1, .int al), (0, .ref (38 + n))], [.int v, .ref (51 + n)], hp) _
        refine px_gx (fun _ K => px_a 2 (f' := (31, [(2, .int v), (3, .int i), (1, .int al), (0, .ref (38 + n))], [.int 1, .int v, .ref (51 + n)], hp)) rfl K) ?_
        obtain ⟨vs69, hv69, hl69, hg69⟩ := pa_ara (a := 51 + n) (i := 19) (lo := 0) (hi := 1) H (by omega) (by decide) (by decide) rfl
        have hi68 : v.toNatClampNeg < vs69.length := by show (Int32.toInt v).toNat < _; omega
        refine px_gx (fun _ K => px_zas (51 + n) rfl hv69 (by omega) (i32_nn (by omega)) hi68 (pa_nb (by omega) (by omega)) K) ?_
        show px_Gx _ _ (32, [(2, .int v), (3, .int i), (1, .int al), (0, .ref (38 + n))], [], hp.set (51 + n) (12, vs69.set v.toNatClampNeg (.int 1))) _
        have hm68 : (hp.set (51 + n) (12, vs69.set v.toNatClampNeg (.int 1)))[38 + n]? = some (4, [.int th, .int w, .int h, .ref (39 + n), .int pn, .ref (40 + n), .ref (41 + n), .ref (42 + n), .int pl, .ref (43 + n), .ref (44 + n), .ref (45 + n), .ref (46 + n), .int fo, .ref (47 + n), .int le, .ref (48 + n), .int ru, .ref (49 + n), .ref (50 + n), .ref (51 + n)]) := px_ne hm (by omega)
        have H68 : pa_Hi n (hp.set (51 + n) (12, vs69.set v.toNatClampNeg (.int 1))) := pa_aS (i := 19) H (by omega) (by decide) (by decide) hv69 rfl (pa_in (by omega) (by omega))
        have F68 : pa_Fr n [(24, 0), (37, 0)] hp0 (hp.set (51 + n) (12, vs69.set v.toNatClampNeg (.int 1))) := F0.trans (pa_aF (i := 19) (by omega) (by decide) (by decide) hv69 (by decide) (by decide))
        have L68 : (hp.set (51 + n) (12, vs69.set v.toNatClampNeg (.int 1))).length = hp0.length := List.length_set.trans L0
        generalize hp.set (51 + n) (12, vs69.set v.toNatClampNeg (.int 1)) = hp68 at hm68 H68 F68 L68 ⊢
        refine px_gx (fun _ K => px_a 2 (f' := (34, [(3, .int 0), (2, .int v), (1, .int al), (0, .ref (38 + n))], [], hp68)) rfl K) ?_
        refine m_sizes_p (al := al) (v := v) (by omega) (by omega) (by omega) (by omega) (by omega) (by omega) (by omega) (by omega) (by omega) (by omega) (by omega) (by omega) (by omega) (by omega) (by omega) (by omega) (by omega) (by omega) ?_ 7 0 hp68 hm68 H68 F68 L68 (by omega) (by omega) (by omega)
        intro i2 hp2 hm2 H2 F2 L2
        refine px_gx (fun _ K => px_a 1 (f' := (93, [(2, .int (v + 1)), (3, .int i2), (1, .int al), (0, .ref (38 + n))], [], hp2)) rfl K) ?_
        obtain ⟨z70, ez70, fz70⟩ : ∃ q : Int32, q = v + 1 ∧ q.toInt = Int32.toInt v + Int32.toInt 1 := ⟨_, rfl, i32_add (by omega) (by omega)⟩
        rw [← ez70]
        refine px_gx (fun _ K => px_a 1 (f' := (12, [(2, .int z70), (3, .int i2), (1, .int al), (0, .ref (38 + n))], [], hp2)) rfl K) ?_
        exact ih i2 z70 hp2 hm2 H2 F2 L2 (by omega) (by omega) (by omega)
set_option maxRecDepth 20000 in
set_option maxHeartbeats 4000000 in
theorem m_sizes {n : Nat} (hN : pa_N n) {d : Nat} {hp0 : px_H} {th w h pn pl fo le ru : Int32} (hm : hp0[38 + n]? = some (4, [.int th, .int w, .int h, .ref (39 + n), .int pn, .ref (40 + n), .ref (41 + n), .ref (42 + n), .int pl, .ref (43 + n), .ref (44 + n), .ref (45 + n), .ref (46 + n), .int fo, .ref (47 + n), .int le, .ref (48 + n), .int ru, .ref (49 + n), .ref (50 + n), .ref (51 + n)])) (bth1 : 0 ≤ th.toInt) (bth2 : th.toInt ≤ 2) (bw1 : 1 ≤ w.toInt) (bw2 : w.toInt ≤ 6) (bh1 : 1 ≤ h.toInt) (bh2 : h.toInt ≤ 6) (bpn1 : 0 ≤ pn.toInt) (bpn2 : pn.toInt ≤ 6) (bpl1 : 0 ≤ pl.toInt) (bpl2 : pl.toInt ≤ 512) (bfo1 : 0 ≤ fo.toInt) (bfo2 : fo.toInt ≤ 1) (ble1 : 0 ≤ le.toInt) (ble2 : le.toInt ≤ 200) (bru1 : 0 ≤ ru.toInt) (bru2 : ru.toInt ≤ 200) (H : pa_Hi n hp0) : px_Gx (d + 3) 93 (0, [(0, .ref (38 + n))], [], hp0) (pa_Po n ck_93 hp0) := by
  have cl0 : Int32.toInt 0 = 0 := rfl
  have cl1 : Int32.toInt 1 = 1 := rfl
  have cl37 : Int32.toInt 37 = 37 := rfl
  have F0 : pa_Fr n [(24, 0), (37, 0)] hp0 hp0 := pa_Fr.refl _
  have L0 : hp0.length = hp0.length := rfl
  refine px_gx (fun _ K => px_a 2 (f' := (2, [(0, .ref (38 + n))], [.int 0, .ref (38 + n)], hp0)) rfl K) ?_
  refine px_gx (fun _ K => px_pf (38 + n) 58 4 0 rfl rfl hm (by omega) (by simp) (rfl) rfl (by decide) K) ?_
  show px_Gx _ _ (5, [(0, .ref (38 + n))], [], hp0.set (38 + n) (4, [.int 0, .int w, .int h, .ref (39 + n), .int pn, .ref (40 + n), .ref (41 + n), .ref (42 + n), .int pl, .ref (43 + n), .ref (44 + n), .ref (45 + n), .ref (46 + n), .int fo, .ref (47 + n), .int le, .ref (48 + n), .int ru, .ref (49 + n), .ref (50 + n), .ref (51 + n)])) _
  have hm71 : (hp0.set (38 + n) (4, [.int 0, .int w, .int h, .ref (39 + n), .int pn, .ref (40 + n), .ref (41 + n), .ref (42 + n), .int pl, .ref (43 + n), .ref (44 + n), .ref (45 + n), .ref (46 + n), .int fo, .ref (47 + n), .int le, .ref (48 + n), .int ru, .ref (49 + n), .ref (50 + n), .ref (51 + n)]))[38 + n]? = some (4, [.int 0, .int w, .int h, .ref (39 + n), .int pn, .ref (40 + n), .ref (41 + n), .ref (42 + n), .int pl, .ref (43 + n), .ref (44 + n), .ref (45 + n), .ref (46 + n), .int fo, .ref (47 + n), .int le, .ref (48 + n), .int ru, .ref (49 + n), .ref (50 + n), .ref (51 + n)]) := px_self hm
  have H71 : pa_Hi n (hp0.set (38 + n) (4, [.int 0, .int w, .int h, .ref (39 + n), .int pn, .ref (40 + n), .ref (41 + n), .ref (42 + n), .int pl, .ref (43 + n), .ref (44 + n), .ref (45 + n), .ref (46 + n), .int fo, .ref (47 + n), .int le, .ref (48 + n), .int ru, .ref (49 + n), .ref (50 + n), .ref (51 + n)])) := pa_ms (k := 0) (v := .int 0) H hm rfl (pa_in (by omega) (by omega))
  have F71 : pa_Fr n [(24, 0), (37, 0)] hp0 (hp0.set (38 + n) (4, [.int 0, .int w, .int h, .ref (39 + n), .int pn, .ref (40 + n), .ref (41 + n), .ref (42 + n), .int pl, .ref (43 + n), .ref (44 + n), .ref (45 + n), .ref (46 + n), .int fo, .ref (47 + n), .int le, .ref (48 + n), .int ru, .ref (49 + n), .ref (50 + n), .ref (51 + n)])) := F0.trans (pa_mf (k := 0) (v := .int 0) hm (by decide) (by decide))
  have L71 : (hp0.set (38 + n) (4, [.int 0, .int w, .int h, .ref (39 + n), .int pn, .ref (40 + n), .ref (41 + n), .ref (42 + n), .int pl, .ref (43 + n), .ref (44 + n), .ref (45 + n), .ref (46 + n), .int fo, .ref (47 + n), .int le, .ref (48 + n), .int ru, .ref (49 + n), .ref (50 + n), .ref (51 + n)])).length = hp0.length := List.length_set.trans L0
  generalize hp0.set (38 + n) (4, [.int 0, .int w, .int h, .ref (39 + n), .int pn, .ref (40 + n), .ref (41 + n), .ref (42 + n), .int pl, .ref (43 + n), .ref (44 + n), .ref (45 + n), .ref (46 + n), .int fo, .ref (47 + n), .int le, .ref (48 + n), .int ru, .ref (49 + n), .ref (50 + n), .ref (51 + n)]) = hp71 at hm71 H71 F71 L71 ⊢
  refine px_gx (fun _ K => px_a 1 (f' := (6, [(0, .ref (38 + n))], [.ref (38 + n)], hp71)) rfl K) ?_
  obtain ⟨o72, hp72, g72, ⟨H72, G72, E72⟩, A72⟩ := (ct_92 hN).deep (d' := d + 2) (by omega) [.ref (38 + n)] hp71 H71 ⟨pa_r24, trivial⟩
  rcases E72 with ⟨v72, rfl, hv72, hl72⟩ | ⟨ht72, -⟩
  rotate_left
  · exact absurd ht72 (by decide)
  obtain ⟨z72, rfl, lz72, uz72⟩ := pa_gri (lo := 0) (hi := 36) hv72
  refine px_gx (fun _ K => px_cv (38 + n) (as := []) (rest := []) rfl rfl hm71 rfl rfl rfl rfl (Nat.le_of_ble_eq_true rfl) g72 K) ?_
  show px_Gx _ _ (9, [(0, .ref (38 + n))], [.int z72], hp72) _
  have F72 : pa_Fr n [(24, 0), (37, 0)] hp0 hp72 := F71.trans (G72.mono (by decide))
  have L72 : hp72.length = hp0.length := hl72.trans L71
  obtain ⟨th72, w72, h72, pn72, pl72, fo72, le72, ru72, hm72, lth72, uth72, lw72, uw72, lh72, uh72, lpn72, upn72, lpl72, upl72, lfo72, ufo72, lle72, ule72, lru72, uru72⟩ := pa_mod H72
  refine px_gx (fun _ K => px_a 5 (f' := (14, [(2, .int 0), (1, .int z72), (0, .ref (38 + n))], [.int z72, .int 0], hp72)) rfl K) ?_
  by_cases h73 : z72 < (0 : Int32)
  · have h73' := h73
    rw [Int32.lt_iff_toInt_lt] at h73'
    refine px_gx (fun _ K => px_b2 true 96 rfl rfl (decide_eq_true h73) K) ?_
    show px_Gx _ _ (96, [(2, .int 0), (1, .int z72), (0, .ref (38 + n))], [], hp72) _
    refine px_gx (fun _ K => px_a 1 (f' := (97, [(2, .int 0), (1, .int z72), (0, .ref (38 + n))], [.ref (38 + n)], hp72)) rfl K) ?_
    refine px_gx (fun _ K => px_gf (38 + n) 48 4 20 (.ref (51 + n)) rfl rfl hm72 rfl K) ?_
    show px_Gx _ _ (100, [(2, .int 0), (1, .int z72), (0, .ref (38 + n))], [.ref (51 + n)], hp72) _
    refine px_gx (fun _ K => px_a 1 (f' := (101, [(2, .int 0), (1, .int z72), (0, .ref (38 + n))], [.int z72, .ref (51 + n)], hp72)) rfl K) ?_
    obtain ⟨vs75, hv75, hl75, hg75⟩ := pa_ara (a := 51 + n) (i := 19) (lo := 0) (hi := 1) H72 (by omega) (by decide) (by decide) rfl
    have hi74 : z72.toNatClampNeg < vs75.length := by show (Int32.toInt z72).toNat < _; omega
    obtain ⟨z74, ez74, lz74, uz74⟩ := hg75 _ hi74
    refine px_gx (fun _ K => px_al (51 + n) (.int z74) rfl hv75 (Or.inr (Or.inr (Or.inl ⟨rfl, rfl⟩))) (i32_nn (by omega)) ez74 K) ?_
    show px_Gx _ _ (102, [(2, .int 0), (1, .int z72), (0, .ref (38 + n))], [.int z74], hp72) _
    exact ⟨_, _, px_ri rfl rfl (pa_nb (by omega) (by omega)), H72, F72, Or.inl ⟨_, rfl, pa_in (by omega) (by omega), L72⟩⟩
  · have h73' := h73
    rw [Int32.lt_iff_toInt_lt] at h73'
    refine px_gx (fun _ K => px_b2 false 96 rfl rfl (decide_eq_false h73) K) ?_
    show px_Gx _ _ (17, [(2, .int 0), (1, .int z72), (0, .ref (38 + n))], [], hp72) _
    refine px_gx (fun _ K => px_a 1 (f' := (18, [(2, .int 0), (1, .int z72), (0, .ref (38 + n))], [.ref (38 + n)], hp72)) rfl K) ?_
    refine px_gx (fun _ K => px_gf (38 + n) 48 4 20 (.ref (51 + n)) rfl rfl hm72 rfl K) ?_
    show px_Gx _ _ (21, [(2, .int 0), (1, .int z72), (0, .ref (38 + n))], [.ref (51 + n)], hp72) _
    refine px_gx (fun _ K => px_a 5 (f' := (31, [(2, .int 0), (1, .int z72), (0, .ref (38 + n))], [.int 1, .int 0, .ref (51 + n)], hp72)) rfl K) ?_
    obtain ⟨vs77, hv77, hl77, hg77⟩ := pa_ara (a := 51 + n) (i := 19) (lo := 0) (hi := 1) H72 (by omega) (by decide) (by decide) rfl
    have hi76 : (0 : Int32).toNatClampNeg < vs77.length := by show (Int32.toInt 0).toNat < _; omega
    refine px_gx (fun _ K => px_zas (51 + n) rfl hv77 (by omega) (i32_nn (by omega)) hi76 (pa_nb (by omega) (by omega)) K) ?_
    show px_Gx _ _ (32, [(2, .int 0), (1, .int z72), (0, .ref (38 + n))], [], hp72.set (51 + n) (12, vs77.set (0 : Int32).toNatClampNeg (.int 1))) _
    have hm76 : (hp72.set (51 + n) (12, vs77.set (0 : Int32).toNatClampNeg (.int 1)))[38 + n]? = some (4, [.int th72, .int w72, .int h72, .ref (39 + n), .int pn72, .ref (40 + n), .ref (41 + n), .ref (42 + n), .int pl72, .ref (43 + n), .ref (44 + n), .ref (45 + n), .ref (46 + n), .int fo72, .ref (47 + n), .int le72, .ref (48 + n), .int ru72, .ref (49 + n), .ref (50 + n), .ref (51 + n)]) := px_ne hm72 (by omega)
    have H76 : pa_Hi n (hp72.set (51 + n) (12, vs77.set (0 : Int32).toNatClampNeg (.int 1))) := pa_aS (i := 19) H72 (by omega) (by decide) (by decide) hv77 rfl (pa_in (by omega) (by omega))
    have F76 : pa_Fr n [(24, 0), (37, 0)] hp0 (hp72.set (51 + n) (12, vs77.set (0 : Int32).toNatClampNeg (.int 1))) := F72.trans (pa_aF (i := 19) (by omega) (by decide) (by decide) hv77 (by decide) (by decide))
    have L76 : (hp72.set (51 + n) (12, vs77.set (0 : Int32).toNatClampNeg (.int 1))).length = hp0.length := List.length_set.trans L72
    generalize hp72.set (51 + n) (12, vs77.set (0 : Int32).toNatClampNeg (.int 1)) = hp76 at hm76 H76 F76 L76 ⊢
    refine px_gx (fun _ K => px_a 2 (f' := (34, [(3, .int 0), (2, .int 0), (1, .int z72), (0, .ref (38 + n))], [], hp76)) rfl K) ?_
    refine m_sizes_p (al := z72) (v := 0) (by omega) (by omega) (by omega) (by omega) (by omega) (by omega) (by omega) (by omega) (by omega) (by omega) (by omega) (by omega) (by omega) (by omega) (by omega) (by omega) (by omega) (by omega) ?_ 7 0 hp76 hm76 H76 F76 L76 (by omega) (by omega) (by omega)
    intro i2 hp2 hm2 H2 F2 L2
    refine px_gx (fun _ K => px_a 2 (f' := (12, [(2, .int 1), (3, .int i2), (1, .int z72), (0, .ref (38 + n))], [], hp2)) rfl K) ?_
    exact m_sizes_v (al := z72) (by omega) (by omega) (by omega) (by omega) (by omega) (by omega) (by omega) (by omega) (by omega) (by omega) (by omega) (by omega) (by omega) (by omega) (by omega) (by omega) (by omega) (by omega) 37 i2 1 hp2 hm2 H2 F2 L2 (by omega) (by omega) (by omega)
theorem ct_93 {n : Nat} (hN : pa_N n) : pa_Ct pa_tb n 93 ck_93 4 := by
  intro as hp H ha
  obtain ⟨u0, us0, rfl, ⟨a, rfl, ha24, -⟩, ha1⟩ := pa_as1 ha
  obtain rfl := pa_g24 ha24
  obtain rfl := pa_as0 ha1
  obtain ⟨th, w, h, pn, pl, fo, le, ru, hm, bth1, bth2, bw1, bw2, bh1, bh2, bpn1, bpn2, bpl1, bpl2, bfo1, bfo2, ble1, ble2, bru1, bru2⟩ := pa_mod H
  obtain ⟨o, hp', hg, hP⟩ := m_sizes hN (d := 1) hm bth1 bth2 bw1 bw2 bh1 bh2 bpn1 bpn2 bpl1 bpl2 bfo1 bfo2 ble1 ble2 bru1 bru2 H
  exact ⟨o, hp', hg, hP, Or.inl rfl⟩
def ck_98 : pa_K := ([pa_rf 24, pa_top], some (pa_top), false, [(24, 0)])
theorem m_w1 {w : Int32} (w1 : 1 ≤ w.toInt) (w2 : w.toInt ≤ 6) : ¬ w + 1 = 0 := by
  have e1 : (1 : Int32).toInt = 1 := rfl
  have e : (w + 1).toInt = w.toInt + (1 : Int32).toInt := i32_add (by omega) (by omega)
  exact pa_ne0 (by omega)
theorem m_text_ix {w h i : Int32} (w1 : 1 ≤ w.toInt) (w2 : w.toInt ≤ 6) (h1 : 1 ≤ h.toInt) (h2 : h.toInt ≤ 6) (hi0 : 0 ≤ i.toInt) (hi : ¬ (w + 1) * h ≤ i) : ∃ (X Y : Nat), i - i / (w + 1) * (w + 1) = nI X ∧ i / (w + 1) = nI Y ∧ (X : Int) ≤ w.toInt ∧ (Y : Int) < h.toInt ∧ ((X : Int) < w.toInt → (w * nI Y + nI X).toInt = w.toInt * Y + X ∧ 0 ≤ w.toInt * Y + X ∧ w.toInt * Y + X < w.toInt * h.toInt ∧ w.toInt * h.toInt ≤ 36) := by
  obtain ⟨W, a1, rfl, a3⟩ := i32_of (x := w) (by omega)
  obtain ⟨V, b1, rfl, b3⟩ := i32_of (x := h) (by omega)
  obtain ⟨J, c1, rfl, c3⟩ := i32_of hi0
  have hW : W ≤ 6 := by omega
  have hV : V ≤ 6 := by omega
  have hWV : W * V ≤ 6 * 6 := Nat.mul_le_mul hW hV
  have hWV2 : (W + 1) * V ≤ 7 * 6 := Nat.mul_le_mul (by omega) hV
  have e1 : nI W + 1 = nI (W + 1) := nI_1 W
  rw [e1, pk_mul, nI_leI (by omega) c1] at hi
  have hd : J / (W + 1) < V := Nat.div_lt_of_lt_mul (by omega)
  have hm : J % (W + 1) < W + 1 := Nat.mod_lt _ (by omega)
  refine ⟨J % (W + 1), J / (W + 1), ?_, ?_, ?_, ?_, ?_⟩
  · rw [e1, pk_rem c1 (by omega) (by omega)]
  · rw [e1, pk_div c1 (by omega) (by omega)]
  · rw [a3]; omega
  · rw [b3]; exact_mod_cast hd
  · intro hx
    have hlt : W * (J / (W + 1)) + J % (W + 1) < W * V := by
      have h1 : W * (J / (W + 1) + 1) ≤ W * V := Nat.mul_le_mul_left W hd
      rw [Nat.mul_succ] at h1
      rw [a3] at hx
      omega
    rw [a3, b3, pk_mul, nI_add, nI_toInt (by omega)]
    refine ⟨by push_cast; rfl, by exact_mod_cast Nat.zero_le _, by exact_mod_cast hlt, by exact_mod_cast hWV⟩
set_option maxRecDepth 20000 in
set_option maxHeartbeats 4000000 in
theorem m_text {d n : Nat} {hp0 : px_H} {th w h pn pl fo le ru : Int32} (hm : hp0[38 + n]? = some (4, [.int th, .int w, .int h, .ref (39 + n), .int pn, .ref (40 + n), .ref (41 + n), .ref (42 + n), .int pl, .ref (43 + n), .ref (44 + n), .ref (45 + n), .ref (46 + n), .int fo, .ref (47 + n), .int le, .ref (48 + n), .int ru, .ref (49 + n), .ref (50 + n), .ref (51 + n)])) (bth1 : 0 ≤ th.toInt) (bth2 : th.toInt ≤ 2) (bw1 : 1 ≤ w.toInt) (bw2 : w.toInt ≤ 6) (bh1 : 1 ≤ h.toInt) (bh2 : h.toInt ≤ 6) (bpn1 : 0 ≤ pn.toInt) (bpn2 : pn.toInt ≤ 6) (bpl1 : 0 ≤ pl.toInt) (bpl2 : pl.toInt ≤ 512) (bfo1 : 0 ≤ fo.toInt) (bfo2 : fo.toInt ≤ 1) (ble1 : 0 ≤ le.toInt) (ble2 : le.toInt ≤ 200) (bru1 : 0 ≤ ru.toInt) (bru2 : ru.toInt ≤ 200) (H : pa_Hi n hp0) {x : Int32} : px_Gx d 98 (0, [(0, .ref (38 + n)), (1, .int x)], [], hp0) (pa_Po n ck_98 hp0) := by
  have clm1 : Int32.toInt (-1) = -1 := rfl
  have cl0 : Int32.toInt 0 = 0 := rfl
  have cl1 : Int32.toInt 1 = 1 := rfl
  have cl46 : Int32.toInt 46 = 46 := rfl
  have cl59 : Int32.toInt 59 = 59 := rfl
  have cl97 : Int32.toInt 97 = 97 := rfl
  have F0 : pa_Fr n [(24, 0)] hp0 hp0 := pa_Fr.refl _
  have L0 : hp0.length = hp0.length := rfl
  refine px_gx (fun _ K => px_a 2 (f' := (2, [(0, .ref (38 + n)), (1, .int x)], [.int 0, .ref (38 + n)], hp0)) rfl K) ?_
  refine px_gx (fun _ K => px_pf (38 + n) 58 4 0 rfl rfl hm (by omega) (by simp) (rfl) rfl (by decide) K) ?_
  show px_Gx _ _ (5, [(0, .ref (38 + n)), (1, .int x)], [], hp0.set (38 + n) (4, [.int 0, .int w, .int h, .ref (39 + n), .int pn, .ref (40 + n), .ref (41 + n), .ref (42 + n), .int pl, .ref (43 + n), .ref (44 + n), .ref (45 + n), .ref (46 + n), .int fo, .ref (47 + n), .int le, .ref (48 + n), .int ru, .ref (49 + n), .ref (50 + n), .ref (51 + n)])) _
  have hm78 : (hp0.set (38 + n) (4, [.int 0, .int w, .int h, .ref (39 + n), .int pn, .ref (40 + n), .ref (41 + n), .ref (42 + n), .int pl, .ref (43 + n), .ref (44 + n), .ref (45 + n), .ref (46 + n), .int fo, .ref (47 + n), .int le, .ref (48 + n), .int ru, .ref (49 + n), .ref (50 + n), .ref (51 + n)]))[38 + n]? = some (4, [.int 0, .int w, .int h, .ref (39 + n), .int pn, .ref (40 + n), .ref (41 + n), .ref (42 + n), .int pl, .ref (43 + n), .ref (44 + n), .ref (45 + n), .ref (46 + n), .int fo, .ref (47 + n), .int le, .ref (48 + n), .int ru, .ref (49 + n), .ref (50 + n), .ref (51 + n)]) := px_self hm
  have H78 : pa_Hi n (hp0.set (38 + n) (4, [.int 0, .int w, .int h, .ref (39 + n), .int pn, .ref (40 + n), .ref (41 + n), .ref (42 + n), .int pl, .ref (43 + n), .ref (44 + n), .ref (45 + n), .ref (46 + n), .int fo, .ref (47 + n), .int le, .ref (48 + n), .int ru, .ref (49 + n), .ref (50 + n), .ref (51 + n)])) := pa_ms (k := 0) (v := .int 0) H hm rfl (pa_in (by omega) (by omega))
  have F78 : pa_Fr n [(24, 0)] hp0 (hp0.set (38 + n) (4, [.int 0, .int w, .int h, .ref (39 + n), .int pn, .ref (40 + n), .ref (41 + n), .ref (42 + n), .int pl, .ref (43 + n), .ref (44 + n), .ref (45 + n), .ref (46 + n), .int fo, .ref (47 + n), .int le, .ref (48 + n), .int ru, .ref (49 + n), .ref (50 + n), .ref (51 + n)])) := F0.trans (pa_mf (k := 0) (v := .int 0) hm (by decide) (by decide))
  have L78 : (hp0.set (38 + n) (4, [.int 0, .int w, .int h, .ref (39 + n), .int pn, .ref (40 + n), .ref (41 + n), .ref (42 + n), .int pl, .ref (43 + n), .ref (44 + n), .ref (45 + n), .ref (46 + n), .int fo, .ref (47 + n), .int le, .ref (48 + n), .int ru, .ref (49 + n), .ref (50 + n), .ref (51 + n)])).length = hp0.length := List.length_set.trans L0
  generalize hp0.set (38 + n) (4, [.int 0, .int w, .int h, .ref (39 + n), .int pn, .ref (40 + n), .ref (41 + n), .ref (42 + n), .int pl, .ref (43 + n), .ref (44 + n), .ref (45 + n), .ref (46 + n), .int fo, .ref (47 + n), .int le, .ref (48 + n), .int ru, .ref (49 + n), .ref (50 + n), .ref (51 + n)]) = hp78 at hm78 H78 F78 L78 ⊢
  refine px_gx (fun _ K => px_a 1 (f' := (6, [(0, .ref (38 + n)), (1, .int x)], [.ref (38 + n)], hp78)) rfl K) ?_
  refine px_gx (fun _ K => px_gf (38 + n) 72 4 13 (.int fo) rfl rfl hm78 rfl K) ?_
  show px_Gx _ _ (9, [(0, .ref (38 + n)), (1, .int x)], [.int fo], hp78) _
  by_cases h79 : fo = 0
  · have h79' := h79
    replace h79' := congrArg Int32.toInt h79
    refine px_gx (fun _ K => px_b1 true 31 rfl rfl (decide_eq_true h79) K) ?_
    show px_Gx _ _ (31, [(0, .ref (38 + n)), (1, .int x)], [], hp78) _
    refine px_gx (fun _ K => px_a 1 (f' := (32, [(0, .ref (38 + n)), (1, .int x)], [.int (-1)], hp78)) rfl K) ?_
    exact ⟨_, _, px_ri rfl rfl rfl, H78, F78, Or.inl ⟨_, rfl, pa_top_ok _, L78⟩⟩
  · have h79' := h79
    have h79'' : Int32.toInt fo ≠ Int32.toInt 0 := fun z => h79 (Int32.toInt_inj.mp z)
    refine px_gx (fun _ K => px_b1 false 31 rfl rfl (decide_eq_false h79) K) ?_
    show px_Gx _ _ (12, [(0, .ref (38 + n)), (1, .int x)], [], hp78) _
    refine px_gx (fun _ K => px_a 1 (f' := (13, [(0, .ref (38 + n)), (1, .int x)], [.int x], hp78)) rfl K) ?_
    by_cases h80 : x < 0
    · have h80' := h80
      rw [Int32.lt_iff_toInt_lt] at h80'
      refine px_gx (fun _ K => px_b1 true 31 rfl rfl (decide_eq_true h80) K) ?_
      show px_Gx _ _ (31, [(0, .ref (38 + n)), (1, .int x)], [], hp78) _
      refine px_gx (fun _ K => px_a 1 (f' := (32, [(0, .ref (38 + n)), (1, .int x)], [.int (-1)], hp78)) rfl K) ?_
      exact ⟨_, _, px_ri rfl rfl rfl, H78, F78, Or.inl ⟨_, rfl, pa_top_ok _, L78⟩⟩
    · have h80' := h80
      rw [Int32.lt_iff_toInt_lt] at h80'
      refine px_gx (fun _ K => px_b1 false 31 rfl rfl (decide_eq_false h80) K) ?_
      show px_Gx _ _ (16, [(0, .ref (38 + n)), (1, .int x)], [], hp78) _
      refine px_gx (fun _ K => px_a 2 (f' := (18, [(0, .ref (38 + n)), (1, .int x)], [.ref (38 + n), .int x], hp78)) rfl K) ?_
      refine px_gx (fun _ K => px_gf (38 + n) 51 4 1 (.int w) rfl rfl hm78 rfl K) ?_
      show px_Gx _ _ (21, [(0, .ref (38 + n)), (1, .int x)], [.int w, .int x], hp78) _
      refine px_gx (fun _ K => px_a 2 (f' := (23, [(0, .ref (38 + n)), (1, .int x)], [.int (w + 1), .int x], hp78)) rfl K) ?_
      refine px_gx (fun _ K => px_a 1 (f' := (24, [(0, .ref (38 + n)), (1, .int x)], [.ref (38 + n), .int (w + 1), .int x], hp78)) rfl K) ?_
      refine px_gx (fun _ K => px_gf (38 + n) 55 4 2 (.int h) rfl rfl hm78 rfl K) ?_
      show px_Gx _ _ (27, [(0, .ref (38 + n)), (1, .int x)], [.int h, .int (w + 1), .int x], hp78) _
      refine px_gx (fun _ K => px_a 1 (f' := (28, [(0, .ref (38 + n)), (1, .int x)], [.int ((w + 1) * h), .int x], hp78)) rfl K) ?_
      by_cases h81 : x < ((w + 1) * h)
      · have h81' := h81
        rw [Int32.lt_iff_toInt_lt] at h81'
        refine px_gx (fun _ K => px_b2 true 33 rfl rfl (decide_eq_true h81) K) ?_
        show px_Gx _ _ (33, [(0, .ref (38 + n)), (1, .int x)], [], hp78) _
        obtain ⟨X, Y, e1, e2, b1, b2, b3⟩ := m_text_ix bw1 bw2 bh1 bh2 (i := x) (by omega) (Int32.not_le.mpr h81)
        refine px_gx (fun _ K => px_a 2 (f' := (35, [(0, .ref (38 + n)), (1, .int x)], [.ref (38 + n), .int x], hp78)) rfl K) ?_
        refine px_gx (fun _ K => px_gf (38 + n) 51 4 1 (.int w) rfl rfl hm78 rfl K) ?_
        show px_Gx _ _ (38, [(0, .ref (38 + n)), (1, .int x)], [.int w, .int x], hp78) _
        refine px_gx (fun _ K => px_a 2 (f' := (40, [(0, .ref (38 + n)), (1, .int x)], [.int (w + 1), .int x], hp78)) rfl K) ?_
        refine px_gx (fun _ K => px_irem rfl (m_w1 bw1 bw2) K) ?_
        show px_Gx _ _ (41, [(0, .ref (38 + n)), (1, .int x)], [.int (x - x / (w + 1) * (w + 1))], hp78) _
        refine px_gx (fun _ K => px_a 2 (f' := (43, [(2, .int (x - x / (w + 1) * (w + 1))), (0, .ref (38 + n)), (1, .int x)], [.ref (38 + n)], hp78)) rfl K) ?_
        refine px_gx (fun _ K => px_gf (38 + n) 51 4 1 (.int w) rfl rfl hm78 rfl K) ?_
        show px_Gx _ _ (46, [(2, .int (x - x / (w + 1) * (w + 1))), (0, .ref (38 + n)), (1, .int x)], [.int w], hp78) _
        refine px_gx (fun _ K => px_a 2 (f' := (48, [(2, .int (x - x / (w + 1) * (w + 1))), (0, .ref (38 + n)), (1, .int x)], [.ref (38 + n), .int x, .int w], hp78)) rfl K) ?_
        refine px_gx (fun _ K => px_gf (38 + n) 51 4 1 (.int w) rfl rfl hm78 rfl K) ?_
        show px_Gx _ _ (51, [(2, .int (x - x / (w + 1) * (w + 1))), (0, .ref (38 + n)), (1, .int x)], [.int w, .int x, .int w], hp78) _
        refine px_gx (fun _ K => px_a 2 (f' := (53, [(2, .int (x - x / (w + 1) * (w + 1))), (0, .ref (38 + n)), (1, .int x)], [.int (w + 1), .int x, .int w], hp78)) rfl K) ?_
        refine px_gx (fun _ K => px_idiv rfl (m_w1 bw1 bw2) K) ?_
        show px_Gx _ _ (54, [(2, .int (x - x / (w + 1) * (w + 1))), (0, .ref (38 + n)), (1, .int x)], [.int (x / (w + 1)), .int w], hp78) _
        refine px_gx (fun _ K => px_a 1 (f' := (55, [(2, .int (x - x / (w + 1) * (w + 1))), (0, .ref (38 + n)), (1, .int x)], [.int (w * (x / (w + 1)))], hp78)) rfl K) ?_
        refine px_gx (fun _ K => px_a 2 (f' := (57, [(2, .int (x - x / (w + 1) * (w + 1))), (0, .ref (38 + n)), (1, .int x)], [.int ((w * (x / (w + 1))) + (x - x / (w + 1) * (w + 1)))], hp78)) rfl K) ?_
        refine px_gx (fun _ K => px_a 1 (f' := (58, [(3, .int ((w * (x / (w + 1))) + (x - x / (w + 1) * (w + 1)))), (2, .int (x - x / (w + 1) * (w + 1))), (0, .ref (38 + n)), (1, .int x)], [], hp78)) rfl K) ?_
        rw [e1, e2]
        show px_Gx _ _ (58, [(3, .int (w * nI Y + nI X)), (2, .int (nI X)), (0, .ref (38 + n)), (1, .int x)], [], hp78) _
        refine px_gx (fun _ K => px_a 2 (f' := (60, [(3, .int (w * nI Y + nI X)), (2, .int (nI X)), (0, .ref (38 + n)), (1, .int x)], [.ref (38 + n), .int (nI X)], hp78)) rfl K) ?_
        refine px_gx (fun _ K => px_gf (38 + n) 51 4 1 (.int w) rfl rfl hm78 rfl K) ?_
        show px_Gx _ _ (63, [(3, .int (w * nI Y + nI X)), (2, .int (nI X)), (0, .ref (38 + n)), (1, .int x)], [.int w, .int (nI X)], hp78) _
        by_cases h82 : ¬ (nI X) = w
        · have h82' := h82
          have h82'' : Int32.toInt (nI X) ≠ Int32.toInt w := fun z => h82 (Int32.toInt_inj.mp z)
          refine px_gx (fun _ K => px_b2 true 71 rfl rfl (decide_eq_true h82) K) ?_
          show px_Gx _ _ (71, [(3, .int (w * nI Y + nI X)), (2, .int (nI X)), (0, .ref (38 + n)), (1, .int x)], [], hp78) _
          obtain ⟨c, ec⟩ : ∃ q : Int32, q = w * nI Y + nI X := ⟨_, rfl⟩
          have hXw : (X : Int) < w.toInt := by
            have := nI_toInt (n := X) (by omega)
            omega
          obtain ⟨b4, b5, b6, b7⟩ := b3 hXw
          rw [← ec] at b4 ⊢
          show px_Gx _ _ (71, [(3, .int c), (2, .int (nI X)), (0, .ref (38 + n)), (1, .int x)], [], hp78) _
          refine px_gx (fun _ K => px_a 1 (f' := (72, [(3, .int c), (2, .int (nI X)), (0, .ref (38 + n)), (1, .int x)], [.ref (38 + n)], hp78)) rfl K) ?_
          refine px_gx (fun _ K => px_gf (38 + n) 7 4 3 (.ref (39 + n)) rfl rfl hm78 rfl K) ?_
          show px_Gx _ _ (75, [(3, .int c), (2, .int (nI X)), (0, .ref (38 + n)), (1, .int x)], [.ref (39 + n)], hp78) _
          refine px_gx (fun _ K => px_a 1 (f' := (76, [(3, .int c), (2, .int (nI X)), (0, .ref (38 + n)), (1, .int x)], [.int c, .ref (39 + n)], hp78)) rfl K) ?_
          obtain ⟨vs84, hv84, hl84, hg84⟩ := pa_ara (a := 39 + n) (i := 7) (lo := 0) (hi := 1) H78 (by omega) (by decide) (by decide) rfl
          have hi83 : c.toNatClampNeg < vs84.length := by show (Int32.toInt c).toNat < _; omega
          obtain ⟨z83, ez83, lz83, uz83⟩ := hg84 _ hi83
          refine px_gx (fun _ K => px_al (39 + n) (.int z83) rfl hv84 (Or.inr (Or.inr (Or.inl ⟨rfl, rfl⟩))) (i32_nn (by omega)) ez83 K) ?_
          show px_Gx _ _ (77, [(3, .int c), (2, .int (nI X)), (0, .ref (38 + n)), (1, .int x)], [.int z83], hp78) _
          by_cases h85 : z83 = 0
          · have h85' := h85
            replace h85' := congrArg Int32.toInt h85
            refine px_gx (fun _ K => px_b1 true 92 rfl rfl (decide_eq_true h85) K) ?_
            show px_Gx _ _ (92, [(3, .int c), (2, .int (nI X)), (0, .ref (38 + n)), (1, .int x)], [], hp78) _
            refine px_gx (fun _ K => px_a 1 (f' := (94, [(3, .int c), (2, .int (nI X)), (0, .ref (38 + n)), (1, .int x)], [.int 46], hp78)) rfl K) ?_
            exact ⟨_, _, px_ri rfl rfl rfl, H78, F78, Or.inl ⟨_, rfl, pa_top_ok _, L78⟩⟩
          · have h85' := h85
            have h85'' : Int32.toInt z83 ≠ Int32.toInt 0 := fun z => h85 (Int32.toInt_inj.mp z)
            refine px_gx (fun _ K => px_b1 false 92 rfl rfl (decide_eq_false h85) K) ?_
            show px_Gx _ _ (80, [(3, .int c), (2, .int (nI X)), (0, .ref (38 + n)), (1, .int x)], [], hp78) _
            refine px_gx (fun _ K => px_a 2 (f' := (83, [(3, .int c), (2, .int (nI X)), (0, .ref (38 + n)), (1, .int x)], [.ref (38 + n), .int 97], hp78)) rfl K) ?_
            refine px_gx (fun _ K => px_gf (38 + n) 36 4 14 (.ref (47 + n)) rfl rfl hm78 rfl K) ?_
            show px_Gx _ _ (86, [(3, .int c), (2, .int (nI X)), (0, .ref (38 + n)), (1, .int x)], [.ref (47 + n), .int 97], hp78) _
            refine px_gx (fun _ K => px_a 1 (f' := (87, [(3, .int c), (2, .int (nI X)), (0, .ref (38 + n)), (1, .int x)], [.int c, .ref (47 + n), .int 97], hp78)) rfl K) ?_
            obtain ⟨vs87, hv87, hl87, hg87⟩ := pa_ara (a := 47 + n) (i := 15) (lo := -2147483648) (hi := 2147483647) H78 (by omega) (by decide) (by decide) rfl
            have hi86 : c.toNatClampNeg < vs87.length := by show (Int32.toInt c).toNat < _; omega
            obtain ⟨z86, ez86, lz86, uz86⟩ := hg87 _ hi86
            refine px_gx (fun _ K => px_al (47 + n) (.int z86) rfl hv87 (Or.inl ⟨rfl, Or.inl rfl⟩) (i32_nn (by omega)) ez86 K) ?_
            show px_Gx _ _ (88, [(3, .int c), (2, .int (nI X)), (0, .ref (38 + n)), (1, .int x)], [.int z86, .int 97], hp78) _
            refine px_gx (fun _ K => px_a 1 (f' := (89, [(3, .int c), (2, .int (nI X)), (0, .ref (38 + n)), (1, .int x)], [.int (97 + z86)], hp78)) rfl K) ?_
            refine px_gx (fun _ K => px_a 1 (f' := (94, [(3, .int c), (2, .int (nI X)), (0, .ref (38 + n)), (1, .int x)], [.int (97 + z86)], hp78)) rfl K) ?_
            exact ⟨_, _, px_ri rfl rfl rfl, H78, F78, Or.inl ⟨_, rfl, pa_top_ok _, L78⟩⟩
        · have h82' := h82
          have h82'' : Int32.toInt (nI X) = Int32.toInt w := congrArg Int32.toInt (Decidable.not_not.mp h82)
          refine px_gx (fun _ K => px_b2 false 71 rfl rfl (decide_eq_false h82) K) ?_
          show px_Gx _ _ (66, [(3, .int (w * nI Y + nI X)), (2, .int (nI X)), (0, .ref (38 + n)), (1, .int x)], [], hp78) _
          refine px_gx (fun _ K => px_a 2 (f' := (94, [(3, .int (w * nI Y + nI X)), (2, .int (nI X)), (0, .ref (38 + n)), (1, .int x)], [.int 59], hp78)) rfl K) ?_
          exact ⟨_, _, px_ri rfl rfl rfl, H78, F78, Or.inl ⟨_, rfl, pa_top_ok _, L78⟩⟩
      · have h81' := h81
        rw [Int32.lt_iff_toInt_lt] at h81'
        refine px_gx (fun _ K => px_b2 false 33 rfl rfl (decide_eq_false h81) K) ?_
        show px_Gx _ _ (31, [(0, .ref (38 + n)), (1, .int x)], [], hp78) _
        refine px_gx (fun _ K => px_a 1 (f' := (32, [(0, .ref (38 + n)), (1, .int x)], [.int (-1)], hp78)) rfl K) ?_
        exact ⟨_, _, px_ri rfl rfl rfl, H78, F78, Or.inl ⟨_, rfl, pa_top_ok _, L78⟩⟩
theorem ct_98 {n : Nat} (hN : pa_N n) : pa_Ct pa_tb n 98 ck_98 2 := by
  intro as hp H ha
  obtain ⟨u0, us0, rfl, ⟨a, rfl, ha24, -⟩, ha1⟩ := pa_as1 ha
  obtain rfl := pa_g24 ha24
  obtain ⟨u1, us1, rfl, ⟨x, rfl, x1, x2⟩, ha2⟩ := pa_as1 ha1
  obtain rfl := pa_as0 ha2
  obtain ⟨th, w, h, pn, pl, fo, le, ru, hm, bth1, bth2, bw1, bw2, bh1, bh2, bpn1, bpn2, bpl1, bpl2, bfo1, bfo2, ble1, ble2, bru1, bru2⟩ := pa_mod H
  obtain ⟨o, hp', hg, hP⟩ := m_text (x := x) (d := 2) hm bth1 bth2 bw1 bw2 bh1 bh2 bpn1 bpn2 bpl1 bpl2 bfo1 bfo2 ble1 ble2 bru1 bru2 H
  exact ⟨o, hp', hg, hP, Or.inl rfl⟩
