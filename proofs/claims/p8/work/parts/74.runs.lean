def ck_97 : pa_K := ([pa_rf 24, pa_i 2 9], none, false, [(24, 15), (24, 17), (34, 0), (35, 0), (36, 0)])
set_option maxRecDepth 20000 in
set_option maxHeartbeats 4000000 in
theorem m_runs_l {d n : Nat} {hp0 : px_H} {th w h pn pl fo le : Int32} {q : Int32} (q1 : 2 ≤ q.toInt) (q2 : q.toInt ≤ 9) : ∀ (k : Nat) (i : Int32) hp ru (hm : hp[38 + n]? = some (4, m_O n th w h pn pl fo le ru)) (H : pa_Hi n hp) (F : pa_Fr n [(24, 15), (24, 17), (34, 0), (35, 0), (36, 0)] hp0 hp) (L : hp.length = hp0.length), i.toInt + k = le.toInt + 1 → i.toInt ≤ le.toInt → 0 ≤ i.toInt ∧ ru.toInt ≤ i.toInt → px_Gx d 97 (11, [(2, .int i), (0, .ref (38 + n)), (1, .int q)], [], hp) (pa_Po n ck_97 hp0) := by
  have cl0 : Int32.toInt 0 = 0 := rfl
  have cl1 : Int32.toInt 1 = 1 := rfl
  have cl2 : Int32.toInt 2 = 2 := rfl
  intro k
  induction k with
  | zero =>
    intro i hp ru hm H F L g1 g2 g3
    omega
  | succ k ih =>
    intro i hp ru hm H F L g1 g2 g3
    obtain ⟨bth1, bth2, bw1, bw2, bh1, bh2, bpn1, bpn2, bpl1, bpl2, bfo1, bfo2, ble1, ble2, bru1, bru2⟩ := pa_bnd H hm
    refine px_gx (fun _ K => px_a 2 (f' := (13, [(2, .int i), (0, .ref (38 + n)), (1, .int q)], [.ref (38 + n), .int i], hp)) rfl K) ?_
    refine px_gx (fun _ K => px_gf (38 + n) 122 4 15 (.int le) rfl rfl hm rfl K) ?_
    show px_Gx _ _ (16, [(2, .int i), (0, .ref (38 + n)), (1, .int q)], [.int le, .int i], hp) _
    by_cases h408 : le ≤ i
    · have h408' := h408
      rw [Int32.le_iff_toInt_le] at h408'
      refine px_gx (fun _ K => px_b2 true 152 rfl rfl (decide_eq_true h408) K) ?_
      show px_Gx _ _ (152, [(2, .int i), (0, .ref (38 + n)), (1, .int q)], [], hp) _
      exact ⟨_, _, px_e rfl rfl, H, F, Or.inl ⟨_, rfl, trivial, L⟩⟩
    · have h408' := h408
      rw [Int32.le_iff_toInt_le] at h408'
      refine px_gx (fun _ K => px_b2 false 152 rfl rfl (decide_eq_false h408) K) ?_
      show px_Gx _ _ (19, [(2, .int i), (0, .ref (38 + n)), (1, .int q)], [], hp) _
      refine px_gx (fun _ K => px_a 1 (f' := (20, [(2, .int i), (0, .ref (38 + n)), (1, .int q)], [.ref (38 + n)], hp)) rfl K) ?_
      refine px_gx (fun _ K => px_gf (38 + n) 39 4 16 (.ref (48 + n)) rfl rfl hm rfl K) ?_
      show px_Gx _ _ (23, [(2, .int i), (0, .ref (38 + n)), (1, .int q)], [.ref (48 + n)], hp) _
      refine px_gx (fun _ K => px_a 1 (f' := (24, [(2, .int i), (0, .ref (38 + n)), (1, .int q)], [.int i, .ref (48 + n)], hp)) rfl K) ?_
      obtain ⟨vs410, hv410, hl410, hg410⟩ := pa_ara (a := 48 + n) (i := 16) (lo := 0) (hi := 3) H (by omega) (by decide) (by decide) rfl
      have hi409 : i.toNatClampNeg < vs410.length := by show (Int32.toInt i).toNat < _; omega
      obtain ⟨z409, ez409, lz409, uz409⟩ := hg410 _ hi409
      refine px_gx (fun _ K => px_al (48 + n) (.int z409) rfl hv410 (Or.inl ⟨rfl, Or.inl rfl⟩) (i32_nn (by omega)) ez409 K) ?_
      show px_Gx _ _ (25, [(2, .int i), (0, .ref (38 + n)), (1, .int q)], [.int z409], hp) _
      refine px_gx (fun _ K => px_a 1 (f' := (26, [(2, .int i), (0, .ref (38 + n)), (1, .int q)], [.int 2, .int z409], hp)) rfl K) ?_
      refine px_gx (fun _ K => px_irem rfl (pa_ne0 (by omega)) K) ?_
      show px_Gx _ _ (27, [(2, .int i), (0, .ref (38 + n)), (1, .int q)], [.int (z409 - z409 / 2 * 2)], hp) _
      obtain ⟨z411, ez411, fz411⟩ : ∃ qz : Int32, qz = (z409 - z409 / 2 * 2) ∧ 0 ≤ qz.toInt ∧ qz.toInt ≤ Int32.toInt 2 - 1 := ⟨_, rfl, i32_rem (by omega) (by omega)⟩
      rw [← ez411]
      refine px_gx (fun _ K => px_a 2 (f' := (29, [(3, .int z411), (2, .int i), (0, .ref (38 + n)), (1, .int q)], [.ref (38 + n)], hp)) rfl K) ?_
      refine px_gx (fun _ K => px_gf (38 + n) 132 4 17 (.int ru) rfl rfl hm rfl K) ?_
      show px_Gx _ _ (32, [(3, .int z411), (2, .int i), (0, .ref (38 + n)), (1, .int q)], [.int ru], hp) _
      by_cases h412 : ru = 0
      · have h412' := h412
        replace h412' := congrArg Int32.toInt h412
        refine px_gx (fun _ K => px_b1 true 50 rfl rfl (decide_eq_true h412) K) ?_
        show px_Gx _ _ (50, [(3, .int z411), (2, .int i), (0, .ref (38 + n)), (1, .int q)], [], hp) _
        refine px_gx (fun _ K => px_a 1 (f' := (51, [(3, .int z411), (2, .int i), (0, .ref (38 + n)), (1, .int q)], [.ref (38 + n)], hp)) rfl K) ?_
        refine px_gx (fun _ K => px_gf (38 + n) 42 4 18 (.ref (49 + n)) rfl rfl hm rfl K) ?_
        show px_Gx _ _ (54, [(3, .int z411), (2, .int i), (0, .ref (38 + n)), (1, .int q)], [.ref (49 + n)], hp) _
        refine px_gx (fun _ K => px_a 1 (f' := (55, [(3, .int z411), (2, .int i), (0, .ref (38 + n)), (1, .int q)], [.ref (38 + n), .ref (49 + n)], hp)) rfl K) ?_
        refine px_gx (fun _ K => px_gf (38 + n) 132 4 17 (.int ru) rfl rfl hm rfl K) ?_
        show px_Gx _ _ (58, [(3, .int z411), (2, .int i), (0, .ref (38 + n)), (1, .int q)], [.int ru, .ref (49 + n)], hp) _
        refine px_gx (fun _ K => px_a 1 (f' := (59, [(3, .int z411), (2, .int i), (0, .ref (38 + n)), (1, .int q)], [.int z411, .int ru, .ref (49 + n)], hp)) rfl K) ?_
        obtain ⟨vs414, hv414, hl414, hg414⟩ := pa_ara (a := 49 + n) (i := 17) (lo := -2147483648) (hi := 2147483647) H (by omega) (by decide) (by decide) rfl
        have hi413 : ru.toNatClampNeg < vs414.length := by show (Int32.toInt ru).toNat < _; omega
        refine px_gx (fun _ K => px_ias (49 + n) rfl hv414 (by omega) (i32_nn (by omega)) hi413 K) ?_
        show px_Gx _ _ (60, [(3, .int z411), (2, .int i), (0, .ref (38 + n)), (1, .int q)], [], hp.set (49 + n) (10, vs414.set ru.toNatClampNeg (.int z411))) _
        have hm413 : (hp.set (49 + n) (10, vs414.set ru.toNatClampNeg (.int z411)))[38 + n]? = some (4, (m_O n th w h pn pl fo le ru)) := px_ne hm (by omega)
        have H413 : pa_Hi n (hp.set (49 + n) (10, vs414.set ru.toNatClampNeg (.int z411))) := pa_aS (i := 17) H (by omega) (by decide) (by decide) hv414 rfl (pa_top_ok _)
        have F413 : pa_Fr n [(24, 15), (24, 17), (34, 0), (35, 0), (36, 0)] hp0 (hp.set (49 + n) (10, vs414.set ru.toNatClampNeg (.int z411))) := F.trans (pa_aF (i := 17) (by omega) (by decide) (by decide) hv414 (by decide) (by decide))
        have L413 : (hp.set (49 + n) (10, vs414.set ru.toNatClampNeg (.int z411))).length = hp0.length := List.length_set.trans L
        have hv410_413 : (hp.set (49 + n) (10, vs414.set ru.toNatClampNeg (.int z411)))[48 + n]? = some (10, vs410) := px_ne hv410 (by omega)
        generalize hp.set (49 + n) (10, vs414.set ru.toNatClampNeg (.int z411)) = hp413 at hm413 H413 F413 L413 hv410_413 ⊢
        refine px_gx (fun _ K => px_a 1 (f' := (61, [(3, .int z411), (2, .int i), (0, .ref (38 + n)), (1, .int q)], [.ref (38 + n)], hp413)) rfl K) ?_
        refine px_gx (fun _ K => px_gf (38 + n) 45 4 19 (.ref (50 + n)) rfl rfl hm413 rfl K) ?_
        show px_Gx _ _ (64, [(3, .int z411), (2, .int i), (0, .ref (38 + n)), (1, .int q)], [.ref (50 + n)], hp413) _
        refine px_gx (fun _ K => px_a 1 (f' := (65, [(3, .int z411), (2, .int i), (0, .ref (38 + n)), (1, .int q)], [.ref (38 + n), .ref (50 + n)], hp413)) rfl K) ?_
        refine px_gx (fun _ K => px_gf (38 + n) 132 4 17 (.int ru) rfl rfl hm413 rfl K) ?_
        show px_Gx _ _ (68, [(3, .int z411), (2, .int i), (0, .ref (38 + n)), (1, .int q)], [.int ru, .ref (50 + n)], hp413) _
        refine px_gx (fun _ K => px_a 1 (f' := (69, [(3, .int z411), (2, .int i), (0, .ref (38 + n)), (1, .int q)], [.int 0, .int ru, .ref (50 + n)], hp413)) rfl K) ?_
        obtain ⟨vs416, hv416, hl416, hg416⟩ := pa_ara (a := 50 + n) (i := 18) (lo := -2147483648) (hi := 2147483647) H413 (by omega) (by decide) (by decide) rfl
        have hi415 : ru.toNatClampNeg < vs416.length := by show (Int32.toInt ru).toNat < _; omega
        refine px_gx (fun _ K => px_ias (50 + n) rfl hv416 (by omega) (i32_nn (by omega)) hi415 K) ?_
        show px_Gx _ _ (70, [(3, .int z411), (2, .int i), (0, .ref (38 + n)), (1, .int q)], [], hp413.set (50 + n) (10, vs416.set ru.toNatClampNeg (.int 0))) _
        have hm415 : (hp413.set (50 + n) (10, vs416.set ru.toNatClampNeg (.int 0)))[38 + n]? = some (4, (m_O n th w h pn pl fo le ru)) := px_ne hm413 (by omega)
        have H415 : pa_Hi n (hp413.set (50 + n) (10, vs416.set ru.toNatClampNeg (.int 0))) := pa_aS (i := 18) H413 (by omega) (by decide) (by decide) hv416 rfl (pa_top_ok _)
        have F415 : pa_Fr n [(24, 15), (24, 17), (34, 0), (35, 0), (36, 0)] hp0 (hp413.set (50 + n) (10, vs416.set ru.toNatClampNeg (.int 0))) := F413.trans (pa_aF (i := 18) (by omega) (by decide) (by decide) hv416 (by decide) (by decide))
        have L415 : (hp413.set (50 + n) (10, vs416.set ru.toNatClampNeg (.int 0))).length = hp0.length := List.length_set.trans L413
        have hv410_415 : (hp413.set (50 + n) (10, vs416.set ru.toNatClampNeg (.int 0)))[48 + n]? = some (10, vs410) := px_ne hv410_413 (by omega)
        generalize hp413.set (50 + n) (10, vs416.set ru.toNatClampNeg (.int 0)) = hp415 at hm415 H415 F415 L415 hv410_415 ⊢
        refine px_gx (fun _ K => px_a 2 (f' := (72, [(3, .int z411), (2, .int i), (0, .ref (38 + n)), (1, .int q)], [.ref (38 + n), .ref (38 + n)], hp415)) rfl K) ?_
        refine px_gx (fun _ K => px_gf (38 + n) 132 4 17 (.int ru) rfl rfl hm415 rfl K) ?_
        show px_Gx _ _ (75, [(3, .int z411), (2, .int i), (0, .ref (38 + n)), (1, .int q)], [.int ru, .ref (38 + n)], hp415) _
        refine px_gx (fun _ K => px_a 2 (f' := (77, [(3, .int z411), (2, .int i), (0, .ref (38 + n)), (1, .int q)], [.int (ru + 1), .ref (38 + n)], hp415)) rfl K) ?_
        obtain ⟨z417, ez417, fz417⟩ : ∃ qz : Int32, qz = ru + 1 ∧ qz.toInt = Int32.toInt ru + Int32.toInt 1 := ⟨_, rfl, i32_add (by omega) (by omega)⟩
        rw [← ez417]
        refine px_gx (fun _ K => px_pf (38 + n) 132 4 17 rfl rfl hm415 (by omega) (Nat.le_of_ble_eq_true rfl) (rfl) rfl (by decide) K) ?_
        show px_Gx _ _ (80, [(3, .int z411), (2, .int i), (0, .ref (38 + n)), (1, .int q)], [], hp415.set (38 + n) (4, (m_O n th w h pn pl fo le z417))) _
        have hm418 : (hp415.set (38 + n) (4, (m_O n th w h pn pl fo le z417)))[38 + n]? = some (4, (m_O n th w h pn pl fo le z417)) := px_self hm415
        have H418 : pa_Hi n (hp415.set (38 + n) (4, (m_O n th w h pn pl fo le z417))) := pa_ms (k := 17) (v := .int z417) H415 hm415 rfl (pa_in (by omega) (by omega))
        have F418 : pa_Fr n [(24, 15), (24, 17), (34, 0), (35, 0), (36, 0)] hp0 (hp415.set (38 + n) (4, (m_O n th w h pn pl fo le z417))) := F415.trans (pa_mf (k := 17) (v := .int z417) hm415 (by decide) (by decide))
        have L418 : (hp415.set (38 + n) (4, (m_O n th w h pn pl fo le z417))).length = hp0.length := List.length_set.trans L415
        have hv410_418 : (hp415.set (38 + n) (4, (m_O n th w h pn pl fo le z417)))[48 + n]? = some (10, vs410) := px_ne hv410_415 (by omega)
        generalize hp415.set (38 + n) (4, (m_O n th w h pn pl fo le z417)) = hp418 at hm418 H418 F418 L418 hv410_418 ⊢
        refine px_gx (fun _ K => px_a 1 (f' := (81, [(3, .int z411), (2, .int i), (0, .ref (38 + n)), (1, .int q)], [.ref (38 + n)], hp418)) rfl K) ?_
        refine px_gx (fun _ K => px_gf (38 + n) 45 4 19 (.ref (50 + n)) rfl rfl hm418 rfl K) ?_
        show px_Gx _ _ (84, [(3, .int z411), (2, .int i), (0, .ref (38 + n)), (1, .int q)], [.ref (50 + n)], hp418) _
        refine px_gx (fun _ K => px_a 1 (f' := (85, [(3, .int z411), (2, .int i), (0, .ref (38 + n)), (1, .int q)], [.ref (38 + n), .ref (50 + n)], hp418)) rfl K) ?_
        refine px_gx (fun _ K => px_gf (38 + n) 132 4 17 (.int z417) rfl rfl hm418 rfl K) ?_
        show px_Gx _ _ (88, [(3, .int z411), (2, .int i), (0, .ref (38 + n)), (1, .int q)], [.int z417, .ref (50 + n)], hp418) _
        refine px_gx (fun _ K => px_a 2 (f' := (90, [(3, .int z411), (2, .int i), (0, .ref (38 + n)), (1, .int q)], [.int (z417 - 1), .ref (50 + n)], hp418)) rfl K) ?_
        obtain ⟨z419, ez419, fz419⟩ : ∃ qz : Int32, qz = z417 - 1 ∧ qz.toInt = Int32.toInt z417 - Int32.toInt 1 := ⟨_, rfl, i32_sub (by omega) (by omega)⟩
        rw [← ez419]
        refine px_gx (fun _ K => px_a 1 (f' := (91, [(3, .int z411), (2, .int i), (0, .ref (38 + n)), (1, .int q)], [.ref (38 + n), .int z419, .ref (50 + n)], hp418)) rfl K) ?_
        refine px_gx (fun _ K => px_gf (38 + n) 45 4 19 (.ref (50 + n)) rfl rfl hm418 rfl K) ?_
        show px_Gx _ _ (94, [(3, .int z411), (2, .int i), (0, .ref (38 + n)), (1, .int q)], [.ref (50 + n), .int z419, .ref (50 + n)], hp418) _
        refine px_gx (fun _ K => px_a 1 (f' := (95, [(3, .int z411), (2, .int i), (0, .ref (38 + n)), (1, .int q)], [.ref (38 + n), .ref (50 + n), .int z419, .ref (50 + n)], hp418)) rfl K) ?_
        refine px_gx (fun _ K => px_gf (38 + n) 132 4 17 (.int z417) rfl rfl hm418 rfl K) ?_
        show px_Gx _ _ (98, [(3, .int z411), (2, .int i), (0, .ref (38 + n)), (1, .int q)], [.int z417, .ref (50 + n), .int z419, .ref (50 + n)], hp418) _
        refine px_gx (fun _ K => px_a 2 (f' := (100, [(3, .int z411), (2, .int i), (0, .ref (38 + n)), (1, .int q)], [.int (z417 - 1), .ref (50 + n), .int z419, .ref (50 + n)], hp418)) rfl K) ?_
        rw [← ez419]
        obtain ⟨vs421, hv421, hl421, hg421⟩ := pa_ara (a := 50 + n) (i := 18) (lo := -2147483648) (hi := 2147483647) H418 (by omega) (by decide) (by decide) rfl
        have hi420 : z419.toNatClampNeg < vs421.length := by show (Int32.toInt z419).toNat < _; omega
        obtain ⟨z420, ez420, lz420, uz420⟩ := hg421 _ hi420
        refine px_gx (fun _ K => px_al (50 + n) (.int z420) rfl hv421 (Or.inl ⟨rfl, Or.inl rfl⟩) (i32_nn (by omega)) ez420 K) ?_
        show px_Gx _ _ (101, [(3, .int z411), (2, .int i), (0, .ref (38 + n)), (1, .int q)], [.int z420, .int z419, .ref (50 + n)], hp418) _
        refine px_gx (fun _ K => px_a 1 (f' := (102, [(3, .int z411), (2, .int i), (0, .ref (38 + n)), (1, .int q)], [.ref (38 + n), .int z420, .int z419, .ref (50 + n)], hp418)) rfl K) ?_
        refine px_gx (fun _ K => px_gf (38 + n) 39 4 16 (.ref (48 + n)) rfl rfl hm418 rfl K) ?_
        show px_Gx _ _ (105, [(3, .int z411), (2, .int i), (0, .ref (38 + n)), (1, .int q)], [.ref (48 + n), .int z420, .int z419, .ref (50 + n)], hp418) _
        refine px_gx (fun _ K => px_a 1 (f' := (106, [(3, .int z411), (2, .int i), (0, .ref (38 + n)), (1, .int q)], [.int i, .ref (48 + n), .int z420, .int z419, .ref (50 + n)], hp418)) rfl K) ?_
        refine px_gx (fun _ K => px_al (48 + n) (.int z409) rfl hv410_418 (Or.inl ⟨rfl, Or.inl rfl⟩) (i32_nn (by omega)) ez409 K) ?_
        show px_Gx _ _ (107, [(3, .int z411), (2, .int i), (0, .ref (38 + n)), (1, .int q)], [.int z409, .int z420, .int z419, .ref (50 + n)], hp418) _
        refine px_gx (fun _ K => px_a 1 (f' := (108, [(3, .int z411), (2, .int i), (0, .ref (38 + n)), (1, .int q)], [.int 2, .int z409, .int z420, .int z419, .ref (50 + n)], hp418)) rfl K) ?_
        by_cases h423 : (2 : Int32) ≤ z409
        · have h423' := h423
          rw [Int32.le_iff_toInt_le] at h423'
          refine px_gx (fun _ K => px_b2 true 115 rfl rfl (decide_eq_true h423) K) ?_
          show px_Gx _ _ (115, [(3, .int z411), (2, .int i), (0, .ref (38 + n)), (1, .int q)], [.int z420, .int z419, .ref (50 + n)], hp418) _
          refine px_gx (fun _ K => px_a 3 (f' := (118, [(3, .int z411), (2, .int i), (0, .ref (38 + n)), (1, .int q)], [.int (q - 1), .int z420, .int z419, .ref (50 + n)], hp418)) rfl K) ?_
          obtain ⟨z424, ez424, fz424⟩ : ∃ qz : Int32, qz = q - 1 ∧ qz.toInt = Int32.toInt q - Int32.toInt 1 := ⟨_, rfl, i32_sub (by omega) (by omega)⟩
          rw [← ez424]
          refine px_gx (fun _ K => px_a 1 (f' := (119, [(3, .int z411), (2, .int i), (0, .ref (38 + n)), (1, .int q)], [.int (z420 + z424), .int z419, .ref (50 + n)], hp418)) rfl K) ?_
          obtain ⟨z425, ez425, fz425⟩ : ∃ qz : Int32, qz = z420 + z424 ∧ True := ⟨_, rfl, trivial⟩
          rw [← ez425]
          refine px_gx (fun _ K => px_a 1 (f' := (120, [(3, .int z411), (2, .int i), (0, .ref (38 + n)), (1, .int q)], [.int q, .int z425, .int z419, .ref (50 + n)], hp418)) rfl K) ?_
          refine px_gx (fun _ K => px_irem rfl (pa_ne0 (by omega)) K) ?_
          show px_Gx _ _ (121, [(3, .int z411), (2, .int i), (0, .ref (38 + n)), (1, .int q)], [.int (z425 - z425 / q * q), .int z419, .ref (50 + n)], hp418) _
          obtain ⟨z426, ez426, fz426⟩ : ∃ qz : Int32, qz = (z425 - z425 / q * q) ∧ True := ⟨_, rfl, trivial⟩
          rw [← ez426]
          have hi427 : z419.toNatClampNeg < vs421.length := by show (Int32.toInt z419).toNat < _; omega
          refine px_gx (fun _ K => px_ias (50 + n) rfl hv421 (by omega) (i32_nn (by omega)) hi427 K) ?_
          show px_Gx _ _ (122, [(3, .int z411), (2, .int i), (0, .ref (38 + n)), (1, .int q)], [], hp418.set (50 + n) (10, vs421.set z419.toNatClampNeg (.int z426))) _
          have hm427 : (hp418.set (50 + n) (10, vs421.set z419.toNatClampNeg (.int z426)))[38 + n]? = some (4, (m_O n th w h pn pl fo le z417)) := px_ne hm418 (by omega)
          have H427 : pa_Hi n (hp418.set (50 + n) (10, vs421.set z419.toNatClampNeg (.int z426))) := pa_aS (i := 18) H418 (by omega) (by decide) (by decide) hv421 rfl (pa_top_ok _)
          have F427 : pa_Fr n [(24, 15), (24, 17), (34, 0), (35, 0), (36, 0)] hp0 (hp418.set (50 + n) (10, vs421.set z419.toNatClampNeg (.int z426))) := F418.trans (pa_aF (i := 18) (by omega) (by decide) (by decide) hv421 (by decide) (by decide))
          have L427 : (hp418.set (50 + n) (10, vs421.set z419.toNatClampNeg (.int z426))).length = hp0.length := List.length_set.trans L418
          have hv410_427 : (hp418.set (50 + n) (10, vs421.set z419.toNatClampNeg (.int z426)))[48 + n]? = some (10, vs410) := px_ne hv410_418 (by omega)
          generalize hp418.set (50 + n) (10, vs421.set z419.toNatClampNeg (.int z426)) = hp427 at hm427 H427 F427 L427 hv410_427 ⊢
          refine px_gx (fun _ K => px_a 1 (f' := (123, [(3, .int z411), (2, .int i), (0, .ref (38 + n)), (1, .int q)], [.ref (38 + n)], hp427)) rfl K) ?_
          refine px_gx (fun _ K => px_gf (38 + n) 45 4 19 (.ref (50 + n)) rfl rfl hm427 rfl K) ?_
          show px_Gx _ _ (126, [(3, .int z411), (2, .int i), (0, .ref (38 + n)), (1, .int q)], [.ref (50 + n)], hp427) _
          refine px_gx (fun _ K => px_a 1 (f' := (127, [(3, .int z411), (2, .int i), (0, .ref (38 + n)), (1, .int q)], [.ref (38 + n), .ref (50 + n)], hp427)) rfl K) ?_
          refine px_gx (fun _ K => px_gf (38 + n) 132 4 17 (.int z417) rfl rfl hm427 rfl K) ?_
          show px_Gx _ _ (130, [(3, .int z411), (2, .int i), (0, .ref (38 + n)), (1, .int q)], [.int z417, .ref (50 + n)], hp427) _
          refine px_gx (fun _ K => px_a 2 (f' := (132, [(3, .int z411), (2, .int i), (0, .ref (38 + n)), (1, .int q)], [.int (z417 - 1), .ref (50 + n)], hp427)) rfl K) ?_
          rw [← ez419]
          obtain ⟨vs429, hv429, hl429, hg429⟩ := pa_ara (a := 50 + n) (i := 18) (lo := -2147483648) (hi := 2147483647) H427 (by omega) (by decide) (by decide) rfl
          have hi428 : z419.toNatClampNeg < vs429.length := by show (Int32.toInt z419).toNat < _; omega
          obtain ⟨z428, ez428, lz428, uz428⟩ := hg429 _ hi428
          refine px_gx (fun _ K => px_al (50 + n) (.int z428) rfl hv429 (Or.inl ⟨rfl, Or.inl rfl⟩) (i32_nn (by omega)) ez428 K) ?_
          show px_Gx _ _ (133, [(3, .int z411), (2, .int i), (0, .ref (38 + n)), (1, .int q)], [.int z428], hp427) _
          by_cases h430 : ¬ z428 = 0
          · have h430' := h430
            have h430'' : Int32.toInt z428 ≠ Int32.toInt 0 := fun z => h430 (Int32.toInt_inj.mp z)
            refine px_gx (fun _ K => px_b1 true 146 rfl rfl (decide_eq_true h430) K) ?_
            show px_Gx _ _ (146, [(3, .int z411), (2, .int i), (0, .ref (38 + n)), (1, .int q)], [], hp427) _
            refine px_gx (fun _ K => px_a 1 (f' := (149, [(2, .int (i + 1)), (3, .int z411), (0, .ref (38 + n)), (1, .int q)], [], hp427)) rfl K) ?_
            obtain ⟨z431, ez431, fz431⟩ : ∃ qz : Int32, qz = i + 1 ∧ qz.toInt = Int32.toInt i + Int32.toInt 1 := ⟨_, rfl, i32_add (by omega) (by omega)⟩
            rw [← ez431]
            refine px_gx (fun _ K => px_a 1 (f' := (11, [(2, .int z431), (3, .int z411), (0, .ref (38 + n)), (1, .int q)], [], hp427)) rfl K) ?_
            refine px_wk [(2, .int z431), (0, .ref (38 + n)), (1, .int q)] ⟨rfl, rfl, rfl, trivial⟩ ?_
            exact ih z431 hp427 z417 hm427 H427 F427 L427 (by omega) (by omega) (by omega)
          · have h430' := h430
            have h430'' : Int32.toInt z428 = Int32.toInt 0 := congrArg Int32.toInt (Decidable.not_not.mp h430)
            refine px_gx (fun _ K => px_b1 false 146 rfl rfl (decide_eq_false h430) K) ?_
            show px_Gx _ _ (136, [(3, .int z411), (2, .int i), (0, .ref (38 + n)), (1, .int q)], [], hp427) _
            refine px_gx (fun _ K => px_a 2 (f' := (138, [(3, .int z411), (2, .int i), (0, .ref (38 + n)), (1, .int q)], [.ref (38 + n), .ref (38 + n)], hp427)) rfl K) ?_
            refine px_gx (fun _ K => px_gf (38 + n) 132 4 17 (.int z417) rfl rfl hm427 rfl K) ?_
            show px_Gx _ _ (141, [(3, .int z411), (2, .int i), (0, .ref (38 + n)), (1, .int q)], [.int z417, .ref (38 + n)], hp427) _
            refine px_gx (fun _ K => px_a 2 (f' := (143, [(3, .int z411), (2, .int i), (0, .ref (38 + n)), (1, .int q)], [.int (z417 - 1), .ref (38 + n)], hp427)) rfl K) ?_
            rw [← ez419]
            refine px_gx (fun _ K => px_pf (38 + n) 132 4 17 rfl rfl hm427 (by omega) (Nat.le_of_ble_eq_true rfl) (rfl) rfl (by decide) K) ?_
            show px_Gx _ _ (146, [(3, .int z411), (2, .int i), (0, .ref (38 + n)), (1, .int q)], [], hp427.set (38 + n) (4, (m_O n th w h pn pl fo le z419))) _
            have hm432 : (hp427.set (38 + n) (4, (m_O n th w h pn pl fo le z419)))[38 + n]? = some (4, (m_O n th w h pn pl fo le z419)) := px_self hm427
            have H432 : pa_Hi n (hp427.set (38 + n) (4, (m_O n th w h pn pl fo le z419))) := pa_ms (k := 17) (v := .int z419) H427 hm427 rfl (pa_in (by omega) (by omega))
            have F432 : pa_Fr n [(24, 15), (24, 17), (34, 0), (35, 0), (36, 0)] hp0 (hp427.set (38 + n) (4, (m_O n th w h pn pl fo le z419))) := F427.trans (pa_mf (k := 17) (v := .int z419) hm427 (by decide) (by decide))
            have L432 : (hp427.set (38 + n) (4, (m_O n th w h pn pl fo le z419))).length = hp0.length := List.length_set.trans L427
            have hv410_432 : (hp427.set (38 + n) (4, (m_O n th w h pn pl fo le z419)))[48 + n]? = some (10, vs410) := px_ne hv410_427 (by omega)
            have hv429_432 : (hp427.set (38 + n) (4, (m_O n th w h pn pl fo le z419)))[50 + n]? = some (10, vs429) := px_ne hv429 (by omega)
            generalize hp427.set (38 + n) (4, (m_O n th w h pn pl fo le z419)) = hp432 at hm432 H432 F432 L432 hv410_432 hv429_432 ⊢
            refine px_gx (fun _ K => px_a 1 (f' := (149, [(2, .int (i + 1)), (3, .int z411), (0, .ref (38 + n)), (1, .int q)], [], hp432)) rfl K) ?_
            obtain ⟨z433, ez433, fz433⟩ : ∃ qz : Int32, qz = i + 1 ∧ qz.toInt = Int32.toInt i + Int32.toInt 1 := ⟨_, rfl, i32_add (by omega) (by omega)⟩
            rw [← ez433]
            refine px_gx (fun _ K => px_a 1 (f' := (11, [(2, .int z433), (3, .int z411), (0, .ref (38 + n)), (1, .int q)], [], hp432)) rfl K) ?_
            refine px_wk [(2, .int z433), (0, .ref (38 + n)), (1, .int q)] ⟨rfl, rfl, rfl, trivial⟩ ?_
            exact ih z433 hp432 z419 hm432 H432 F432 L432 (by omega) (by omega) (by omega)
        · have h423' := h423
          rw [Int32.le_iff_toInt_le] at h423'
          refine px_gx (fun _ K => px_b2 false 115 rfl rfl (decide_eq_false h423) K) ?_
          show px_Gx _ _ (111, [(3, .int z411), (2, .int i), (0, .ref (38 + n)), (1, .int q)], [.int z420, .int z419, .ref (50 + n)], hp418) _
          refine px_gx (fun _ K => px_a 3 (f' := (119, [(3, .int z411), (2, .int i), (0, .ref (38 + n)), (1, .int q)], [.int (z420 + 1), .int z419, .ref (50 + n)], hp418)) rfl K) ?_
          obtain ⟨z434, ez434, fz434⟩ : ∃ qz : Int32, qz = z420 + 1 ∧ True := ⟨_, rfl, trivial⟩
          rw [← ez434]
          refine px_gx (fun _ K => px_a 1 (f' := (120, [(3, .int z411), (2, .int i), (0, .ref (38 + n)), (1, .int q)], [.int q, .int z434, .int z419, .ref (50 + n)], hp418)) rfl K) ?_
          refine px_gx (fun _ K => px_irem rfl (pa_ne0 (by omega)) K) ?_
          show px_Gx _ _ (121, [(3, .int z411), (2, .int i), (0, .ref (38 + n)), (1, .int q)], [.int (z434 - z434 / q * q), .int z419, .ref (50 + n)], hp418) _
          obtain ⟨z435, ez435, fz435⟩ : ∃ qz : Int32, qz = (z434 - z434 / q * q) ∧ True := ⟨_, rfl, trivial⟩
          rw [← ez435]
          have hi436 : z419.toNatClampNeg < vs421.length := by show (Int32.toInt z419).toNat < _; omega
          refine px_gx (fun _ K => px_ias (50 + n) rfl hv421 (by omega) (i32_nn (by omega)) hi436 K) ?_
          show px_Gx _ _ (122, [(3, .int z411), (2, .int i), (0, .ref (38 + n)), (1, .int q)], [], hp418.set (50 + n) (10, vs421.set z419.toNatClampNeg (.int z435))) _
          have hm436 : (hp418.set (50 + n) (10, vs421.set z419.toNatClampNeg (.int z435)))[38 + n]? = some (4, (m_O n th w h pn pl fo le z417)) := px_ne hm418 (by omega)
          have H436 : pa_Hi n (hp418.set (50 + n) (10, vs421.set z419.toNatClampNeg (.int z435))) := pa_aS (i := 18) H418 (by omega) (by decide) (by decide) hv421 rfl (pa_top_ok _)
          have F436 : pa_Fr n [(24, 15), (24, 17), (34, 0), (35, 0), (36, 0)] hp0 (hp418.set (50 + n) (10, vs421.set z419.toNatClampNeg (.int z435))) := F418.trans (pa_aF (i := 18) (by omega) (by decide) (by decide) hv421 (by decide) (by decide))
          have L436 : (hp418.set (50 + n) (10, vs421.set z419.toNatClampNeg (.int z435))).length = hp0.length := List.length_set.trans L418
          have hv410_436 : (hp418.set (50 + n) (10, vs421.set z419.toNatClampNeg (.int z435)))[48 + n]? = some (10, vs410) := px_ne hv410_418 (by omega)
          generalize hp418.set (50 + n) (10, vs421.set z419.toNatClampNeg (.int z435)) = hp436 at hm436 H436 F436 L436 hv410_436 ⊢
          refine px_gx (fun _ K => px_a 1 (f' := (123, [(3, .int z411), (2, .int i), (0, .ref (38 + n)), (1, .int q)], [.ref (38 + n)], hp436)) rfl K) ?_
          refine px_gx (fun _ K => px_gf (38 + n) 45 4 19 (.ref (50 + n)) rfl rfl hm436 rfl K) ?_
          show px_Gx _ _ (126, [(3, .int z411), (2, .int i), (0, .ref (38 + n)), (1, .int q)], [.ref (50 + n)], hp436) _
          refine px_gx (fun _ K => px_a 1 (f' := (127, [(3, .int z411), (2, .int i), (0, .ref (38 + n)), (1, .int q)], [.ref (38 + n), .ref (50 + n)], hp436)) rfl K) ?_
          refine px_gx (fun _ K => px_gf (38 + n) 132 4 17 (.int z417) rfl rfl hm436 rfl K) ?_
          show px_Gx _ _ (130, [(3, .int z411), (2, .int i), (0, .ref (38 + n)), (1, .int q)], [.int z417, .ref (50 + n)], hp436) _
          refine px_gx (fun _ K => px_a 2 (f' := (132, [(3, .int z411), (2, .int i), (0, .ref (38 + n)), (1, .int q)], [.int (z417 - 1), .ref (50 + n)], hp436)) rfl K) ?_
          rw [← ez419]
          obtain ⟨vs438, hv438, hl438, hg438⟩ := pa_ara (a := 50 + n) (i := 18) (lo := -2147483648) (hi := 2147483647) H436 (by omega) (by decide) (by decide) rfl
          have hi437 : z419.toNatClampNeg < vs438.length := by show (Int32.toInt z419).toNat < _; omega
          obtain ⟨z437, ez437, lz437, uz437⟩ := hg438 _ hi437
          refine px_gx (fun _ K => px_al (50 + n) (.int z437) rfl hv438 (Or.inl ⟨rfl, Or.inl rfl⟩) (i32_nn (by omega)) ez437 K) ?_
          show px_Gx _ _ (133, [(3, .int z411), (2, .int i), (0, .ref (38 + n)), (1, .int q)], [.int z437], hp436) _
          by_cases h439 : ¬ z437 = 0
          · have h439' := h439
            have h439'' : Int32.toInt z437 ≠ Int32.toInt 0 := fun z => h439 (Int32.toInt_inj.mp z)
            refine px_gx (fun _ K => px_b1 true 146 rfl rfl (decide_eq_true h439) K) ?_
            show px_Gx _ _ (146, [(3, .int z411), (2, .int i), (0, .ref (38 + n)), (1, .int q)], [], hp436) _
            refine px_gx (fun _ K => px_a 1 (f' := (149, [(2, .int (i + 1)), (3, .int z411), (0, .ref (38 + n)), (1, .int q)], [], hp436)) rfl K) ?_
            obtain ⟨z440, ez440, fz440⟩ : ∃ qz : Int32, qz = i + 1 ∧ qz.toInt = Int32.toInt i + Int32.toInt 1 := ⟨_, rfl, i32_add (by omega) (by omega)⟩
            rw [← ez440]
            refine px_gx (fun _ K => px_a 1 (f' := (11, [(2, .int z440), (3, .int z411), (0, .ref (38 + n)), (1, .int q)], [], hp436)) rfl K) ?_
            refine px_wk [(2, .int z440), (0, .ref (38 + n)), (1, .int q)] ⟨rfl, rfl, rfl, trivial⟩ ?_
            exact ih z440 hp436 z417 hm436 H436 F436 L436 (by omega) (by omega) (by omega)
          · have h439' := h439
            have h439'' : Int32.toInt z437 = Int32.toInt 0 := congrArg Int32.toInt (Decidable.not_not.mp h439)
            refine px_gx (fun _ K => px_b1 false 146 rfl rfl (decide_eq_false h439) K) ?_
            show px_Gx _ _ (136, [(3, .int z411), (2, .int i), (0, .ref (38 + n)), (1, .int q)], [], hp436) _
            refine px_gx (fun _ K => px_a 2 (f' := (138, [(3, .int z411), (2, .int i), (0, .ref (38 + n)), (1, .int q)], [.ref (38 + n), .ref (38 + n)], hp436)) rfl K) ?_
            refine px_gx (fun _ K => px_gf (38 + n) 132 4 17 (.int z417) rfl rfl hm436 rfl K) ?_
            show px_Gx _ _ (141, [(3, .int z411), (2, .int i), (0, .ref (38 + n)), (1, .int q)], [.int z417, .ref (38 + n)], hp436) _
            refine px_gx (fun _ K => px_a 2 (f' := (143, [(3, .int z411), (2, .int i), (0, .ref (38 + n)), (1, .int q)], [.int (z417 - 1), .ref (38 + n)], hp436)) rfl K) ?_
            rw [← ez419]
            refine px_gx (fun _ K => px_pf (38 + n) 132 4 17 rfl rfl hm436 (by omega) (Nat.le_of_ble_eq_true rfl) (rfl) rfl (by decide) K) ?_
            show px_Gx _ _ (146, [(3, .int z411), (2, .int i), (0, .ref (38 + n)), (1, .int q)], [], hp436.set (38 + n) (4, (m_O n th w h pn pl fo le z419))) _
            have hm441 : (hp436.set (38 + n) (4, (m_O n th w h pn pl fo le z419)))[38 + n]? = some (4, (m_O n th w h pn pl fo le z419)) := px_self hm436
            have H441 : pa_Hi n (hp436.set (38 + n) (4, (m_O n th w h pn pl fo le z419))) := pa_ms (k := 17) (v := .int z419) H436 hm436 rfl (pa_in (by omega) (by omega))
            have F441 : pa_Fr n [(24, 15), (24, 17), (34, 0), (35, 0), (36, 0)] hp0 (hp436.set (38 + n) (4, (m_O n th w h pn pl fo le z419))) := F436.trans (pa_mf (k := 17) (v := .int z419) hm436 (by decide) (by decide))
            have L441 : (hp436.set (38 + n) (4, (m_O n th w h pn pl fo le z419))).length = hp0.length := List.length_set.trans L436
            have hv410_441 : (hp436.set (38 + n) (4, (m_O n th w h pn pl fo le z419)))[48 + n]? = some (10, vs410) := px_ne hv410_436 (by omega)
            have hv438_441 : (hp436.set (38 + n) (4, (m_O n th w h pn pl fo le z419)))[50 + n]? = some (10, vs438) := px_ne hv438 (by omega)
            generalize hp436.set (38 + n) (4, (m_O n th w h pn pl fo le z419)) = hp441 at hm441 H441 F441 L441 hv410_441 hv438_441 ⊢
            refine px_gx (fun _ K => px_a 1 (f' := (149, [(2, .int (i + 1)), (3, .int z411), (0, .ref (38 + n)), (1, .int q)], [], hp441)) rfl K) ?_
            obtain ⟨z442, ez442, fz442⟩ : ∃ qz : Int32, qz = i + 1 ∧ qz.toInt = Int32.toInt i + Int32.toInt 1 := ⟨_, rfl, i32_add (by omega) (by omega)⟩
            rw [← ez442]
            refine px_gx (fun _ K => px_a 1 (f' := (11, [(2, .int z442), (3, .int z411), (0, .ref (38 + n)), (1, .int q)], [], hp441)) rfl K) ?_
            refine px_wk [(2, .int z442), (0, .ref (38 + n)), (1, .int q)] ⟨rfl, rfl, rfl, trivial⟩ ?_
            exact ih z442 hp441 z419 hm441 H441 F441 L441 (by omega) (by omega) (by omega)
      · have h412' := h412
        have h412'' : Int32.toInt ru ≠ Int32.toInt 0 := fun z => h412 (Int32.toInt_inj.mp z)
        refine px_gx (fun _ K => px_b1 false 50 rfl rfl (decide_eq_false h412) K) ?_
        show px_Gx _ _ (35, [(3, .int z411), (2, .int i), (0, .ref (38 + n)), (1, .int q)], [], hp) _
        refine px_gx (fun _ K => px_a 1 (f' := (36, [(3, .int z411), (2, .int i), (0, .ref (38 + n)), (1, .int q)], [.ref (38 + n)], hp)) rfl K) ?_
        refine px_gx (fun _ K => px_gf (38 + n) 42 4 18 (.ref (49 + n)) rfl rfl hm rfl K) ?_
        show px_Gx _ _ (39, [(3, .int z411), (2, .int i), (0, .ref (38 + n)), (1, .int q)], [.ref (49 + n)], hp) _
        refine px_gx (fun _ K => px_a 1 (f' := (40, [(3, .int z411), (2, .int i), (0, .ref (38 + n)), (1, .int q)], [.ref (38 + n), .ref (49 + n)], hp)) rfl K) ?_
        refine px_gx (fun _ K => px_gf (38 + n) 132 4 17 (.int ru) rfl rfl hm rfl K) ?_
        show px_Gx _ _ (43, [(3, .int z411), (2, .int i), (0, .ref (38 + n)), (1, .int q)], [.int ru, .ref (49 + n)], hp) _
        refine px_gx (fun _ K => px_a 2 (f' := (45, [(3, .int z411), (2, .int i), (0, .ref (38 + n)), (1, .int q)], [.int (ru - 1), .ref (49 + n)], hp)) rfl K) ?_
        obtain ⟨z443, ez443, fz443⟩ : ∃ qz : Int32, qz = ru - 1 ∧ qz.toInt = Int32.toInt ru - Int32.toInt 1 := ⟨_, rfl, i32_sub (by omega) (by omega)⟩
        rw [← ez443]
        obtain ⟨vs445, hv445, hl445, hg445⟩ := pa_ara (a := 49 + n) (i := 17) (lo := -2147483648) (hi := 2147483647) H (by omega) (by decide) (by decide) rfl
        have hi444 : z443.toNatClampNeg < vs445.length := by show (Int32.toInt z443).toNat < _; omega
        obtain ⟨z444, ez444, lz444, uz444⟩ := hg445 _ hi444
        refine px_gx (fun _ K => px_al (49 + n) (.int z444) rfl hv445 (Or.inl ⟨rfl, Or.inl rfl⟩) (i32_nn (by omega)) ez444 K) ?_
        show px_Gx _ _ (46, [(3, .int z411), (2, .int i), (0, .ref (38 + n)), (1, .int q)], [.int z444], hp) _
        refine px_gx (fun _ K => px_a 1 (f' := (47, [(3, .int z411), (2, .int i), (0, .ref (38 + n)), (1, .int q)], [.int z411, .int z444], hp)) rfl K) ?_
        by_cases h446 : z444 = z411
        · have h446' := h446
          replace h446' := congrArg Int32.toInt h446
          refine px_gx (fun _ K => px_b2 true 80 rfl rfl (decide_eq_true h446) K) ?_
          show px_Gx _ _ (80, [(3, .int z411), (2, .int i), (0, .ref (38 + n)), (1, .int q)], [], hp) _
          refine px_gx (fun _ K => px_a 1 (f' := (81, [(3, .int z411), (2, .int i), (0, .ref (38 + n)), (1, .int q)], [.ref (38 + n)], hp)) rfl K) ?_
          refine px_gx (fun _ K => px_gf (38 + n) 45 4 19 (.ref (50 + n)) rfl rfl hm rfl K) ?_
          show px_Gx _ _ (84, [(3, .int z411), (2, .int i), (0, .ref (38 + n)), (1, .int q)], [.ref (50 + n)], hp) _
          refine px_gx (fun _ K => px_a 1 (f' := (85, [(3, .int z411), (2, .int i), (0, .ref (38 + n)), (1, .int q)], [.ref (38 + n), .ref (50 + n)], hp)) rfl K) ?_
          refine px_gx (fun _ K => px_gf (38 + n) 132 4 17 (.int ru) rfl rfl hm rfl K) ?_
          show px_Gx _ _ (88, [(3, .int z411), (2, .int i), (0, .ref (38 + n)), (1, .int q)], [.int ru, .ref (50 + n)], hp) _
          refine px_gx (fun _ K => px_a 2 (f' := (90, [(3, .int z411), (2, .int i), (0, .ref (38 + n)), (1, .int q)], [.int (ru - 1), .ref (50 + n)], hp)) rfl K) ?_
          rw [← ez443]
          refine px_gx (fun _ K => px_a 1 (f' := (91, [(3, .int z411), (2, .int i), (0, .ref (38 + n)), (1, .int q)], [.ref (38 + n), .int z443, .ref (50 + n)], hp)) rfl K) ?_
          refine px_gx (fun _ K => px_gf (38 + n) 45 4 19 (.ref (50 + n)) rfl rfl hm rfl K) ?_
          show px_Gx _ _ (94, [(3, .int z411), (2, .int i), (0, .ref (38 + n)), (1, .int q)], [.ref (50 + n), .int z443, .ref (50 + n)], hp) _
          refine px_gx (fun _ K => px_a 1 (f' := (95, [(3, .int z411), (2, .int i), (0, .ref (38 + n)), (1, .int q)], [.ref (38 + n), .ref (50 + n), .int z443, .ref (50 + n)], hp)) rfl K) ?_
          refine px_gx (fun _ K => px_gf (38 + n) 132 4 17 (.int ru) rfl rfl hm rfl K) ?_
          show px_Gx _ _ (98, [(3, .int z411), (2, .int i), (0, .ref (38 + n)), (1, .int q)], [.int ru, .ref (50 + n), .int z443, .ref (50 + n)], hp) _
          refine px_gx (fun _ K => px_a 2 (f' := (100, [(3, .int z411), (2, .int i), (0, .ref (38 + n)), (1, .int q)], [.int (ru - 1), .ref (50 + n), .int z443, .ref (50 + n)], hp)) rfl K) ?_
          rw [← ez443]
          obtain ⟨vs448, hv448, hl448, hg448⟩ := pa_ara (a := 50 + n) (i := 18) (lo := -2147483648) (hi := 2147483647) H (by omega) (by decide) (by decide) rfl
          have hi447 : z443.toNatClampNeg < vs448.length := by show (Int32.toInt z443).toNat < _; omega
          obtain ⟨z447, ez447, lz447, uz447⟩ := hg448 _ hi447
          refine px_gx (fun _ K => px_al (50 + n) (.int z447) rfl hv448 (Or.inl ⟨rfl, Or.inl rfl⟩) (i32_nn (by omega)) ez447 K) ?_
          show px_Gx _ _ (101, [(3, .int z411), (2, .int i), (0, .ref (38 + n)), (1, .int q)], [.int z447, .int z443, .ref (50 + n)], hp) _
          refine px_gx (fun _ K => px_a 1 (f' := (102, [(3, .int z411), (2, .int i), (0, .ref (38 + n)), (1, .int q)], [.ref (38 + n), .int z447, .int z443, .ref (50 + n)], hp)) rfl K) ?_
          refine px_gx (fun _ K => px_gf (38 + n) 39 4 16 (.ref (48 + n)) rfl rfl hm rfl K) ?_
          show px_Gx _ _ (105, [(3, .int z411), (2, .int i), (0, .ref (38 + n)), (1, .int q)], [.ref (48 + n), .int z447, .int z443, .ref (50 + n)], hp) _
          refine px_gx (fun _ K => px_a 1 (f' := (106, [(3, .int z411), (2, .int i), (0, .ref (38 + n)), (1, .int q)], [.int i, .ref (48 + n), .int z447, .int z443, .ref (50 + n)], hp)) rfl K) ?_
          refine px_gx (fun _ K => px_al (48 + n) (.int z409) rfl hv410 (Or.inl ⟨rfl, Or.inl rfl⟩) (i32_nn (by omega)) ez409 K) ?_
          show px_Gx _ _ (107, [(3, .int z411), (2, .int i), (0, .ref (38 + n)), (1, .int q)], [.int z409, .int z447, .int z443, .ref (50 + n)], hp) _
          refine px_gx (fun _ K => px_a 1 (f' := (108, [(3, .int z411), (2, .int i), (0, .ref (38 + n)), (1, .int q)], [.int 2, .int z409, .int z447, .int z443, .ref (50 + n)], hp)) rfl K) ?_
          by_cases h450 : (2 : Int32) ≤ z409
          · have h450' := h450
            rw [Int32.le_iff_toInt_le] at h450'
            refine px_gx (fun _ K => px_b2 true 115 rfl rfl (decide_eq_true h450) K) ?_
            show px_Gx _ _ (115, [(3, .int z411), (2, .int i), (0, .ref (38 + n)), (1, .int q)], [.int z447, .int z443, .ref (50 + n)], hp) _
            refine px_gx (fun _ K => px_a 3 (f' := (118, [(3, .int z411), (2, .int i), (0, .ref (38 + n)), (1, .int q)], [.int (q - 1), .int z447, .int z443, .ref (50 + n)], hp)) rfl K) ?_
            obtain ⟨z451, ez451, fz451⟩ : ∃ qz : Int32, qz = q - 1 ∧ qz.toInt = Int32.toInt q - Int32.toInt 1 := ⟨_, rfl, i32_sub (by omega) (by omega)⟩
            rw [← ez451]
            refine px_gx (fun _ K => px_a 1 (f' := (119, [(3, .int z411), (2, .int i), (0, .ref (38 + n)), (1, .int q)], [.int (z447 + z451), .int z443, .ref (50 + n)], hp)) rfl K) ?_
            obtain ⟨z452, ez452, fz452⟩ : ∃ qz : Int32, qz = z447 + z451 ∧ True := ⟨_, rfl, trivial⟩
            rw [← ez452]
            refine px_gx (fun _ K => px_a 1 (f' := (120, [(3, .int z411), (2, .int i), (0, .ref (38 + n)), (1, .int q)], [.int q, .int z452, .int z443, .ref (50 + n)], hp)) rfl K) ?_
            refine px_gx (fun _ K => px_irem rfl (pa_ne0 (by omega)) K) ?_
            show px_Gx _ _ (121, [(3, .int z411), (2, .int i), (0, .ref (38 + n)), (1, .int q)], [.int (z452 - z452 / q * q), .int z443, .ref (50 + n)], hp) _
            obtain ⟨z453, ez453, fz453⟩ : ∃ qz : Int32, qz = (z452 - z452 / q * q) ∧ True := ⟨_, rfl, trivial⟩
            rw [← ez453]
            have hi454 : z443.toNatClampNeg < vs448.length := by show (Int32.toInt z443).toNat < _; omega
            refine px_gx (fun _ K => px_ias (50 + n) rfl hv448 (by omega) (i32_nn (by omega)) hi454 K) ?_
            show px_Gx _ _ (122, [(3, .int z411), (2, .int i), (0, .ref (38 + n)), (1, .int q)], [], hp.set (50 + n) (10, vs448.set z443.toNatClampNeg (.int z453))) _
            have hm454 : (hp.set (50 + n) (10, vs448.set z443.toNatClampNeg (.int z453)))[38 + n]? = some (4, (m_O n th w h pn pl fo le ru)) := px_ne hm (by omega)
            have H454 : pa_Hi n (hp.set (50 + n) (10, vs448.set z443.toNatClampNeg (.int z453))) := pa_aS (i := 18) H (by omega) (by decide) (by decide) hv448 rfl (pa_top_ok _)
            have F454 : pa_Fr n [(24, 15), (24, 17), (34, 0), (35, 0), (36, 0)] hp0 (hp.set (50 + n) (10, vs448.set z443.toNatClampNeg (.int z453))) := F.trans (pa_aF (i := 18) (by omega) (by decide) (by decide) hv448 (by decide) (by decide))
            have L454 : (hp.set (50 + n) (10, vs448.set z443.toNatClampNeg (.int z453))).length = hp0.length := List.length_set.trans L
            have hv410_454 : (hp.set (50 + n) (10, vs448.set z443.toNatClampNeg (.int z453)))[48 + n]? = some (10, vs410) := px_ne hv410 (by omega)
            have hv445_454 : (hp.set (50 + n) (10, vs448.set z443.toNatClampNeg (.int z453)))[49 + n]? = some (10, vs445) := px_ne hv445 (by omega)
            generalize hp.set (50 + n) (10, vs448.set z443.toNatClampNeg (.int z453)) = hp454 at hm454 H454 F454 L454 hv410_454 hv445_454 ⊢
            refine px_gx (fun _ K => px_a 1 (f' := (123, [(3, .int z411), (2, .int i), (0, .ref (38 + n)), (1, .int q)], [.ref (38 + n)], hp454)) rfl K) ?_
            refine px_gx (fun _ K => px_gf (38 + n) 45 4 19 (.ref (50 + n)) rfl rfl hm454 rfl K) ?_
            show px_Gx _ _ (126, [(3, .int z411), (2, .int i), (0, .ref (38 + n)), (1, .int q)], [.ref (50 + n)], hp454) _
            refine px_gx (fun _ K => px_a 1 (f' := (127, [(3, .int z411), (2, .int i), (0, .ref (38 + n)), (1, .int q)], [.ref (38 + n), .ref (50 + n)], hp454)) rfl K) ?_
            refine px_gx (fun _ K => px_gf (38 + n) 132 4 17 (.int ru) rfl rfl hm454 rfl K) ?_
            show px_Gx _ _ (130, [(3, .int z411), (2, .int i), (0, .ref (38 + n)), (1, .int q)], [.int ru, .ref (50 + n)], hp454) _
            refine px_gx (fun _ K => px_a 2 (f' := (132, [(3, .int z411), (2, .int i), (0, .ref (38 + n)), (1, .int q)], [.int (ru - 1), .ref (50 + n)], hp454)) rfl K) ?_
            rw [← ez443]
            obtain ⟨vs456, hv456, hl456, hg456⟩ := pa_ara (a := 50 + n) (i := 18) (lo := -2147483648) (hi := 2147483647) H454 (by omega) (by decide) (by decide) rfl
            have hi455 : z443.toNatClampNeg < vs456.length := by show (Int32.toInt z443).toNat < _; omega
            obtain ⟨z455, ez455, lz455, uz455⟩ := hg456 _ hi455
            refine px_gx (fun _ K => px_al (50 + n) (.int z455) rfl hv456 (Or.inl ⟨rfl, Or.inl rfl⟩) (i32_nn (by omega)) ez455 K) ?_
            show px_Gx _ _ (133, [(3, .int z411), (2, .int i), (0, .ref (38 + n)), (1, .int q)], [.int z455], hp454) _
            by_cases h457 : ¬ z455 = 0
            · have h457' := h457
              have h457'' : Int32.toInt z455 ≠ Int32.toInt 0 := fun z => h457 (Int32.toInt_inj.mp z)
              refine px_gx (fun _ K => px_b1 true 146 rfl rfl (decide_eq_true h457) K) ?_
              show px_Gx _ _ (146, [(3, .int z411), (2, .int i), (0, .ref (38 + n)), (1, .int q)], [], hp454) _
              refine px_gx (fun _ K => px_a 1 (f' := (149, [(2, .int (i + 1)), (3, .int z411), (0, .ref (38 + n)), (1, .int q)], [], hp454)) rfl K) ?_
              obtain ⟨z458, ez458, fz458⟩ : ∃ qz : Int32, qz = i + 1 ∧ qz.toInt = Int32.toInt i + Int32.toInt 1 := ⟨_, rfl, i32_add (by omega) (by omega)⟩
              rw [← ez458]
              refine px_gx (fun _ K => px_a 1 (f' := (11, [(2, .int z458), (3, .int z411), (0, .ref (38 + n)), (1, .int q)], [], hp454)) rfl K) ?_
              refine px_wk [(2, .int z458), (0, .ref (38 + n)), (1, .int q)] ⟨rfl, rfl, rfl, trivial⟩ ?_
              exact ih z458 hp454 ru hm454 H454 F454 L454 (by omega) (by omega) (by omega)
            · have h457' := h457
              have h457'' : Int32.toInt z455 = Int32.toInt 0 := congrArg Int32.toInt (Decidable.not_not.mp h457)
              refine px_gx (fun _ K => px_b1 false 146 rfl rfl (decide_eq_false h457) K) ?_
              show px_Gx _ _ (136, [(3, .int z411), (2, .int i), (0, .ref (38 + n)), (1, .int q)], [], hp454) _
              refine px_gx (fun _ K => px_a 2 (f' := (138, [(3, .int z411), (2, .int i), (0, .ref (38 + n)), (1, .int q)], [.ref (38 + n), .ref (38 + n)], hp454)) rfl K) ?_
              refine px_gx (fun _ K => px_gf (38 + n) 132 4 17 (.int ru) rfl rfl hm454 rfl K) ?_
              show px_Gx _ _ (141, [(3, .int z411), (2, .int i), (0, .ref (38 + n)), (1, .int q)], [.int ru, .ref (38 + n)], hp454) _
              refine px_gx (fun _ K => px_a 2 (f' := (143, [(3, .int z411), (2, .int i), (0, .ref (38 + n)), (1, .int q)], [.int (ru - 1), .ref (38 + n)], hp454)) rfl K) ?_
              rw [← ez443]
              refine px_gx (fun _ K => px_pf (38 + n) 132 4 17 rfl rfl hm454 (by omega) (Nat.le_of_ble_eq_true rfl) (rfl) rfl (by decide) K) ?_
              show px_Gx _ _ (146, [(3, .int z411), (2, .int i), (0, .ref (38 + n)), (1, .int q)], [], hp454.set (38 + n) (4, (m_O n th w h pn pl fo le z443))) _
              have hm459 : (hp454.set (38 + n) (4, (m_O n th w h pn pl fo le z443)))[38 + n]? = some (4, (m_O n th w h pn pl fo le z443)) := px_self hm454
              have H459 : pa_Hi n (hp454.set (38 + n) (4, (m_O n th w h pn pl fo le z443))) := pa_ms (k := 17) (v := .int z443) H454 hm454 rfl (pa_in (by omega) (by omega))
              have F459 : pa_Fr n [(24, 15), (24, 17), (34, 0), (35, 0), (36, 0)] hp0 (hp454.set (38 + n) (4, (m_O n th w h pn pl fo le z443))) := F454.trans (pa_mf (k := 17) (v := .int z443) hm454 (by decide) (by decide))
              have L459 : (hp454.set (38 + n) (4, (m_O n th w h pn pl fo le z443))).length = hp0.length := List.length_set.trans L454
              have hv410_459 : (hp454.set (38 + n) (4, (m_O n th w h pn pl fo le z443)))[48 + n]? = some (10, vs410) := px_ne hv410_454 (by omega)
              have hv445_459 : (hp454.set (38 + n) (4, (m_O n th w h pn pl fo le z443)))[49 + n]? = some (10, vs445) := px_ne hv445_454 (by omega)
              have hv456_459 : (hp454.set (38 + n) (4, (m_O n th w h pn pl fo le z443)))[50 + n]? = some (10, vs456) := px_ne hv456 (by omega)
              generalize hp454.set (38 + n) (4, (m_O n th w h pn pl fo le z443)) = hp459 at hm459 H459 F459 L459 hv410_459 hv445_459 hv456_459 ⊢
              refine px_gx (fun _ K => px_a 1 (f' := (149, [(2, .int (i + 1)), (3, .int z411), (0, .ref (38 + n)), (1, .int q)], [], hp459)) rfl K) ?_
              obtain ⟨z460, ez460, fz460⟩ : ∃ qz : Int32, qz = i + 1 ∧ qz.toInt = Int32.toInt i + Int32.toInt 1 := ⟨_, rfl, i32_add (by omega) (by omega)⟩
              rw [← ez460]
              refine px_gx (fun _ K => px_a 1 (f' := (11, [(2, .int z460), (3, .int z411), (0, .ref (38 + n)), (1, .int q)], [], hp459)) rfl K) ?_
              refine px_wk [(2, .int z460), (0, .ref (38 + n)), (1, .int q)] ⟨rfl, rfl, rfl, trivial⟩ ?_
              exact ih z460 hp459 z443 hm459 H459 F459 L459 (by omega) (by omega) (by omega)
          · have h450' := h450
            rw [Int32.le_iff_toInt_le] at h450'
            refine px_gx (fun _ K => px_b2 false 115 rfl rfl (decide_eq_false h450) K) ?_
            show px_Gx _ _ (111, [(3, .int z411), (2, .int i), (0, .ref (38 + n)), (1, .int q)], [.int z447, .int z443, .ref (50 + n)], hp) _
            refine px_gx (fun _ K => px_a 3 (f' := (119, [(3, .int z411), (2, .int i), (0, .ref (38 + n)), (1, .int q)], [.int (z447 + 1), .int z443, .ref (50 + n)], hp)) rfl K) ?_
            obtain ⟨z461, ez461, fz461⟩ : ∃ qz : Int32, qz = z447 + 1 ∧ True := ⟨_, rfl, trivial⟩
            rw [← ez461]
            refine px_gx (fun _ K => px_a 1 (f' := (120, [(3, .int z411), (2, .int i), (0, .ref (38 + n)), (1, .int q)], [.int q, .int z461, .int z443, .ref (50 + n)], hp)) rfl K) ?_
            refine px_gx (fun _ K => px_irem rfl (pa_ne0 (by omega)) K) ?_
            show px_Gx _ _ (121, [(3, .int z411), (2, .int i), (0, .ref (38 + n)), (1, .int q)], [.int (z461 - z461 / q * q), .int z443, .ref (50 + n)], hp) _
            obtain ⟨z462, ez462, fz462⟩ : ∃ qz : Int32, qz = (z461 - z461 / q * q) ∧ True := ⟨_, rfl, trivial⟩
            rw [← ez462]
            have hi463 : z443.toNatClampNeg < vs448.length := by show (Int32.toInt z443).toNat < _; omega
            refine px_gx (fun _ K => px_ias (50 + n) rfl hv448 (by omega) (i32_nn (by omega)) hi463 K) ?_
            show px_Gx _ _ (122, [(3, .int z411), (2, .int i), (0, .ref (38 + n)), (1, .int q)], [], hp.set (50 + n) (10, vs448.set z443.toNatClampNeg (.int z462))) _
            have hm463 : (hp.set (50 + n) (10, vs448.set z443.toNatClampNeg (.int z462)))[38 + n]? = some (4, (m_O n th w h pn pl fo le ru)) := px_ne hm (by omega)
            have H463 : pa_Hi n (hp.set (50 + n) (10, vs448.set z443.toNatClampNeg (.int z462))) := pa_aS (i := 18) H (by omega) (by decide) (by decide) hv448 rfl (pa_top_ok _)
            have F463 : pa_Fr n [(24, 15), (24, 17), (34, 0), (35, 0), (36, 0)] hp0 (hp.set (50 + n) (10, vs448.set z443.toNatClampNeg (.int z462))) := F.trans (pa_aF (i := 18) (by omega) (by decide) (by decide) hv448 (by decide) (by decide))
            have L463 : (hp.set (50 + n) (10, vs448.set z443.toNatClampNeg (.int z462))).length = hp0.length := List.length_set.trans L
            have hv410_463 : (hp.set (50 + n) (10, vs448.set z443.toNatClampNeg (.int z462)))[48 + n]? = some (10, vs410) := px_ne hv410 (by omega)
            have hv445_463 : (hp.set (50 + n) (10, vs448.set z443.toNatClampNeg (.int z462)))[49 + n]? = some (10, vs445) := px_ne hv445 (by omega)
            generalize hp.set (50 + n) (10, vs448.set z443.toNatClampNeg (.int z462)) = hp463 at hm463 H463 F463 L463 hv410_463 hv445_463 ⊢
            refine px_gx (fun _ K => px_a 1 (f' := (123, [(3, .int z411), (2, .int i), (0, .ref (38 + n)), (1, .int q)], [.ref (38 + n)], hp463)) rfl K) ?_
            refine px_gx (fun _ K => px_gf (38 + n) 45 4 19 (.ref (50 + n)) rfl rfl hm463 rfl K) ?_
            show px_Gx _ _ (126, [(3, .int z411), (2, .int i), (0, .ref (38 + n)), (1, .int q)], [.ref (50 + n)], hp463) _
            refine px_gx (fun _ K => px_a 1 (f' := (127, [(3, .int z411), (2, .int i), (0, .ref (38 + n)), (1, .int q)], [.ref (38 + n), .ref (50 + n)], hp463)) rfl K) ?_
            refine px_gx (fun _ K => px_gf (38 + n) 132 4 17 (.int ru) rfl rfl hm463 rfl K) ?_
            show px_Gx _ _ (130, [(3, .int z411), (2, .int i), (0, .ref (38 + n)), (1, .int q)], [.int ru, .ref (50 + n)], hp463) _
            refine px_gx (fun _ K => px_a 2 (f' := (132, [(3, .int z411), (2, .int i), (0, .ref (38 + n)), (1, .int q)], [.int (ru - 1), .ref (50 + n)], hp463)) rfl K) ?_
            rw [← ez443]
            obtain ⟨vs465, hv465, hl465, hg465⟩ := pa_ara (a := 50 + n) (i := 18) (lo := -2147483648) (hi := 2147483647) H463 (by omega) (by decide) (by decide) rfl
            have hi464 : z443.toNatClampNeg < vs465.length := by show (Int32.toInt z443).toNat < _; omega
            obtain ⟨z464, ez464, lz464, uz464⟩ := hg465 _ hi464
            refine px_gx (fun _ K => px_al (50 + n) (.int z464) rfl hv465 (Or.inl ⟨rfl, Or.inl rfl⟩) (i32_nn (by omega)) ez464 K) ?_
            show px_Gx _ _ (133, [(3, .int z411), (2, .int i), (0, .ref (38 + n)), (1, .int q)], [.int z464], hp463) _
            by_cases h466 : ¬ z464 = 0
            · have h466' := h466
              have h466'' : Int32.toInt z464 ≠ Int32.toInt 0 := fun z => h466 (Int32.toInt_inj.mp z)
              refine px_gx (fun _ K => px_b1 true 146 rfl rfl (decide_eq_true h466) K) ?_
              show px_Gx _ _ (146, [(3, .int z411), (2, .int i), (0, .ref (38 + n)), (1, .int q)], [], hp463) _
              refine px_gx (fun _ K => px_a 1 (f' := (149, [(2, .int (i + 1)), (3, .int z411), (0, .ref (38 + n)), (1, .int q)], [], hp463)) rfl K) ?_
              obtain ⟨z467, ez467, fz467⟩ : ∃ qz : Int32, qz = i + 1 ∧ qz.toInt = Int32.toInt i + Int32.toInt 1 := ⟨_, rfl, i32_add (by omega) (by omega)⟩
              rw [← ez467]
              refine px_gx (fun _ K => px_a 1 (f' := (11, [(2, .int z467), (3, .int z411), (0, .ref (38 + n)), (1, .int q)], [], hp463)) rfl K) ?_
              refine px_wk [(2, .int z467), (0, .ref (38 + n)), (1, .int q)] ⟨rfl, rfl, rfl, trivial⟩ ?_
              exact ih z467 hp463 ru hm463 H463 F463 L463 (by omega) (by omega) (by omega)
            · have h466' := h466
              have h466'' : Int32.toInt z464 = Int32.toInt 0 := congrArg Int32.toInt (Decidable.not_not.mp h466)
              refine px_gx (fun _ K => px_b1 false 146 rfl rfl (decide_eq_false h466) K) ?_
              show px_Gx _ _ (136, [(3, .int z411), (2, .int i), (0, .ref (38 + n)), (1, .int q)], [], hp463) _
              refine px_gx (fun _ K => px_a 2 (f' := (138, [(3, .int z411), (2, .int i), (0, .ref (38 + n)), (1, .int q)], [.ref (38 + n), .ref (38 + n)], hp463)) rfl K) ?_
              refine px_gx (fun _ K => px_gf (38 + n) 132 4 17 (.int ru) rfl rfl hm463 rfl K) ?_
              show px_Gx _ _ (141, [(3, .int z411), (2, .int i), (0, .ref (38 + n)), (1, .int q)], [.int ru, .ref (38 + n)], hp463) _
              refine px_gx (fun _ K => px_a 2 (f' := (143, [(3, .int z411), (2, .int i), (0, .ref (38 + n)), (1, .int q)], [.int (ru - 1), .ref (38 + n)], hp463)) rfl K) ?_
              rw [← ez443]
              refine px_gx (fun _ K => px_pf (38 + n) 132 4 17 rfl rfl hm463 (by omega) (Nat.le_of_ble_eq_true rfl) (rfl) rfl (by decide) K) ?_
              show px_Gx _ _ (146, [(3, .int z411), (2, .int i), (0, .ref (38 + n)), (1, .int q)], [], hp463.set (38 + n) (4, (m_O n th w h pn pl fo le z443))) _
              have hm468 : (hp463.set (38 + n) (4, (m_O n th w h pn pl fo le z443)))[38 + n]? = some (4, (m_O n th w h pn pl fo le z443)) := px_self hm463
              have H468 : pa_Hi n (hp463.set (38 + n) (4, (m_O n th w h pn pl fo le z443))) := pa_ms (k := 17) (v := .int z443) H463 hm463 rfl (pa_in (by omega) (by omega))
              have F468 : pa_Fr n [(24, 15), (24, 17), (34, 0), (35, 0), (36, 0)] hp0 (hp463.set (38 + n) (4, (m_O n th w h pn pl fo le z443))) := F463.trans (pa_mf (k := 17) (v := .int z443) hm463 (by decide) (by decide))
              have L468 : (hp463.set (38 + n) (4, (m_O n th w h pn pl fo le z443))).length = hp0.length := List.length_set.trans L463
              have hv410_468 : (hp463.set (38 + n) (4, (m_O n th w h pn pl fo le z443)))[48 + n]? = some (10, vs410) := px_ne hv410_463 (by omega)
              have hv445_468 : (hp463.set (38 + n) (4, (m_O n th w h pn pl fo le z443)))[49 + n]? = some (10, vs445) := px_ne hv445_463 (by omega)
              have hv465_468 : (hp463.set (38 + n) (4, (m_O n th w h pn pl fo le z443)))[50 + n]? = some (10, vs465) := px_ne hv465 (by omega)
              generalize hp463.set (38 + n) (4, (m_O n th w h pn pl fo le z443)) = hp468 at hm468 H468 F468 L468 hv410_468 hv445_468 hv465_468 ⊢
              refine px_gx (fun _ K => px_a 1 (f' := (149, [(2, .int (i + 1)), (3, .int z411), (0, .ref (38 + n)), (1, .int q)], [], hp468)) rfl K) ?_
              obtain ⟨z469, ez469, fz469⟩ : ∃ qz : Int32, qz = i + 1 ∧ qz.toInt = Int32.toInt i + Int32.toInt 1 := ⟨_, rfl, i32_add (by omega) (by omega)⟩
              rw [← ez469]
              refine px_gx (fun _ K => px_a 1 (f' := (11, [(2, .int z469), (3, .int z411), (0, .ref (38 + n)), (1, .int q)], [], hp468)) rfl K) ?_
              refine px_wk [(2, .int z469), (0, .ref (38 + n)), (1, .int q)] ⟨rfl, rfl, rfl, trivial⟩ ?_
              exact ih z469 hp468 z443 hm468 H468 F468 L468 (by omega) (by omega) (by omega)
        · have h446' := h446
          have h446'' : Int32.toInt z444 ≠ Int32.toInt z411 := fun z => h446 (Int32.toInt_inj.mp z)
          refine px_gx (fun _ K => px_b2 false 80 rfl rfl (decide_eq_false h446) K) ?_
          show px_Gx _ _ (50, [(3, .int z411), (2, .int i), (0, .ref (38 + n)), (1, .int q)], [], hp) _
          refine px_gx (fun _ K => px_a 1 (f' := (51, [(3, .int z411), (2, .int i), (0, .ref (38 + n)), (1, .int q)], [.ref (38 + n)], hp)) rfl K) ?_
          refine px_gx (fun _ K => px_gf (38 + n) 42 4 18 (.ref (49 + n)) rfl rfl hm rfl K) ?_
          show px_Gx _ _ (54, [(3, .int z411), (2, .int i), (0, .ref (38 + n)), (1, .int q)], [.ref (49 + n)], hp) _
          refine px_gx (fun _ K => px_a 1 (f' := (55, [(3, .int z411), (2, .int i), (0, .ref (38 + n)), (1, .int q)], [.ref (38 + n), .ref (49 + n)], hp)) rfl K) ?_
          refine px_gx (fun _ K => px_gf (38 + n) 132 4 17 (.int ru) rfl rfl hm rfl K) ?_
          show px_Gx _ _ (58, [(3, .int z411), (2, .int i), (0, .ref (38 + n)), (1, .int q)], [.int ru, .ref (49 + n)], hp) _
          refine px_gx (fun _ K => px_a 1 (f' := (59, [(3, .int z411), (2, .int i), (0, .ref (38 + n)), (1, .int q)], [.int z411, .int ru, .ref (49 + n)], hp)) rfl K) ?_
          have hi470 : ru.toNatClampNeg < vs445.length := by show (Int32.toInt ru).toNat < _; omega
          refine px_gx (fun _ K => px_ias (49 + n) rfl hv445 (by omega) (i32_nn (by omega)) hi470 K) ?_
          show px_Gx _ _ (60, [(3, .int z411), (2, .int i), (0, .ref (38 + n)), (1, .int q)], [], hp.set (49 + n) (10, vs445.set ru.toNatClampNeg (.int z411))) _
          have hm470 : (hp.set (49 + n) (10, vs445.set ru.toNatClampNeg (.int z411)))[38 + n]? = some (4, (m_O n th w h pn pl fo le ru)) := px_ne hm (by omega)
          have H470 : pa_Hi n (hp.set (49 + n) (10, vs445.set ru.toNatClampNeg (.int z411))) := pa_aS (i := 17) H (by omega) (by decide) (by decide) hv445 rfl (pa_top_ok _)
          have F470 : pa_Fr n [(24, 15), (24, 17), (34, 0), (35, 0), (36, 0)] hp0 (hp.set (49 + n) (10, vs445.set ru.toNatClampNeg (.int z411))) := F.trans (pa_aF (i := 17) (by omega) (by decide) (by decide) hv445 (by decide) (by decide))
          have L470 : (hp.set (49 + n) (10, vs445.set ru.toNatClampNeg (.int z411))).length = hp0.length := List.length_set.trans L
          have hv410_470 : (hp.set (49 + n) (10, vs445.set ru.toNatClampNeg (.int z411)))[48 + n]? = some (10, vs410) := px_ne hv410 (by omega)
          generalize hp.set (49 + n) (10, vs445.set ru.toNatClampNeg (.int z411)) = hp470 at hm470 H470 F470 L470 hv410_470 ⊢
          refine px_gx (fun _ K => px_a 1 (f' := (61, [(3, .int z411), (2, .int i), (0, .ref (38 + n)), (1, .int q)], [.ref (38 + n)], hp470)) rfl K) ?_
          refine px_gx (fun _ K => px_gf (38 + n) 45 4 19 (.ref (50 + n)) rfl rfl hm470 rfl K) ?_
          show px_Gx _ _ (64, [(3, .int z411), (2, .int i), (0, .ref (38 + n)), (1, .int q)], [.ref (50 + n)], hp470) _
          refine px_gx (fun _ K => px_a 1 (f' := (65, [(3, .int z411), (2, .int i), (0, .ref (38 + n)), (1, .int q)], [.ref (38 + n), .ref (50 + n)], hp470)) rfl K) ?_
          refine px_gx (fun _ K => px_gf (38 + n) 132 4 17 (.int ru) rfl rfl hm470 rfl K) ?_
          show px_Gx _ _ (68, [(3, .int z411), (2, .int i), (0, .ref (38 + n)), (1, .int q)], [.int ru, .ref (50 + n)], hp470) _
          refine px_gx (fun _ K => px_a 1 (f' := (69, [(3, .int z411), (2, .int i), (0, .ref (38 + n)), (1, .int q)], [.int 0, .int ru, .ref (50 + n)], hp470)) rfl K) ?_
          obtain ⟨vs472, hv472, hl472, hg472⟩ := pa_ara (a := 50 + n) (i := 18) (lo := -2147483648) (hi := 2147483647) H470 (by omega) (by decide) (by decide) rfl
          have hi471 : ru.toNatClampNeg < vs472.length := by show (Int32.toInt ru).toNat < _; omega
          refine px_gx (fun _ K => px_ias (50 + n) rfl hv472 (by omega) (i32_nn (by omega)) hi471 K) ?_
          show px_Gx _ _ (70, [(3, .int z411), (2, .int i), (0, .ref (38 + n)), (1, .int q)], [], hp470.set (50 + n) (10, vs472.set ru.toNatClampNeg (.int 0))) _
          have hm471 : (hp470.set (50 + n) (10, vs472.set ru.toNatClampNeg (.int 0)))[38 + n]? = some (4, (m_O n th w h pn pl fo le ru)) := px_ne hm470 (by omega)
          have H471 : pa_Hi n (hp470.set (50 + n) (10, vs472.set ru.toNatClampNeg (.int 0))) := pa_aS (i := 18) H470 (by omega) (by decide) (by decide) hv472 rfl (pa_top_ok _)
          have F471 : pa_Fr n [(24, 15), (24, 17), (34, 0), (35, 0), (36, 0)] hp0 (hp470.set (50 + n) (10, vs472.set ru.toNatClampNeg (.int 0))) := F470.trans (pa_aF (i := 18) (by omega) (by decide) (by decide) hv472 (by decide) (by decide))
          have L471 : (hp470.set (50 + n) (10, vs472.set ru.toNatClampNeg (.int 0))).length = hp0.length := List.length_set.trans L470
          have hv410_471 : (hp470.set (50 + n) (10, vs472.set ru.toNatClampNeg (.int 0)))[48 + n]? = some (10, vs410) := px_ne hv410_470 (by omega)
          generalize hp470.set (50 + n) (10, vs472.set ru.toNatClampNeg (.int 0)) = hp471 at hm471 H471 F471 L471 hv410_471 ⊢
          refine px_gx (fun _ K => px_a 2 (f' := (72, [(3, .int z411), (2, .int i), (0, .ref (38 + n)), (1, .int q)], [.ref (38 + n), .ref (38 + n)], hp471)) rfl K) ?_
          refine px_gx (fun _ K => px_gf (38 + n) 132 4 17 (.int ru) rfl rfl hm471 rfl K) ?_
          show px_Gx _ _ (75, [(3, .int z411), (2, .int i), (0, .ref (38 + n)), (1, .int q)], [.int ru, .ref (38 + n)], hp471) _
          refine px_gx (fun _ K => px_a 2 (f' := (77, [(3, .int z411), (2, .int i), (0, .ref (38 + n)), (1, .int q)], [.int (ru + 1), .ref (38 + n)], hp471)) rfl K) ?_
          obtain ⟨z473, ez473, fz473⟩ : ∃ qz : Int32, qz = ru + 1 ∧ qz.toInt = Int32.toInt ru + Int32.toInt 1 := ⟨_, rfl, i32_add (by omega) (by omega)⟩
          rw [← ez473]
          refine px_gx (fun _ K => px_pf (38 + n) 132 4 17 rfl rfl hm471 (by omega) (Nat.le_of_ble_eq_true rfl) (rfl) rfl (by decide) K) ?_
          show px_Gx _ _ (80, [(3, .int z411), (2, .int i), (0, .ref (38 + n)), (1, .int q)], [], hp471.set (38 + n) (4, (m_O n th w h pn pl fo le z473))) _
          have hm474 : (hp471.set (38 + n) (4, (m_O n th w h pn pl fo le z473)))[38 + n]? = some (4, (m_O n th w h pn pl fo le z473)) := px_self hm471
          have H474 : pa_Hi n (hp471.set (38 + n) (4, (m_O n th w h pn pl fo le z473))) := pa_ms (k := 17) (v := .int z473) H471 hm471 rfl (pa_in (by omega) (by omega))
          have F474 : pa_Fr n [(24, 15), (24, 17), (34, 0), (35, 0), (36, 0)] hp0 (hp471.set (38 + n) (4, (m_O n th w h pn pl fo le z473))) := F471.trans (pa_mf (k := 17) (v := .int z473) hm471 (by decide) (by decide))
          have L474 : (hp471.set (38 + n) (4, (m_O n th w h pn pl fo le z473))).length = hp0.length := List.length_set.trans L471
          have hv410_474 : (hp471.set (38 + n) (4, (m_O n th w h pn pl fo le z473)))[48 + n]? = some (10, vs410) := px_ne hv410_471 (by omega)
          generalize hp471.set (38 + n) (4, (m_O n th w h pn pl fo le z473)) = hp474 at hm474 H474 F474 L474 hv410_474 ⊢
          refine px_gx (fun _ K => px_a 1 (f' := (81, [(3, .int z411), (2, .int i), (0, .ref (38 + n)), (1, .int q)], [.ref (38 + n)], hp474)) rfl K) ?_
          refine px_gx (fun _ K => px_gf (38 + n) 45 4 19 (.ref (50 + n)) rfl rfl hm474 rfl K) ?_
          show px_Gx _ _ (84, [(3, .int z411), (2, .int i), (0, .ref (38 + n)), (1, .int q)], [.ref (50 + n)], hp474) _
          refine px_gx (fun _ K => px_a 1 (f' := (85, [(3, .int z411), (2, .int i), (0, .ref (38 + n)), (1, .int q)], [.ref (38 + n), .ref (50 + n)], hp474)) rfl K) ?_
          refine px_gx (fun _ K => px_gf (38 + n) 132 4 17 (.int z473) rfl rfl hm474 rfl K) ?_
          show px_Gx _ _ (88, [(3, .int z411), (2, .int i), (0, .ref (38 + n)), (1, .int q)], [.int z473, .ref (50 + n)], hp474) _
          refine px_gx (fun _ K => px_a 2 (f' := (90, [(3, .int z411), (2, .int i), (0, .ref (38 + n)), (1, .int q)], [.int (z473 - 1), .ref (50 + n)], hp474)) rfl K) ?_
          obtain ⟨z475, ez475, fz475⟩ : ∃ qz : Int32, qz = z473 - 1 ∧ qz.toInt = Int32.toInt z473 - Int32.toInt 1 := ⟨_, rfl, i32_sub (by omega) (by omega)⟩
          rw [← ez475]
          refine px_gx (fun _ K => px_a 1 (f' := (91, [(3, .int z411), (2, .int i), (0, .ref (38 + n)), (1, .int q)], [.ref (38 + n), .int z475, .ref (50 + n)], hp474)) rfl K) ?_
          refine px_gx (fun _ K => px_gf (38 + n) 45 4 19 (.ref (50 + n)) rfl rfl hm474 rfl K) ?_
          show px_Gx _ _ (94, [(3, .int z411), (2, .int i), (0, .ref (38 + n)), (1, .int q)], [.ref (50 + n), .int z475, .ref (50 + n)], hp474) _
          refine px_gx (fun _ K => px_a 1 (f' := (95, [(3, .int z411), (2, .int i), (0, .ref (38 + n)), (1, .int q)], [.ref (38 + n), .ref (50 + n), .int z475, .ref (50 + n)], hp474)) rfl K) ?_
          refine px_gx (fun _ K => px_gf (38 + n) 132 4 17 (.int z473) rfl rfl hm474 rfl K) ?_
          show px_Gx _ _ (98, [(3, .int z411), (2, .int i), (0, .ref (38 + n)), (1, .int q)], [.int z473, .ref (50 + n), .int z475, .ref (50 + n)], hp474) _
          refine px_gx (fun _ K => px_a 2 (f' := (100, [(3, .int z411), (2, .int i), (0, .ref (38 + n)), (1, .int q)], [.int (z473 - 1), .ref (50 + n), .int z475, .ref (50 + n)], hp474)) rfl K) ?_
          rw [← ez475]
          obtain ⟨vs477, hv477, hl477, hg477⟩ := pa_ara (a := 50 + n) (i := 18) (lo := -2147483648) (hi := 2147483647) H474 (by omega) (by decide) (by decide) rfl
          have hi476 : z475.toNatClampNeg < vs477.length := by show (Int32.toInt z475).toNat < _; omega
          obtain ⟨z476, ez476, lz476, uz476⟩ := hg477 _ hi476
          refine px_gx (fun _ K => px_al (50 + n) (.int z476) rfl hv477 (Or.inl ⟨rfl, Or.inl rfl⟩) (i32_nn (by omega)) ez476 K) ?_
          show px_Gx _ _ (101, [(3, .int z411), (2, .int i), (0, .ref (38 + n)), (1, .int q)], [.int z476, .int z475, .ref (50 + n)], hp474) _
          refine px_gx (fun _ K => px_a 1 (f' := (102, [(3, .int z411), (2, .int i), (0, .ref (38 + n)), (1, .int q)], [.ref (38 + n), .int z476, .int z475, .ref (50 + n)], hp474)) rfl K) ?_
          refine px_gx (fun _ K => px_gf (38 + n) 39 4 16 (.ref (48 + n)) rfl rfl hm474 rfl K) ?_
          show px_Gx _ _ (105, [(3, .int z411), (2, .int i), (0, .ref (38 + n)), (1, .int q)], [.ref (48 + n), .int z476, .int z475, .ref (50 + n)], hp474) _
          refine px_gx (fun _ K => px_a 1 (f' := (106, [(3, .int z411), (2, .int i), (0, .ref (38 + n)), (1, .int q)], [.int i, .ref (48 + n), .int z476, .int z475, .ref (50 + n)], hp474)) rfl K) ?_
          refine px_gx (fun _ K => px_al (48 + n) (.int z409) rfl hv410_474 (Or.inl ⟨rfl, Or.inl rfl⟩) (i32_nn (by omega)) ez409 K) ?_
          show px_Gx _ _ (107, [(3, .int z411), (2, .int i), (0, .ref (38 + n)), (1, .int q)], [.int z409, .int z476, .int z475, .ref (50 + n)], hp474) _
          refine px_gx (fun _ K => px_a 1 (f' := (108, [(3, .int z411), (2, .int i), (0, .ref (38 + n)), (1, .int q)], [.int 2, .int z409, .int z476, .int z475, .ref (50 + n)], hp474)) rfl K) ?_
          by_cases h479 : (2 : Int32) ≤ z409
          · have h479' := h479
            rw [Int32.le_iff_toInt_le] at h479'
            refine px_gx (fun _ K => px_b2 true 115 rfl rfl (decide_eq_true h479) K) ?_
            show px_Gx _ _ (115, [(3, .int z411), (2, .int i), (0, .ref (38 + n)), (1, .int q)], [.int z476, .int z475, .ref (50 + n)], hp474) _
            refine px_gx (fun _ K => px_a 3 (f' := (118, [(3, .int z411), (2, .int i), (0, .ref (38 + n)), (1, .int q)], [.int (q - 1), .int z476, .int z475, .ref (50 + n)], hp474)) rfl K) ?_
            obtain ⟨z480, ez480, fz480⟩ : ∃ qz : Int32, qz = q - 1 ∧ qz.toInt = Int32.toInt q - Int32.toInt 1 := ⟨_, rfl, i32_sub (by omega) (by omega)⟩
            rw [← ez480]
            refine px_gx (fun _ K => px_a 1 (f' := (119, [(3, .int z411), (2, .int i), (0, .ref (38 + n)), (1, .int q)], [.int (z476 + z480), .int z475, .ref (50 + n)], hp474)) rfl K) ?_
            obtain ⟨z481, ez481, fz481⟩ : ∃ qz : Int32, qz = z476 + z480 ∧ True := ⟨_, rfl, trivial⟩
            rw [← ez481]
            refine px_gx (fun _ K => px_a 1 (f' := (120, [(3, .int z411), (2, .int i), (0, .ref (38 + n)), (1, .int q)], [.int q, .int z481, .int z475, .ref (50 + n)], hp474)) rfl K) ?_
            refine px_gx (fun _ K => px_irem rfl (pa_ne0 (by omega)) K) ?_
            show px_Gx _ _ (121, [(3, .int z411), (2, .int i), (0, .ref (38 + n)), (1, .int q)], [.int (z481 - z481 / q * q), .int z475, .ref (50 + n)], hp474) _
            obtain ⟨z482, ez482, fz482⟩ : ∃ qz : Int32, qz = (z481 - z481 / q * q) ∧ True := ⟨_, rfl, trivial⟩
            rw [← ez482]
            have hi483 : z475.toNatClampNeg < vs477.length := by show (Int32.toInt z475).toNat < _; omega
            refine px_gx (fun _ K => px_ias (50 + n) rfl hv477 (by omega) (i32_nn (by omega)) hi483 K) ?_
            show px_Gx _ _ (122, [(3, .int z411), (2, .int i), (0, .ref (38 + n)), (1, .int q)], [], hp474.set (50 + n) (10, vs477.set z475.toNatClampNeg (.int z482))) _
            have hm483 : (hp474.set (50 + n) (10, vs477.set z475.toNatClampNeg (.int z482)))[38 + n]? = some (4, (m_O n th w h pn pl fo le z473)) := px_ne hm474 (by omega)
            have H483 : pa_Hi n (hp474.set (50 + n) (10, vs477.set z475.toNatClampNeg (.int z482))) := pa_aS (i := 18) H474 (by omega) (by decide) (by decide) hv477 rfl (pa_top_ok _)
            have F483 : pa_Fr n [(24, 15), (24, 17), (34, 0), (35, 0), (36, 0)] hp0 (hp474.set (50 + n) (10, vs477.set z475.toNatClampNeg (.int z482))) := F474.trans (pa_aF (i := 18) (by omega) (by decide) (by decide) hv477 (by decide) (by decide))
            have L483 : (hp474.set (50 + n) (10, vs477.set z475.toNatClampNeg (.int z482))).length = hp0.length := List.length_set.trans L474
            have hv410_483 : (hp474.set (50 + n) (10, vs477.set z475.toNatClampNeg (.int z482)))[48 + n]? = some (10, vs410) := px_ne hv410_474 (by omega)
            generalize hp474.set (50 + n) (10, vs477.set z475.toNatClampNeg (.int z482)) = hp483 at hm483 H483 F483 L483 hv410_483 ⊢
            refine px_gx (fun _ K => px_a 1 (f' := (123, [(3, .int z411), (2, .int i), (0, .ref (38 + n)), (1, .int q)], [.ref (38 + n)], hp483)) rfl K) ?_
            refine px_gx (fun _ K => px_gf (38 + n) 45 4 19 (.ref (50 + n)) rfl rfl hm483 rfl K) ?_
            show px_Gx _ _ (126, [(3, .int z411), (2, .int i), (0, .ref (38 + n)), (1, .int q)], [.ref (50 + n)], hp483) _
            refine px_gx (fun _ K => px_a 1 (f' := (127, [(3, .int z411), (2, .int i), (0, .ref (38 + n)), (1, .int q)], [.ref (38 + n), .ref (50 + n)], hp483)) rfl K) ?_
            refine px_gx (fun _ K => px_gf (38 + n) 132 4 17 (.int z473) rfl rfl hm483 rfl K) ?_
            show px_Gx _ _ (130, [(3, .int z411), (2, .int i), (0, .ref (38 + n)), (1, .int q)], [.int z473, .ref (50 + n)], hp483) _
            refine px_gx (fun _ K => px_a 2 (f' := (132, [(3, .int z411), (2, .int i), (0, .ref (38 + n)), (1, .int q)], [.int (z473 - 1), .ref (50 + n)], hp483)) rfl K) ?_
            rw [← ez475]
            obtain ⟨vs485, hv485, hl485, hg485⟩ := pa_ara (a := 50 + n) (i := 18) (lo := -2147483648) (hi := 2147483647) H483 (by omega) (by decide) (by decide) rfl
            have hi484 : z475.toNatClampNeg < vs485.length := by show (Int32.toInt z475).toNat < _; omega
            obtain ⟨z484, ez484, lz484, uz484⟩ := hg485 _ hi484
            refine px_gx (fun _ K => px_al (50 + n) (.int z484) rfl hv485 (Or.inl ⟨rfl, Or.inl rfl⟩) (i32_nn (by omega)) ez484 K) ?_
            show px_Gx _ _ (133, [(3, .int z411), (2, .int i), (0, .ref (38 + n)), (1, .int q)], [.int z484], hp483) _
            by_cases h486 : ¬ z484 = 0
            · have h486' := h486
              have h486'' : Int32.toInt z484 ≠ Int32.toInt 0 := fun z => h486 (Int32.toInt_inj.mp z)
              refine px_gx (fun _ K => px_b1 true 146 rfl rfl (decide_eq_true h486) K) ?_
              show px_Gx _ _ (146, [(3, .int z411), (2, .int i), (0, .ref (38 + n)), (1, .int q)], [], hp483) _
              refine px_gx (fun _ K => px_a 1 (f' := (149, [(2, .int (i + 1)), (3, .int z411), (0, .ref (38 + n)), (1, .int q)], [], hp483)) rfl K) ?_
              obtain ⟨z487, ez487, fz487⟩ : ∃ qz : Int32, qz = i + 1 ∧ qz.toInt = Int32.toInt i + Int32.toInt 1 := ⟨_, rfl, i32_add (by omega) (by omega)⟩
              rw [← ez487]
              refine px_gx (fun _ K => px_a 1 (f' := (11, [(2, .int z487), (3, .int z411), (0, .ref (38 + n)), (1, .int q)], [], hp483)) rfl K) ?_
              refine px_wk [(2, .int z487), (0, .ref (38 + n)), (1, .int q)] ⟨rfl, rfl, rfl, trivial⟩ ?_
              exact ih z487 hp483 z473 hm483 H483 F483 L483 (by omega) (by omega) (by omega)
            · have h486' := h486
              have h486'' : Int32.toInt z484 = Int32.toInt 0 := congrArg Int32.toInt (Decidable.not_not.mp h486)
              refine px_gx (fun _ K => px_b1 false 146 rfl rfl (decide_eq_false h486) K) ?_
              show px_Gx _ _ (136, [(3, .int z411), (2, .int i), (0, .ref (38 + n)), (1, .int q)], [], hp483) _
              refine px_gx (fun _ K => px_a 2 (f' := (138, [(3, .int z411), (2, .int i), (0, .ref (38 + n)), (1, .int q)], [.ref (38 + n), .ref (38 + n)], hp483)) rfl K) ?_
              refine px_gx (fun _ K => px_gf (38 + n) 132 4 17 (.int z473) rfl rfl hm483 rfl K) ?_
              show px_Gx _ _ (141, [(3, .int z411), (2, .int i), (0, .ref (38 + n)), (1, .int q)], [.int z473, .ref (38 + n)], hp483) _
              refine px_gx (fun _ K => px_a 2 (f' := (143, [(3, .int z411), (2, .int i), (0, .ref (38 + n)), (1, .int q)], [.int (z473 - 1), .ref (38 + n)], hp483)) rfl K) ?_
              rw [← ez475]
              refine px_gx (fun _ K => px_pf (38 + n) 132 4 17 rfl rfl hm483 (by omega) (Nat.le_of_ble_eq_true rfl) (rfl) rfl (by decide) K) ?_
              show px_Gx _ _ (146, [(3, .int z411), (2, .int i), (0, .ref (38 + n)), (1, .int q)], [], hp483.set (38 + n) (4, (m_O n th w h pn pl fo le z475))) _
              have hm488 : (hp483.set (38 + n) (4, (m_O n th w h pn pl fo le z475)))[38 + n]? = some (4, (m_O n th w h pn pl fo le z475)) := px_self hm483
              have H488 : pa_Hi n (hp483.set (38 + n) (4, (m_O n th w h pn pl fo le z475))) := pa_ms (k := 17) (v := .int z475) H483 hm483 rfl (pa_in (by omega) (by omega))
              have F488 : pa_Fr n [(24, 15), (24, 17), (34, 0), (35, 0), (36, 0)] hp0 (hp483.set (38 + n) (4, (m_O n th w h pn pl fo le z475))) := F483.trans (pa_mf (k := 17) (v := .int z475) hm483 (by decide) (by decide))
              have L488 : (hp483.set (38 + n) (4, (m_O n th w h pn pl fo le z475))).length = hp0.length := List.length_set.trans L483
              have hv410_488 : (hp483.set (38 + n) (4, (m_O n th w h pn pl fo le z475)))[48 + n]? = some (10, vs410) := px_ne hv410_483 (by omega)
              have hv485_488 : (hp483.set (38 + n) (4, (m_O n th w h pn pl fo le z475)))[50 + n]? = some (10, vs485) := px_ne hv485 (by omega)
              generalize hp483.set (38 + n) (4, (m_O n th w h pn pl fo le z475)) = hp488 at hm488 H488 F488 L488 hv410_488 hv485_488 ⊢
              refine px_gx (fun _ K => px_a 1 (f' := (149, [(2, .int (i + 1)), (3, .int z411), (0, .ref (38 + n)), (1, .int q)], [], hp488)) rfl K) ?_
              obtain ⟨z489, ez489, fz489⟩ : ∃ qz : Int32, qz = i + 1 ∧ qz.toInt = Int32.toInt i + Int32.toInt 1 := ⟨_, rfl, i32_add (by omega) (by omega)⟩
              rw [← ez489]
              refine px_gx (fun _ K => px_a 1 (f' := (11, [(2, .int z489), (3, .int z411), (0, .ref (38 + n)), (1, .int q)], [], hp488)) rfl K) ?_
              refine px_wk [(2, .int z489), (0, .ref (38 + n)), (1, .int q)] ⟨rfl, rfl, rfl, trivial⟩ ?_
              exact ih z489 hp488 z475 hm488 H488 F488 L488 (by omega) (by omega) (by omega)
          · have h479' := h479
            rw [Int32.le_iff_toInt_le] at h479'
            refine px_gx (fun _ K => px_b2 false 115 rfl rfl (decide_eq_false h479) K) ?_
            show px_Gx _ _ (111, [(3, .int z411), (2, .int i), (0, .ref (38 + n)), (1, .int q)], [.int z476, .int z475, .ref (50 + n)], hp474) _
            refine px_gx (fun _ K => px_a 3 (f' := (119, [(3, .int z411), (2, .int i), (0, .ref (38 + n)), (1, .int q)], [.int (z476 + 1), .int z475, .ref (50 + n)], hp474)) rfl K) ?_
            obtain ⟨z490, ez490, fz490⟩ : ∃ qz : Int32, qz = z476 + 1 ∧ True := ⟨_, rfl, trivial⟩
            rw [← ez490]
            refine px_gx (fun _ K => px_a 1 (f' := (120, [(3, .int z411), (2, .int i), (0, .ref (38 + n)), (1, .int q)], [.int q, .int z490, .int z475, .ref (50 + n)], hp474)) rfl K) ?_
            refine px_gx (fun _ K => px_irem rfl (pa_ne0 (by omega)) K) ?_
            show px_Gx _ _ (121, [(3, .int z411), (2, .int i), (0, .ref (38 + n)), (1, .int q)], [.int (z490 - z490 / q * q), .int z475, .ref (50 + n)], hp474) _
            obtain ⟨z491, ez491, fz491⟩ : ∃ qz : Int32, qz = (z490 - z490 / q * q) ∧ True := ⟨_, rfl, trivial⟩
            rw [← ez491]
            have hi492 : z475.toNatClampNeg < vs477.length := by show (Int32.toInt z475).toNat < _; omega
            refine px_gx (fun _ K => px_ias (50 + n) rfl hv477 (by omega) (i32_nn (by omega)) hi492 K) ?_
            show px_Gx _ _ (122, [(3, .int z411), (2, .int i), (0, .ref (38 + n)), (1, .int q)], [], hp474.set (50 + n) (10, vs477.set z475.toNatClampNeg (.int z491))) _
            have hm492 : (hp474.set (50 + n) (10, vs477.set z475.toNatClampNeg (.int z491)))[38 + n]? = some (4, (m_O n th w h pn pl fo le z473)) := px_ne hm474 (by omega)
            have H492 : pa_Hi n (hp474.set (50 + n) (10, vs477.set z475.toNatClampNeg (.int z491))) := pa_aS (i := 18) H474 (by omega) (by decide) (by decide) hv477 rfl (pa_top_ok _)
            have F492 : pa_Fr n [(24, 15), (24, 17), (34, 0), (35, 0), (36, 0)] hp0 (hp474.set (50 + n) (10, vs477.set z475.toNatClampNeg (.int z491))) := F474.trans (pa_aF (i := 18) (by omega) (by decide) (by decide) hv477 (by decide) (by decide))
            have L492 : (hp474.set (50 + n) (10, vs477.set z475.toNatClampNeg (.int z491))).length = hp0.length := List.length_set.trans L474
            have hv410_492 : (hp474.set (50 + n) (10, vs477.set z475.toNatClampNeg (.int z491)))[48 + n]? = some (10, vs410) := px_ne hv410_474 (by omega)
            generalize hp474.set (50 + n) (10, vs477.set z475.toNatClampNeg (.int z491)) = hp492 at hm492 H492 F492 L492 hv410_492 ⊢
            refine px_gx (fun _ K => px_a 1 (f' := (123, [(3, .int z411), (2, .int i), (0, .ref (38 + n)), (1, .int q)], [.ref (38 + n)], hp492)) rfl K) ?_
            refine px_gx (fun _ K => px_gf (38 + n) 45 4 19 (.ref (50 + n)) rfl rfl hm492 rfl K) ?_
            show px_Gx _ _ (126, [(3, .int z411), (2, .int i), (0, .ref (38 + n)), (1, .int q)], [.ref (50 + n)], hp492) _
            refine px_gx (fun _ K => px_a 1 (f' := (127, [(3, .int z411), (2, .int i), (0, .ref (38 + n)), (1, .int q)], [.ref (38 + n), .ref (50 + n)], hp492)) rfl K) ?_
            refine px_gx (fun _ K => px_gf (38 + n) 132 4 17 (.int z473) rfl rfl hm492 rfl K) ?_
            show px_Gx _ _ (130, [(3, .int z411), (2, .int i), (0, .ref (38 + n)), (1, .int q)], [.int z473, .ref (50 + n)], hp492) _
            refine px_gx (fun _ K => px_a 2 (f' := (132, [(3, .int z411), (2, .int i), (0, .ref (38 + n)), (1, .int q)], [.int (z473 - 1), .ref (50 + n)], hp492)) rfl K) ?_
            rw [← ez475]
            obtain ⟨vs494, hv494, hl494, hg494⟩ := pa_ara (a := 50 + n) (i := 18) (lo := -2147483648) (hi := 2147483647) H492 (by omega) (by decide) (by decide) rfl
            have hi493 : z475.toNatClampNeg < vs494.length := by show (Int32.toInt z475).toNat < _; omega
            obtain ⟨z493, ez493, lz493, uz493⟩ := hg494 _ hi493
            refine px_gx (fun _ K => px_al (50 + n) (.int z493) rfl hv494 (Or.inl ⟨rfl, Or.inl rfl⟩) (i32_nn (by omega)) ez493 K) ?_
            show px_Gx _ _ (133, [(3, .int z411), (2, .int i), (0, .ref (38 + n)), (1, .int q)], [.int z493], hp492) _
            by_cases h495 : ¬ z493 = 0
            · have h495' := h495
              have h495'' : Int32.toInt z493 ≠ Int32.toInt 0 := fun z => h495 (Int32.toInt_inj.mp z)
              refine px_gx (fun _ K => px_b1 true 146 rfl rfl (decide_eq_true h495) K) ?_
              show px_Gx _ _ (146, [(3, .int z411), (2, .int i), (0, .ref (38 + n)), (1, .int q)], [], hp492) _
              refine px_gx (fun _ K => px_a 1 (f' := (149, [(2, .int (i + 1)), (3, .int z411), (0, .ref (38 + n)), (1, .int q)], [], hp492)) rfl K) ?_
              obtain ⟨z496, ez496, fz496⟩ : ∃ qz : Int32, qz = i + 1 ∧ qz.toInt = Int32.toInt i + Int32.toInt 1 := ⟨_, rfl, i32_add (by omega) (by omega)⟩
              rw [← ez496]
              refine px_gx (fun _ K => px_a 1 (f' := (11, [(2, .int z496), (3, .int z411), (0, .ref (38 + n)), (1, .int q)], [], hp492)) rfl K) ?_
              refine px_wk [(2, .int z496), (0, .ref (38 + n)), (1, .int q)] ⟨rfl, rfl, rfl, trivial⟩ ?_
              exact ih z496 hp492 z473 hm492 H492 F492 L492 (by omega) (by omega) (by omega)
            · have h495' := h495
              have h495'' : Int32.toInt z493 = Int32.toInt 0 := congrArg Int32.toInt (Decidable.not_not.mp h495)
              refine px_gx (fun _ K => px_b1 false 146 rfl rfl (decide_eq_false h495) K) ?_
              show px_Gx _ _ (136, [(3, .int z411), (2, .int i), (0, .ref (38 + n)), (1, .int q)], [], hp492) _
              refine px_gx (fun _ K => px_a 2 (f' := (138, [(3, .int z411), (2, .int i), (0, .ref (38 + n)), (1, .int q)], [.ref (38 + n), .ref (38 + n)], hp492)) rfl K) ?_
              refine px_gx (fun _ K => px_gf (38 + n) 132 4 17 (.int z473) rfl rfl hm492 rfl K) ?_
              show px_Gx _ _ (141, [(3, .int z411), (2, .int i), (0, .ref (38 + n)), (1, .int q)], [.int z473, .ref (38 + n)], hp492) _
              refine px_gx (fun _ K => px_a 2 (f' := (143, [(3, .int z411), (2, .int i), (0, .ref (38 + n)), (1, .int q)], [.int (z473 - 1), .ref (38 + n)], hp492)) rfl K) ?_
              rw [← ez475]
              refine px_gx (fun _ K => px_pf (38 + n) 132 4 17 rfl rfl hm492 (by omega) (Nat.le_of_ble_eq_true rfl) (rfl) rfl (by decide) K) ?_
              show px_Gx _ _ (146, [(3, .int z411), (2, .int i), (0, .ref (38 + n)), (1, .int q)], [], hp492.set (38 + n) (4, (m_O n th w h pn pl fo le z475))) _
              have hm497 : (hp492.set (38 + n) (4, (m_O n th w h pn pl fo le z475)))[38 + n]? = some (4, (m_O n th w h pn pl fo le z475)) := px_self hm492
              have H497 : pa_Hi n (hp492.set (38 + n) (4, (m_O n th w h pn pl fo le z475))) := pa_ms (k := 17) (v := .int z475) H492 hm492 rfl (pa_in (by omega) (by omega))
              have F497 : pa_Fr n [(24, 15), (24, 17), (34, 0), (35, 0), (36, 0)] hp0 (hp492.set (38 + n) (4, (m_O n th w h pn pl fo le z475))) := F492.trans (pa_mf (k := 17) (v := .int z475) hm492 (by decide) (by decide))
              have L497 : (hp492.set (38 + n) (4, (m_O n th w h pn pl fo le z475))).length = hp0.length := List.length_set.trans L492
              have hv410_497 : (hp492.set (38 + n) (4, (m_O n th w h pn pl fo le z475)))[48 + n]? = some (10, vs410) := px_ne hv410_492 (by omega)
              have hv494_497 : (hp492.set (38 + n) (4, (m_O n th w h pn pl fo le z475)))[50 + n]? = some (10, vs494) := px_ne hv494 (by omega)
              generalize hp492.set (38 + n) (4, (m_O n th w h pn pl fo le z475)) = hp497 at hm497 H497 F497 L497 hv410_497 hv494_497 ⊢
              refine px_gx (fun _ K => px_a 1 (f' := (149, [(2, .int (i + 1)), (3, .int z411), (0, .ref (38 + n)), (1, .int q)], [], hp497)) rfl K) ?_
              obtain ⟨z498, ez498, fz498⟩ : ∃ qz : Int32, qz = i + 1 ∧ qz.toInt = Int32.toInt i + Int32.toInt 1 := ⟨_, rfl, i32_add (by omega) (by omega)⟩
              rw [← ez498]
              refine px_gx (fun _ K => px_a 1 (f' := (11, [(2, .int z498), (3, .int z411), (0, .ref (38 + n)), (1, .int q)], [], hp497)) rfl K) ?_
              refine px_wk [(2, .int z498), (0, .ref (38 + n)), (1, .int q)] ⟨rfl, rfl, rfl, trivial⟩ ?_
              exact ih z498 hp497 z475 hm497 H497 F497 L497 (by omega) (by omega) (by omega)
set_option maxRecDepth 20000 in
set_option maxHeartbeats 4000000 in
theorem m_runs {d n : Nat} (hN : pa_N n) {hp0 : px_H} {th w h pn pl fo le ru : Int32} {q : Int32} (q1 : 2 ≤ q.toInt) (q2 : q.toInt ≤ 9) (hm : hp0[38 + n]? = some (4, m_O n th w h pn pl fo le ru)) (H : pa_Hi n hp0) : px_Gx (d + 5) 97 (0, [(0, .ref (38 + n)), (1, .int q)], [], hp0) (pa_Po n ck_97 hp0) := by
  have cl0 : Int32.toInt 0 = 0 := rfl
  obtain ⟨bth1, bth2, bw1, bw2, bh1, bh2, bpn1, bpn2, bpl1, bpl2, bfo1, bfo2, ble1, ble2, bru1, bru2⟩ := pa_bnd H hm
  have F : pa_Fr n [(24, 15), (24, 17), (34, 0), (35, 0), (36, 0)] hp0 hp0 := pa_Fr.refl _
  have L : hp0.length = hp0.length := rfl
  refine px_gx (fun _ K => px_a 1 (f' := (1, [(0, .ref (38 + n)), (1, .int q)], [.ref (38 + n)], hp0)) rfl K) ?_
  obtain ⟨o499, hp499, g499, ⟨H499, G499, E499⟩, A499⟩ := (ct_100 hN).deep (d' := d + 4) (by omega) [.ref (38 + n)] hp0 H ⟨pa_r24, trivial⟩
  rcases E499 with ⟨v499, rfl, hv499, hl499⟩ | ⟨ht499, -⟩
  rotate_left
  · exact absurd ht499 (by decide)
  obtain rfl : v499 = none := pa_gr0 hv499
  refine px_gx (fun _ K => px_cv (38 + n) (as := []) (rest := []) rfl rfl hm rfl rfl rfl rfl (Nat.le_of_ble_eq_true rfl) g499 K) ?_
  show px_Gx _ _ (4, [(0, .ref (38 + n)), (1, .int q)], [], hp499) _
  have F499 : pa_Fr n [(24, 15), (24, 17), (34, 0), (35, 0), (36, 0)] hp0 hp499 := F.trans (G499.mono (by decide))
  have L499 : hp499.length = hp0.length := hl499.trans L
  obtain ⟨th499, w499, h499, pn499, pl499, fo499, le499, ru499, hm499, -, -, -, -, -, -, -, -, -, -, -, -, -, -, -, -⟩ := pa_mod H499
  obtain rfl : th = th499 := (pa_fk (k := 0) G499 hm hm499 (by decide) rfl rfl).symm
  obtain rfl : w = w499 := (pa_fk (k := 1) G499 hm hm499 (by decide) rfl rfl).symm
  obtain rfl : h = h499 := (pa_fk (k := 2) G499 hm hm499 (by decide) rfl rfl).symm
  obtain rfl : pn = pn499 := (pa_fk (k := 4) G499 hm hm499 (by decide) rfl rfl).symm
  obtain rfl : pl = pl499 := (pa_fk (k := 8) G499 hm hm499 (by decide) rfl rfl).symm
  obtain rfl : fo = fo499 := (pa_fk (k := 13) G499 hm hm499 (by decide) rfl rfl).symm
  obtain rfl : ru = ru499 := (pa_fk (k := 17) G499 hm hm499 (by decide) rfl rfl).symm
  change hp499[38 + n]? = some (4, (m_O n th w h pn pl fo le499 ru)) at hm499
  obtain ⟨lth499, uth499, lw499, uw499, lh499, uh499, lpn499, upn499, lpl499, upl499, lfo499, ufo499, lle499, ule499, lru499, uru499⟩ := pa_bnd H499 hm499
  refine px_gx (fun _ K => px_a 2 (f' := (6, [(0, .ref (38 + n)), (1, .int q)], [.int 0, .ref (38 + n)], hp499)) rfl K) ?_
  refine px_gx (fun _ K => px_pf (38 + n) 132 4 17 rfl rfl hm499 (by omega) (Nat.le_of_ble_eq_true rfl) (rfl) rfl (by decide) K) ?_
  show px_Gx _ _ (9, [(0, .ref (38 + n)), (1, .int q)], [], hp499.set (38 + n) (4, (m_O n th w h pn pl fo le499 0))) _
  have hm500 : (hp499.set (38 + n) (4, (m_O n th w h pn pl fo le499 0)))[38 + n]? = some (4, (m_O n th w h pn pl fo le499 0)) := px_self hm499
  have H500 : pa_Hi n (hp499.set (38 + n) (4, (m_O n th w h pn pl fo le499 0))) := pa_ms (k := 17) (v := .int 0) H499 hm499 rfl (pa_in (by omega) (by omega))
  have F500 : pa_Fr n [(24, 15), (24, 17), (34, 0), (35, 0), (36, 0)] hp0 (hp499.set (38 + n) (4, (m_O n th w h pn pl fo le499 0))) := F499.trans (pa_mf (k := 17) (v := .int 0) hm499 (by decide) (by decide))
  have L500 : (hp499.set (38 + n) (4, (m_O n th w h pn pl fo le499 0))).length = hp0.length := List.length_set.trans L499
  generalize hp499.set (38 + n) (4, (m_O n th w h pn pl fo le499 0)) = hp500 at hm500 H500 F500 L500 ⊢
  refine px_gx (fun _ K => px_a 2 (f' := (11, [(2, .int 0), (0, .ref (38 + n)), (1, .int q)], [], hp500)) rfl K) ?_
  exact m_runs_l q1 q2 (le499.toInt + 1).toNat 0 hp500 0 hm500 H500 F500 L500 (by omega) (by omega) (by omega)
theorem ct_97 {n : Nat} (hN : pa_N n) : pa_Ct pa_tb n 97 ck_97 5 := by
  intro as hp H ha
  obtain ⟨u0, us0, rfl, ⟨a, rfl, ha24, -⟩, ha1⟩ := pa_as1 ha
  obtain rfl := pa_g24 ha24
  obtain ⟨u1, us1, rfl, ⟨q, rfl, q1, q2⟩, ha2⟩ := pa_as1 ha1
  obtain rfl := pa_as0 ha2
  obtain ⟨th, w, h, pn, pl, fo, le, ru, hm⟩ := pa_modO H
  simp only [pa_ev, Int.zero_mul, Int.add_zero] at q1 q2
  obtain ⟨o, hp', hg, hP⟩ := m_runs (d := 0) hN q1 q2 hm H
  exact ⟨o, hp', hg, hP, Or.inl rfl⟩
def an_70 : pa_A :=
  [(0, ([(0, pa_rf 24), (1, pa_top)], [], []), ((15, 0), [])),
  (1, ([(0, pa_rf 24), (1, pa_top)], [.inr (.inr (24, 1))], []), ((14, 0), [])),
  (2, ([(0, pa_rf 24), (1, pa_top)], [pa_i 0 0, .inr (.inr (24, 1))], []), ((13, 0), [])),
  (5, ([(0, pa_rf 24), (1, pa_top)], [], [(0, (0, 0), (0, 0))]), ((12, 0), [])),
  (6, ([(0, pa_rf 24), (1, pa_top)], [.inr (.inr (24, 1))], [(0, (0, 0), (0, 0))]), ((11, 0), [])),
  (9, ([(0, pa_rf 24), (1, pa_top)], [], []), ((10, 0), [])),
  (10, ([(0, pa_rf 24), (1, pa_top)], [.inl ((-2147483648, 0), (2147483647, 0), 2)], []), ((9, 0), [])),
  (13, ([(0, pa_rf 24), (1, pa_i 0 2147483647)], [], []), ((8, 0), [])),
  (14, ([(0, pa_rf 24), (1, pa_i 0 2147483647)], [.inl ((0, 0), (2147483647, 0), 2)], []), ((7, 0), [])),
  (15, ([(0, pa_rf 24), (1, pa_i 0 2147483647)], [.inr (.inr (24, 1)), .inl ((0, 0), (2147483647, 0), 2)], []), ((6, 0), [])),
  (18, ([(0, pa_rf 24), (1, pa_i 0 2147483647)], [.inl ((0, 0), (200, 0), 115), .inl ((0, 0), (2147483647, 0), 2)], []), ((5, 0), [])),
  (21, ([], [], []), ((2, 0), [])),
  (22, ([], [pa_i (-1) (-1)], []), ((1, 0), [])),
  (25, ([(0, pa_rf 24), (1, pa_i 0 199)], [], [(15, (1, 0), (200, 0))]), ((4, 0), [])),
  (26, ([(1, pa_i 0 199)], [.inr (.inr (24, 1))], [(15, (1, 0), (200, 0))]), ((3, 0), [])),
  (29, ([(1, pa_i 0 199)], [pa_rf 34], [(15, (1, 0), (200, 0))]), ((2, 0), [])),
  (30, ([], [.inl ((0, 0), (199, 0), 2), pa_rf 34], [(15, (1, 0), (200, 0))]), ((1, 0), [])),
  (31, ([], [pa_i (-1) 3], []), ((0, 0), []))]
def ck_70 : pa_K := ([pa_rf 24, pa_top], some (pa_i (-1) 3), false, [(24, 0), (24, 15), (34, 0)])
theorem ct_70 {n : Nat} (hN : pa_N n) : pa_Ct pa_tb n 70 ck_70 5 :=
  pa_ok (env := [(100, ck_100)]) (ann := an_70) hN (by decide +kernel) (fun q hq => by
    simp only [List.mem_cons, List.not_mem_nil, or_false] at hq
    rcases hq with rfl
    · exact (ct_100 hN).deep (by decide)) (by decide) rfl rfl
def an_90 : pa_A :=
  [(0, ([(0, pa_rf 24), (1, pa_top)], [], []), ((14, 0), [])),
  (1, ([(0, pa_rf 24), (1, pa_top)], [.inr (.inr (24, 1))], []), ((13, 0), [])),
  (2, ([(0, pa_rf 24), (1, pa_top)], [pa_i 0 0, .inr (.inr (24, 1))], []), ((12, 0), [])),
  (5, ([(0, pa_rf 24), (1, pa_top)], [], [(0, (0, 0), (0, 0))]), ((11, 0), [])),
  (6, ([(0, pa_rf 24), (1, pa_top)], [.inl ((-2147483648, 0), (2147483647, 0), 2)], [(0, (0, 0), (0, 0))]), ((10, 0), [])),
  (7, ([(0, pa_rf 24), (1, pa_top)], [pa_i 2 2, .inl ((-2147483648, 0), (2147483647, 0), 2)], [(0, (0, 0), (0, 0))]), ((9, 0), [])),
  (10, ([(0, pa_rf 24), (1, pa_i 2 2147483647)], [], [(0, (0, 0), (0, 0))]), ((8, 0), [])),
  (11, ([(0, pa_rf 24), (1, pa_i 2 2147483647)], [.inl ((2, 0), (2147483647, 0), 2)], [(0, (0, 0), (0, 0))]), ((7, 0), [])),
  (13, ([(0, pa_rf 24), (1, pa_i 2 2147483647)], [pa_i 9 9, .inl ((2, 0), (2147483647, 0), 2)], [(0, (0, 0), (0, 0))]), ((6, 0), [])),
  (16, ([], [], [(0, (0, 0), (0, 0))]), ((1, 0), [])),
  (17, ([], [pa_i (-1) (-1)], [(0, (0, 0), (0, 0))]), ((0, 0), [])),
  (18, ([(0, pa_rf 24), (1, pa_i 2 9)], [], [(0, (0, 0), (0, 0))]), ((5, 0), [])),
  (19, ([(0, pa_rf 24), (1, pa_i 2 9)], [.inr (.inr (24, 1))], [(0, (0, 0), (0, 0))]), ((4, 0), [])),
  (20, ([(0, pa_rf 24)], [.inl ((2, 0), (9, 0), 2), .inr (.inr (24, 1))], [(0, (0, 0), (0, 0))]), ((3, 0), [])),
  (23, ([(0, pa_rf 24)], [], []), ((2, 0), [])),
  (24, ([], [.inr (.inr (24, 1))], []), ((1, 0), [])),
  (27, ([], [.inl ((0, 0), (200, 0), 117)], []), ((0, 0), []))]
def ck_90 : pa_K := ([pa_rf 24, pa_top], some (pa_i (-1) 200), false, [(24, 0), (24, 15), (24, 17), (34, 0), (35, 0), (36, 0)])
theorem ct_90 {n : Nat} (hN : pa_N n) : pa_Ct pa_tb n 90 ck_90 6 :=
  pa_ok (env := [(97, ck_97)]) (ann := an_90) hN (by decide +kernel) (fun q hq => by
    simp only [List.mem_cons, List.not_mem_nil, or_false] at hq
    rcases hq with rfl
    · exact (ct_97 hN).deep (by decide)) (by decide) rfl rfl
def an_89 : pa_A :=
  [(0, ([(0, pa_rf 24), (1, pa_top), (2, pa_top)], [], []), ((29, 0), [])),
  (1, ([(0, pa_rf 24), (1, pa_top), (2, pa_top)], [.inr (.inr (24, 1))], []), ((28, 0), [])),
  (2, ([(0, pa_rf 24), (1, pa_top), (2, pa_top)], [pa_i 0 0, .inr (.inr (24, 1))], []), ((27, 0), [])),
  (5, ([(0, pa_rf 24), (1, pa_top), (2, pa_top)], [], [(0, (0, 0), (0, 0))]), ((26, 0), [])),
  (6, ([(0, pa_rf 24), (1, pa_top), (2, pa_top)], [.inl ((-2147483648, 0), (2147483647, 0), 2)], [(0, (0, 0), (0, 0))]), ((25, 0), [])),
  (7, ([(0, pa_rf 24), (1, pa_top), (2, pa_top)], [pa_i 2 2, .inl ((-2147483648, 0), (2147483647, 0), 2)], [(0, (0, 0), (0, 0))]), ((24, 0), [])),
  (10, ([(0, pa_rf 24), (1, pa_i 2 2147483647), (2, pa_top)], [], [(0, (0, 0), (0, 0))]), ((23, 0), [])),
  (11, ([(0, pa_rf 24), (1, pa_i 2 2147483647), (2, pa_top)], [.inl ((2, 0), (2147483647, 0), 2)], [(0, (0, 0), (0, 0))]), ((22, 0), [])),
  (13, ([(0, pa_rf 24), (1, pa_i 2 2147483647), (2, pa_top)], [pa_i 9 9, .inl ((2, 0), (2147483647, 0), 2)], [(0, (0, 0), (0, 0))]), ((21, 0), [])),
  (16, ([], [], [(0, (0, 0), (0, 0))]), ((1, 0), [])),
  (17, ([], [pa_i (-1) (-1)], [(0, (0, 0), (0, 0))]), ((0, 0), [])),
  (18, ([(0, pa_rf 24), (1, pa_i 2 9), (2, pa_top)], [], [(0, (0, 0), (0, 0))]), ((20, 0), [])),
  (19, ([(0, pa_rf 24), (1, pa_i 2 9), (2, pa_top)], [.inr (.inr (24, 1))], [(0, (0, 0), (0, 0))]), ((19, 0), [])),
  (20, ([(0, pa_rf 24), (2, pa_top)], [.inl ((2, 0), (9, 0), 2), .inr (.inr (24, 1))], [(0, (0, 0), (0, 0))]), ((18, 0), [])),
  (23, ([(0, pa_rf 24), (2, pa_top)], [], []), ((17, 0), [])),
  (24, ([(0, pa_rf 24), (2, pa_top)], [.inl ((-2147483648, 0), (2147483647, 0), 3)], []), ((16, 0), [])),
  (27, ([(0, pa_rf 24), (2, pa_i 0 2147483647)], [], []), ((15, 0), [])),
  (28, ([(0, pa_rf 24), (2, pa_i 0 2147483647)], [.inl ((0, 0), (2147483647, 0), 3)], []), ((14, 0), [])),
  (29, ([(0, pa_rf 24), (2, pa_i 0 2147483647)], [.inr (.inr (24, 1)), .inl ((0, 0), (2147483647, 0), 3)], []), ((13, 0), [])),
  (32, ([(0, pa_rf 24), (2, pa_i 0 2147483647)], [.inl ((0, 0), (200, 0), 117), .inl ((0, 0), (2147483647, 0), 3)], []), ((12, 0), [])),
  (35, ([], [], []), ((2, 0), [])),
  (36, ([], [pa_i (-1) (-1)], []), ((1, 0), [])),
  (39, ([(0, pa_rf 24), (2, pa_i 0 199)], [], [(17, (1, 0), (200, 0))]), ((11, 0), [])),
  (40, ([(0, pa_rf 24), (2, pa_i 0 199)], [.inr (.inr (24, 1))], [(17, (1, 0), (200, 0))]), ((10, 0), [])),
  (43, ([(0, pa_rf 24), (2, pa_i 0 199)], [pa_rf 35], [(17, (1, 0), (200, 0))]), ((9, 0), [])),
  (44, ([(0, pa_rf 24), (2, pa_i 0 199)], [.inl ((0, 0), (199, 0), 3), pa_rf 35], [(17, (1, 0), (200, 0))]), ((8, 0), [])),
  (45, ([(0, pa_rf 24), (2, pa_i 0 199)], [pa_top], [(17, (1, 0), (200, 0))]), ((7, 0), [])),
  (46, ([(0, pa_rf 24), (2, pa_i 0 199)], [pa_i 2 2, pa_top], [(17, (1, 0), (200, 0))]), ((6, 0), [])),
  (47, ([(2, pa_i 0 199)], [.inr (.inr (24, 1)), pa_i 2 2, pa_top], [(17, (1, 0), (200, 0))]), ((5, 0), [])),
  (50, ([(2, pa_i 0 199)], [pa_rf 36, pa_i 2 2, pa_top], [(17, (1, 0), (200, 0))]), ((4, 0), [])),
  (51, ([], [.inl ((0, 0), (199, 0), 3), pa_rf 36, pa_i 2 2, pa_top], [(17, (1, 0), (200, 0))]), ((3, 0), [])),
  (52, ([], [pa_top, pa_i 2 2, pa_top], [(17, (1, 0), (200, 0))]), ((2, 0), [])),
  (53, ([], [pa_top, pa_top], [(17, (1, 0), (200, 0))]), ((1, 0), [])),
  (54, ([], [pa_top], []), ((0, 0), []))]
def ck_89 : pa_K := ([pa_rf 24, pa_top, pa_top], some (pa_top), false, [(24, 0), (24, 15), (24, 17), (34, 0), (35, 0), (36, 0)])
theorem ct_89 {n : Nat} (hN : pa_N n) : pa_Ct pa_tb n 89 ck_89 6 :=
  pa_ok (env := [(97, ck_97)]) (ann := an_89) hN (by decide +kernel) (fun q hq => by
    simp only [List.mem_cons, List.not_mem_nil, or_false] at hq
    rcases hq with rfl
    · exact (ct_97 hN).deep (by decide)) (by decide) rfl rfl
