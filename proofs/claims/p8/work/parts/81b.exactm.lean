set_option maxRecDepth 20000 in
set_option maxHeartbeats 4000000 in
theorem m_cellx {d n : Nat} {hp0 : px_H} {th w h pn pl fo le ru : Int32} {x y v : Int32} {vsu : List Value} (v1 : 0 ≤ v.toInt) (v2 : v.toInt ≤ 1) (hm : hp0[38 + n]? = some (4, m_O n th w h pn pl fo le ru)) (H : pa_Hi n hp0) (hvu : hp0[39 + n]? = some (12, vsu)) : px_Gx (d + 1) 71 (0, [(0, .ref (38 + n)), (1, .int x), (2, .int y), (3, .int v)], [], hp0) (fun o hp' => ∃ (r th' : Int32) (vs' : List Value), o = .inl (some (.int r)) ∧ pa_fd hp' (38 + n) 0 = some (.int th') ∧ hp'[39 + n]? = some (12, vs') ∧ (((x < 0 ∨ w ≤ x ∨ y < 0 ∨ h ≤ y) ∧ th' = 1 ∧ vs' = vsu) ∨ (¬ (x < 0 ∨ w ≤ x ∨ y < 0 ∨ h ≤ y) ∧ th' = 0 ∧ ((vsu[(w * y + x).toNatClampNeg]? = some (.int v) ∧ r = 0 ∧ vs' = vsu) ∨ (¬ vsu[(w * y + x).toNatClampNeg]? = some (.int v) ∧ r = 1 ∧ vs' = vsu.set (w * y + x).toNatClampNeg (.int v)))))) := by
  have cl0 : Int32.toInt 0 = 0 := rfl
  have cl1 : Int32.toInt 1 = 1 := rfl
  have cl2 : Int32.toInt 2 = 2 := rfl
  obtain ⟨bth1, bth2, bw1, bw2, bh1, bh2, bpn1, bpn2, bpl1, bpl2, bfo1, bfo2, ble1, ble2, bru1, bru2⟩ := pa_bnd H hm
  have F : pa_Fr n [(24, 0), (24, 13), (25, 0)] hp0 hp0 := pa_Fr.refl _
  have L : hp0.length = hp0.length := rfl
  obtain ⟨vsq, hvq, hlu, hgu⟩ := pa_ara (a := 39 + n) (i := 7) (lo := 0) (hi := 1) H (by omega) (by decide) (by decide) rfl
  obtain rfl : vsu = vsq := by rw [hvu] at hvq; cases hvq; rfl
  refine px_gx (fun _ K => px_a 5 (f' := (5, [(0, .ref (38 + n)), (1, .int x), (2, .int y), (3, .int v)], [.int y, .int x, .ref (38 + n), .int 1, .ref (38 + n)], hp0)) rfl K) ?_
  by_cases h501 : (x < 0 ∨ w ≤ x ∨ y < 0 ∨ h ≤ y)
  · refine px_gx (fun _ K => px_cv (38 + n) (as := [.int x, .int y]) (rest := [.int 1, .ref (38 + n)]) rfl rfl hm rfl rfl rfl rfl (Nat.le_of_ble_eq_true rfl) (p_isCell_o hm h501) K) ?_
    show px_Gx _ _ (8, [(0, .ref (38 + n)), (1, .int x), (2, .int y), (3, .int v)], [.int 0, .int 1, .ref (38 + n)], hp0) _
    refine px_gx (fun _ K => px_a 3 (f' := (16, [(0, .ref (38 + n)), (1, .int x), (2, .int y), (3, .int v)], [.int 1, .int 1, .ref (38 + n)], hp0)) rfl K) ?_
    refine px_gx (fun _ K => px_cv (38 + n) (as := [.int 1, .int 1]) (rest := []) rfl rfl hm rfl rfl rfl rfl (Nat.le_of_ble_eq_true rfl) (p_throwsIf_1 hm (by omega)) K) ?_
    show px_Gx _ _ (19, [(0, .ref (38 + n)), (1, .int x), (2, .int y), (3, .int v)], [.int 1], hp0.set (38 + n) (4, (m_O n 1 w h pn pl fo le ru))) _
    have hm502 : (hp0.set (38 + n) (4, (m_O n 1 w h pn pl fo le ru)))[38 + n]? = some (4, (m_O n 1 w h pn pl fo le ru)) := px_self hm
    have H502 : pa_Hi n (hp0.set (38 + n) (4, (m_O n 1 w h pn pl fo le ru))) := pa_ms (k := 0) (v := .int 1) H hm rfl (pa_in (by omega) (by omega))
    have F502 : pa_Fr n [(24, 0), (24, 13), (25, 0)] hp0 (hp0.set (38 + n) (4, (m_O n 1 w h pn pl fo le ru))) := F.trans (pa_mf (k := 0) (v := .int 1) hm (by decide) (by decide))
    have L502 : (hp0.set (38 + n) (4, (m_O n 1 w h pn pl fo le ru))).length = hp0.length := List.length_set.trans L
    have hvu_502 : (hp0.set (38 + n) (4, (m_O n 1 w h pn pl fo le ru)))[39 + n]? = some (12, vsu) := px_ne hvu (by omega)
    generalize hp0.set (38 + n) (4, (m_O n 1 w h pn pl fo le ru)) = hp502 at hm502 H502 F502 L502 hvu_502 ⊢
    refine px_gx (fun _ K => px_a 2 (f' := (40, [(0, .ref (38 + n)), (1, .int x), (2, .int y), (3, .int v)], [.int 0], hp502)) rfl K) ?_
    exact ⟨_, _, px_ri rfl rfl rfl, _, _, _, rfl, by rw [pa_fd_get hm502]; rfl, hvu_502, Or.inl ⟨h501, rfl, rfl⟩⟩
  · refine px_gx (fun _ K => px_cv (38 + n) (as := [.int x, .int y]) (rest := [.int 1, .ref (38 + n)]) rfl rfl hm rfl rfl rfl rfl (Nat.le_of_ble_eq_true rfl) (p_isCell_i hm h501) K) ?_
    show px_Gx _ _ (8, [(0, .ref (38 + n)), (1, .int x), (2, .int y), (3, .int v)], [.int 1, .int 1, .ref (38 + n)], hp0) _
    have h501a : ¬ x < 0 := fun z => h501 (Or.inl z)
    rw [Int32.lt_iff_toInt_lt] at h501a
    have h501b : ¬ w ≤ x := fun z => h501 (Or.inr (Or.inl z))
    rw [Int32.le_iff_toInt_le] at h501b
    have h501c : ¬ y < 0 := fun z => h501 (Or.inr (Or.inr (Or.inl z)))
    rw [Int32.lt_iff_toInt_lt] at h501c
    have h501d : ¬ h ≤ y := fun z => h501 (Or.inr (Or.inr (Or.inr z)))
    rw [Int32.le_iff_toInt_le] at h501d
    refine px_gx (fun _ K => px_a 2 (f' := (16, [(0, .ref (38 + n)), (1, .int x), (2, .int y), (3, .int v)], [.int 0, .int 1, .ref (38 + n)], hp0)) rfl K) ?_
    refine px_gx (fun _ K => px_cv (38 + n) (as := [.int 1, .int 0]) (rest := []) rfl rfl hm rfl rfl rfl rfl (Nat.le_of_ble_eq_true rfl) (p_throwsIf_0 hm (by omega)) K) ?_
    show px_Gx _ _ (19, [(0, .ref (38 + n)), (1, .int x), (2, .int y), (3, .int v)], [.int 0], hp0.set (38 + n) (4, (m_O n 0 w h pn pl fo le ru))) _
    have hm503 : (hp0.set (38 + n) (4, (m_O n 0 w h pn pl fo le ru)))[38 + n]? = some (4, (m_O n 0 w h pn pl fo le ru)) := px_self hm
    have H503 : pa_Hi n (hp0.set (38 + n) (4, (m_O n 0 w h pn pl fo le ru))) := pa_ms (k := 0) (v := .int 0) H hm rfl (pa_in (by omega) (by omega))
    have F503 : pa_Fr n [(24, 0), (24, 13), (25, 0)] hp0 (hp0.set (38 + n) (4, (m_O n 0 w h pn pl fo le ru))) := F.trans (pa_mf (k := 0) (v := .int 0) hm (by decide) (by decide))
    have L503 : (hp0.set (38 + n) (4, (m_O n 0 w h pn pl fo le ru))).length = hp0.length := List.length_set.trans L
    have hvu_503 : (hp0.set (38 + n) (4, (m_O n 0 w h pn pl fo le ru)))[39 + n]? = some (12, vsu) := px_ne hvu (by omega)
    generalize hp0.set (38 + n) (4, (m_O n 0 w h pn pl fo le ru)) = hp503 at hm503 H503 F503 L503 hvu_503 ⊢
    refine px_gx (fun _ K => px_a 2 (f' := (23, [(0, .ref (38 + n)), (1, .int x), (2, .int y), (3, .int v)], [.ref (38 + n)], hp503)) rfl K) ?_
    refine px_gx (fun _ K => px_gf (38 + n) 7 4 3 (.ref (39 + n)) rfl rfl hm503 rfl K) ?_
    show px_Gx _ _ (26, [(0, .ref (38 + n)), (1, .int x), (2, .int y), (3, .int v)], [.ref (39 + n)], hp503) _
    refine px_gx (fun _ K => px_a 1 (f' := (27, [(0, .ref (38 + n)), (1, .int x), (2, .int y), (3, .int v)], [.ref (38 + n), .ref (39 + n)], hp503)) rfl K) ?_
    refine px_gx (fun _ K => px_gf (38 + n) 51 4 1 (.int w) rfl rfl hm503 rfl K) ?_
    show px_Gx _ _ (30, [(0, .ref (38 + n)), (1, .int x), (2, .int y), (3, .int v)], [.int w, .ref (39 + n)], hp503) _
    refine px_gx (fun _ K => px_a 2 (f' := (32, [(0, .ref (38 + n)), (1, .int x), (2, .int y), (3, .int v)], [.int (w * y), .ref (39 + n)], hp503)) rfl K) ?_
    obtain ⟨z504, ez504, fz504⟩ : ∃ qz : Int32, qz = w * y ∧ qz.toInt = w.toInt * Int32.toInt y ∧ 0 ≤ w.toInt * Int32.toInt y ∧ w.toInt * Int32.toInt y + w.toInt ≤ 36 := ⟨_, rfl, m_mulw (by omega) (by omega) (by omega) (by omega)⟩
    rw [← ez504]
    refine px_gx (fun _ K => px_a 2 (f' := (34, [(0, .ref (38 + n)), (1, .int x), (2, .int y), (3, .int v)], [.int (z504 + x), .ref (39 + n)], hp503)) rfl K) ?_
    obtain ⟨z505, ez505, fz505⟩ : ∃ qz : Int32, qz = z504 + x ∧ qz.toInt = Int32.toInt z504 + Int32.toInt x := ⟨_, rfl, i32_add (by omega) (by omega)⟩
    rw [← ez505]
    have hi506 : z505.toNatClampNeg < vsu.length := by show (Int32.toInt z505).toNat < _; omega
    obtain ⟨z506, ez506, lz506, uz506⟩ := hgu _ hi506
    refine px_gx (fun _ K => px_al (39 + n) (.int z506) rfl hvu_503 (Or.inr (Or.inr (Or.inl ⟨rfl, rfl⟩))) (i32_nn (by omega)) ez506 K) ?_
    show px_Gx _ _ (35, [(0, .ref (38 + n)), (1, .int x), (2, .int y), (3, .int v)], [.int z506], hp503) _
    have eix : z505.toNatClampNeg = (w * y + x).toNatClampNeg := by rw [ez505]; rw [ez504]
    refine px_gx (fun _ K => px_a 1 (f' := (36, [(0, .ref (38 + n)), (1, .int x), (2, .int y), (3, .int v)], [.int v, .int z506], hp503)) rfl K) ?_
    by_cases h507 : ¬ z506 = v
    · have h507' := h507
      have h507'' : Int32.toInt z506 ≠ Int32.toInt v := fun z => h507 (Int32.toInt_inj.mp z)
      refine px_gx (fun _ K => px_b2 true 41 rfl rfl (decide_eq_true h507) K) ?_
      show px_Gx _ _ (41, [(0, .ref (38 + n)), (1, .int x), (2, .int y), (3, .int v)], [], hp503) _
      refine px_gx (fun _ K => px_a 1 (f' := (42, [(0, .ref (38 + n)), (1, .int x), (2, .int y), (3, .int v)], [.ref (38 + n)], hp503)) rfl K) ?_
      refine px_gx (fun _ K => px_gf (38 + n) 7 4 3 (.ref (39 + n)) rfl rfl hm503 rfl K) ?_
      show px_Gx _ _ (45, [(0, .ref (38 + n)), (1, .int x), (2, .int y), (3, .int v)], [.ref (39 + n)], hp503) _
      refine px_gx (fun _ K => px_a 1 (f' := (46, [(0, .ref (38 + n)), (1, .int x), (2, .int y), (3, .int v)], [.ref (38 + n), .ref (39 + n)], hp503)) rfl K) ?_
      refine px_gx (fun _ K => px_gf (38 + n) 51 4 1 (.int w) rfl rfl hm503 rfl K) ?_
      show px_Gx _ _ (49, [(0, .ref (38 + n)), (1, .int x), (2, .int y), (3, .int v)], [.int w, .ref (39 + n)], hp503) _
      refine px_gx (fun _ K => px_a 2 (f' := (51, [(0, .ref (38 + n)), (1, .int x), (2, .int y), (3, .int v)], [.int (w * y), .ref (39 + n)], hp503)) rfl K) ?_
      rw [← ez504]
      refine px_gx (fun _ K => px_a 2 (f' := (53, [(0, .ref (38 + n)), (1, .int x), (2, .int y), (3, .int v)], [.int (z504 + x), .ref (39 + n)], hp503)) rfl K) ?_
      rw [← ez505]
      refine px_gx (fun _ K => px_a 1 (f' := (54, [(0, .ref (38 + n)), (1, .int x), (2, .int y), (3, .int v)], [.int v, .int z505, .ref (39 + n)], hp503)) rfl K) ?_
      have hi508 : z505.toNatClampNeg < vsu.length := by show (Int32.toInt z505).toNat < _; omega
      refine px_gx (fun _ K => px_zas (39 + n) rfl hvu_503 (by omega) (i32_nn (by omega)) hi508 (pa_nb (by omega) (by omega)) K) ?_
      show px_Gx _ _ (55, [(0, .ref (38 + n)), (1, .int x), (2, .int y), (3, .int v)], [], hp503.set (39 + n) (12, vsu.set z505.toNatClampNeg (.int v))) _
      have hm508 : (hp503.set (39 + n) (12, vsu.set z505.toNatClampNeg (.int v)))[38 + n]? = some (4, (m_O n 0 w h pn pl fo le ru)) := px_ne hm503 (by omega)
      have H508 : pa_Hi n (hp503.set (39 + n) (12, vsu.set z505.toNatClampNeg (.int v))) := pa_aS (i := 7) H503 (by omega) (by decide) (by decide) hvu_503 rfl (pa_in (by omega) (by omega))
      have F508 : pa_Fr n [(24, 0), (24, 13), (25, 0)] hp0 (hp503.set (39 + n) (12, vsu.set z505.toNatClampNeg (.int v))) := F503.trans (pa_aF (i := 7) (by omega) (by decide) (by decide) hvu_503 (by decide) (by decide))
      have L508 : (hp503.set (39 + n) (12, vsu.set z505.toNatClampNeg (.int v))).length = hp0.length := List.length_set.trans L503
      obtain ⟨vs509, ev509⟩ : ∃ q : List Value, q = vsu.set z505.toNatClampNeg (.int v) := ⟨_, rfl⟩
      have hv509 : (hp503.set (39 + n) (12, vsu.set z505.toNatClampNeg (.int v)))[39 + n]? = some (12, vs509) := by rw [ev509]; exact px_self hvu_503
      generalize hp503.set (39 + n) (12, vsu.set z505.toNatClampNeg (.int v)) = hp508 at hm508 H508 F508 L508 hv509 ⊢
      refine px_gx (fun _ K => px_a 2 (f' := (57, [(0, .ref (38 + n)), (1, .int x), (2, .int y), (3, .int v)], [.int 0, .ref (38 + n)], hp508)) rfl K) ?_
      refine px_gx (fun _ K => px_pf (38 + n) 72 4 13 rfl rfl hm508 (by omega) (Nat.le_of_ble_eq_true rfl) (pa_nb (by omega) (by omega)) rfl (by decide) K) ?_
      show px_Gx _ _ (60, [(0, .ref (38 + n)), (1, .int x), (2, .int y), (3, .int v)], [], hp508.set (38 + n) (4, (m_O n 0 w h pn pl 0 le ru))) _
      have hm510 : (hp508.set (38 + n) (4, (m_O n 0 w h pn pl 0 le ru)))[38 + n]? = some (4, (m_O n 0 w h pn pl 0 le ru)) := px_self hm508
      have H510 : pa_Hi n (hp508.set (38 + n) (4, (m_O n 0 w h pn pl 0 le ru))) := pa_ms (k := 13) (v := .int 0) H508 hm508 rfl (pa_in (by omega) (by omega))
      have F510 : pa_Fr n [(24, 0), (24, 13), (25, 0)] hp0 (hp508.set (38 + n) (4, (m_O n 0 w h pn pl 0 le ru))) := F508.trans (pa_mf (k := 13) (v := .int 0) hm508 (by decide) (by decide))
      have L510 : (hp508.set (38 + n) (4, (m_O n 0 w h pn pl 0 le ru))).length = hp0.length := List.length_set.trans L508
      have hv509_510 : (hp508.set (38 + n) (4, (m_O n 0 w h pn pl 0 le ru)))[39 + n]? = some (12, vs509) := px_ne hv509 (by omega)
      generalize hp508.set (38 + n) (4, (m_O n 0 w h pn pl 0 le ru)) = hp510 at hm510 H510 F510 L510 hv509_510 ⊢
      refine px_gx (fun _ K => px_a 1 (f' := (61, [(0, .ref (38 + n)), (1, .int x), (2, .int y), (3, .int v)], [.int 1], hp510)) rfl K) ?_
      exact ⟨_, _, px_ri rfl rfl rfl, _, _, _, rfl, by rw [pa_fd_get hm510]; rfl, hv509_510, Or.inr ⟨h501, rfl, Or.inr ⟨by (try rw [← eix]); rw [ez506]; intro q; cases q; exact h507 rfl, rfl, by first | exact ev509 | rw [ev509, eix]⟩⟩⟩
    · have h507' := h507
      have h507'' : Int32.toInt z506 = Int32.toInt v := congrArg Int32.toInt (Decidable.not_not.mp h507)
      refine px_gx (fun _ K => px_b2 false 41 rfl rfl (decide_eq_false h507) K) ?_
      show px_Gx _ _ (39, [(0, .ref (38 + n)), (1, .int x), (2, .int y), (3, .int v)], [], hp503) _
      refine px_gx (fun _ K => px_a 1 (f' := (40, [(0, .ref (38 + n)), (1, .int x), (2, .int y), (3, .int v)], [.int 0], hp503)) rfl K) ?_
      exact ⟨_, _, px_ri rfl rfl rfl, _, _, _, rfl, by rw [pa_fd_get hm503]; rfl, hvu_503, Or.inr ⟨h501, rfl, Or.inl ⟨by (try rw [← eix]); rw [ez506, (Decidable.not_not.mp h507)], rfl, rfl⟩⟩⟩
set_option maxRecDepth 20000 in
set_option maxHeartbeats 4000000 in
theorem m_ownx {d n : Nat} {hp0 : px_H} {th w h pn pl fo le ru : Int32} {x y v : Int32} {vsu : List Value} (hm : hp0[38 + n]? = some (4, m_O n th w h pn pl fo le ru)) (H : pa_Hi n hp0) (hvu : hp0[42 + n]? = some (10, vsu)) : px_Gx (d + 1) 83 (0, [(0, .ref (38 + n)), (1, .int x), (2, .int y), (3, .int v)], [], hp0) (fun o hp' => ∃ (r th' : Int32) (vs' : List Value), o = .inl (some (.int r)) ∧ pa_fd hp' (38 + n) 0 = some (.int th') ∧ hp'[42 + n]? = some (10, vs') ∧ (((x < 0 ∨ w ≤ x ∨ y < 0 ∨ h ≤ y) ∧ th' = 1 ∧ vs' = vsu) ∨ (¬ (x < 0 ∨ w ≤ x ∨ y < 0 ∨ h ≤ y) ∧ th' = 0 ∧ (((v < -99 ∨ ¬ v ≤ 99) ∧ r = 0 ∧ vs' = vsu) ∨ (¬ (v < -99 ∨ ¬ v ≤ 99) ∧ r = 1 ∧ vs' = vsu.set (w * y + x).toNatClampNeg (.int v)))))) := by
  have clm99 : Int32.toInt (-99) = -99 := rfl
  have cl0 : Int32.toInt 0 = 0 := rfl
  have cl1 : Int32.toInt 1 = 1 := rfl
  have cl2 : Int32.toInt 2 = 2 := rfl
  have cl99 : Int32.toInt 99 = 99 := rfl
  obtain ⟨bth1, bth2, bw1, bw2, bh1, bh2, bpn1, bpn2, bpl1, bpl2, bfo1, bfo2, ble1, ble2, bru1, bru2⟩ := pa_bnd H hm
  have F : pa_Fr n [(24, 0), (28, 0)] hp0 hp0 := pa_Fr.refl _
  have L : hp0.length = hp0.length := rfl
  obtain ⟨vsq, hvq, hlu, hgu⟩ := pa_ara (a := 42 + n) (i := 10) (lo := (-2147483648)) (hi := 2147483647) H (by omega) (by decide) (by decide) rfl
  obtain rfl : vsu = vsq := by rw [hvu] at hvq; cases hvq; rfl
  refine px_gx (fun _ K => px_a 5 (f' := (5, [(0, .ref (38 + n)), (1, .int x), (2, .int y), (3, .int v)], [.int y, .int x, .ref (38 + n), .int 1, .ref (38 + n)], hp0)) rfl K) ?_
  by_cases h511 : (x < 0 ∨ w ≤ x ∨ y < 0 ∨ h ≤ y)
  · refine px_gx (fun _ K => px_cv (38 + n) (as := [.int x, .int y]) (rest := [.int 1, .ref (38 + n)]) rfl rfl hm rfl rfl rfl rfl (Nat.le_of_ble_eq_true rfl) (p_isCell_o hm h511) K) ?_
    show px_Gx _ _ (8, [(0, .ref (38 + n)), (1, .int x), (2, .int y), (3, .int v)], [.int 0, .int 1, .ref (38 + n)], hp0) _
    refine px_gx (fun _ K => px_a 3 (f' := (16, [(0, .ref (38 + n)), (1, .int x), (2, .int y), (3, .int v)], [.int 1, .int 1, .ref (38 + n)], hp0)) rfl K) ?_
    refine px_gx (fun _ K => px_cv (38 + n) (as := [.int 1, .int 1]) (rest := []) rfl rfl hm rfl rfl rfl rfl (Nat.le_of_ble_eq_true rfl) (p_throwsIf_1 hm (by omega)) K) ?_
    show px_Gx _ _ (19, [(0, .ref (38 + n)), (1, .int x), (2, .int y), (3, .int v)], [.int 1], hp0.set (38 + n) (4, (m_O n 1 w h pn pl fo le ru))) _
    have hm512 : (hp0.set (38 + n) (4, (m_O n 1 w h pn pl fo le ru)))[38 + n]? = some (4, (m_O n 1 w h pn pl fo le ru)) := px_self hm
    have H512 : pa_Hi n (hp0.set (38 + n) (4, (m_O n 1 w h pn pl fo le ru))) := pa_ms (k := 0) (v := .int 1) H hm rfl (pa_in (by omega) (by omega))
    have F512 : pa_Fr n [(24, 0), (28, 0)] hp0 (hp0.set (38 + n) (4, (m_O n 1 w h pn pl fo le ru))) := F.trans (pa_mf (k := 0) (v := .int 1) hm (by decide) (by decide))
    have L512 : (hp0.set (38 + n) (4, (m_O n 1 w h pn pl fo le ru))).length = hp0.length := List.length_set.trans L
    have hvu_512 : (hp0.set (38 + n) (4, (m_O n 1 w h pn pl fo le ru)))[42 + n]? = some (10, vsu) := px_ne hvu (by omega)
    generalize hp0.set (38 + n) (4, (m_O n 1 w h pn pl fo le ru)) = hp512 at hm512 H512 F512 L512 hvu_512 ⊢
    refine px_gx (fun _ K => px_a 2 (f' := (35, [(0, .ref (38 + n)), (1, .int x), (2, .int y), (3, .int v)], [.int 0], hp512)) rfl K) ?_
    exact ⟨_, _, px_ri rfl rfl rfl, _, _, _, rfl, by rw [pa_fd_get hm512]; rfl, hvu_512, Or.inl ⟨h511, rfl, rfl⟩⟩
  · refine px_gx (fun _ K => px_cv (38 + n) (as := [.int x, .int y]) (rest := [.int 1, .ref (38 + n)]) rfl rfl hm rfl rfl rfl rfl (Nat.le_of_ble_eq_true rfl) (p_isCell_i hm h511) K) ?_
    show px_Gx _ _ (8, [(0, .ref (38 + n)), (1, .int x), (2, .int y), (3, .int v)], [.int 1, .int 1, .ref (38 + n)], hp0) _
    have h511a : ¬ x < 0 := fun z => h511 (Or.inl z)
    rw [Int32.lt_iff_toInt_lt] at h511a
    have h511b : ¬ w ≤ x := fun z => h511 (Or.inr (Or.inl z))
    rw [Int32.le_iff_toInt_le] at h511b
    have h511c : ¬ y < 0 := fun z => h511 (Or.inr (Or.inr (Or.inl z)))
    rw [Int32.lt_iff_toInt_lt] at h511c
    have h511d : ¬ h ≤ y := fun z => h511 (Or.inr (Or.inr (Or.inr z)))
    rw [Int32.le_iff_toInt_le] at h511d
    refine px_gx (fun _ K => px_a 2 (f' := (16, [(0, .ref (38 + n)), (1, .int x), (2, .int y), (3, .int v)], [.int 0, .int 1, .ref (38 + n)], hp0)) rfl K) ?_
    refine px_gx (fun _ K => px_cv (38 + n) (as := [.int 1, .int 0]) (rest := []) rfl rfl hm rfl rfl rfl rfl (Nat.le_of_ble_eq_true rfl) (p_throwsIf_0 hm (by omega)) K) ?_
    show px_Gx _ _ (19, [(0, .ref (38 + n)), (1, .int x), (2, .int y), (3, .int v)], [.int 0], hp0.set (38 + n) (4, (m_O n 0 w h pn pl fo le ru))) _
    have hm513 : (hp0.set (38 + n) (4, (m_O n 0 w h pn pl fo le ru)))[38 + n]? = some (4, (m_O n 0 w h pn pl fo le ru)) := px_self hm
    have H513 : pa_Hi n (hp0.set (38 + n) (4, (m_O n 0 w h pn pl fo le ru))) := pa_ms (k := 0) (v := .int 0) H hm rfl (pa_in (by omega) (by omega))
    have F513 : pa_Fr n [(24, 0), (28, 0)] hp0 (hp0.set (38 + n) (4, (m_O n 0 w h pn pl fo le ru))) := F.trans (pa_mf (k := 0) (v := .int 0) hm (by decide) (by decide))
    have L513 : (hp0.set (38 + n) (4, (m_O n 0 w h pn pl fo le ru))).length = hp0.length := List.length_set.trans L
    have hvu_513 : (hp0.set (38 + n) (4, (m_O n 0 w h pn pl fo le ru)))[42 + n]? = some (10, vsu) := px_ne hvu (by omega)
    generalize hp0.set (38 + n) (4, (m_O n 0 w h pn pl fo le ru)) = hp513 at hm513 H513 F513 L513 hvu_513 ⊢
    refine px_gx (fun _ K => px_a 3 (f' := (25, [(0, .ref (38 + n)), (1, .int x), (2, .int y), (3, .int v)], [.int (-99), .int v], hp513)) rfl K) ?_
    by_cases h514 : v < (-99)
    · have h514' := h514
      rw [Int32.lt_iff_toInt_lt] at h514'
      refine px_gx (fun _ K => px_b2 true 34 rfl rfl (decide_eq_true h514) K) ?_
      show px_Gx _ _ (34, [(0, .ref (38 + n)), (1, .int x), (2, .int y), (3, .int v)], [], hp513) _
      refine px_gx (fun _ K => px_a 1 (f' := (35, [(0, .ref (38 + n)), (1, .int x), (2, .int y), (3, .int v)], [.int 0], hp513)) rfl K) ?_
      exact ⟨_, _, px_ri rfl rfl rfl, _, _, _, rfl, by rw [pa_fd_get hm513]; rfl, hvu_513, Or.inr ⟨h511, rfl, Or.inl ⟨Or.inl h514, rfl, rfl⟩⟩⟩
    · have h514' := h514
      rw [Int32.lt_iff_toInt_lt] at h514'
      refine px_gx (fun _ K => px_b2 false 34 rfl rfl (decide_eq_false h514) K) ?_
      show px_Gx _ _ (28, [(0, .ref (38 + n)), (1, .int x), (2, .int y), (3, .int v)], [], hp513) _
      refine px_gx (fun _ K => px_a 2 (f' := (31, [(0, .ref (38 + n)), (1, .int x), (2, .int y), (3, .int v)], [.int 99, .int v], hp513)) rfl K) ?_
      by_cases h515 : v ≤ 99
      · have h515' := h515
        rw [Int32.le_iff_toInt_le] at h515'
        refine px_gx (fun _ K => px_b2 true 36 rfl rfl (decide_eq_true h515) K) ?_
        show px_Gx _ _ (36, [(0, .ref (38 + n)), (1, .int x), (2, .int y), (3, .int v)], [], hp513) _
        refine px_gx (fun _ K => px_a 1 (f' := (37, [(0, .ref (38 + n)), (1, .int x), (2, .int y), (3, .int v)], [.ref (38 + n)], hp513)) rfl K) ?_
        refine px_gx (fun _ K => px_gf (38 + n) 20 4 7 (.ref (42 + n)) rfl rfl hm513 rfl K) ?_
        show px_Gx _ _ (40, [(0, .ref (38 + n)), (1, .int x), (2, .int y), (3, .int v)], [.ref (42 + n)], hp513) _
        refine px_gx (fun _ K => px_a 1 (f' := (41, [(0, .ref (38 + n)), (1, .int x), (2, .int y), (3, .int v)], [.ref (38 + n), .ref (42 + n)], hp513)) rfl K) ?_
        refine px_gx (fun _ K => px_gf (38 + n) 51 4 1 (.int w) rfl rfl hm513 rfl K) ?_
        show px_Gx _ _ (44, [(0, .ref (38 + n)), (1, .int x), (2, .int y), (3, .int v)], [.int w, .ref (42 + n)], hp513) _
        refine px_gx (fun _ K => px_a 2 (f' := (46, [(0, .ref (38 + n)), (1, .int x), (2, .int y), (3, .int v)], [.int (w * y), .ref (42 + n)], hp513)) rfl K) ?_
        obtain ⟨z516, ez516, fz516⟩ : ∃ qz : Int32, qz = w * y ∧ qz.toInt = w.toInt * Int32.toInt y ∧ 0 ≤ w.toInt * Int32.toInt y ∧ w.toInt * Int32.toInt y + w.toInt ≤ 36 := ⟨_, rfl, m_mulw (by omega) (by omega) (by omega) (by omega)⟩
        rw [← ez516]
        refine px_gx (fun _ K => px_a 2 (f' := (48, [(0, .ref (38 + n)), (1, .int x), (2, .int y), (3, .int v)], [.int (z516 + x), .ref (42 + n)], hp513)) rfl K) ?_
        obtain ⟨z517, ez517, fz517⟩ : ∃ qz : Int32, qz = z516 + x ∧ qz.toInt = Int32.toInt z516 + Int32.toInt x := ⟨_, rfl, i32_add (by omega) (by omega)⟩
        rw [← ez517]
        refine px_gx (fun _ K => px_a 1 (f' := (49, [(0, .ref (38 + n)), (1, .int x), (2, .int y), (3, .int v)], [.int v, .int z517, .ref (42 + n)], hp513)) rfl K) ?_
        have hi518 : z517.toNatClampNeg < vsu.length := by show (Int32.toInt z517).toNat < _; omega
        refine px_gx (fun _ K => px_ias (42 + n) rfl hvu_513 (by omega) (i32_nn (by omega)) hi518 K) ?_
        show px_Gx _ _ (50, [(0, .ref (38 + n)), (1, .int x), (2, .int y), (3, .int v)], [], hp513.set (42 + n) (10, vsu.set z517.toNatClampNeg (.int v))) _
        have hm518 : (hp513.set (42 + n) (10, vsu.set z517.toNatClampNeg (.int v)))[38 + n]? = some (4, (m_O n 0 w h pn pl fo le ru)) := px_ne hm513 (by omega)
        have H518 : pa_Hi n (hp513.set (42 + n) (10, vsu.set z517.toNatClampNeg (.int v))) := pa_aS (i := 10) H513 (by omega) (by decide) (by decide) hvu_513 rfl (pa_top_ok _)
        have F518 : pa_Fr n [(24, 0), (28, 0)] hp0 (hp513.set (42 + n) (10, vsu.set z517.toNatClampNeg (.int v))) := F513.trans (pa_aF (i := 10) (by omega) (by decide) (by decide) hvu_513 (by decide) (by decide))
        have L518 : (hp513.set (42 + n) (10, vsu.set z517.toNatClampNeg (.int v))).length = hp0.length := List.length_set.trans L513
        have eix : z517.toNatClampNeg = (w * y + x).toNatClampNeg := by rw [ez517]; rw [ez516]
        obtain ⟨vs519, ev519⟩ : ∃ q : List Value, q = vsu.set z517.toNatClampNeg (.int v) := ⟨_, rfl⟩
        have hv519 : (hp513.set (42 + n) (10, vsu.set z517.toNatClampNeg (.int v)))[42 + n]? = some (10, vs519) := by rw [ev519]; exact px_self hvu_513
        generalize hp513.set (42 + n) (10, vsu.set z517.toNatClampNeg (.int v)) = hp518 at hm518 H518 F518 L518 hv519 ⊢
        refine px_gx (fun _ K => px_a 1 (f' := (51, [(0, .ref (38 + n)), (1, .int x), (2, .int y), (3, .int v)], [.int 1], hp518)) rfl K) ?_
        exact ⟨_, _, px_ri rfl rfl rfl, _, _, _, rfl, by rw [pa_fd_get hm518]; rfl, hv519, Or.inr ⟨h511, rfl, Or.inr ⟨fun z => z.elim h514 (fun z => z h515), rfl, by first | exact ev519 | rw [ev519, eix]⟩⟩⟩
      · have h515' := h515
        rw [Int32.le_iff_toInt_le] at h515'
        refine px_gx (fun _ K => px_b2 false 36 rfl rfl (decide_eq_false h515) K) ?_
        show px_Gx _ _ (34, [(0, .ref (38 + n)), (1, .int x), (2, .int y), (3, .int v)], [], hp513) _
        refine px_gx (fun _ K => px_a 1 (f' := (35, [(0, .ref (38 + n)), (1, .int x), (2, .int y), (3, .int v)], [.int 0], hp513)) rfl K) ?_
        exact ⟨_, _, px_ri rfl rfl rfl, _, _, _, rfl, by rw [pa_fd_get hm513]; rfl, hvu_513, Or.inr ⟨h511, rfl, Or.inl ⟨Or.inr h515, rfl, rfl⟩⟩⟩
