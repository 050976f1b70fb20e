set_option maxRecDepth 20000 in
set_option maxHeartbeats 4000000 in
theorem m_there {d n : Nat} {hp : px_H} {th w h pn pl fo le ru : Int32} (hm : hp[38 + n]? = some (4, m_O n th w h pn pl fo le ru)) (H : pa_Hi n hp) {x y : Int32} {b : Bool} (hb : m_T n hp w.toInt h.toInt x.toInt y.toInt = b) : px_Gx (d + 1) 81 (0, [(0, .ref (38 + n)), (1, .int x), (2, .int y)], [], hp) (fun o hp' => o = .inl (some (.int (if b = true then 1 else 0))) ∧ hp' = hp) := by
  have cl0 : Int32.toInt 0 = 0 := rfl
  have cl1 : Int32.toInt 1 = 1 := rfl
  obtain ⟨bth1, bth2, bw1, bw2, bh1, bh2, bpn1, bpn2, bpl1, bpl2, bfo1, bfo2, ble1, ble2, bru1, bru2⟩ := pa_bnd H hm
  refine px_gx (fun _ K => px_a 3 (f' := (3, [(0, .ref (38 + n)), (1, .int x), (2, .int y)], [.int y, .int x, .ref (38 + n)], hp)) rfl K) ?_
  by_cases h289 : (x < 0 ∨ w ≤ x ∨ y < 0 ∨ h ≤ y)
  · refine px_gx (fun _ K => px_cv (38 + n) (as := [.int x, .int y]) (rest := []) rfl rfl hm rfl rfl rfl rfl (Nat.le_of_ble_eq_true rfl) (p_isCell_o hm h289) K) ?_
    show px_Gx _ _ (6, [(0, .ref (38 + n)), (1, .int x), (2, .int y)], [.int 0], hp) _
    have h289' := h289
    rw [Int32.lt_iff_toInt_lt, Int32.lt_iff_toInt_lt, Int32.le_iff_toInt_le, Int32.le_iff_toInt_le] at h289'
    refine px_gx (fun _ K => px_a 2 (f' := (30, [(0, .ref (38 + n)), (1, .int x), (2, .int y)], [.int 0], hp)) rfl K) ?_
    rw [m_T_o (by omega)] at hb
    subst hb
    exact ⟨_, _, px_ri rfl rfl rfl, rfl, rfl⟩
  · refine px_gx (fun _ K => px_cv (38 + n) (as := [.int x, .int y]) (rest := []) rfl rfl hm rfl rfl rfl rfl (Nat.le_of_ble_eq_true rfl) (p_isCell_i hm h289) K) ?_
    show px_Gx _ _ (6, [(0, .ref (38 + n)), (1, .int x), (2, .int y)], [.int 1], hp) _
    have h289a : ¬ x < 0 := fun z => h289 (Or.inl z)
    rw [Int32.lt_iff_toInt_lt] at h289a
    have h289b : ¬ w ≤ x := fun z => h289 (Or.inr (Or.inl z))
    rw [Int32.le_iff_toInt_le] at h289b
    have h289c : ¬ y < 0 := fun z => h289 (Or.inr (Or.inr (Or.inl z)))
    rw [Int32.lt_iff_toInt_lt] at h289c
    have h289d : ¬ h ≤ y := fun z => h289 (Or.inr (Or.inr (Or.inr z)))
    rw [Int32.le_iff_toInt_le] at h289d
    refine px_gx (fun _ K => px_a 2 (f' := (10, [(0, .ref (38 + n)), (1, .int x), (2, .int y)], [.ref (38 + n)], hp)) rfl K) ?_
    refine px_gx (fun _ K => px_gf (38 + n) 7 4 3 (.ref (39 + n)) rfl rfl hm rfl K) ?_
    show px_Gx _ _ (13, [(0, .ref (38 + n)), (1, .int x), (2, .int y)], [.ref (39 + n)], hp) _
    refine px_gx (fun _ K => px_a 1 (f' := (14, [(0, .ref (38 + n)), (1, .int x), (2, .int y)], [.ref (38 + n), .ref (39 + n)], hp)) rfl K) ?_
    refine px_gx (fun _ K => px_gf (38 + n) 51 4 1 (.int w) rfl rfl hm rfl K) ?_
    show px_Gx _ _ (17, [(0, .ref (38 + n)), (1, .int x), (2, .int y)], [.int w, .ref (39 + n)], hp) _
    refine px_gx (fun _ K => px_a 2 (f' := (19, [(0, .ref (38 + n)), (1, .int x), (2, .int y)], [.int (w * y), .ref (39 + n)], hp)) rfl K) ?_
    obtain ⟨z290, ez290, fz290⟩ : ∃ qz : Int32, qz = w * y ∧ qz.toInt = w.toInt * Int32.toInt y ∧ 0 ≤ w.toInt * Int32.toInt y ∧ w.toInt * Int32.toInt y + w.toInt ≤ 36 := ⟨_, rfl, m_mulw (by omega) (by omega) (by omega) (by omega)⟩
    rw [← ez290]
    refine px_gx (fun _ K => px_a 2 (f' := (21, [(0, .ref (38 + n)), (1, .int x), (2, .int y)], [.int (z290 + x), .ref (39 + n)], hp)) rfl K) ?_
    obtain ⟨z291, ez291, fz291⟩ : ∃ qz : Int32, qz = z290 + x ∧ qz.toInt = Int32.toInt z290 + Int32.toInt x := ⟨_, rfl, i32_add (by omega) (by omega)⟩
    rw [← ez291]
    obtain ⟨vs293, hv293, hl293, hg293⟩ := pa_ara (a := 39 + n) (i := 7) (lo := 0) (hi := 1) H (by omega) (by decide) (by decide) rfl
    have hi292 : z291.toNatClampNeg < vs293.length := by show (Int32.toInt z291).toNat < _; omega
    obtain ⟨z292, ez292, lz292, uz292⟩ := hg293 _ hi292
    refine px_gx (fun _ K => px_al (39 + n) (.int z292) rfl hv293 (Or.inr (Or.inr (Or.inl ⟨rfl, rfl⟩))) (i32_nn (by omega)) ez292 K) ?_
    show px_Gx _ _ (22, [(0, .ref (38 + n)), (1, .int x), (2, .int y)], [.int z292], hp) _
    by_cases h294 : z292 = 0
    · have h294' := h294
      replace h294' := congrArg Int32.toInt h294
      refine px_gx (fun _ K => px_b1 true 29 rfl rfl (decide_eq_true h294) K) ?_
      show px_Gx _ _ (29, [(0, .ref (38 + n)), (1, .int x), (2, .int y)], [], hp) _
      refine px_gx (fun _ K => px_a 1 (f' := (30, [(0, .ref (38 + n)), (1, .int x), (2, .int y)], [.int 0], hp)) rfl K) ?_
      have hb2 := m_T_i (n := n) (hp := hp) (w := w.toInt) (h := h.toInt) (x := x.toInt) (y := y.toInt) ⟨by omega, by omega, by omega, by omega⟩ hv293 ez292 (by show (Int32.toInt z291).toNat = _; congr 1; omega)
      rw [hb2] at hb
      rw [decide_eq_false (show ¬ z292 ≠ 0 from fun q => q h294)] at hb
      subst hb
      exact ⟨_, _, px_ri rfl rfl rfl, rfl, rfl⟩
    · have h294' := h294
      have h294'' : Int32.toInt z292 ≠ Int32.toInt 0 := fun z => h294 (Int32.toInt_inj.mp z)
      refine px_gx (fun _ K => px_b1 false 29 rfl rfl (decide_eq_false h294) K) ?_
      show px_Gx _ _ (25, [(0, .ref (38 + n)), (1, .int x), (2, .int y)], [], hp) _
      refine px_gx (fun _ K => px_a 2 (f' := (30, [(0, .ref (38 + n)), (1, .int x), (2, .int y)], [.int 1], hp)) rfl K) ?_
      have hb2 := m_T_i (n := n) (hp := hp) (w := w.toInt) (h := h.toInt) (x := x.toInt) (y := y.toInt) ⟨by omega, by omega, by omega, by omega⟩ hv293 ez292 (by show (Int32.toInt z291).toNat = _; congr 1; omega)
      rw [hb2] at hb
      rw [decide_eq_true (show z292 ≠ 0 from h294)] at hb
      subst hb
      exact ⟨_, _, px_ri rfl rfl rfl, rfl, rfl⟩
set_option maxRecDepth 20000 in
set_option maxHeartbeats 4000000 in
theorem m_side_0 {d n : Nat} {hp : px_H} {th w h pn pl fo le ru : Int32} (hm : hp[38 + n]? = some (4, m_O n th w h pn pl fo le ru)) (H : pa_Hi n hp) {x y : Int32} (x1 : -9 ≤ x.toInt) (x2 : x.toInt ≤ 9) (y1 : -9 ≤ y.toInt) (y2 : y.toInt ≤ 9) {b : Bool} (hb : m_sd (m_T n hp w.toInt h.toInt) x.toInt y.toInt 0 = b) : px_Gx (d + 2) 80 (0, [(0, .ref (38 + n)), (1, .int x), (2, .int y), (3, .int 0)], [], hp) (fun o hp' => o = .inl (some (.int (if b = true then 1 else 0))) ∧ hp' = hp) := by
  have cl0 : Int32.toInt 0 = 0 := rfl
  have cl1 : Int32.toInt 1 = 1 := rfl
  obtain ⟨bth1, bth2, bw1, bw2, bh1, bh2, bpn1, bpn2, bpl1, bpl2, bfo1, bfo2, ble1, ble2, bru1, bru2⟩ := pa_bnd H hm
  refine px_gx (fun _ K => px_a 5 (f' := (31, [(0, .ref (38 + n)), (1, .int x), (2, .int y), (3, .int 0)], [.int y, .int x, .ref (38 + n)], hp)) rfl K) ?_
  rcases Bool.eq_false_or_eq_true (m_T n hp w.toInt h.toInt x.toInt y.toInt) with hT295 | hT295
  · obtain ⟨o296, hq296, g296, rfl, eh296⟩ := m_there (d := d) hm H hT295
    rw [eh296] at g296
    refine px_gx (fun _ K => px_cv (38 + n) (as := [.int x, .int y]) (rest := []) rfl rfl hm rfl rfl rfl rfl (Nat.le_of_ble_eq_true rfl) g296 K) ?_
    show px_Gx _ _ (34, [(0, .ref (38 + n)), (1, .int x), (2, .int y), (3, .int 0)], [.int 1], hp) _
    refine px_gx (fun _ K => px_a 6 (f' := (42, [(0, .ref (38 + n)), (1, .int x), (2, .int y), (3, .int 0)], [.int (y - 1), .int x, .ref (38 + n)], hp)) rfl K) ?_
    obtain ⟨z297, ez297, fz297⟩ : ∃ qz : Int32, qz = y - 1 ∧ qz.toInt = Int32.toInt y - Int32.toInt 1 := ⟨_, rfl, i32_sub (by omega) (by omega)⟩
    rw [← ez297]
    rcases Bool.eq_false_or_eq_true (m_T n hp w.toInt h.toInt x.toInt z297.toInt) with hT298 | hT298
    · obtain ⟨o299, hq299, g299, rfl, eh299⟩ := m_there (d := d) hm H hT298
      rw [eh299] at g299
      refine px_gx (fun _ K => px_cv (38 + n) (as := [.int x, .int z297]) (rest := []) rfl rfl hm rfl rfl rfl rfl (Nat.le_of_ble_eq_true rfl) g299 K) ?_
      show px_Gx _ _ (45, [(0, .ref (38 + n)), (1, .int x), (2, .int y), (3, .int 0)], [.int 1], hp) _
      rw [fz297, cl1] at hT298
      refine px_gx (fun _ K => px_a 2 (f' := (53, [(0, .ref (38 + n)), (1, .int x), (2, .int y), (3, .int 0)], [.int 0], hp)) rfl K) ?_
      exact ⟨_, _, px_ri rfl rfl rfl, by rw [← hb]; unfold m_sd; rw [hT295, hT298]; rfl, rfl⟩
    · obtain ⟨o300, hq300, g300, rfl, eh300⟩ := m_there (d := d) hm H hT298
      rw [eh300] at g300
      refine px_gx (fun _ K => px_cv (38 + n) (as := [.int x, .int z297]) (rest := []) rfl rfl hm rfl rfl rfl rfl (Nat.le_of_ble_eq_true rfl) g300 K) ?_
      show px_Gx _ _ (45, [(0, .ref (38 + n)), (1, .int x), (2, .int y), (3, .int 0)], [.int 0], hp) _
      rw [fz297, cl1] at hT298
      refine px_gx (fun _ K => px_a 3 (f' := (53, [(0, .ref (38 + n)), (1, .int x), (2, .int y), (3, .int 0)], [.int 1], hp)) rfl K) ?_
      exact ⟨_, _, px_ri rfl rfl rfl, by rw [← hb]; unfold m_sd; rw [hT295, hT298]; rfl, rfl⟩
  · obtain ⟨o301, hq301, g301, rfl, eh301⟩ := m_there (d := d) hm H hT295
    rw [eh301] at g301
    refine px_gx (fun _ K => px_cv (38 + n) (as := [.int x, .int y]) (rest := []) rfl rfl hm rfl rfl rfl rfl (Nat.le_of_ble_eq_true rfl) g301 K) ?_
    show px_Gx _ _ (34, [(0, .ref (38 + n)), (1, .int x), (2, .int y), (3, .int 0)], [.int 0], hp) _
    refine px_gx (fun _ K => px_a 2 (f' := (53, [(0, .ref (38 + n)), (1, .int x), (2, .int y), (3, .int 0)], [.int 0], hp)) rfl K) ?_
    exact ⟨_, _, px_ri rfl rfl rfl, by rw [← hb]; unfold m_sd; rw [hT295]; rfl, rfl⟩
set_option maxRecDepth 20000 in
set_option maxHeartbeats 4000000 in
theorem m_side_1 {d n : Nat} {hp : px_H} {th w h pn pl fo le ru : Int32} (hm : hp[38 + n]? = some (4, m_O n th w h pn pl fo le ru)) (H : pa_Hi n hp) {x y : Int32} (x1 : -9 ≤ x.toInt) (x2 : x.toInt ≤ 9) (y1 : -9 ≤ y.toInt) (y2 : y.toInt ≤ 9) {b : Bool} (hb : m_sd (m_T n hp w.toInt h.toInt) x.toInt y.toInt 1 = b) : px_Gx (d + 2) 80 (0, [(0, .ref (38 + n)), (1, .int x), (2, .int y), (3, .int 1)], [], hp) (fun o hp' => o = .inl (some (.int (if b = true then 1 else 0))) ∧ hp' = hp) := by
  have cl0 : Int32.toInt 0 = 0 := rfl
  have cl1 : Int32.toInt 1 = 1 := rfl
  obtain ⟨bth1, bth2, bw1, bw2, bh1, bh2, bpn1, bpn2, bpl1, bpl2, bfo1, bfo2, ble1, ble2, bru1, bru2⟩ := pa_bnd H hm
  refine px_gx (fun _ K => px_a 6 (f' := (58, [(0, .ref (38 + n)), (1, .int x), (2, .int y), (3, .int 1)], [.int (x - 1), .ref (38 + n)], hp)) rfl K) ?_
  obtain ⟨z302, ez302, fz302⟩ : ∃ qz : Int32, qz = x - 1 ∧ qz.toInt = Int32.toInt x - Int32.toInt 1 := ⟨_, rfl, i32_sub (by omega) (by omega)⟩
  rw [← ez302]
  refine px_gx (fun _ K => px_a 1 (f' := (59, [(0, .ref (38 + n)), (1, .int x), (2, .int y), (3, .int 1)], [.int y, .int z302, .ref (38 + n)], hp)) rfl K) ?_
  rcases Bool.eq_false_or_eq_true (m_T n hp w.toInt h.toInt z302.toInt y.toInt) with hT303 | hT303
  · obtain ⟨o304, hq304, g304, rfl, eh304⟩ := m_there (d := d) hm H hT303
    rw [eh304] at g304
    refine px_gx (fun _ K => px_cv (38 + n) (as := [.int z302, .int y]) (rest := []) rfl rfl hm rfl rfl rfl rfl (Nat.le_of_ble_eq_true rfl) g304 K) ?_
    show px_Gx _ _ (62, [(0, .ref (38 + n)), (1, .int x), (2, .int y), (3, .int 1)], [.int 1], hp) _
    rw [fz302, cl1] at hT303
    refine px_gx (fun _ K => px_a 4 (f' := (68, [(0, .ref (38 + n)), (1, .int x), (2, .int y), (3, .int 1)], [.int y, .int x, .ref (38 + n)], hp)) rfl K) ?_
    rcases Bool.eq_false_or_eq_true (m_T n hp w.toInt h.toInt x.toInt y.toInt) with hT305 | hT305
    · obtain ⟨o306, hq306, g306, rfl, eh306⟩ := m_there (d := d) hm H hT305
      rw [eh306] at g306
      refine px_gx (fun _ K => px_cv (38 + n) (as := [.int x, .int y]) (rest := []) rfl rfl hm rfl rfl rfl rfl (Nat.le_of_ble_eq_true rfl) g306 K) ?_
      show px_Gx _ _ (71, [(0, .ref (38 + n)), (1, .int x), (2, .int y), (3, .int 1)], [.int 1], hp) _
      refine px_gx (fun _ K => px_a 2 (f' := (79, [(0, .ref (38 + n)), (1, .int x), (2, .int y), (3, .int 1)], [.int 0], hp)) rfl K) ?_
      exact ⟨_, _, px_ri rfl rfl rfl, by rw [← hb]; unfold m_sd; rw [hT303, hT305]; rfl, rfl⟩
    · obtain ⟨o307, hq307, g307, rfl, eh307⟩ := m_there (d := d) hm H hT305
      rw [eh307] at g307
      refine px_gx (fun _ K => px_cv (38 + n) (as := [.int x, .int y]) (rest := []) rfl rfl hm rfl rfl rfl rfl (Nat.le_of_ble_eq_true rfl) g307 K) ?_
      show px_Gx _ _ (71, [(0, .ref (38 + n)), (1, .int x), (2, .int y), (3, .int 1)], [.int 0], hp) _
      refine px_gx (fun _ K => px_a 3 (f' := (79, [(0, .ref (38 + n)), (1, .int x), (2, .int y), (3, .int 1)], [.int 1], hp)) rfl K) ?_
      exact ⟨_, _, px_ri rfl rfl rfl, by rw [← hb]; unfold m_sd; rw [hT303, hT305]; rfl, rfl⟩
  · obtain ⟨o308, hq308, g308, rfl, eh308⟩ := m_there (d := d) hm H hT303
    rw [eh308] at g308
    refine px_gx (fun _ K => px_cv (38 + n) (as := [.int z302, .int y]) (rest := []) rfl rfl hm rfl rfl rfl rfl (Nat.le_of_ble_eq_true rfl) g308 K) ?_
    show px_Gx _ _ (62, [(0, .ref (38 + n)), (1, .int x), (2, .int y), (3, .int 1)], [.int 0], hp) _
    rw [fz302, cl1] at hT303
    refine px_gx (fun _ K => px_a 2 (f' := (79, [(0, .ref (38 + n)), (1, .int x), (2, .int y), (3, .int 1)], [.int 0], hp)) rfl K) ?_
    exact ⟨_, _, px_ri rfl rfl rfl, by rw [← hb]; unfold m_sd; rw [hT303]; rfl, rfl⟩
set_option maxRecDepth 20000 in
set_option maxHeartbeats 4000000 in
theorem m_side_2 {d n : Nat} {hp : px_H} {th w h pn pl fo le ru : Int32} (hm : hp[38 + n]? = some (4, m_O n th w h pn pl fo le ru)) (H : pa_Hi n hp) {x y : Int32} (x1 : -9 ≤ x.toInt) (x2 : x.toInt ≤ 9) (y1 : -9 ≤ y.toInt) (y2 : y.toInt ≤ 9) {b : Bool} (hb : m_sd (m_T n hp w.toInt h.toInt) x.toInt y.toInt 2 = b) : px_Gx (d + 2) 80 (0, [(0, .ref (38 + n)), (1, .int x), (2, .int y), (3, .int 2)], [], hp) (fun o hp' => o = .inl (some (.int (if b = true then 1 else 0))) ∧ hp' = hp) := by
  have cl0 : Int32.toInt 0 = 0 := rfl
  have cl1 : Int32.toInt 1 = 1 := rfl
  obtain ⟨bth1, bth2, bw1, bw2, bh1, bh2, bpn1, bpn2, bpl1, bpl2, bfo1, bfo2, ble1, ble2, bru1, bru2⟩ := pa_bnd H hm
  refine px_gx (fun _ K => px_a 6 (f' := (84, [(0, .ref (38 + n)), (1, .int x), (2, .int y), (3, .int 2)], [.int (x - 1), .ref (38 + n)], hp)) rfl K) ?_
  obtain ⟨z309, ez309, fz309⟩ : ∃ qz : Int32, qz = x - 1 ∧ qz.toInt = Int32.toInt x - Int32.toInt 1 := ⟨_, rfl, i32_sub (by omega) (by omega)⟩
  rw [← ez309]
  refine px_gx (fun _ K => px_a 3 (f' := (87, [(0, .ref (38 + n)), (1, .int x), (2, .int y), (3, .int 2)], [.int (y - 1), .int z309, .ref (38 + n)], hp)) rfl K) ?_
  obtain ⟨z310, ez310, fz310⟩ : ∃ qz : Int32, qz = y - 1 ∧ qz.toInt = Int32.toInt y - Int32.toInt 1 := ⟨_, rfl, i32_sub (by omega) (by omega)⟩
  rw [← ez310]
  rcases Bool.eq_false_or_eq_true (m_T n hp w.toInt h.toInt z309.toInt z310.toInt) with hT311 | hT311
  · obtain ⟨o312, hq312, g312, rfl, eh312⟩ := m_there (d := d) hm H hT311
    rw [eh312] at g312
    refine px_gx (fun _ K => px_cv (38 + n) (as := [.int z309, .int z310]) (rest := []) rfl rfl hm rfl rfl rfl rfl (Nat.le_of_ble_eq_true rfl) g312 K) ?_
    show px_Gx _ _ (90, [(0, .ref (38 + n)), (1, .int x), (2, .int y), (3, .int 2)], [.int 1], hp) _
    rw [fz309, fz310, cl1] at hT311
    refine px_gx (fun _ K => px_a 5 (f' := (97, [(0, .ref (38 + n)), (1, .int x), (2, .int y), (3, .int 2)], [.int (x - 1), .ref (38 + n)], hp)) rfl K) ?_
    rw [← ez309]
    refine px_gx (fun _ K => px_a 1 (f' := (98, [(0, .ref (38 + n)), (1, .int x), (2, .int y), (3, .int 2)], [.int y, .int z309, .ref (38 + n)], hp)) rfl K) ?_
    rcases Bool.eq_false_or_eq_true (m_T n hp w.toInt h.toInt z309.toInt y.toInt) with hT313 | hT313
    · obtain ⟨o314, hq314, g314, rfl, eh314⟩ := m_there (d := d) hm H hT313
      rw [eh314] at g314
      refine px_gx (fun _ K => px_cv (38 + n) (as := [.int z309, .int y]) (rest := []) rfl rfl hm rfl rfl rfl rfl (Nat.le_of_ble_eq_true rfl) g314 K) ?_
      show px_Gx _ _ (101, [(0, .ref (38 + n)), (1, .int x), (2, .int y), (3, .int 2)], [.int 1], hp) _
      rw [fz309, cl1] at hT313
      refine px_gx (fun _ K => px_a 2 (f' := (109, [(0, .ref (38 + n)), (1, .int x), (2, .int y), (3, .int 2)], [.int 0], hp)) rfl K) ?_
      exact ⟨_, _, px_ri rfl rfl rfl, by rw [← hb]; unfold m_sd; rw [hT311, hT313]; rfl, rfl⟩
    · obtain ⟨o315, hq315, g315, rfl, eh315⟩ := m_there (d := d) hm H hT313
      rw [eh315] at g315
      refine px_gx (fun _ K => px_cv (38 + n) (as := [.int z309, .int y]) (rest := []) rfl rfl hm rfl rfl rfl rfl (Nat.le_of_ble_eq_true rfl) g315 K) ?_
      show px_Gx _ _ (101, [(0, .ref (38 + n)), (1, .int x), (2, .int y), (3, .int 2)], [.int 0], hp) _
      rw [fz309, cl1] at hT313
      refine px_gx (fun _ K => px_a 3 (f' := (109, [(0, .ref (38 + n)), (1, .int x), (2, .int y), (3, .int 2)], [.int 1], hp)) rfl K) ?_
      exact ⟨_, _, px_ri rfl rfl rfl, by rw [← hb]; unfold m_sd; rw [hT311, hT313]; rfl, rfl⟩
  · obtain ⟨o316, hq316, g316, rfl, eh316⟩ := m_there (d := d) hm H hT311
    rw [eh316] at g316
    refine px_gx (fun _ K => px_cv (38 + n) (as := [.int z309, .int z310]) (rest := []) rfl rfl hm rfl rfl rfl rfl (Nat.le_of_ble_eq_true rfl) g316 K) ?_
    show px_Gx _ _ (90, [(0, .ref (38 + n)), (1, .int x), (2, .int y), (3, .int 2)], [.int 0], hp) _
    rw [fz309, fz310, cl1] at hT311
    refine px_gx (fun _ K => px_a 2 (f' := (109, [(0, .ref (38 + n)), (1, .int x), (2, .int y), (3, .int 2)], [.int 0], hp)) rfl K) ?_
    exact ⟨_, _, px_ri rfl rfl rfl, by rw [← hb]; unfold m_sd; rw [hT311]; rfl, rfl⟩
set_option maxRecDepth 20000 in
set_option maxHeartbeats 4000000 in
theorem m_side_3 {d n : Nat} {hp : px_H} {th w h pn pl fo le ru : Int32} (hm : hp[38 + n]? = some (4, m_O n th w h pn pl fo le ru)) (H : pa_Hi n hp) {x y : Int32} (x1 : -9 ≤ x.toInt) (x2 : x.toInt ≤ 9) (y1 : -9 ≤ y.toInt) (y2 : y.toInt ≤ 9) {b : Bool} (hb : m_sd (m_T n hp w.toInt h.toInt) x.toInt y.toInt 3 = b) : px_Gx (d + 2) 80 (0, [(0, .ref (38 + n)), (1, .int x), (2, .int y), (3, .int 3)], [], hp) (fun o hp' => o = .inl (some (.int (if b = true then 1 else 0))) ∧ hp' = hp) := by
  have cl0 : Int32.toInt 0 = 0 := rfl
  have cl1 : Int32.toInt 1 = 1 := rfl
  obtain ⟨bth1, bth2, bw1, bw2, bh1, bh2, bpn1, bpn2, bpl1, bpl2, bfo1, bfo2, ble1, ble2, bru1, bru2⟩ := pa_bnd H hm
  refine px_gx (fun _ K => px_a 7 (f' := (115, [(0, .ref (38 + n)), (1, .int x), (2, .int y), (3, .int 3)], [.int (y - 1), .int x, .ref (38 + n)], hp)) rfl K) ?_
  obtain ⟨z317, ez317, fz317⟩ : ∃ qz : Int32, qz = y - 1 ∧ qz.toInt = Int32.toInt y - Int32.toInt 1 := ⟨_, rfl, i32_sub (by omega) (by omega)⟩
  rw [← ez317]
  rcases Bool.eq_false_or_eq_true (m_T n hp w.toInt h.toInt x.toInt z317.toInt) with hT318 | hT318
  · obtain ⟨o319, hq319, g319, rfl, eh319⟩ := m_there (d := d) hm H hT318
    rw [eh319] at g319
    refine px_gx (fun _ K => px_cv (38 + n) (as := [.int x, .int z317]) (rest := []) rfl rfl hm rfl rfl rfl rfl (Nat.le_of_ble_eq_true rfl) g319 K) ?_
    show px_Gx _ _ (118, [(0, .ref (38 + n)), (1, .int x), (2, .int y), (3, .int 3)], [.int 1], hp) _
    rw [fz317, cl1] at hT318
    refine px_gx (fun _ K => px_a 5 (f' := (125, [(0, .ref (38 + n)), (1, .int x), (2, .int y), (3, .int 3)], [.int (x - 1), .ref (38 + n)], hp)) rfl K) ?_
    obtain ⟨z320, ez320, fz320⟩ : ∃ qz : Int32, qz = x - 1 ∧ qz.toInt = Int32.toInt x - Int32.toInt 1 := ⟨_, rfl, i32_sub (by omega) (by omega)⟩
    rw [← ez320]
    refine px_gx (fun _ K => px_a 3 (f' := (128, [(0, .ref (38 + n)), (1, .int x), (2, .int y), (3, .int 3)], [.int (y - 1), .int z320, .ref (38 + n)], hp)) rfl K) ?_
    rw [← ez317]
    rcases Bool.eq_false_or_eq_true (m_T n hp w.toInt h.toInt z320.toInt z317.toInt) with hT321 | hT321
    · obtain ⟨o322, hq322, g322, rfl, eh322⟩ := m_there (d := d) hm H hT321
      rw [eh322] at g322
      refine px_gx (fun _ K => px_cv (38 + n) (as := [.int z320, .int z317]) (rest := []) rfl rfl hm rfl rfl rfl rfl (Nat.le_of_ble_eq_true rfl) g322 K) ?_
      show px_Gx _ _ (131, [(0, .ref (38 + n)), (1, .int x), (2, .int y), (3, .int 3)], [.int 1], hp) _
      rw [fz320, fz317, cl1] at hT321
      refine px_gx (fun _ K => px_a 2 (f' := (139, [(0, .ref (38 + n)), (1, .int x), (2, .int y), (3, .int 3)], [.int 0], hp)) rfl K) ?_
      exact ⟨_, _, px_ri rfl rfl rfl, by rw [← hb]; unfold m_sd; rw [hT318, hT321]; rfl, rfl⟩
    · obtain ⟨o323, hq323, g323, rfl, eh323⟩ := m_there (d := d) hm H hT321
      rw [eh323] at g323
      refine px_gx (fun _ K => px_cv (38 + n) (as := [.int z320, .int z317]) (rest := []) rfl rfl hm rfl rfl rfl rfl (Nat.le_of_ble_eq_true rfl) g323 K) ?_
      show px_Gx _ _ (131, [(0, .ref (38 + n)), (1, .int x), (2, .int y), (3, .int 3)], [.int 0], hp) _
      rw [fz320, fz317, cl1] at hT321
      refine px_gx (fun _ K => px_a 3 (f' := (139, [(0, .ref (38 + n)), (1, .int x), (2, .int y), (3, .int 3)], [.int 1], hp)) rfl K) ?_
      exact ⟨_, _, px_ri rfl rfl rfl, by rw [← hb]; unfold m_sd; rw [hT318, hT321]; rfl, rfl⟩
  · obtain ⟨o324, hq324, g324, rfl, eh324⟩ := m_there (d := d) hm H hT318
    rw [eh324] at g324
    refine px_gx (fun _ K => px_cv (38 + n) (as := [.int x, .int z317]) (rest := []) rfl rfl hm rfl rfl rfl rfl (Nat.le_of_ble_eq_true rfl) g324 K) ?_
    show px_Gx _ _ (118, [(0, .ref (38 + n)), (1, .int x), (2, .int y), (3, .int 3)], [.int 0], hp) _
    rw [fz317, cl1] at hT318
    refine px_gx (fun _ K => px_a 2 (f' := (139, [(0, .ref (38 + n)), (1, .int x), (2, .int y), (3, .int 3)], [.int 0], hp)) rfl K) ?_
    exact ⟨_, _, px_ri rfl rfl rfl, by rw [← hb]; unfold m_sd; rw [hT318]; rfl, rfl⟩
def ck_100 : pa_K := ([pa_rf 24], none, false, [(24, 15), (34, 0)])
theorem m_T6 {n : Nat} {hp : px_H} {w h : Int} (w2 : w ≤ 6) (h2 : h ≤ 6) : ∀ x y, m_T n hp w h x y = true → 0 ≤ x ∧ x < 6 ∧ 0 ≤ y ∧ y < 6 := by
  intro x y e
  have := m_T_r e
  omega
set_option maxRecDepth 20000 in
set_option maxHeartbeats 4000000 in
theorem m_walk_l {d n : Nat} {hp0 : px_H} {th w h pn pl fo ru : Int32} {fi x0 y0 : Int32} (H0 : pa_Hi n hp0) (ex0 : x0 = fi - fi / w * w) (ey0 : y0 = fi / w) (hs0 : m_ok (m_T n hp0 w.toInt h.toInt) (x0.toInt, y0.toInt, 0)) {K0 : Nat} (hK2 : K0 ≤ 196) (hK : m_st (m_T n hp0 w.toInt h.toInt) (x0.toInt, y0.toInt, 0) K0 = (x0.toInt, y0.toInt, 0)) : ∀ (k : Nat) (i : Nat) (wa y x : Int32) hp le (hm : hp[38 + n]? = some (4, m_O n th w h pn pl fo le ru)) (H : pa_Hi n hp) (F : pa_Fr n [(24, 15), (34, 0)] hp0 hp) (L : hp.length = hp0.length), i + k = K0 → 1 ≤ k → le.toInt = i ∧ 0 ≤ wa.toInt → m_st (m_T n hp0 w.toInt h.toInt) (x0.toInt, y0.toInt, 0) i = (x.toInt, y.toInt, wa.toInt.toNat) → px_Gx (d + 3) 100 (59, [(5, .int 1), (4, .int wa), (3, .int y), (2, .int x), (1, .int fi), (0, .ref (38 + n))], [], hp) (pa_Po n ck_100 hp0) := by
  have clm1 : Int32.toInt (-1) = -1 := rfl
  have cl0 : Int32.toInt 0 = 0 := rfl
  have cl1 : Int32.toInt 1 = 1 := rfl
  have cl2 : Int32.toInt 2 = 2 := rfl
  have cl3 : Int32.toInt 3 = 3 := rfl
  have cl4 : Int32.toInt 4 = 4 := rfl
  have cl5 : Int32.toInt 5 = 5 := rfl
  have cl6 : Int32.toInt 6 = 6 := rfl
  intro k
  induction k with
  | zero =>
    intro i wa y x hp le hm H F L g1 g2 g3 hst
    omega
  | succ k ih =>
    intro i wa y x hp le hm H F L g1 g2 g3 hst
    obtain ⟨g3, g4⟩ := g3
    obtain ⟨bth1, bth2, bw1, bw2, bh1, bh2, bpn1, bpn2, bpl1, bpl2, bfo1, bfo2, ble1, ble2, bru1, bru2⟩ := pa_bnd H hm
    have hT6 : w.toInt ≤ 6 → h.toInt ≤ 6 → ∀ x y, (m_T n hp0 w.toInt h.toInt) x y = true → 0 ≤ x ∧ x < 6 ∧ 0 ≤ y ∧ y < 6 := fun a b => m_T6 a b
    have hok := m_st_ok hs0 i
    rw [hst] at hok
    obtain ⟨hw4, hsd⟩ := hok
    have hrr := m_sd_r (hT6 bw2 bh2) hsd
    dsimp only at hw4 hrr
    have hwa : wa = 0 ∨ wa = 1 ∨ wa = 2 ∨ wa = 3 := by
      rcases (show wa.toInt = 0 ∨ wa.toInt = 1 ∨ wa.toInt = 2 ∨ wa.toInt = 3 by omega) with e | e | e | e
      · exact Or.inl (Int32.toInt_inj.mp (e.trans cl0.symm))
      · exact Or.inr (Or.inl (Int32.toInt_inj.mp (e.trans cl1.symm)))
      · exact Or.inr (Or.inr (Or.inl (Int32.toInt_inj.mp (e.trans cl2.symm))))
      · exact Or.inr (Or.inr (Or.inr (Int32.toInt_inj.mp (e.trans cl3.symm))))
    rcases hwa with rfl | rfl | rfl | rfl
    · change m_st (m_T n hp0 w.toInt h.toInt) (x0.toInt, y0.toInt, 0) i = (x.toInt, y.toInt, 0) at hst
      refine px_gx (fun _ K => px_a 3 (f' := (65, [(5, .int 1), (4, .int 0), (3, .int y), (2, .int x), (1, .int fi), (0, .ref (38 + n))], [.ref (38 + n)], hp)) rfl K) ?_
      refine px_gx (fun _ K => px_gf (38 + n) 39 4 16 (.ref (48 + n)) rfl rfl hm rfl K) ?_
      show px_Gx _ _ (68, [(5, .int 1), (4, .int 0), (3, .int y), (2, .int x), (1, .int fi), (0, .ref (38 + n))], [.ref (48 + n)], hp) _
      refine px_gx (fun _ K => px_a 1 (f' := (69, [(5, .int 1), (4, .int 0), (3, .int y), (2, .int x), (1, .int fi), (0, .ref (38 + n))], [.ref (38 + n), .ref (48 + n)], hp)) rfl K) ?_
      refine px_gx (fun _ K => px_gf (38 + n) 122 4 15 (.int le) rfl rfl hm rfl K) ?_
      show px_Gx _ _ (72, [(5, .int 1), (4, .int 0), (3, .int y), (2, .int x), (1, .int fi), (0, .ref (38 + n))], [.int le, .ref (48 + n)], hp) _
      refine px_gx (fun _ K => px_a 1 (f' := (74, [(5, .int 1), (4, .int 0), (3, .int y), (2, .int x), (1, .int fi), (0, .ref (38 + n))], [.int 0, .int le, .ref (48 + n)], hp)) rfl K) ?_
      obtain ⟨vs326, hv326, hl326, hg326⟩ := pa_ara (a := 48 + n) (i := 16) (lo := 0) (hi := 3) H (by omega) (by decide) (by decide) rfl
      have hi325 : le.toNatClampNeg < vs326.length := by show (Int32.toInt le).toNat < _; omega
      refine px_gx (fun _ K => px_ias (48 + n) rfl hv326 (by omega) (i32_nn (by omega)) hi325 K) ?_
      show px_Gx _ _ (75, [(5, .int 1), (4, .int 0), (3, .int y), (2, .int x), (1, .int fi), (0, .ref (38 + n))], [], hp.set (48 + n) (10, vs326.set le.toNatClampNeg (.int 0))) _
      have hm325 : (hp.set (48 + n) (10, vs326.set le.toNatClampNeg (.int 0)))[38 + n]? = some (4, (m_O n th w h pn pl fo le ru)) := px_ne hm (by omega)
      have H325 : pa_Hi n (hp.set (48 + n) (10, vs326.set le.toNatClampNeg (.int 0))) := pa_aS (i := 16) H (by omega) (by decide) (by decide) hv326 rfl (pa_in (by omega) (by omega))
      have F325 : pa_Fr n [(24, 15), (34, 0)] hp0 (hp.set (48 + n) (10, vs326.set le.toNatClampNeg (.int 0))) := F.trans (pa_aF (i := 16) (by omega) (by decide) (by decide) hv326 (by decide) (by decide))
      have L325 : (hp.set (48 + n) (10, vs326.set le.toNatClampNeg (.int 0))).length = hp0.length := List.length_set.trans L
      generalize hp.set (48 + n) (10, vs326.set le.toNatClampNeg (.int 0)) = hp325 at hm325 H325 F325 L325 ⊢
      refine px_gx (fun _ K => px_a 2 (f' := (77, [(5, .int 1), (4, .int 0), (3, .int y), (2, .int x), (1, .int fi), (0, .ref (38 + n))], [.ref (38 + n), .ref (38 + n)], hp325)) rfl K) ?_
      refine px_gx (fun _ K => px_gf (38 + n) 122 4 15 (.int le) rfl rfl hm325 rfl K) ?_
      show px_Gx _ _ (80, [(5, .int 1), (4, .int 0), (3, .int y), (2, .int x), (1, .int fi), (0, .ref (38 + n))], [.int le, .ref (38 + n)], hp325) _
      refine px_gx (fun _ K => px_a 2 (f' := (82, [(5, .int 1), (4, .int 0), (3, .int y), (2, .int x), (1, .int fi), (0, .ref (38 + n))], [.int (le + 1), .ref (38 + n)], hp325)) rfl K) ?_
      obtain ⟨z327, ez327, fz327⟩ : ∃ qz : Int32, qz = le + 1 ∧ qz.toInt = Int32.toInt le + Int32.toInt 1 := ⟨_, rfl, i32_add (by omega) (by omega)⟩
      rw [← ez327]
      refine px_gx (fun _ K => px_pf (38 + n) 122 4 15 rfl rfl hm325 (by omega) (Nat.le_of_ble_eq_true rfl) (rfl) rfl (by decide) K) ?_
      show px_Gx _ _ (85, [(5, .int 1), (4, .int 0), (3, .int y), (2, .int x), (1, .int fi), (0, .ref (38 + n))], [], hp325.set (38 + n) (4, (m_O n th w h pn pl fo z327 ru))) _
      have hm328 : (hp325.set (38 + n) (4, (m_O n th w h pn pl fo z327 ru)))[38 + n]? = some (4, (m_O n th w h pn pl fo z327 ru)) := px_self hm325
      have H328 : pa_Hi n (hp325.set (38 + n) (4, (m_O n th w h pn pl fo z327 ru))) := pa_ms (k := 15) (v := .int z327) H325 hm325 rfl (pa_in (by omega) (by omega))
      have F328 : pa_Fr n [(24, 15), (34, 0)] hp0 (hp325.set (38 + n) (4, (m_O n th w h pn pl fo z327 ru))) := F325.trans (pa_mf (k := 15) (v := .int z327) hm325 (by decide) (by decide))
      have L328 : (hp325.set (38 + n) (4, (m_O n th w h pn pl fo z327 ru))).length = hp0.length := List.length_set.trans L325
      generalize hp325.set (38 + n) (4, (m_O n th w h pn pl fo z327 ru)) = hp328 at hm328 H328 F328 L328 ⊢
      refine px_gx (fun _ K => px_a 6 (f' := (107, [(5, .int 1), (4, .int 0), (3, .int y), (2, .int x), (1, .int fi), (0, .ref (38 + n))], [.int (x + 1)], hp328)) rfl K) ?_
      obtain ⟨z329, ez329, fz329⟩ : ∃ qz : Int32, qz = x + 1 ∧ qz.toInt = Int32.toInt x + Int32.toInt 1 := ⟨_, rfl, i32_add (by omega) (by omega)⟩
      rw [← ez329]
      refine px_gx (fun _ K => px_a 10 (f' := (131, [(2, .int z329), (5, .int 1), (4, .int 0), (3, .int y), (1, .int fi), (0, .ref (38 + n))], [.int (y + 0)], hp328)) rfl K) ?_
      obtain ⟨z330, ez330, fz330⟩ : ∃ qz : Int32, qz = y + 0 ∧ qz.toInt = Int32.toInt y + Int32.toInt 0 := ⟨_, rfl, i32_add (by omega) (by omega)⟩
      rw [← ez330]
      refine px_gx (fun _ K => px_a 9 (f' := (141, [(3, .int z330), (2, .int z329), (5, .int 1), (4, .int 0), (1, .int fi), (0, .ref (38 + n))], [.int 1, .int z330, .int z329, .ref (38 + n)], hp328)) rfl K) ?_
      rcases Bool.eq_false_or_eq_true (m_sd (m_T n hp0 w.toInt h.toInt) z329.toInt z330.toInt 1) with hS331 | hS331
      · obtain ⟨o332, hq332, g332, rfl, eh332⟩ := m_side_1 (d := d) hm328 H328 (b := true) (x := z329) (y := z330) (by omega) (by omega) (by omega) (by omega) (by rw [m_T_f H0 F328 (by decide)]; exact hS331)
        rw [eh332] at g332
        refine px_gx (fun _ K => px_cv (38 + n) (as := [.int z329, .int z330, .int 1]) (rest := []) rfl rfl hm328 rfl rfl rfl rfl (Nat.le_of_ble_eq_true rfl) g332 K) ?_
        show px_Gx _ _ (144, [(3, .int z330), (2, .int z329), (5, .int 1), (4, .int 0), (1, .int fi), (0, .ref (38 + n))], [.int 1], hp328) _
        refine px_gx (fun _ K => px_a 11 (f' := (183, [(4, .int 1), (3, .int z330), (2, .int z329), (5, .int 1), (1, .int fi), (0, .ref (38 + n))], [.ref (38 + n), .int fi, .int z329], hp328)) rfl K) ?_
        refine px_gx (fun _ K => px_gf (38 + n) 51 4 1 (.int w) rfl rfl hm328 rfl K) ?_
        show px_Gx _ _ (186, [(4, .int 1), (3, .int z330), (2, .int z329), (5, .int 1), (1, .int fi), (0, .ref (38 + n))], [.int w, .int fi, .int z329], hp328) _
        refine px_gx (fun _ K => px_irem rfl (pa_ne0 (by omega)) K) ?_
        show px_Gx _ _ (187, [(4, .int 1), (3, .int z330), (2, .int z329), (5, .int 1), (1, .int fi), (0, .ref (38 + n))], [.int (fi - fi / w * w), .int z329], hp328) _
        rw [← ex0]
        by_cases h333 : ¬ z329 = x0
        · have h333' := h333
          have h333'' : Int32.toInt z329 ≠ Int32.toInt x0 := fun z => h333 (Int32.toInt_inj.mp z)
          refine px_gx (fun _ K => px_b2 true 205 rfl rfl (decide_eq_true h333) K) ?_
          show px_Gx _ _ (205, [(4, .int 1), (3, .int z330), (2, .int z329), (5, .int 1), (1, .int fi), (0, .ref (38 + n))], [], hp328) _
          refine px_gx (fun _ K => px_a 4 (f' := (59, [(5, .int 1), (4, .int 1), (3, .int z330), (2, .int z329), (1, .int fi), (0, .ref (38 + n))], [], hp328)) rfl K) ?_
          have hn : m_st (m_T n hp0 w.toInt h.toInt) (x0.toInt, y0.toInt, 0) (i + 1) = (z329.toInt, z330.toInt, 1) := by
            show m_nx _ (m_st (m_T n hp0 w.toInt h.toInt) (x0.toInt, y0.toInt, 0) i) = _
            rw [hst]
            exact m_nx_r (show z329.toInt = x.toInt + m_dx 0 by show _ = _ + (1 : Int); omega) (show z330.toInt = y.toInt + m_dy 0 by show _ = _ + (0 : Int); omega) hS331
          have hne : i + 1 ≠ K0 := by
            intro e
            rw [e, hK] at hn
            have n1 : x0.toInt = z329.toInt := congrArg (fun q : m_P => q.1) hn
            have n2 : y0.toInt = z330.toInt := congrArg (fun q : m_P => q.2.1) hn
            have n3 : (0 : Nat) = 1 := congrArg (fun q : m_P => q.2.2) hn
            omega
          exact ih (i + 1) 1 z330 z329 hp328 z327 hm328 H328 F328 L328 (by omega) (by omega) ⟨by omega, by decide⟩ hn
        · have h333' := h333
          have h333'' : Int32.toInt z329 = Int32.toInt x0 := congrArg Int32.toInt (Decidable.not_not.mp h333)
          refine px_gx (fun _ K => px_b2 false 205 rfl rfl (decide_eq_false h333) K) ?_
          show px_Gx _ _ (190, [(4, .int 1), (3, .int z330), (2, .int z329), (5, .int 1), (1, .int fi), (0, .ref (38 + n))], [], hp328) _
          refine px_gx (fun _ K => px_a 3 (f' := (193, [(4, .int 1), (3, .int z330), (2, .int z329), (5, .int 1), (1, .int fi), (0, .ref (38 + n))], [.ref (38 + n), .int fi, .int z330], hp328)) rfl K) ?_
          refine px_gx (fun _ K => px_gf (38 + n) 51 4 1 (.int w) rfl rfl hm328 rfl K) ?_
          show px_Gx _ _ (196, [(4, .int 1), (3, .int z330), (2, .int z329), (5, .int 1), (1, .int fi), (0, .ref (38 + n))], [.int w, .int fi, .int z330], hp328) _
          refine px_gx (fun _ K => px_idiv rfl (pa_ne0 (by omega)) K) ?_
          show px_Gx _ _ (197, [(4, .int 1), (3, .int z330), (2, .int z329), (5, .int 1), (1, .int fi), (0, .ref (38 + n))], [.int (fi / w), .int z330], hp328) _
          rw [← ey0]
          by_cases h334 : ¬ z330 = y0
          · have h334' := h334
            have h334'' : Int32.toInt z330 ≠ Int32.toInt y0 := fun z => h334 (Int32.toInt_inj.mp z)
            refine px_gx (fun _ K => px_b2 true 205 rfl rfl (decide_eq_true h334) K) ?_
            show px_Gx _ _ (205, [(4, .int 1), (3, .int z330), (2, .int z329), (5, .int 1), (1, .int fi), (0, .ref (38 + n))], [], hp328) _
            refine px_gx (fun _ K => px_a 4 (f' := (59, [(5, .int 1), (4, .int 1), (3, .int z330), (2, .int z329), (1, .int fi), (0, .ref (38 + n))], [], hp328)) rfl K) ?_
            have hn : m_st (m_T n hp0 w.toInt h.toInt) (x0.toInt, y0.toInt, 0) (i + 1) = (z329.toInt, z330.toInt, 1) := by
              show m_nx _ (m_st (m_T n hp0 w.toInt h.toInt) (x0.toInt, y0.toInt, 0) i) = _
              rw [hst]
              exact m_nx_r (show z329.toInt = x.toInt + m_dx 0 by show _ = _ + (1 : Int); omega) (show z330.toInt = y.toInt + m_dy 0 by show _ = _ + (0 : Int); omega) hS331
            have hne : i + 1 ≠ K0 := by
              intro e
              rw [e, hK] at hn
              have n1 : x0.toInt = z329.toInt := congrArg (fun q : m_P => q.1) hn
              have n2 : y0.toInt = z330.toInt := congrArg (fun q : m_P => q.2.1) hn
              have n3 : (0 : Nat) = 1 := congrArg (fun q : m_P => q.2.2) hn
              omega
            exact ih (i + 1) 1 z330 z329 hp328 z327 hm328 H328 F328 L328 (by omega) (by omega) ⟨by omega, by decide⟩ hn
          · have h334' := h334
            have h334'' : Int32.toInt z330 = Int32.toInt y0 := congrArg Int32.toInt (Decidable.not_not.mp h334)
            refine px_gx (fun _ K => px_b2 false 205 rfl rfl (decide_eq_false h334) K) ?_
            show px_Gx _ _ (200, [(4, .int 1), (3, .int z330), (2, .int z329), (5, .int 1), (1, .int fi), (0, .ref (38 + n))], [], hp328) _
            refine px_gx (fun _ K => px_a 6 (f' := (59, [(5, .int 1), (4, .int 1), (3, .int z330), (2, .int z329), (1, .int fi), (0, .ref (38 + n))], [], hp328)) rfl K) ?_
            have hn : m_st (m_T n hp0 w.toInt h.toInt) (x0.toInt, y0.toInt, 0) (i + 1) = (z329.toInt, z330.toInt, 1) := by
              show m_nx _ (m_st (m_T n hp0 w.toInt h.toInt) (x0.toInt, y0.toInt, 0) i) = _
              rw [hst]
              exact m_nx_r (show z329.toInt = x.toInt + m_dx 0 by show _ = _ + (1 : Int); omega) (show z330.toInt = y.toInt + m_dy 0 by show _ = _ + (0 : Int); omega) hS331
            have hne : i + 1 ≠ K0 := by
              intro e
              rw [e, hK] at hn
              have n1 : x0.toInt = z329.toInt := congrArg (fun q : m_P => q.1) hn
              have n2 : y0.toInt = z330.toInt := congrArg (fun q : m_P => q.2.1) hn
              have n3 : (0 : Nat) = 1 := congrArg (fun q : m_P => q.2.2) hn
              omega
            exact ih (i + 1) 1 z330 z329 hp328 z327 hm328 H328 F328 L328 (by omega) (by omega) ⟨by omega, by decide⟩ hn
      · obtain ⟨o335, hq335, g335, rfl, eh335⟩ := m_side_1 (d := d) hm328 H328 (b := false) (x := z329) (y := z330) (by omega) (by omega) (by omega) (by omega) (by rw [m_T_f H0 F328 (by decide)]; exact hS331)
        rw [eh335] at g335
        refine px_gx (fun _ K => px_cv (38 + n) (as := [.int z329, .int z330, .int 1]) (rest := []) rfl rfl hm328 rfl rfl rfl rfl (Nat.le_of_ble_eq_true rfl) g335 K) ?_
        show px_Gx _ _ (144, [(3, .int z330), (2, .int z329), (5, .int 1), (4, .int 0), (1, .int fi), (0, .ref (38 + n))], [.int 0], hp328) _
        refine px_gx (fun _ K => px_a 5 (f' := (161, [(3, .int z330), (2, .int z329), (5, .int 1), (4, .int 0), (1, .int fi), (0, .ref (38 + n))], [.int 0, .int z330, .int z329, .ref (38 + n)], hp328)) rfl K) ?_
        rcases Bool.eq_false_or_eq_true (m_sd (m_T n hp0 w.toInt h.toInt) z329.toInt z330.toInt 0) with hS336 | hS336
        · obtain ⟨o337, hq337, g337, rfl, eh337⟩ := m_side_0 (d := d) hm328 H328 (b := true) (x := z329) (y := z330) (by omega) (by omega) (by omega) (by omega) (by rw [m_T_f H0 F328 (by decide)]; exact hS336)
          rw [eh337] at g337
          refine px_gx (fun _ K => px_cv (38 + n) (as := [.int z329, .int z330, .int 0]) (rest := []) rfl rfl hm328 rfl rfl rfl rfl (Nat.le_of_ble_eq_true rfl) g337 K) ?_
          show px_Gx _ _ (164, [(3, .int z330), (2, .int z329), (5, .int 1), (4, .int 0), (1, .int fi), (0, .ref (38 + n))], [.int 1], hp328) _
          refine px_gx (fun _ K => px_a 7 (f' := (183, [(4, .int 0), (3, .int z330), (2, .int z329), (5, .int 1), (1, .int fi), (0, .ref (38 + n))], [.ref (38 + n), .int fi, .int z329], hp328)) rfl K) ?_
          refine px_gx (fun _ K => px_gf (38 + n) 51 4 1 (.int w) rfl rfl hm328 rfl K) ?_
          show px_Gx _ _ (186, [(4, .int 0), (3, .int z330), (2, .int z329), (5, .int 1), (1, .int fi), (0, .ref (38 + n))], [.int w, .int fi, .int z329], hp328) _
          refine px_gx (fun _ K => px_irem rfl (pa_ne0 (by omega)) K) ?_
          show px_Gx _ _ (187, [(4, .int 0), (3, .int z330), (2, .int z329), (5, .int 1), (1, .int fi), (0, .ref (38 + n))], [.int (fi - fi / w * w), .int z329], hp328) _
          rw [← ex0]
          by_cases h338 : ¬ z329 = x0
          · have h338' := h338
            have h338'' : Int32.toInt z329 ≠ Int32.toInt x0 := fun z => h338 (Int32.toInt_inj.mp z)
            refine px_gx (fun _ K => px_b2 true 205 rfl rfl (decide_eq_true h338) K) ?_
            show px_Gx _ _ (205, [(4, .int 0), (3, .int z330), (2, .int z329), (5, .int 1), (1, .int fi), (0, .ref (38 + n))], [], hp328) _
            refine px_gx (fun _ K => px_a 4 (f' := (59, [(5, .int 1), (4, .int 0), (3, .int z330), (2, .int z329), (1, .int fi), (0, .ref (38 + n))], [], hp328)) rfl K) ?_
            have hn : m_st (m_T n hp0 w.toInt h.toInt) (x0.toInt, y0.toInt, 0) (i + 1) = (z329.toInt, z330.toInt, 0) := by
              show m_nx _ (m_st (m_T n hp0 w.toInt h.toInt) (x0.toInt, y0.toInt, 0) i) = _
              rw [hst]
              exact m_nx_s (show z329.toInt = x.toInt + m_dx 0 by show _ = _ + (1 : Int); omega) (show z330.toInt = y.toInt + m_dy 0 by show _ = _ + (0 : Int); omega) hS331 hS336
            have hne : i + 1 ≠ K0 := by
              intro e
              rw [e, hK] at hn
              have n1 : x0.toInt = z329.toInt := congrArg (fun q : m_P => q.1) hn
              have n2 : y0.toInt = z330.toInt := congrArg (fun q : m_P => q.2.1) hn
              have n3 : (0 : Nat) = 0 := congrArg (fun q : m_P => q.2.2) hn
              omega
            exact ih (i + 1) 0 z330 z329 hp328 z327 hm328 H328 F328 L328 (by omega) (by omega) ⟨by omega, by decide⟩ hn
          · have h338' := h338
            have h338'' : Int32.toInt z329 = Int32.toInt x0 := congrArg Int32.toInt (Decidable.not_not.mp h338)
            refine px_gx (fun _ K => px_b2 false 205 rfl rfl (decide_eq_false h338) K) ?_
            show px_Gx _ _ (190, [(4, .int 0), (3, .int z330), (2, .int z329), (5, .int 1), (1, .int fi), (0, .ref (38 + n))], [], hp328) _
            refine px_gx (fun _ K => px_a 3 (f' := (193, [(4, .int 0), (3, .int z330), (2, .int z329), (5, .int 1), (1, .int fi), (0, .ref (38 + n))], [.ref (38 + n), .int fi, .int z330], hp328)) rfl K) ?_
            refine px_gx (fun _ K => px_gf (38 + n) 51 4 1 (.int w) rfl rfl hm328 rfl K) ?_
            show px_Gx _ _ (196, [(4, .int 0), (3, .int z330), (2, .int z329), (5, .int 1), (1, .int fi), (0, .ref (38 + n))], [.int w, .int fi, .int z330], hp328) _
            refine px_gx (fun _ K => px_idiv rfl (pa_ne0 (by omega)) K) ?_
            show px_Gx _ _ (197, [(4, .int 0), (3, .int z330), (2, .int z329), (5, .int 1), (1, .int fi), (0, .ref (38 + n))], [.int (fi / w), .int z330], hp328) _
            rw [← ey0]
            by_cases h339 : ¬ z330 = y0
            · have h339' := h339
              have h339'' : Int32.toInt z330 ≠ Int32.toInt y0 := fun z => h339 (Int32.toInt_inj.mp z)
              refine px_gx (fun _ K => px_b2 true 205 rfl rfl (decide_eq_true h339) K) ?_
              show px_Gx _ _ (205, [(4, .int 0), (3, .int z330), (2, .int z329), (5, .int 1), (1, .int fi), (0, .ref (38 + n))], [], hp328) _
              refine px_gx (fun _ K => px_a 4 (f' := (59, [(5, .int 1), (4, .int 0), (3, .int z330), (2, .int z329), (1, .int fi), (0, .ref (38 + n))], [], hp328)) rfl K) ?_
              have hn : m_st (m_T n hp0 w.toInt h.toInt) (x0.toInt, y0.toInt, 0) (i + 1) = (z329.toInt, z330.toInt, 0) := by
                show m_nx _ (m_st (m_T n hp0 w.toInt h.toInt) (x0.toInt, y0.toInt, 0) i) = _
                rw [hst]
                exact m_nx_s (show z329.toInt = x.toInt + m_dx 0 by show _ = _ + (1 : Int); omega) (show z330.toInt = y.toInt + m_dy 0 by show _ = _ + (0 : Int); omega) hS331 hS336
              have hne : i + 1 ≠ K0 := by
                intro e
                rw [e, hK] at hn
                have n1 : x0.toInt = z329.toInt := congrArg (fun q : m_P => q.1) hn
                have n2 : y0.toInt = z330.toInt := congrArg (fun q : m_P => q.2.1) hn
                have n3 : (0 : Nat) = 0 := congrArg (fun q : m_P => q.2.2) hn
                omega
              exact ih (i + 1) 0 z330 z329 hp328 z327 hm328 H328 F328 L328 (by omega) (by omega) ⟨by omega, by decide⟩ hn
            · have h339' := h339
              have h339'' : Int32.toInt z330 = Int32.toInt y0 := congrArg Int32.toInt (Decidable.not_not.mp h339)
              refine px_gx (fun _ K => px_b2 false 205 rfl rfl (decide_eq_false h339) K) ?_
              show px_Gx _ _ (200, [(4, .int 0), (3, .int z330), (2, .int z329), (5, .int 1), (1, .int fi), (0, .ref (38 + n))], [], hp328) _
              refine px_gx (fun _ K => px_a 5 (f' := (59, [(5, .int 0), (4, .int 0), (3, .int z330), (2, .int z329), (1, .int fi), (0, .ref (38 + n))], [], hp328)) rfl K) ?_
              refine px_gx (fun _ K => px_a 2 (f' := (215, [(5, .int 0), (4, .int 0), (3, .int z330), (2, .int z329), (1, .int fi), (0, .ref (38 + n))], [], hp328)) rfl K) ?_
              exact ⟨_, _, px_e rfl rfl, H328, F328, Or.inl ⟨_, rfl, trivial, L328⟩⟩
        · obtain ⟨o340, hq340, g340, rfl, eh340⟩ := m_side_0 (d := d) hm328 H328 (b := false) (x := z329) (y := z330) (by omega) (by omega) (by omega) (by omega) (by rw [m_T_f H0 F328 (by decide)]; exact hS336)
          rw [eh340] at g340
          refine px_gx (fun _ K => px_cv (38 + n) (as := [.int z329, .int z330, .int 0]) (rest := []) rfl rfl hm328 rfl rfl rfl rfl (Nat.le_of_ble_eq_true rfl) g340 K) ?_
          show px_Gx _ _ (164, [(3, .int z330), (2, .int z329), (5, .int 1), (4, .int 0), (1, .int fi), (0, .ref (38 + n))], [.int 0], hp328) _
          refine px_gx (fun _ K => px_a 10 (f' := (183, [(4, .int 3), (3, .int z330), (2, .int z329), (5, .int 1), (1, .int fi), (0, .ref (38 + n))], [.ref (38 + n), .int fi, .int z329], hp328)) rfl K) ?_
          refine px_gx (fun _ K => px_gf (38 + n) 51 4 1 (.int w) rfl rfl hm328 rfl K) ?_
          show px_Gx _ _ (186, [(4, .int 3), (3, .int z330), (2, .int z329), (5, .int 1), (1, .int fi), (0, .ref (38 + n))], [.int w, .int fi, .int z329], hp328) _
          refine px_gx (fun _ K => px_irem rfl (pa_ne0 (by omega)) K) ?_
          show px_Gx _ _ (187, [(4, .int 3), (3, .int z330), (2, .int z329), (5, .int 1), (1, .int fi), (0, .ref (38 + n))], [.int (fi - fi / w * w), .int z329], hp328) _
          rw [← ex0]
          by_cases h341 : ¬ z329 = x0
          · have h341' := h341
            have h341'' : Int32.toInt z329 ≠ Int32.toInt x0 := fun z => h341 (Int32.toInt_inj.mp z)
            refine px_gx (fun _ K => px_b2 true 205 rfl rfl (decide_eq_true h341) K) ?_
            show px_Gx _ _ (205, [(4, .int 3), (3, .int z330), (2, .int z329), (5, .int 1), (1, .int fi), (0, .ref (38 + n))], [], hp328) _
            refine px_gx (fun _ K => px_a 4 (f' := (59, [(5, .int 1), (4, .int 3), (3, .int z330), (2, .int z329), (1, .int fi), (0, .ref (38 + n))], [], hp328)) rfl K) ?_
            have hn : m_st (m_T n hp0 w.toInt h.toInt) (x0.toInt, y0.toInt, 0) (i + 1) = (z329.toInt, z330.toInt, 3) := by
              show m_nx _ (m_st (m_T n hp0 w.toInt h.toInt) (x0.toInt, y0.toInt, 0) i) = _
              rw [hst]
              exact m_nx_l (show z329.toInt = x.toInt + m_dx 0 by show _ = _ + (1 : Int); omega) (show z330.toInt = y.toInt + m_dy 0 by show _ = _ + (0 : Int); omega) hS331 hS336
            have hne : i + 1 ≠ K0 := by
              intro e
              rw [e, hK] at hn
              have n1 : x0.toInt = z329.toInt := congrArg (fun q : m_P => q.1) hn
              have n2 : y0.toInt = z330.toInt := congrArg (fun q : m_P => q.2.1) hn
              have n3 : (0 : Nat) = 3 := congrArg (fun q : m_P => q.2.2) hn
              omega
            exact ih (i + 1) 3 z330 z329 hp328 z327 hm328 H328 F328 L328 (by omega) (by omega) ⟨by omega, by decide⟩ hn
          · have h341' := h341
            have h341'' : Int32.toInt z329 = Int32.toInt x0 := congrArg Int32.toInt (Decidable.not_not.mp h341)
            refine px_gx (fun _ K => px_b2 false 205 rfl rfl (decide_eq_false h341) K) ?_
            show px_Gx _ _ (190, [(4, .int 3), (3, .int z330), (2, .int z329), (5, .int 1), (1, .int fi), (0, .ref (38 + n))], [], hp328) _
            refine px_gx (fun _ K => px_a 3 (f' := (193, [(4, .int 3), (3, .int z330), (2, .int z329), (5, .int 1), (1, .int fi), (0, .ref (38 + n))], [.ref (38 + n), .int fi, .int z330], hp328)) rfl K) ?_
            refine px_gx (fun _ K => px_gf (38 + n) 51 4 1 (.int w) rfl rfl hm328 rfl K) ?_
            show px_Gx _ _ (196, [(4, .int 3), (3, .int z330), (2, .int z329), (5, .int 1), (1, .int fi), (0, .ref (38 + n))], [.int w, .int fi, .int z330], hp328) _
            refine px_gx (fun _ K => px_idiv rfl (pa_ne0 (by omega)) K) ?_
            show px_Gx _ _ (197, [(4, .int 3), (3, .int z330), (2, .int z329), (5, .int 1), (1, .int fi), (0, .ref (38 + n))], [.int (fi / w), .int z330], hp328) _
            rw [← ey0]
            by_cases h342 : ¬ z330 = y0
            · have h342' := h342
              have h342'' : Int32.toInt z330 ≠ Int32.toInt y0 := fun z => h342 (Int32.toInt_inj.mp z)
              refine px_gx (fun _ K => px_b2 true 205 rfl rfl (decide_eq_true h342) K) ?_
              show px_Gx _ _ (205, [(4, .int 3), (3, .int z330), (2, .int z329), (5, .int 1), (1, .int fi), (0, .ref (38 + n))], [], hp328) _
              refine px_gx (fun _ K => px_a 4 (f' := (59, [(5, .int 1), (4, .int 3), (3, .int z330), (2, .int z329), (1, .int fi), (0, .ref (38 + n))], [], hp328)) rfl K) ?_
              have hn : m_st (m_T n hp0 w.toInt h.toInt) (x0.toInt, y0.toInt, 0) (i + 1) = (z329.toInt, z330.toInt, 3) := by
                show m_nx _ (m_st (m_T n hp0 w.toInt h.toInt) (x0.toInt, y0.toInt, 0) i) = _
                rw [hst]
                exact m_nx_l (show z329.toInt = x.toInt + m_dx 0 by show _ = _ + (1 : Int); omega) (show z330.toInt = y.toInt + m_dy 0 by show _ = _ + (0 : Int); omega) hS331 hS336
              have hne : i + 1 ≠ K0 := by
                intro e
                rw [e, hK] at hn
                have n1 : x0.toInt = z329.toInt := congrArg (fun q : m_P => q.1) hn
                have n2 : y0.toInt = z330.toInt := congrArg (fun q : m_P => q.2.1) hn
                have n3 : (0 : Nat) = 3 := congrArg (fun q : m_P => q.2.2) hn
                omega
              exact ih (i + 1) 3 z330 z329 hp328 z327 hm328 H328 F328 L328 (by omega) (by omega) ⟨by omega, by decide⟩ hn
            · have h342' := h342
              have h342'' : Int32.toInt z330 = Int32.toInt y0 := congrArg Int32.toInt (Decidable.not_not.mp h342)
              refine px_gx (fun _ K => px_b2 false 205 rfl rfl (decide_eq_false h342) K) ?_
              show px_Gx _ _ (200, [(4, .int 3), (3, .int z330), (2, .int z329), (5, .int 1), (1, .int fi), (0, .ref (38 + n))], [], hp328) _
              refine px_gx (fun _ K => px_a 6 (f' := (59, [(5, .int 1), (4, .int 3), (3, .int z330), (2, .int z329), (1, .int fi), (0, .ref (38 + n))], [], hp328)) rfl K) ?_
              have hn : m_st (m_T n hp0 w.toInt h.toInt) (x0.toInt, y0.toInt, 0) (i + 1) = (z329.toInt, z330.toInt, 3) := by
                show m_nx _ (m_st (m_T n hp0 w.toInt h.toInt) (x0.toInt, y0.toInt, 0) i) = _
                rw [hst]
                exact m_nx_l (show z329.toInt = x.toInt + m_dx 0 by show _ = _ + (1 : Int); omega) (show z330.toInt = y.toInt + m_dy 0 by show _ = _ + (0 : Int); omega) hS331 hS336
              have hne : i + 1 ≠ K0 := by
                intro e
                rw [e, hK] at hn
                have n1 : x0.toInt = z329.toInt := congrArg (fun q : m_P => q.1) hn
                have n2 : y0.toInt = z330.toInt := congrArg (fun q : m_P => q.2.1) hn
                have n3 : (0 : Nat) = 3 := congrArg (fun q : m_P => q.2.2) hn
                omega
              exact ih (i + 1) 3 z330 z329 hp328 z327 hm328 H328 F328 L328 (by omega) (by omega) ⟨by omega, by decide⟩ hn
    · change m_st (m_T n hp0 w.toInt h.toInt) (x0.toInt, y0.toInt, 0) i = (x.toInt, y.toInt, 1) at hst
      refine px_gx (fun _ K => px_a 3 (f' := (65, [(5, .int 1), (4, .int 1), (3, .int y), (2, .int x), (1, .int fi), (0, .ref (38 + n))], [.ref (38 + n)], hp)) rfl K) ?_
      refine px_gx (fun _ K => px_gf (38 + n) 39 4 16 (.ref (48 + n)) rfl rfl hm rfl K) ?_
      show px_Gx _ _ (68, [(5, .int 1), (4, .int 1), (3, .int y), (2, .int x), (1, .int fi), (0, .ref (38 + n))], [.ref (48 + n)], hp) _
      refine px_gx (fun _ K => px_a 1 (f' := (69, [(5, .int 1), (4, .int 1), (3, .int y), (2, .int x), (1, .int fi), (0, .ref (38 + n))], [.ref (38 + n), .ref (48 + n)], hp)) rfl K) ?_
      refine px_gx (fun _ K => px_gf (38 + n) 122 4 15 (.int le) rfl rfl hm rfl K) ?_
      show px_Gx _ _ (72, [(5, .int 1), (4, .int 1), (3, .int y), (2, .int x), (1, .int fi), (0, .ref (38 + n))], [.int le, .ref (48 + n)], hp) _
      refine px_gx (fun _ K => px_a 1 (f' := (74, [(5, .int 1), (4, .int 1), (3, .int y), (2, .int x), (1, .int fi), (0, .ref (38 + n))], [.int 1, .int le, .ref (48 + n)], hp)) rfl K) ?_
      obtain ⟨vs344, hv344, hl344, hg344⟩ := pa_ara (a := 48 + n) (i := 16) (lo := 0) (hi := 3) H (by omega) (by decide) (by decide) rfl
      have hi343 : le.toNatClampNeg < vs344.length := by show (Int32.toInt le).toNat < _; omega
      refine px_gx (fun _ K => px_ias (48 + n) rfl hv344 (by omega) (i32_nn (by omega)) hi343 K) ?_
      show px_Gx _ _ (75, [(5, .int 1), (4, .int 1), (3, .int y), (2, .int x), (1, .int fi), (0, .ref (38 + n))], [], hp.set (48 + n) (10, vs344.set le.toNatClampNeg (.int 1))) _
      have hm343 : (hp.set (48 + n) (10, vs344.set le.toNatClampNeg (.int 1)))[38 + n]? = some (4, (m_O n th w h pn pl fo le ru)) := px_ne hm (by omega)
      have H343 : pa_Hi n (hp.set (48 + n) (10, vs344.set le.toNatClampNeg (.int 1))) := pa_aS (i := 16) H (by omega) (by decide) (by decide) hv344 rfl (pa_in (by omega) (by omega))
      have F343 : pa_Fr n [(24, 15), (34, 0)] hp0 (hp.set (48 + n) (10, vs344.set le.toNatClampNeg (.int 1))) := F.trans (pa_aF (i := 16) (by omega) (by decide) (by decide) hv344 (by decide) (by decide))
      have L343 : (hp.set (48 + n) (10, vs344.set le.toNatClampNeg (.int 1))).length = hp0.length := List.length_set.trans L
      generalize hp.set (48 + n) (10, vs344.set le.toNatClampNeg (.int 1)) = hp343 at hm343 H343 F343 L343 ⊢
      refine px_gx (fun _ K => px_a 2 (f' := (77, [(5, .int 1), (4, .int 1), (3, .int y), (2, .int x), (1, .int fi), (0, .ref (38 + n))], [.ref (38 + n), .ref (38 + n)], hp343)) rfl K) ?_
      refine px_gx (fun _ K => px_gf (38 + n) 122 4 15 (.int le) rfl rfl hm343 rfl K) ?_
      show px_Gx _ _ (80, [(5, .int 1), (4, .int 1), (3, .int y), (2, .int x), (1, .int fi), (0, .ref (38 + n))], [.int le, .ref (38 + n)], hp343) _
      refine px_gx (fun _ K => px_a 2 (f' := (82, [(5, .int 1), (4, .int 1), (3, .int y), (2, .int x), (1, .int fi), (0, .ref (38 + n))], [.int (le + 1), .ref (38 + n)], hp343)) rfl K) ?_
      obtain ⟨z345, ez345, fz345⟩ : ∃ qz : Int32, qz = le + 1 ∧ qz.toInt = Int32.toInt le + Int32.toInt 1 := ⟨_, rfl, i32_add (by omega) (by omega)⟩
      rw [← ez345]
      refine px_gx (fun _ K => px_pf (38 + n) 122 4 15 rfl rfl hm343 (by omega) (Nat.le_of_ble_eq_true rfl) (rfl) rfl (by decide) K) ?_
      show px_Gx _ _ (85, [(5, .int 1), (4, .int 1), (3, .int y), (2, .int x), (1, .int fi), (0, .ref (38 + n))], [], hp343.set (38 + n) (4, (m_O n th w h pn pl fo z345 ru))) _
      have hm346 : (hp343.set (38 + n) (4, (m_O n th w h pn pl fo z345 ru)))[38 + n]? = some (4, (m_O n th w h pn pl fo z345 ru)) := px_self hm343
      have H346 : pa_Hi n (hp343.set (38 + n) (4, (m_O n th w h pn pl fo z345 ru))) := pa_ms (k := 15) (v := .int z345) H343 hm343 rfl (pa_in (by omega) (by omega))
      have F346 : pa_Fr n [(24, 15), (34, 0)] hp0 (hp343.set (38 + n) (4, (m_O n th w h pn pl fo z345 ru))) := F343.trans (pa_mf (k := 15) (v := .int z345) hm343 (by decide) (by decide))
      have L346 : (hp343.set (38 + n) (4, (m_O n th w h pn pl fo z345 ru))).length = hp0.length := List.length_set.trans L343
      generalize hp343.set (38 + n) (4, (m_O n th w h pn pl fo z345 ru)) = hp346 at hm346 H346 F346 L346 ⊢
      refine px_gx (fun _ K => px_a 8 (f' := (107, [(5, .int 1), (4, .int 1), (3, .int y), (2, .int x), (1, .int fi), (0, .ref (38 + n))], [.int (x + 0)], hp346)) rfl K) ?_
      obtain ⟨z347, ez347, fz347⟩ : ∃ qz : Int32, qz = x + 0 ∧ qz.toInt = Int32.toInt x + Int32.toInt 0 := ⟨_, rfl, i32_add (by omega) (by omega)⟩
      rw [← ez347]
      refine px_gx (fun _ K => px_a 8 (f' := (131, [(2, .int z347), (5, .int 1), (4, .int 1), (3, .int y), (1, .int fi), (0, .ref (38 + n))], [.int (y + 1)], hp346)) rfl K) ?_
      obtain ⟨z348, ez348, fz348⟩ : ∃ qz : Int32, qz = y + 1 ∧ qz.toInt = Int32.toInt y + Int32.toInt 1 := ⟨_, rfl, i32_add (by omega) (by omega)⟩
      rw [← ez348]
      refine px_gx (fun _ K => px_a 9 (f' := (141, [(3, .int z348), (2, .int z347), (5, .int 1), (4, .int 1), (1, .int fi), (0, .ref (38 + n))], [.int 2, .int z348, .int z347, .ref (38 + n)], hp346)) rfl K) ?_
      rcases Bool.eq_false_or_eq_true (m_sd (m_T n hp0 w.toInt h.toInt) z347.toInt z348.toInt 2) with hS349 | hS349
      · obtain ⟨o350, hq350, g350, rfl, eh350⟩ := m_side_2 (d := d) hm346 H346 (b := true) (x := z347) (y := z348) (by omega) (by omega) (by omega) (by omega) (by rw [m_T_f H0 F346 (by decide)]; exact hS349)
        rw [eh350] at g350
        refine px_gx (fun _ K => px_cv (38 + n) (as := [.int z347, .int z348, .int 2]) (rest := []) rfl rfl hm346 rfl rfl rfl rfl (Nat.le_of_ble_eq_true rfl) g350 K) ?_
        show px_Gx _ _ (144, [(3, .int z348), (2, .int z347), (5, .int 1), (4, .int 1), (1, .int fi), (0, .ref (38 + n))], [.int 1], hp346) _
        refine px_gx (fun _ K => px_a 11 (f' := (183, [(4, .int 2), (3, .int z348), (2, .int z347), (5, .int 1), (1, .int fi), (0, .ref (38 + n))], [.ref (38 + n), .int fi, .int z347], hp346)) rfl K) ?_
        refine px_gx (fun _ K => px_gf (38 + n) 51 4 1 (.int w) rfl rfl hm346 rfl K) ?_
        show px_Gx _ _ (186, [(4, .int 2), (3, .int z348), (2, .int z347), (5, .int 1), (1, .int fi), (0, .ref (38 + n))], [.int w, .int fi, .int z347], hp346) _
        refine px_gx (fun _ K => px_irem rfl (pa_ne0 (by omega)) K) ?_
        show px_Gx _ _ (187, [(4, .int 2), (3, .int z348), (2, .int z347), (5, .int 1), (1, .int fi), (0, .ref (38 + n))], [.int (fi - fi / w * w), .int z347], hp346) _
        rw [← ex0]
        by_cases h351 : ¬ z347 = x0
        · have h351' := h351
          have h351'' : Int32.toInt z347 ≠ Int32.toInt x0 := fun z => h351 (Int32.toInt_inj.mp z)
          refine px_gx (fun _ K => px_b2 true 205 rfl rfl (decide_eq_true h351) K) ?_
          show px_Gx _ _ (205, [(4, .int 2), (3, .int z348), (2, .int z347), (5, .int 1), (1, .int fi), (0, .ref (38 + n))], [], hp346) _
          refine px_gx (fun _ K => px_a 4 (f' := (59, [(5, .int 1), (4, .int 2), (3, .int z348), (2, .int z347), (1, .int fi), (0, .ref (38 + n))], [], hp346)) rfl K) ?_
          have hn : m_st (m_T n hp0 w.toInt h.toInt) (x0.toInt, y0.toInt, 0) (i + 1) = (z347.toInt, z348.toInt, 2) := by
            show m_nx _ (m_st (m_T n hp0 w.toInt h.toInt) (x0.toInt, y0.toInt, 0) i) = _
            rw [hst]
            exact m_nx_r (show z347.toInt = x.toInt + m_dx 1 by show _ = _ + (0 : Int); omega) (show z348.toInt = y.toInt + m_dy 1 by show _ = _ + (1 : Int); omega) hS349
          have hne : i + 1 ≠ K0 := by
            intro e
            rw [e, hK] at hn
            have n1 : x0.toInt = z347.toInt := congrArg (fun q : m_P => q.1) hn
            have n2 : y0.toInt = z348.toInt := congrArg (fun q : m_P => q.2.1) hn
            have n3 : (0 : Nat) = 2 := congrArg (fun q : m_P => q.2.2) hn
            omega
          exact ih (i + 1) 2 z348 z347 hp346 z345 hm346 H346 F346 L346 (by omega) (by omega) ⟨by omega, by decide⟩ hn
        · have h351' := h351
          have h351'' : Int32.toInt z347 = Int32.toInt x0 := congrArg Int32.toInt (Decidable.not_not.mp h351)
          refine px_gx (fun _ K => px_b2 false 205 rfl rfl (decide_eq_false h351) K) ?_
          show px_Gx _ _ (190, [(4, .int 2), (3, .int z348), (2, .int z347), (5, .int 1), (1, .int fi), (0, .ref (38 + n))], [], hp346) _
          refine px_gx (fun _ K => px_a 3 (f' := (193, [(4, .int 2), (3, .int z348), (2, .int z347), (5, .int 1), (1, .int fi), (0, .ref (38 + n))], [.ref (38 + n), .int fi, .int z348], hp346)) rfl K) ?_
          refine px_gx (fun _ K => px_gf (38 + n) 51 4 1 (.int w) rfl rfl hm346 rfl K) ?_
          show px_Gx _ _ (196, [(4, .int 2), (3, .int z348), (2, .int z347), (5, .int 1), (1, .int fi), (0, .ref (38 + n))], [.int w, .int fi, .int z348], hp346) _
          refine px_gx (fun _ K => px_idiv rfl (pa_ne0 (by omega)) K) ?_
          show px_Gx _ _ (197, [(4, .int 2), (3, .int z348), (2, .int z347), (5, .int 1), (1, .int fi), (0, .ref (38 + n))], [.int (fi / w), .int z348], hp346) _
          rw [← ey0]
          by_cases h352 : ¬ z348 = y0
          · have h352' := h352
            have h352'' : Int32.toInt z348 ≠ Int32.toInt y0 := fun z => h352 (Int32.toInt_inj.mp z)
            refine px_gx (fun _ K => px_b2 true 205 rfl rfl (decide_eq_true h352) K) ?_
            show px_Gx _ _ (205, [(4, .int 2), (3, .int z348), (2, .int z347), (5, .int 1), (1, .int fi), (0, .ref (38 + n))], [], hp346) _
            refine px_gx (fun _ K => px_a 4 (f' := (59, [(5, .int 1), (4, .int 2), (3, .int z348), (2, .int z347), (1, .int fi), (0, .ref (38 + n))], [], hp346)) rfl K) ?_
            have hn : m_st (m_T n hp0 w.toInt h.toInt) (x0.toInt, y0.toInt, 0) (i + 1) = (z347.toInt, z348.toInt, 2) := by
              show m_nx _ (m_st (m_T n hp0 w.toInt h.toInt) (x0.toInt, y0.toInt, 0) i) = _
              rw [hst]
              exact m_nx_r (show z347.toInt = x.toInt + m_dx 1 by show _ = _ + (0 : Int); omega) (show z348.toInt = y.toInt + m_dy 1 by show _ = _ + (1 : Int); omega) hS349
            have hne : i + 1 ≠ K0 := by
              intro e
              rw [e, hK] at hn
              have n1 : x0.toInt = z347.toInt := congrArg (fun q : m_P => q.1) hn
              have n2 : y0.toInt = z348.toInt := congrArg (fun q : m_P => q.2.1) hn
              have n3 : (0 : Nat) = 2 := congrArg (fun q : m_P => q.2.2) hn
              omega
            exact ih (i + 1) 2 z348 z347 hp346 z345 hm346 H346 F346 L346 (by omega) (by omega) ⟨by omega, by decide⟩ hn
          · have h352' := h352
            have h352'' : Int32.toInt z348 = Int32.toInt y0 := congrArg Int32.toInt (Decidable.not_not.mp h352)
            refine px_gx (fun _ K => px_b2 false 205 rfl rfl (decide_eq_false h352) K) ?_
            show px_Gx _ _ (200, [(4, .int 2), (3, .int z348), (2, .int z347), (5, .int 1), (1, .int fi), (0, .ref (38 + n))], [], hp346) _
            refine px_gx (fun _ K => px_a 6 (f' := (59, [(5, .int 1), (4, .int 2), (3, .int z348), (2, .int z347), (1, .int fi), (0, .ref (38 + n))], [], hp346)) rfl K) ?_
            have hn : m_st (m_T n hp0 w.toInt h.toInt) (x0.toInt, y0.toInt, 0) (i + 1) = (z347.toInt, z348.toInt, 2) := by
              show m_nx _ (m_st (m_T n hp0 w.toInt h.toInt) (x0.toInt, y0.toInt, 0) i) = _
              rw [hst]
              exact m_nx_r (show z347.toInt = x.toInt + m_dx 1 by show _ = _ + (0 : Int); omega) (show z348.toInt = y.toInt + m_dy 1 by show _ = _ + (1 : Int); omega) hS349
            have hne : i + 1 ≠ K0 := by
              intro e
              rw [e, hK] at hn
              have n1 : x0.toInt = z347.toInt := congrArg (fun q : m_P => q.1) hn
              have n2 : y0.toInt = z348.toInt := congrArg (fun q : m_P => q.2.1) hn
              have n3 : (0 : Nat) = 2 := congrArg (fun q : m_P => q.2.2) hn
              omega
            exact ih (i + 1) 2 z348 z347 hp346 z345 hm346 H346 F346 L346 (by omega) (by omega) ⟨by omega, by decide⟩ hn
      · obtain ⟨o353, hq353, g353, rfl, eh353⟩ := m_side_2 (d := d) hm346 H346 (b := false) (x := z347) (y := z348) (by omega) (by omega) (by omega) (by omega) (by rw [m_T_f H0 F346 (by decide)]; exact hS349)
        rw [eh353] at g353
        refine px_gx (fun _ K => px_cv (38 + n) (as := [.int z347, .int z348, .int 2]) (rest := []) rfl rfl hm346 rfl rfl rfl rfl (Nat.le_of_ble_eq_true rfl) g353 K) ?_
        show px_Gx _ _ (144, [(3, .int z348), (2, .int z347), (5, .int 1), (4, .int 1), (1, .int fi), (0, .ref (38 + n))], [.int 0], hp346) _
        refine px_gx (fun _ K => px_a 5 (f' := (161, [(3, .int z348), (2, .int z347), (5, .int 1), (4, .int 1), (1, .int fi), (0, .ref (38 + n))], [.int 1, .int z348, .int z347, .ref (38 + n)], hp346)) rfl K) ?_
        rcases Bool.eq_false_or_eq_true (m_sd (m_T n hp0 w.toInt h.toInt) z347.toInt z348.toInt 1) with hS354 | hS354
        · obtain ⟨o355, hq355, g355, rfl, eh355⟩ := m_side_1 (d := d) hm346 H346 (b := true) (x := z347) (y := z348) (by omega) (by omega) (by omega) (by omega) (by rw [m_T_f H0 F346 (by decide)]; exact hS354)
          rw [eh355] at g355
          refine px_gx (fun _ K => px_cv (38 + n) (as := [.int z347, .int z348, .int 1]) (rest := []) rfl rfl hm346 rfl rfl rfl rfl (Nat.le_of_ble_eq_true rfl) g355 K) ?_
          show px_Gx _ _ (164, [(3, .int z348), (2, .int z347), (5, .int 1), (4, .int 1), (1, .int fi), (0, .ref (38 + n))], [.int 1], hp346) _
          refine px_gx (fun _ K => px_a 7 (f' := (183, [(4, .int 1), (3, .int z348), (2, .int z347), (5, .int 1), (1, .int fi), (0, .ref (38 + n))], [.ref (38 + n), .int fi, .int z347], hp346)) rfl K) ?_
          refine px_gx (fun _ K => px_gf (38 + n) 51 4 1 (.int w) rfl rfl hm346 rfl K) ?_
          show px_Gx _ _ (186, [(4, .int 1), (3, .int z348), (2, .int z347), (5, .int 1), (1, .int fi), (0, .ref (38 + n))], [.int w, .int fi, .int z347], hp346) _
          refine px_gx (fun _ K => px_irem rfl (pa_ne0 (by omega)) K) ?_
          show px_Gx _ _ (187, [(4, .int 1), (3, .int z348), (2, .int z347), (5, .int 1), (1, .int fi), (0, .ref (38 + n))], [.int (fi - fi / w * w), .int z347], hp346) _
          rw [← ex0]
          by_cases h356 : ¬ z347 = x0
          · have h356' := h356
            have h356'' : Int32.toInt z347 ≠ Int32.toInt x0 := fun z => h356 (Int32.toInt_inj.mp z)
            refine px_gx (fun _ K => px_b2 true 205 rfl rfl (decide_eq_true h356) K) ?_
            show px_Gx _ _ (205, [(4, .int 1), (3, .int z348), (2, .int z347), (5, .int 1), (1, .int fi), (0, .ref (38 + n))], [], hp346) _
            refine px_gx (fun _ K => px_a 4 (f' := (59, [(5, .int 1), (4, .int 1), (3, .int z348), (2, .int z347), (1, .int fi), (0, .ref (38 + n))], [], hp346)) rfl K) ?_
            have hn : m_st (m_T n hp0 w.toInt h.toInt) (x0.toInt, y0.toInt, 0) (i + 1) = (z347.toInt, z348.toInt, 1) := by
              show m_nx _ (m_st (m_T n hp0 w.toInt h.toInt) (x0.toInt, y0.toInt, 0) i) = _
              rw [hst]
              exact m_nx_s (show z347.toInt = x.toInt + m_dx 1 by show _ = _ + (0 : Int); omega) (show z348.toInt = y.toInt + m_dy 1 by show _ = _ + (1 : Int); omega) hS349 hS354
            have hne : i + 1 ≠ K0 := by
              intro e
              rw [e, hK] at hn
              have n1 : x0.toInt = z347.toInt := congrArg (fun q : m_P => q.1) hn
              have n2 : y0.toInt = z348.toInt := congrArg (fun q : m_P => q.2.1) hn
              have n3 : (0 : Nat) = 1 := congrArg (fun q : m_P => q.2.2) hn
              omega
            exact ih (i + 1) 1 z348 z347 hp346 z345 hm346 H346 F346 L346 (by omega) (by omega) ⟨by omega, by decide⟩ hn
          · have h356' := h356
            have h356'' : Int32.toInt z347 = Int32.toInt x0 := congrArg Int32.toInt (Decidable.not_not.mp h356)
            refine px_gx (fun _ K => px_b2 false 205 rfl rfl (decide_eq_false h356) K) ?_
            show px_Gx _ _ (190, [(4, .int 1), (3, .int z348), (2, .int z347), (5, .int 1), (1, .int fi), (0, .ref (38 + n))], [], hp346) _
            refine px_gx (fun _ K => px_a 3 (f' := (193, [(4, .int 1), (3, .int z348), (2, .int z347), (5, .int 1), (1, .int fi), (0, .ref (38 + n))], [.ref (38 + n), .int fi, .int z348], hp346)) rfl K) ?_
            refine px_gx (fun _ K => px_gf (38 + n) 51 4 1 (.int w) rfl rfl hm346 rfl K) ?_
            show px_Gx _ _ (196, [(4, .int 1), (3, .int z348), (2, .int z347), (5, .int 1), (1, .int fi), (0, .ref (38 + n))], [.int w, .int fi, .int z348], hp346) _
            refine px_gx (fun _ K => px_idiv rfl (pa_ne0 (by omega)) K) ?_
            show px_Gx _ _ (197, [(4, .int 1), (3, .int z348), (2, .int z347), (5, .int 1), (1, .int fi), (0, .ref (38 + n))], [.int (fi / w), .int z348], hp346) _
            rw [← ey0]
            by_cases h357 : ¬ z348 = y0
            · have h357' := h357
              have h357'' : Int32.toInt z348 ≠ Int32.toInt y0 := fun z => h357 (Int32.toInt_inj.mp z)
              refine px_gx (fun _ K => px_b2 true 205 rfl rfl (decide_eq_true h357) K) ?_
              show px_Gx _ _ (205, [(4, .int 1), (3, .int z348), (2, .int z347), (5, .int 1), (1, .int fi), (0, .ref (38 + n))], [], hp346) _
              refine px_gx (fun _ K => px_a 4 (f' := (59, [(5, .int 1), (4, .int 1), (3, .int z348), (2, .int z347), (1, .int fi), (0, .ref (38 + n))], [], hp346)) rfl K) ?_
              have hn : m_st (m_T n hp0 w.toInt h.toInt) (x0.toInt, y0.toInt, 0) (i + 1) = (z347.toInt, z348.toInt, 1) := by
                show m_nx _ (m_st (m_T n hp0 w.toInt h.toInt) (x0.toInt, y0.toInt, 0) i) = _
                rw [hst]
                exact m_nx_s (show z347.toInt = x.toInt + m_dx 1 by show _ = _ + (0 : Int); omega) (show z348.toInt = y.toInt + m_dy 1 by show _ = _ + (1 : Int); omega) hS349 hS354
              have hne : i + 1 ≠ K0 := by
                intro e
                rw [e, hK] at hn
                have n1 : x0.toInt = z347.toInt := congrArg (fun q : m_P => q.1) hn
                have n2 : y0.toInt = z348.toInt := congrArg (fun q : m_P => q.2.1) hn
                have n3 : (0 : Nat) = 1 := congrArg (fun q : m_P => q.2.2) hn
                omega
              exact ih (i + 1) 1 z348 z347 hp346 z345 hm346 H346 F346 L346 (by omega) (by omega) ⟨by omega, by decide⟩ hn
            · have h357' := h357
              have h357'' : Int32.toInt z348 = Int32.toInt y0 := congrArg Int32.toInt (Decidable.not_not.mp h357)
              refine px_gx (fun _ K => px_b2 false 205 rfl rfl (decide_eq_false h357) K) ?_
              show px_Gx _ _ (200, [(4, .int 1), (3, .int z348), (2, .int z347), (5, .int 1), (1, .int fi), (0, .ref (38 + n))], [], hp346) _
              refine px_gx (fun _ K => px_a 6 (f' := (59, [(5, .int 1), (4, .int 1), (3, .int z348), (2, .int z347), (1, .int fi), (0, .ref (38 + n))], [], hp346)) rfl K) ?_
              have hn : m_st (m_T n hp0 w.toInt h.toInt) (x0.toInt, y0.toInt, 0) (i + 1) = (z347.toInt, z348.toInt, 1) := by
                show m_nx _ (m_st (m_T n hp0 w.toInt h.toInt) (x0.toInt, y0.toInt, 0) i) = _
                rw [hst]
                exact m_nx_s (show z347.toInt = x.toInt + m_dx 1 by show _ = _ + (0 : Int); omega) (show z348.toInt = y.toInt + m_dy 1 by show _ = _ + (1 : Int); omega) hS349 hS354
              have hne : i + 1 ≠ K0 := by
                intro e
                rw [e, hK] at hn
                have n1 : x0.toInt = z347.toInt := congrArg (fun q : m_P => q.1) hn
                have n2 : y0.toInt = z348.toInt := congrArg (fun q : m_P => q.2.1) hn
                have n3 : (0 : Nat) = 1 := congrArg (fun q : m_P => q.2.2) hn
                omega
              exact ih (i + 1) 1 z348 z347 hp346 z345 hm346 H346 F346 L346 (by omega) (by omega) ⟨by omega, by decide⟩ hn
        · obtain ⟨o358, hq358, g358, rfl, eh358⟩ := m_side_1 (d := d) hm346 H346 (b := false) (x := z347) (y := z348) (by omega) (by omega) (by omega) (by omega) (by rw [m_T_f H0 F346 (by decide)]; exact hS354)
          rw [eh358] at g358
          refine px_gx (fun _ K => px_cv (38 + n) (as := [.int z347, .int z348, .int 1]) (rest := []) rfl rfl hm346 rfl rfl rfl rfl (Nat.le_of_ble_eq_true rfl) g358 K) ?_
          show px_Gx _ _ (164, [(3, .int z348), (2, .int z347), (5, .int 1), (4, .int 1), (1, .int fi), (0, .ref (38 + n))], [.int 0], hp346) _
          refine px_gx (fun _ K => px_a 10 (f' := (183, [(4, .int 0), (3, .int z348), (2, .int z347), (5, .int 1), (1, .int fi), (0, .ref (38 + n))], [.ref (38 + n), .int fi, .int z347], hp346)) rfl K) ?_
          refine px_gx (fun _ K => px_gf (38 + n) 51 4 1 (.int w) rfl rfl hm346 rfl K) ?_
          show px_Gx _ _ (186, [(4, .int 0), (3, .int z348), (2, .int z347), (5, .int 1), (1, .int fi), (0, .ref (38 + n))], [.int w, .int fi, .int z347], hp346) _
          refine px_gx (fun _ K => px_irem rfl (pa_ne0 (by omega)) K) ?_
          show px_Gx _ _ (187, [(4, .int 0), (3, .int z348), (2, .int z347), (5, .int 1), (1, .int fi), (0, .ref (38 + n))], [.int (fi - fi / w * w), .int z347], hp346) _
          rw [← ex0]
          by_cases h359 : ¬ z347 = x0
          · have h359' := h359
            have h359'' : Int32.toInt z347 ≠ Int32.toInt x0 := fun z => h359 (Int32.toInt_inj.mp z)
            refine px_gx (fun _ K => px_b2 true 205 rfl rfl (decide_eq_true h359) K) ?_
            show px_Gx _ _ (205, [(4, .int 0), (3, .int z348), (2, .int z347), (5, .int 1), (1, .int fi), (0, .ref (38 + n))], [], hp346) _
            refine px_gx (fun _ K => px_a 4 (f' := (59, [(5, .int 1), (4, .int 0), (3, .int z348), (2, .int z347), (1, .int fi), (0, .ref (38 + n))], [], hp346)) rfl K) ?_
            have hn : m_st (m_T n hp0 w.toInt h.toInt) (x0.toInt, y0.toInt, 0) (i + 1) = (z347.toInt, z348.toInt, 0) := by
              show m_nx _ (m_st (m_T n hp0 w.toInt h.toInt) (x0.toInt, y0.toInt, 0) i) = _
              rw [hst]
              exact m_nx_l (show z347.toInt = x.toInt + m_dx 1 by show _ = _ + (0 : Int); omega) (show z348.toInt = y.toInt + m_dy 1 by show _ = _ + (1 : Int); omega) hS349 hS354
            have hne : i + 1 ≠ K0 := by
              intro e
              rw [e, hK] at hn
              have n1 : x0.toInt = z347.toInt := congrArg (fun q : m_P => q.1) hn
              have n2 : y0.toInt = z348.toInt := congrArg (fun q : m_P => q.2.1) hn
              have n3 : (0 : Nat) = 0 := congrArg (fun q : m_P => q.2.2) hn
              omega
            exact ih (i + 1) 0 z348 z347 hp346 z345 hm346 H346 F346 L346 (by omega) (by omega) ⟨by omega, by decide⟩ hn
          · have h359' := h359
            have h359'' : Int32.toInt z347 = Int32.toInt x0 := congrArg Int32.toInt (Decidable.not_not.mp h359)
            refine px_gx (fun _ K => px_b2 false 205 rfl rfl (decide_eq_false h359) K) ?_
            show px_Gx _ _ (190, [(4, .int 0), (3, .int z348), (2, .int z347), (5, .int 1), (1, .int fi), (0, .ref (38 + n))], [], hp346) _
            refine px_gx (fun _ K => px_a 3 (f' := (193, [(4, .int 0), (3, .int z348), (2, .int z347), (5, .int 1), (1, .int fi), (0, .ref (38 + n))], [.ref (38 + n), .int fi, .int z348], hp346)) rfl K) ?_
            refine px_gx (fun _ K => px_gf (38 + n) 51 4 1 (.int w) rfl rfl hm346 rfl K) ?_
            show px_Gx _ _ (196, [(4, .int 0), (3, .int z348), (2, .int z347), (5, .int 1), (1, .int fi), (0, .ref (38 + n))], [.int w, .int fi, .int z348], hp346) _
            refine px_gx (fun _ K => px_idiv rfl (pa_ne0 (by omega)) K) ?_
            show px_Gx _ _ (197, [(4, .int 0), (3, .int z348), (2, .int z347), (5, .int 1), (1, .int fi), (0, .ref (38 + n))], [.int (fi / w), .int z348], hp346) _
            rw [← ey0]
            by_cases h360 : ¬ z348 = y0
            · have h360' := h360
              have h360'' : Int32.toInt z348 ≠ Int32.toInt y0 := fun z => h360 (Int32.toInt_inj.mp z)
              refine px_gx (fun _ K => px_b2 true 205 rfl rfl (decide_eq_true h360) K) ?_
              show px_Gx _ _ (205, [(4, .int 0), (3, .int z348), (2, .int z347), (5, .int 1), (1, .int fi), (0, .ref (38 + n))], [], hp346) _
              refine px_gx (fun _ K => px_a 4 (f' := (59, [(5, .int 1), (4, .int 0), (3, .int z348), (2, .int z347), (1, .int fi), (0, .ref (38 + n))], [], hp346)) rfl K) ?_
              have hn : m_st (m_T n hp0 w.toInt h.toInt) (x0.toInt, y0.toInt, 0) (i + 1) = (z347.toInt, z348.toInt, 0) := by
                show m_nx _ (m_st (m_T n hp0 w.toInt h.toInt) (x0.toInt, y0.toInt, 0) i) = _
                rw [hst]
                exact m_nx_l (show z347.toInt = x.toInt + m_dx 1 by show _ = _ + (0 : Int); omega) (show z348.toInt = y.toInt + m_dy 1 by show _ = _ + (1 : Int); omega) hS349 hS354
              have hne : i + 1 ≠ K0 := by
                intro e
                rw [e, hK] at hn
                have n1 : x0.toInt = z347.toInt := congrArg (fun q : m_P => q.1) hn
                have n2 : y0.toInt = z348.toInt := congrArg (fun q : m_P => q.2.1) hn
                have n3 : (0 : Nat) = 0 := congrArg (fun q : m_P => q.2.2) hn
                omega
              exact ih (i + 1) 0 z348 z347 hp346 z345 hm346 H346 F346 L346 (by omega) (by omega) ⟨by omega, by decide⟩ hn
            · have h360' := h360
              have h360'' : Int32.toInt z348 = Int32.toInt y0 := congrArg Int32.toInt (Decidable.not_not.mp h360)
              refine px_gx (fun _ K => px_b2 false 205 rfl rfl (decide_eq_false h360) K) ?_
              show px_Gx _ _ (200, [(4, .int 0), (3, .int z348), (2, .int z347), (5, .int 1), (1, .int fi), (0, .ref (38 + n))], [], hp346) _
              refine px_gx (fun _ K => px_a 5 (f' := (59, [(5, .int 0), (4, .int 0), (3, .int z348), (2, .int z347), (1, .int fi), (0, .ref (38 + n))], [], hp346)) rfl K) ?_
              refine px_gx (fun _ K => px_a 2 (f' := (215, [(5, .int 0), (4, .int 0), (3, .int z348), (2, .int z347), (1, .int fi), (0, .ref (38 + n))], [], hp346)) rfl K) ?_
              exact ⟨_, _, px_e rfl rfl, H346, F346, Or.inl ⟨_, rfl, trivial, L346⟩⟩
    · change m_st (m_T n hp0 w.toInt h.toInt) (x0.toInt, y0.toInt, 0) i = (x.toInt, y.toInt, 2) at hst
      refine px_gx (fun _ K => px_a 3 (f' := (65, [(5, .int 1), (4, .int 2), (3, .int y), (2, .int x), (1, .int fi), (0, .ref (38 + n))], [.ref (38 + n)], hp)) rfl K) ?_
      refine px_gx (fun _ K => px_gf (38 + n) 39 4 16 (.ref (48 + n)) rfl rfl hm rfl K) ?_
      show px_Gx _ _ (68, [(5, .int 1), (4, .int 2), (3, .int y), (2, .int x), (1, .int fi), (0, .ref (38 + n))], [.ref (48 + n)], hp) _
      refine px_gx (fun _ K => px_a 1 (f' := (69, [(5, .int 1), (4, .int 2), (3, .int y), (2, .int x), (1, .int fi), (0, .ref (38 + n))], [.ref (38 + n), .ref (48 + n)], hp)) rfl K) ?_
      refine px_gx (fun _ K => px_gf (38 + n) 122 4 15 (.int le) rfl rfl hm rfl K) ?_
      show px_Gx _ _ (72, [(5, .int 1), (4, .int 2), (3, .int y), (2, .int x), (1, .int fi), (0, .ref (38 + n))], [.int le, .ref (48 + n)], hp) _
      refine px_gx (fun _ K => px_a 1 (f' := (74, [(5, .int 1), (4, .int 2), (3, .int y), (2, .int x), (1, .int fi), (0, .ref (38 + n))], [.int 2, .int le, .ref (48 + n)], hp)) rfl K) ?_
      obtain ⟨vs362, hv362, hl362, hg362⟩ := pa_ara (a := 48 + n) (i := 16) (lo := 0) (hi := 3) H (by omega) (by decide) (by decide) rfl
      have hi361 : le.toNatClampNeg < vs362.length := by show (Int32.toInt le).toNat < _; omega
      refine px_gx (fun _ K => px_ias (48 + n) rfl hv362 (by omega) (i32_nn (by omega)) hi361 K) ?_
      show px_Gx _ _ (75, [(5, .int 1), (4, .int 2), (3, .int y), (2, .int x), (1, .int fi), (0, .ref (38 + n))], [], hp.set (48 + n) (10, vs362.set le.toNatClampNeg (.int 2))) _
      have hm361 : (hp.set (48 + n) (10, vs362.set le.toNatClampNeg (.int 2)))[38 + n]? = some (4, (m_O n th w h pn pl fo le ru)) := px_ne hm (by omega)
      have H361 : pa_Hi n (hp.set (48 + n) (10, vs362.set le.toNatClampNeg (.int 2))) := pa_aS (i := 16) H (by omega) (by decide) (by decide) hv362 rfl (pa_in (by omega) (by omega))
      have F361 : pa_Fr n [(24, 15), (34, 0)] hp0 (hp.set (48 + n) (10, vs362.set le.toNatClampNeg (.int 2))) := F.trans (pa_aF (i := 16) (by omega) (by decide) (by decide) hv362 (by decide) (by decide))
      have L361 : (hp.set (48 + n) (10, vs362.set le.toNatClampNeg (.int 2))).length = hp0.length := List.length_set.trans L
      generalize hp.set (48 + n) (10, vs362.set le.toNatClampNeg (.int 2)) = hp361 at hm361 H361 F361 L361 ⊢
      refine px_gx (fun _ K => px_a 2 (f' := (77, [(5, .int 1), (4, .int 2), (3, .int y), (2, .int x), (1, .int fi), (0, .ref (38 + n))], [.ref (38 + n), .ref (38 + n)], hp361)) rfl K) ?_
      refine px_gx (fun _ K => px_gf (38 + n) 122 4 15 (.int le) rfl rfl hm361 rfl K) ?_
      show px_Gx _ _ (80, [(5, .int 1), (4, .int 2), (3, .int y), (2, .int x), (1, .int fi), (0, .ref (38 + n))], [.int le, .ref (38 + n)], hp361) _
      refine px_gx (fun _ K => px_a 2 (f' := (82, [(5, .int 1), (4, .int 2), (3, .int y), (2, .int x), (1, .int fi), (0, .ref (38 + n))], [.int (le + 1), .ref (38 + n)], hp361)) rfl K) ?_
      obtain ⟨z363, ez363, fz363⟩ : ∃ qz : Int32, qz = le + 1 ∧ qz.toInt = Int32.toInt le + Int32.toInt 1 := ⟨_, rfl, i32_add (by omega) (by omega)⟩
      rw [← ez363]
      refine px_gx (fun _ K => px_pf (38 + n) 122 4 15 rfl rfl hm361 (by omega) (Nat.le_of_ble_eq_true rfl) (rfl) rfl (by decide) K) ?_
      show px_Gx _ _ (85, [(5, .int 1), (4, .int 2), (3, .int y), (2, .int x), (1, .int fi), (0, .ref (38 + n))], [], hp361.set (38 + n) (4, (m_O n th w h pn pl fo z363 ru))) _
      have hm364 : (hp361.set (38 + n) (4, (m_O n th w h pn pl fo z363 ru)))[38 + n]? = some (4, (m_O n th w h pn pl fo z363 ru)) := px_self hm361
      have H364 : pa_Hi n (hp361.set (38 + n) (4, (m_O n th w h pn pl fo z363 ru))) := pa_ms (k := 15) (v := .int z363) H361 hm361 rfl (pa_in (by omega) (by omega))
      have F364 : pa_Fr n [(24, 15), (34, 0)] hp0 (hp361.set (38 + n) (4, (m_O n th w h pn pl fo z363 ru))) := F361.trans (pa_mf (k := 15) (v := .int z363) hm361 (by decide) (by decide))
      have L364 : (hp361.set (38 + n) (4, (m_O n th w h pn pl fo z363 ru))).length = hp0.length := List.length_set.trans L361
      generalize hp361.set (38 + n) (4, (m_O n th w h pn pl fo z363 ru)) = hp364 at hm364 H364 F364 L364 ⊢
      refine px_gx (fun _ K => px_a 9 (f' := (107, [(5, .int 1), (4, .int 2), (3, .int y), (2, .int x), (1, .int fi), (0, .ref (38 + n))], [.int (x + (-1))], hp364)) rfl K) ?_
      obtain ⟨z365, ez365, fz365⟩ : ∃ qz : Int32, qz = x + (-1) ∧ qz.toInt = Int32.toInt x + Int32.toInt (-1) := ⟨_, rfl, i32_add (by omega) (by omega)⟩
      rw [← ez365]
      refine px_gx (fun _ K => px_a 10 (f' := (131, [(2, .int z365), (5, .int 1), (4, .int 2), (3, .int y), (1, .int fi), (0, .ref (38 + n))], [.int (y + 0)], hp364)) rfl K) ?_
      obtain ⟨z366, ez366, fz366⟩ : ∃ qz : Int32, qz = y + 0 ∧ qz.toInt = Int32.toInt y + Int32.toInt 0 := ⟨_, rfl, i32_add (by omega) (by omega)⟩
      rw [← ez366]
      refine px_gx (fun _ K => px_a 9 (f' := (141, [(3, .int z366), (2, .int z365), (5, .int 1), (4, .int 2), (1, .int fi), (0, .ref (38 + n))], [.int 3, .int z366, .int z365, .ref (38 + n)], hp364)) rfl K) ?_
      rcases Bool.eq_false_or_eq_true (m_sd (m_T n hp0 w.toInt h.toInt) z365.toInt z366.toInt 3) with hS367 | hS367
      · obtain ⟨o368, hq368, g368, rfl, eh368⟩ := m_side_3 (d := d) hm364 H364 (b := true) (x := z365) (y := z366) (by omega) (by omega) (by omega) (by omega) (by rw [m_T_f H0 F364 (by decide)]; exact hS367)
        rw [eh368] at g368
        refine px_gx (fun _ K => px_cv (38 + n) (as := [.int z365, .int z366, .int 3]) (rest := []) rfl rfl hm364 rfl rfl rfl rfl (Nat.le_of_ble_eq_true rfl) g368 K) ?_
        show px_Gx _ _ (144, [(3, .int z366), (2, .int z365), (5, .int 1), (4, .int 2), (1, .int fi), (0, .ref (38 + n))], [.int 1], hp364) _
        refine px_gx (fun _ K => px_a 11 (f' := (183, [(4, .int 3), (3, .int z366), (2, .int z365), (5, .int 1), (1, .int fi), (0, .ref (38 + n))], [.ref (38 + n), .int fi, .int z365], hp364)) rfl K) ?_
        refine px_gx (fun _ K => px_gf (38 + n) 51 4 1 (.int w) rfl rfl hm364 rfl K) ?_
        show px_Gx _ _ (186, [(4, .int 3), (3, .int z366), (2, .int z365), (5, .int 1), (1, .int fi), (0, .ref (38 + n))], [.int w, .int fi, .int z365], hp364) _
        refine px_gx (fun _ K => px_irem rfl (pa_ne0 (by omega)) K) ?_
        show px_Gx _ _ (187, [(4, .int 3), (3, .int z366), (2, .int z365), (5, .int 1), (1, .int fi), (0, .ref (38 + n))], [.int (fi - fi / w * w), .int z365], hp364) _
        rw [← ex0]
        by_cases h369 : ¬ z365 = x0
        · have h369' := h369
          have h369'' : Int32.toInt z365 ≠ Int32.toInt x0 := fun z => h369 (Int32.toInt_inj.mp z)
          refine px_gx (fun _ K => px_b2 true 205 rfl rfl (decide_eq_true h369) K) ?_
          show px_Gx _ _ (205, [(4, .int 3), (3, .int z366), (2, .int z365), (5, .int 1), (1, .int fi), (0, .ref (38 + n))], [], hp364) _
          refine px_gx (fun _ K => px_a 4 (f' := (59, [(5, .int 1), (4, .int 3), (3, .int z366), (2, .int z365), (1, .int fi), (0, .ref (38 + n))], [], hp364)) rfl K) ?_
          have hn : m_st (m_T n hp0 w.toInt h.toInt) (x0.toInt, y0.toInt, 0) (i + 1) = (z365.toInt, z366.toInt, 3) := by
            show m_nx _ (m_st (m_T n hp0 w.toInt h.toInt) (x0.toInt, y0.toInt, 0) i) = _
            rw [hst]
            exact m_nx_r (show z365.toInt = x.toInt + m_dx 2 by show _ = _ + (-1 : Int); omega) (show z366.toInt = y.toInt + m_dy 2 by show _ = _ + (0 : Int); omega) hS367
          have hne : i + 1 ≠ K0 := by
            intro e
            rw [e, hK] at hn
            have n1 : x0.toInt = z365.toInt := congrArg (fun q : m_P => q.1) hn
            have n2 : y0.toInt = z366.toInt := congrArg (fun q : m_P => q.2.1) hn
            have n3 : (0 : Nat) = 3 := congrArg (fun q : m_P => q.2.2) hn
            omega
          exact ih (i + 1) 3 z366 z365 hp364 z363 hm364 H364 F364 L364 (by omega) (by omega) ⟨by omega, by decide⟩ hn
        · have h369' := h369
          have h369'' : Int32.toInt z365 = Int32.toInt x0 := congrArg Int32.toInt (Decidable.not_not.mp h369)
          refine px_gx (fun _ K => px_b2 false 205 rfl rfl (decide_eq_false h369) K) ?_
          show px_Gx _ _ (190, [(4, .int 3), (3, .int z366), (2, .int z365), (5, .int 1), (1, .int fi), (0, .ref (38 + n))], [], hp364) _
          refine px_gx (fun _ K => px_a 3 (f' := (193, [(4, .int 3), (3, .int z366), (2, .int z365), (5, .int 1), (1, .int fi), (0, .ref (38 + n))], [.ref (38 + n), .int fi, .int z366], hp364)) rfl K) ?_
          refine px_gx (fun _ K => px_gf (38 + n) 51 4 1 (.int w) rfl rfl hm364 rfl K) ?_
          show px_Gx _ _ (196, [(4, .int 3), (3, .int z366), (2, .int z365), (5, .int 1), (1, .int fi), (0, .ref (38 + n))], [.int w, .int fi, .int z366], hp364) _
          refine px_gx (fun _ K => px_idiv rfl (pa_ne0 (by omega)) K) ?_
          show px_Gx _ _ (197, [(4, .int 3), (3, .int z366), (2, .int z365), (5, .int 1), (1, .int fi), (0, .ref (38 + n))], [.int (fi / w), .int z366], hp364) _
          rw [← ey0]
          by_cases h370 : ¬ z366 = y0
          · have h370' := h370
            have h370'' : Int32.toInt z366 ≠ Int32.toInt y0 := fun z => h370 (Int32.toInt_inj.mp z)
            refine px_gx (fun _ K => px_b2 true 205 rfl rfl (decide_eq_true h370) K) ?_
            show px_Gx _ _ (205, [(4, .int 3), (3, .int z366), (2, .int z365), (5, .int 1), (1, .int fi), (0, .ref (38 + n))], [], hp364) _
            refine px_gx (fun _ K => px_a 4 (f' := (59, [(5, .int 1), (4, .int 3), (3, .int z366), (2, .int z365), (1, .int fi), (0, .ref (38 + n))], [], hp364)) rfl K) ?_
            have hn : m_st (m_T n hp0 w.toInt h.toInt) (x0.toInt, y0.toInt, 0) (i + 1) = (z365.toInt, z366.toInt, 3) := by
              show m_nx _ (m_st (m_T n hp0 w.toInt h.toInt) (x0.toInt, y0.toInt, 0) i) = _
              rw [hst]
              exact m_nx_r (show z365.toInt = x.toInt + m_dx 2 by show _ = _ + (-1 : Int); omega) (show z366.toInt = y.toInt + m_dy 2 by show _ = _ + (0 : Int); omega) hS367
            have hne : i + 1 ≠ K0 := by
              intro e
              rw [e, hK] at hn
              have n1 : x0.toInt = z365.toInt := congrArg (fun q : m_P => q.1) hn
              have n2 : y0.toInt = z366.toInt := congrArg (fun q : m_P => q.2.1) hn
              have n3 : (0 : Nat) = 3 := congrArg (fun q : m_P => q.2.2) hn
              omega
            exact ih (i + 1) 3 z366 z365 hp364 z363 hm364 H364 F364 L364 (by omega) (by omega) ⟨by omega, by decide⟩ hn
          · have h370' := h370
            have h370'' : Int32.toInt z366 = Int32.toInt y0 := congrArg Int32.toInt (Decidable.not_not.mp h370)
            refine px_gx (fun _ K => px_b2 false 205 rfl rfl (decide_eq_false h370) K) ?_
            show px_Gx _ _ (200, [(4, .int 3), (3, .int z366), (2, .int z365), (5, .int 1), (1, .int fi), (0, .ref (38 + n))], [], hp364) _
            refine px_gx (fun _ K => px_a 6 (f' := (59, [(5, .int 1), (4, .int 3), (3, .int z366), (2, .int z365), (1, .int fi), (0, .ref (38 + n))], [], hp364)) rfl K) ?_
            have hn : m_st (m_T n hp0 w.toInt h.toInt) (x0.toInt, y0.toInt, 0) (i + 1) = (z365.toInt, z366.toInt, 3) := by
              show m_nx _ (m_st (m_T n hp0 w.toInt h.toInt) (x0.toInt, y0.toInt, 0) i) = _
              rw [hst]
              exact m_nx_r (show z365.toInt = x.toInt + m_dx 2 by show _ = _ + (-1 : Int); omega) (show z366.toInt = y.toInt + m_dy 2 by show _ = _ + (0 : Int); omega) hS367
            have hne : i + 1 ≠ K0 := by
              intro e
              rw [e, hK] at hn
              have n1 : x0.toInt = z365.toInt := congrArg (fun q : m_P => q.1) hn
              have n2 : y0.toInt = z366.toInt := congrArg (fun q : m_P => q.2.1) hn
              have n3 : (0 : Nat) = 3 := congrArg (fun q : m_P => q.2.2) hn
              omega
            exact ih (i + 1) 3 z366 z365 hp364 z363 hm364 H364 F364 L364 (by omega) (by omega) ⟨by omega, by decide⟩ hn
      · obtain ⟨o371, hq371, g371, rfl, eh371⟩ := m_side_3 (d := d) hm364 H364 (b := false) (x := z365) (y := z366) (by omega) (by omega) (by omega) (by omega) (by rw [m_T_f H0 F364 (by decide)]; exact hS367)
        rw [eh371] at g371
        refine px_gx (fun _ K => px_cv (38 + n) (as := [.int z365, .int z366, .int 3]) (rest := []) rfl rfl hm364 rfl rfl rfl rfl (Nat.le_of_ble_eq_true rfl) g371 K) ?_
        show px_Gx _ _ (144, [(3, .int z366), (2, .int z365), (5, .int 1), (4, .int 2), (1, .int fi), (0, .ref (38 + n))], [.int 0], hp364) _
        refine px_gx (fun _ K => px_a 5 (f' := (161, [(3, .int z366), (2, .int z365), (5, .int 1), (4, .int 2), (1, .int fi), (0, .ref (38 + n))], [.int 2, .int z366, .int z365, .ref (38 + n)], hp364)) rfl K) ?_
        rcases Bool.eq_false_or_eq_true (m_sd (m_T n hp0 w.toInt h.toInt) z365.toInt z366.toInt 2) with hS372 | hS372
        · obtain ⟨o373, hq373, g373, rfl, eh373⟩ := m_side_2 (d := d) hm364 H364 (b := true) (x := z365) (y := z366) (by omega) (by omega) (by omega) (by omega) (by rw [m_T_f H0 F364 (by decide)]; exact hS372)
          rw [eh373] at g373
          refine px_gx (fun _ K => px_cv (38 + n) (as := [.int z365, .int z366, .int 2]) (rest := []) rfl rfl hm364 rfl rfl rfl rfl (Nat.le_of_ble_eq_true rfl) g373 K) ?_
          show px_Gx _ _ (164, [(3, .int z366), (2, .int z365), (5, .int 1), (4, .int 2), (1, .int fi), (0, .ref (38 + n))], [.int 1], hp364) _
          refine px_gx (fun _ K => px_a 7 (f' := (183, [(4, .int 2), (3, .int z366), (2, .int z365), (5, .int 1), (1, .int fi), (0, .ref (38 + n))], [.ref (38 + n), .int fi, .int z365], hp364)) rfl K) ?_
          refine px_gx (fun _ K => px_gf (38 + n) 51 4 1 (.int w) rfl rfl hm364 rfl K) ?_
          show px_Gx _ _ (186, [(4, .int 2), (3, .int z366), (2, .int z365), (5, .int 1), (1, .int fi), (0, .ref (38 + n))], [.int w, .int fi, .int z365], hp364) _
          refine px_gx (fun _ K => px_irem rfl (pa_ne0 (by omega)) K) ?_
          show px_Gx _ _ (187, [(4, .int 2), (3, .int z366), (2, .int z365), (5, .int 1), (1, .int fi), (0, .ref (38 + n))], [.int (fi - fi / w * w), .int z365], hp364) _
          rw [← ex0]
          by_cases h374 : ¬ z365 = x0
          · have h374' := h374
            have h374'' : Int32.toInt z365 ≠ Int32.toInt x0 := fun z => h374 (Int32.toInt_inj.mp z)
            refine px_gx (fun _ K => px_b2 true 205 rfl rfl (decide_eq_true h374) K) ?_
            show px_Gx _ _ (205, [(4, .int 2), (3, .int z366), (2, .int z365), (5, .int 1), (1, .int fi), (0, .ref (38 + n))], [], hp364) _
            refine px_gx (fun _ K => px_a 4 (f' := (59, [(5, .int 1), (4, .int 2), (3, .int z366), (2, .int z365), (1, .int fi), (0, .ref (38 + n))], [], hp364)) rfl K) ?_
            have hn : m_st (m_T n hp0 w.toInt h.toInt) (x0.toInt, y0.toInt, 0) (i + 1) = (z365.toInt, z366.toInt, 2) := by
              show m_nx _ (m_st (m_T n hp0 w.toInt h.toInt) (x0.toInt, y0.toInt, 0) i) = _
              rw [hst]
              exact m_nx_s (show z365.toInt = x.toInt + m_dx 2 by show _ = _ + (-1 : Int); omega) (show z366.toInt = y.toInt + m_dy 2 by show _ = _ + (0 : Int); omega) hS367 hS372
            have hne : i + 1 ≠ K0 := by
              intro e
              rw [e, hK] at hn
              have n1 : x0.toInt = z365.toInt := congrArg (fun q : m_P => q.1) hn
              have n2 : y0.toInt = z366.toInt := congrArg (fun q : m_P => q.2.1) hn
              have n3 : (0 : Nat) = 2 := congrArg (fun q : m_P => q.2.2) hn
              omega
            exact ih (i + 1) 2 z366 z365 hp364 z363 hm364 H364 F364 L364 (by omega) (by omega) ⟨by omega, by decide⟩ hn
          · have h374' := h374
            have h374'' : Int32.toInt z365 = Int32.toInt x0 := congrArg Int32.toInt (Decidable.not_not.mp h374)
            refine px_gx (fun _ K => px_b2 false 205 rfl rfl (decide_eq_false h374) K) ?_
            show px_Gx _ _ (190, [(4, .int 2), (3, .int z366), (2, .int z365), (5, .int 1), (1, .int fi), (0, .ref (38 + n))], [], hp364) _
            refine px_gx (fun _ K => px_a 3 (f' := (193, [(4, .int 2), (3, .int z366), (2, .int z365), (5, .int 1), (1, .int fi), (0, .ref (38 + n))], [.ref (38 + n), .int fi, .int z366], hp364)) rfl K) ?_
            refine px_gx (fun _ K => px_gf (38 + n) 51 4 1 (.int w) rfl rfl hm364 rfl K) ?_
            show px_Gx _ _ (196, [(4, .int 2), (3, .int z366), (2, .int z365), (5, .int 1), (1, .int fi), (0, .ref (38 + n))], [.int w, .int fi, .int z366], hp364) _
            refine px_gx (fun _ K => px_idiv rfl (pa_ne0 (by omega)) K) ?_
            show px_Gx _ _ (197, [(4, .int 2), (3, .int z366), (2, .int z365), (5, .int 1), (1, .int fi), (0, .ref (38 + n))], [.int (fi / w), .int z366], hp364) _
            rw [← ey0]
            by_cases h375 : ¬ z366 = y0
            · have h375' := h375
              have h375'' : Int32.toInt z366 ≠ Int32.toInt y0 := fun z => h375 (Int32.toInt_inj.mp z)
              refine px_gx (fun _ K => px_b2 true 205 rfl rfl (decide_eq_true h375) K) ?_
              show px_Gx _ _ (205, [(4, .int 2), (3, .int z366), (2, .int z365), (5, .int 1), (1, .int fi), (0, .ref (38 + n))], [], hp364) _
              refine px_gx (fun _ K => px_a 4 (f' := (59, [(5, .int 1), (4, .int 2), (3, .int z366), (2, .int z365), (1, .int fi), (0, .ref (38 + n))], [], hp364)) rfl K) ?_
              have hn : m_st (m_T n hp0 w.toInt h.toInt) (x0.toInt, y0.toInt, 0) (i + 1) = (z365.toInt, z366.toInt, 2) := by
                show m_nx _ (m_st (m_T n hp0 w.toInt h.toInt) (x0.toInt, y0.toInt, 0) i) = _
                rw [hst]
                exact m_nx_s (show z365.toInt = x.toInt + m_dx 2 by show _ = _ + (-1 : Int); omega) (show z366.toInt = y.toInt + m_dy 2 by show _ = _ + (0 : Int); omega) hS367 hS372
              have hne : i + 1 ≠ K0 := by
                intro e
                rw [e, hK] at hn
                have n1 : x0.toInt = z365.toInt := congrArg (fun q : m_P => q.1) hn
                have n2 : y0.toInt = z366.toInt := congrArg (fun q : m_P => q.2.1) hn
                have n3 : (0 : Nat) = 2 := congrArg (fun q : m_P => q.2.2) hn
                omega
              exact ih (i + 1) 2 z366 z365 hp364 z363 hm364 H364 F364 L364 (by omega) (by omega) ⟨by omega, by decide⟩ hn
            · have h375' := h375
              have h375'' : Int32.toInt z366 = Int32.toInt y0 := congrArg Int32.toInt (Decidable.not_not.mp h375)
              refine px_gx (fun _ K => px_b2 false 205 rfl rfl (decide_eq_false h375) K) ?_
              show px_Gx _ _ (200, [(4, .int 2), (3, .int z366), (2, .int z365), (5, .int 1), (1, .int fi), (0, .ref (38 + n))], [], hp364) _
              refine px_gx (fun _ K => px_a 6 (f' := (59, [(5, .int 1), (4, .int 2), (3, .int z366), (2, .int z365), (1, .int fi), (0, .ref (38 + n))], [], hp364)) rfl K) ?_
              have hn : m_st (m_T n hp0 w.toInt h.toInt) (x0.toInt, y0.toInt, 0) (i + 1) = (z365.toInt, z366.toInt, 2) := by
                show m_nx _ (m_st (m_T n hp0 w.toInt h.toInt) (x0.toInt, y0.toInt, 0) i) = _
                rw [hst]
                exact m_nx_s (show z365.toInt = x.toInt + m_dx 2 by show _ = _ + (-1 : Int); omega) (show z366.toInt = y.toInt + m_dy 2 by show _ = _ + (0 : Int); omega) hS367 hS372
              have hne : i + 1 ≠ K0 := by
                intro e
                rw [e, hK] at hn
                have n1 : x0.toInt = z365.toInt := congrArg (fun q : m_P => q.1) hn
                have n2 : y0.toInt = z366.toInt := congrArg (fun q : m_P => q.2.1) hn
                have n3 : (0 : Nat) = 2 := congrArg (fun q : m_P => q.2.2) hn
                omega
              exact ih (i + 1) 2 z366 z365 hp364 z363 hm364 H364 F364 L364 (by omega) (by omega) ⟨by omega, by decide⟩ hn
        · obtain ⟨o376, hq376, g376, rfl, eh376⟩ := m_side_2 (d := d) hm364 H364 (b := false) (x := z365) (y := z366) (by omega) (by omega) (by omega) (by omega) (by rw [m_T_f H0 F364 (by decide)]; exact hS372)
          rw [eh376] at g376
          refine px_gx (fun _ K => px_cv (38 + n) (as := [.int z365, .int z366, .int 2]) (rest := []) rfl rfl hm364 rfl rfl rfl rfl (Nat.le_of_ble_eq_true rfl) g376 K) ?_
          show px_Gx _ _ (164, [(3, .int z366), (2, .int z365), (5, .int 1), (4, .int 2), (1, .int fi), (0, .ref (38 + n))], [.int 0], hp364) _
          refine px_gx (fun _ K => px_a 10 (f' := (183, [(4, .int 1), (3, .int z366), (2, .int z365), (5, .int 1), (1, .int fi), (0, .ref (38 + n))], [.ref (38 + n), .int fi, .int z365], hp364)) rfl K) ?_
          refine px_gx (fun _ K => px_gf (38 + n) 51 4 1 (.int w) rfl rfl hm364 rfl K) ?_
          show px_Gx _ _ (186, [(4, .int 1), (3, .int z366), (2, .int z365), (5, .int 1), (1, .int fi), (0, .ref (38 + n))], [.int w, .int fi, .int z365], hp364) _
          refine px_gx (fun _ K => px_irem rfl (pa_ne0 (by omega)) K) ?_
          show px_Gx _ _ (187, [(4, .int 1), (3, .int z366), (2, .int z365), (5, .int 1), (1, .int fi), (0, .ref (38 + n))], [.int (fi - fi / w * w), .int z365], hp364) _
          rw [← ex0]
          by_cases h377 : ¬ z365 = x0
          · have h377' := h377
            have h377'' : Int32.toInt z365 ≠ Int32.toInt x0 := fun z => h377 (Int32.toInt_inj.mp z)
            refine px_gx (fun _ K => px_b2 true 205 rfl rfl (decide_eq_true h377) K) ?_
            show px_Gx _ _ (205, [(4, .int 1), (3, .int z366), (2, .int z365), (5, .int 1), (1, .int fi), (0, .ref (38 + n))], [], hp364) _
            refine px_gx (fun _ K => px_a 4 (f' := (59, [(5, .int 1), (4, .int 1), (3, .int z366), (2, .int z365), (1, .int fi), (0, .ref (38 + n))], [], hp364)) rfl K) ?_
            have hn : m_st (m_T n hp0 w.toInt h.toInt) (x0.toInt, y0.toInt, 0) (i + 1) = (z365.toInt, z366.toInt, 1) := by
              show m_nx _ (m_st (m_T n hp0 w.toInt h.toInt) (x0.toInt, y0.toInt, 0) i) = _
              rw [hst]
              exact m_nx_l (show z365.toInt = x.toInt + m_dx 2 by show _ = _ + (-1 : Int); omega) (show z366.toInt = y.toInt + m_dy 2 by show _ = _ + (0 : Int); omega) hS367 hS372
            have hne : i + 1 ≠ K0 := by
              intro e
              rw [e, hK] at hn
              have n1 : x0.toInt = z365.toInt := congrArg (fun q : m_P => q.1) hn
              have n2 : y0.toInt = z366.toInt := congrArg (fun q : m_P => q.2.1) hn
              have n3 : (0 : Nat) = 1 := congrArg (fun q : m_P => q.2.2) hn
              omega
            exact ih (i + 1) 1 z366 z365 hp364 z363 hm364 H364 F364 L364 (by omega) (by omega) ⟨by omega, by decide⟩ hn
          · have h377' := h377
            have h377'' : Int32.toInt z365 = Int32.toInt x0 := congrArg Int32.toInt (Decidable.not_not.mp h377)
            refine px_gx (fun _ K => px_b2 false 205 rfl rfl (decide_eq_false h377) K) ?_
            show px_Gx _ _ (190, [(4, .int 1), (3, .int z366), (2, .int z365), (5, .int 1), (1, .int fi), (0, .ref (38 + n))], [], hp364) _
            refine px_gx (fun _ K => px_a 3 (f' := (193, [(4, .int 1), (3, .int z366), (2, .int z365), (5, .int 1), (1, .int fi), (0, .ref (38 + n))], [.ref (38 + n), .int fi, .int z366], hp364)) rfl K) ?_
            refine px_gx (fun _ K => px_gf (38 + n) 51 4 1 (.int w) rfl rfl hm364 rfl K) ?_
            show px_Gx _ _ (196, [(4, .int 1), (3, .int z366), (2, .int z365), (5, .int 1), (1, .int fi), (0, .ref (38 + n))], [.int w, .int fi, .int z366], hp364) _
            refine px_gx (fun _ K => px_idiv rfl (pa_ne0 (by omega)) K) ?_
            show px_Gx _ _ (197, [(4, .int 1), (3, .int z366), (2, .int z365), (5, .int 1), (1, .int fi), (0, .ref (38 + n))], [.int (fi / w), .int z366], hp364) _
            rw [← ey0]
            by_cases h378 : ¬ z366 = y0
            · have h378' := h378
              have h378'' : Int32.toInt z366 ≠ Int32.toInt y0 := fun z => h378 (Int32.toInt_inj.mp z)
              refine px_gx (fun _ K => px_b2 true 205 rfl rfl (decide_eq_true h378) K) ?_
              show px_Gx _ _ (205, [(4, .int 1), (3, .int z366), (2, .int z365), (5, .int 1), (1, .int fi), (0, .ref (38 + n))], [], hp364) _
              refine px_gx (fun _ K => px_a 4 (f' := (59, [(5, .int 1), (4, .int 1), (3, .int z366), (2, .int z365), (1, .int fi), (0, .ref (38 + n))], [], hp364)) rfl K) ?_
              have hn : m_st (m_T n hp0 w.toInt h.toInt) (x0.toInt, y0.toInt, 0) (i + 1) = (z365.toInt, z366.toInt, 1) := by
                show m_nx _ (m_st (m_T n hp0 w.toInt h.toInt) (x0.toInt, y0.toInt, 0) i) = _
                rw [hst]
                exact m_nx_l (show z365.toInt = x.toInt + m_dx 2 by show _ = _ + (-1 : Int); omega) (show z366.toInt = y.toInt + m_dy 2 by show _ = _ + (0 : Int); omega) hS367 hS372
              have hne : i + 1 ≠ K0 := by
                intro e
                rw [e, hK] at hn
                have n1 : x0.toInt = z365.toInt := congrArg (fun q : m_P => q.1) hn
                have n2 : y0.toInt = z366.toInt := congrArg (fun q : m_P => q.2.1) hn
                have n3 : (0 : Nat) = 1 := congrArg (fun q : m_P => q.2.2) hn
                omega
              exact ih (i + 1) 1 z366 z365 hp364 z363 hm364 H364 F364 L364 (by omega) (by omega) ⟨by omega, by decide⟩ hn
            · have h378' := h378
              have h378'' : Int32.toInt z366 = Int32.toInt y0 := congrArg Int32.toInt (Decidable.not_not.mp h378)
              refine px_gx (fun _ K => px_b2 false 205 rfl rfl (decide_eq_false h378) K) ?_
              show px_Gx _ _ (200, [(4, .int 1), (3, .int z366), (2, .int z365), (5, .int 1), (1, .int fi), (0, .ref (38 + n))], [], hp364) _
              refine px_gx (fun _ K => px_a 6 (f' := (59, [(5, .int 1), (4, .int 1), (3, .int z366), (2, .int z365), (1, .int fi), (0, .ref (38 + n))], [], hp364)) rfl K) ?_
              have hn : m_st (m_T n hp0 w.toInt h.toInt) (x0.toInt, y0.toInt, 0) (i + 1) = (z365.toInt, z366.toInt, 1) := by
                show m_nx _ (m_st (m_T n hp0 w.toInt h.toInt) (x0.toInt, y0.toInt, 0) i) = _
                rw [hst]
                exact m_nx_l (show z365.toInt = x.toInt + m_dx 2 by show _ = _ + (-1 : Int); omega) (show z366.toInt = y.toInt + m_dy 2 by show _ = _ + (0 : Int); omega) hS367 hS372
              have hne : i + 1 ≠ K0 := by
                intro e
                rw [e, hK] at hn
                have n1 : x0.toInt = z365.toInt := congrArg (fun q : m_P => q.1) hn
                have n2 : y0.toInt = z366.toInt := congrArg (fun q : m_P => q.2.1) hn
                have n3 : (0 : Nat) = 1 := congrArg (fun q : m_P => q.2.2) hn
                omega
              exact ih (i + 1) 1 z366 z365 hp364 z363 hm364 H364 F364 L364 (by omega) (by omega) ⟨by omega, by decide⟩ hn
    · change m_st (m_T n hp0 w.toInt h.toInt) (x0.toInt, y0.toInt, 0) i = (x.toInt, y.toInt, 3) at hst
      refine px_gx (fun _ K => px_a 3 (f' := (65, [(5, .int 1), (4, .int 3), (3, .int y), (2, .int x), (1, .int fi), (0, .ref (38 + n))], [.ref (38 + n)], hp)) rfl K) ?_
      refine px_gx (fun _ K => px_gf (38 + n) 39 4 16 (.ref (48 + n)) rfl rfl hm rfl K) ?_
      show px_Gx _ _ (68, [(5, .int 1), (4, .int 3), (3, .int y), (2, .int x), (1, .int fi), (0, .ref (38 + n))], [.ref (48 + n)], hp) _
      refine px_gx (fun _ K => px_a 1 (f' := (69, [(5, .int 1), (4, .int 3), (3, .int y), (2, .int x), (1, .int fi), (0, .ref (38 + n))], [.ref (38 + n), .ref (48 + n)], hp)) rfl K) ?_
      refine px_gx (fun _ K => px_gf (38 + n) 122 4 15 (.int le) rfl rfl hm rfl K) ?_
      show px_Gx _ _ (72, [(5, .int 1), (4, .int 3), (3, .int y), (2, .int x), (1, .int fi), (0, .ref (38 + n))], [.int le, .ref (48 + n)], hp) _
      refine px_gx (fun _ K => px_a 1 (f' := (74, [(5, .int 1), (4, .int 3), (3, .int y), (2, .int x), (1, .int fi), (0, .ref (38 + n))], [.int 3, .int le, .ref (48 + n)], hp)) rfl K) ?_
      obtain ⟨vs380, hv380, hl380, hg380⟩ := pa_ara (a := 48 + n) (i := 16) (lo := 0) (hi := 3) H (by omega) (by decide) (by decide) rfl
      have hi379 : le.toNatClampNeg < vs380.length := by show (Int32.toInt le).toNat < _; omega
      refine px_gx (fun _ K => px_ias (48 + n) rfl hv380 (by omega) (i32_nn (by omega)) hi379 K) ?_
      show px_Gx _ _ (75, [(5, .int 1), (4, .int 3), (3, .int y), (2, .int x), (1, .int fi), (0, .ref (38 + n))], [], hp.set (48 + n) (10, vs380.set le.toNatClampNeg (.int 3))) _
      have hm379 : (hp.set (48 + n) (10, vs380.set le.toNatClampNeg (.int 3)))[38 + n]? = some (4, (m_O n th w h pn pl fo le ru)) := px_ne hm (by omega)
      have H379 : pa_Hi n (hp.set (48 + n) (10, vs380.set le.toNatClampNeg (.int 3))) := pa_aS (i := 16) H (by omega) (by decide) (by decide) hv380 rfl (pa_in (by omega) (by omega))
      have F379 : pa_Fr n [(24, 15), (34, 0)] hp0 (hp.set (48 + n) (10, vs380.set le.toNatClampNeg (.int 3))) := F.trans (pa_aF (i := 16) (by omega) (by decide) (by decide) hv380 (by decide) (by decide))
      have L379 : (hp.set (48 + n) (10, vs380.set le.toNatClampNeg (.int 3))).length = hp0.length := List.length_set.trans L
      generalize hp.set (48 + n) (10, vs380.set le.toNatClampNeg (.int 3)) = hp379 at hm379 H379 F379 L379 ⊢
      refine px_gx (fun _ K => px_a 2 (f' := (77, [(5, .int 1), (4, .int 3), (3, .int y), (2, .int x), (1, .int fi), (0, .ref (38 + n))], [.ref (38 + n), .ref (38 + n)], hp379)) rfl K) ?_
      refine px_gx (fun _ K => px_gf (38 + n) 122 4 15 (.int le) rfl rfl hm379 rfl K) ?_
      show px_Gx _ _ (80, [(5, .int 1), (4, .int 3), (3, .int y), (2, .int x), (1, .int fi), (0, .ref (38 + n))], [.int le, .ref (38 + n)], hp379) _
      refine px_gx (fun _ K => px_a 2 (f' := (82, [(5, .int 1), (4, .int 3), (3, .int y), (2, .int x), (1, .int fi), (0, .ref (38 + n))], [.int (le + 1), .ref (38 + n)], hp379)) rfl K) ?_
      obtain ⟨z381, ez381, fz381⟩ : ∃ qz : Int32, qz = le + 1 ∧ qz.toInt = Int32.toInt le + Int32.toInt 1 := ⟨_, rfl, i32_add (by omega) (by omega)⟩
      rw [← ez381]
      refine px_gx (fun _ K => px_pf (38 + n) 122 4 15 rfl rfl hm379 (by omega) (Nat.le_of_ble_eq_true rfl) (rfl) rfl (by decide) K) ?_
      show px_Gx _ _ (85, [(5, .int 1), (4, .int 3), (3, .int y), (2, .int x), (1, .int fi), (0, .ref (38 + n))], [], hp379.set (38 + n) (4, (m_O n th w h pn pl fo z381 ru))) _
      have hm382 : (hp379.set (38 + n) (4, (m_O n th w h pn pl fo z381 ru)))[38 + n]? = some (4, (m_O n th w h pn pl fo z381 ru)) := px_self hm379
      have H382 : pa_Hi n (hp379.set (38 + n) (4, (m_O n th w h pn pl fo z381 ru))) := pa_ms (k := 15) (v := .int z381) H379 hm379 rfl (pa_in (by omega) (by omega))
      have F382 : pa_Fr n [(24, 15), (34, 0)] hp0 (hp379.set (38 + n) (4, (m_O n th w h pn pl fo z381 ru))) := F379.trans (pa_mf (k := 15) (v := .int z381) hm379 (by decide) (by decide))
      have L382 : (hp379.set (38 + n) (4, (m_O n th w h pn pl fo z381 ru))).length = hp0.length := List.length_set.trans L379
      generalize hp379.set (38 + n) (4, (m_O n th w h pn pl fo z381 ru)) = hp382 at hm382 H382 F382 L382 ⊢
      refine px_gx (fun _ K => px_a 8 (f' := (107, [(5, .int 1), (4, .int 3), (3, .int y), (2, .int x), (1, .int fi), (0, .ref (38 + n))], [.int (x + 0)], hp382)) rfl K) ?_
      obtain ⟨z383, ez383, fz383⟩ : ∃ qz : Int32, qz = x + 0 ∧ qz.toInt = Int32.toInt x + Int32.toInt 0 := ⟨_, rfl, i32_add (by omega) (by omega)⟩
      rw [← ez383]
      refine px_gx (fun _ K => px_a 11 (f' := (131, [(2, .int z383), (5, .int 1), (4, .int 3), (3, .int y), (1, .int fi), (0, .ref (38 + n))], [.int (y + (-1))], hp382)) rfl K) ?_
      obtain ⟨z384, ez384, fz384⟩ : ∃ qz : Int32, qz = y + (-1) ∧ qz.toInt = Int32.toInt y + Int32.toInt (-1) := ⟨_, rfl, i32_add (by omega) (by omega)⟩
      rw [← ez384]
      refine px_gx (fun _ K => px_a 9 (f' := (141, [(3, .int z384), (2, .int z383), (5, .int 1), (4, .int 3), (1, .int fi), (0, .ref (38 + n))], [.int 0, .int z384, .int z383, .ref (38 + n)], hp382)) rfl K) ?_
      rcases Bool.eq_false_or_eq_true (m_sd (m_T n hp0 w.toInt h.toInt) z383.toInt z384.toInt 0) with hS385 | hS385
      · obtain ⟨o386, hq386, g386, rfl, eh386⟩ := m_side_0 (d := d) hm382 H382 (b := true) (x := z383) (y := z384) (by omega) (by omega) (by omega) (by omega) (by rw [m_T_f H0 F382 (by decide)]; exact hS385)
        rw [eh386] at g386
        refine px_gx (fun _ K => px_cv (38 + n) (as := [.int z383, .int z384, .int 0]) (rest := []) rfl rfl hm382 rfl rfl rfl rfl (Nat.le_of_ble_eq_true rfl) g386 K) ?_
        show px_Gx _ _ (144, [(3, .int z384), (2, .int z383), (5, .int 1), (4, .int 3), (1, .int fi), (0, .ref (38 + n))], [.int 1], hp382) _
        refine px_gx (fun _ K => px_a 11 (f' := (183, [(4, .int 0), (3, .int z384), (2, .int z383), (5, .int 1), (1, .int fi), (0, .ref (38 + n))], [.ref (38 + n), .int fi, .int z383], hp382)) rfl K) ?_
        refine px_gx (fun _ K => px_gf (38 + n) 51 4 1 (.int w) rfl rfl hm382 rfl K) ?_
        show px_Gx _ _ (186, [(4, .int 0), (3, .int z384), (2, .int z383), (5, .int 1), (1, .int fi), (0, .ref (38 + n))], [.int w, .int fi, .int z383], hp382) _
        refine px_gx (fun _ K => px_irem rfl (pa_ne0 (by omega)) K) ?_
        show px_Gx _ _ (187, [(4, .int 0), (3, .int z384), (2, .int z383), (5, .int 1), (1, .int fi), (0, .ref (38 + n))], [.int (fi - fi / w * w), .int z383], hp382) _
        rw [← ex0]
        by_cases h387 : ¬ z383 = x0
        · have h387' := h387
          have h387'' : Int32.toInt z383 ≠ Int32.toInt x0 := fun z => h387 (Int32.toInt_inj.mp z)
          refine px_gx (fun _ K => px_b2 true 205 rfl rfl (decide_eq_true h387) K) ?_
          show px_Gx _ _ (205, [(4, .int 0), (3, .int z384), (2, .int z383), (5, .int 1), (1, .int fi), (0, .ref (38 + n))], [], hp382) _
          refine px_gx (fun _ K => px_a 4 (f' := (59, [(5, .int 1), (4, .int 0), (3, .int z384), (2, .int z383), (1, .int fi), (0, .ref (38 + n))], [], hp382)) rfl K) ?_
          have hn : m_st (m_T n hp0 w.toInt h.toInt) (x0.toInt, y0.toInt, 0) (i + 1) = (z383.toInt, z384.toInt, 0) := by
            show m_nx _ (m_st (m_T n hp0 w.toInt h.toInt) (x0.toInt, y0.toInt, 0) i) = _
            rw [hst]
            exact m_nx_r (show z383.toInt = x.toInt + m_dx 3 by show _ = _ + (0 : Int); omega) (show z384.toInt = y.toInt + m_dy 3 by show _ = _ + (-1 : Int); omega) hS385
          have hne : i + 1 ≠ K0 := by
            intro e
            rw [e, hK] at hn
            have n1 : x0.toInt = z383.toInt := congrArg (fun q : m_P => q.1) hn
            have n2 : y0.toInt = z384.toInt := congrArg (fun q : m_P => q.2.1) hn
            have n3 : (0 : Nat) = 0 := congrArg (fun q : m_P => q.2.2) hn
            omega
          exact ih (i + 1) 0 z384 z383 hp382 z381 hm382 H382 F382 L382 (by omega) (by omega) ⟨by omega, by decide⟩ hn
        · have h387' := h387
          have h387'' : Int32.toInt z383 = Int32.toInt x0 := congrArg Int32.toInt (Decidable.not_not.mp h387)
          refine px_gx (fun _ K => px_b2 false 205 rfl rfl (decide_eq_false h387) K) ?_
          show px_Gx _ _ (190, [(4, .int 0), (3, .int z384), (2, .int z383), (5, .int 1), (1, .int fi), (0, .ref (38 + n))], [], hp382) _
          refine px_gx (fun _ K => px_a 3 (f' := (193, [(4, .int 0), (3, .int z384), (2, .int z383), (5, .int 1), (1, .int fi), (0, .ref (38 + n))], [.ref (38 + n), .int fi, .int z384], hp382)) rfl K) ?_
          refine px_gx (fun _ K => px_gf (38 + n) 51 4 1 (.int w) rfl rfl hm382 rfl K) ?_
          show px_Gx _ _ (196, [(4, .int 0), (3, .int z384), (2, .int z383), (5, .int 1), (1, .int fi), (0, .ref (38 + n))], [.int w, .int fi, .int z384], hp382) _
          refine px_gx (fun _ K => px_idiv rfl (pa_ne0 (by omega)) K) ?_
          show px_Gx _ _ (197, [(4, .int 0), (3, .int z384), (2, .int z383), (5, .int 1), (1, .int fi), (0, .ref (38 + n))], [.int (fi / w), .int z384], hp382) _
          rw [← ey0]
          by_cases h388 : ¬ z384 = y0
          · have h388' := h388
            have h388'' : Int32.toInt z384 ≠ Int32.toInt y0 := fun z => h388 (Int32.toInt_inj.mp z)
            refine px_gx (fun _ K => px_b2 true 205 rfl rfl (decide_eq_true h388) K) ?_
            show px_Gx _ _ (205, [(4, .int 0), (3, .int z384), (2, .int z383), (5, .int 1), (1, .int fi), (0, .ref (38 + n))], [], hp382) _
            refine px_gx (fun _ K => px_a 4 (f' := (59, [(5, .int 1), (4, .int 0), (3, .int z384), (2, .int z383), (1, .int fi), (0, .ref (38 + n))], [], hp382)) rfl K) ?_
            have hn : m_st (m_T n hp0 w.toInt h.toInt) (x0.toInt, y0.toInt, 0) (i + 1) = (z383.toInt, z384.toInt, 0) := by
              show m_nx _ (m_st (m_T n hp0 w.toInt h.toInt) (x0.toInt, y0.toInt, 0) i) = _
              rw [hst]
              exact m_nx_r (show z383.toInt = x.toInt + m_dx 3 by show _ = _ + (0 : Int); omega) (show z384.toInt = y.toInt + m_dy 3 by show _ = _ + (-1 : Int); omega) hS385
            have hne : i + 1 ≠ K0 := by
              intro e
              rw [e, hK] at hn
              have n1 : x0.toInt = z383.toInt := congrArg (fun q : m_P => q.1) hn
              have n2 : y0.toInt = z384.toInt := congrArg (fun q : m_P => q.2.1) hn
              have n3 : (0 : Nat) = 0 := congrArg (fun q : m_P => q.2.2) hn
              omega
            exact ih (i + 1) 0 z384 z383 hp382 z381 hm382 H382 F382 L382 (by omega) (by omega) ⟨by omega, by decide⟩ hn
          · have h388' := h388
            have h388'' : Int32.toInt z384 = Int32.toInt y0 := congrArg Int32.toInt (Decidable.not_not.mp h388)
            refine px_gx (fun _ K => px_b2 false 205 rfl rfl (decide_eq_false h388) K) ?_
            show px_Gx _ _ (200, [(4, .int 0), (3, .int z384), (2, .int z383), (5, .int 1), (1, .int fi), (0, .ref (38 + n))], [], hp382) _
            refine px_gx (fun _ K => px_a 5 (f' := (59, [(5, .int 0), (4, .int 0), (3, .int z384), (2, .int z383), (1, .int fi), (0, .ref (38 + n))], [], hp382)) rfl K) ?_
            refine px_gx (fun _ K => px_a 2 (f' := (215, [(5, .int 0), (4, .int 0), (3, .int z384), (2, .int z383), (1, .int fi), (0, .ref (38 + n))], [], hp382)) rfl K) ?_
            exact ⟨_, _, px_e rfl rfl, H382, F382, Or.inl ⟨_, rfl, trivial, L382⟩⟩
      · obtain ⟨o389, hq389, g389, rfl, eh389⟩ := m_side_0 (d := d) hm382 H382 (b := false) (x := z383) (y := z384) (by omega) (by omega) (by omega) (by omega) (by rw [m_T_f H0 F382 (by decide)]; exact hS385)
        rw [eh389] at g389
        refine px_gx (fun _ K => px_cv (38 + n) (as := [.int z383, .int z384, .int 0]) (rest := []) rfl rfl hm382 rfl rfl rfl rfl (Nat.le_of_ble_eq_true rfl) g389 K) ?_
        show px_Gx _ _ (144, [(3, .int z384), (2, .int z383), (5, .int 1), (4, .int 3), (1, .int fi), (0, .ref (38 + n))], [.int 0], hp382) _
        refine px_gx (fun _ K => px_a 5 (f' := (161, [(3, .int z384), (2, .int z383), (5, .int 1), (4, .int 3), (1, .int fi), (0, .ref (38 + n))], [.int 3, .int z384, .int z383, .ref (38 + n)], hp382)) rfl K) ?_
        rcases Bool.eq_false_or_eq_true (m_sd (m_T n hp0 w.toInt h.toInt) z383.toInt z384.toInt 3) with hS390 | hS390
        · obtain ⟨o391, hq391, g391, rfl, eh391⟩ := m_side_3 (d := d) hm382 H382 (b := true) (x := z383) (y := z384) (by omega) (by omega) (by omega) (by omega) (by rw [m_T_f H0 F382 (by decide)]; exact hS390)
          rw [eh391] at g391
          refine px_gx (fun _ K => px_cv (38 + n) (as := [.int z383, .int z384, .int 3]) (rest := []) rfl rfl hm382 rfl rfl rfl rfl (Nat.le_of_ble_eq_true rfl) g391 K) ?_
          show px_Gx _ _ (164, [(3, .int z384), (2, .int z383), (5, .int 1), (4, .int 3), (1, .int fi), (0, .ref (38 + n))], [.int 1], hp382) _
          refine px_gx (fun _ K => px_a 7 (f' := (183, [(4, .int 3), (3, .int z384), (2, .int z383), (5, .int 1), (1, .int fi), (0, .ref (38 + n))], [.ref (38 + n), .int fi, .int z383], hp382)) rfl K) ?_
          refine px_gx (fun _ K => px_gf (38 + n) 51 4 1 (.int w) rfl rfl hm382 rfl K) ?_
          show px_Gx _ _ (186, [(4, .int 3), (3, .int z384), (2, .int z383), (5, .int 1), (1, .int fi), (0, .ref (38 + n))], [.int w, .int fi, .int z383], hp382) _
          refine px_gx (fun _ K => px_irem rfl (pa_ne0 (by omega)) K) ?_
          show px_Gx _ _ (187, [(4, .int 3), (3, .int z384), (2, .int z383), (5, .int 1), (1, .int fi), (0, .ref (38 + n))], [.int (fi - fi / w * w), .int z383], hp382) _
          rw [← ex0]
          by_cases h392 : ¬ z383 = x0
          · have h392' := h392
            have h392'' : Int32.toInt z383 ≠ Int32.toInt x0 := fun z => h392 (Int32.toInt_inj.mp z)
            refine px_gx (fun _ K => px_b2 true 205 rfl rfl (decide_eq_true h392) K) ?_
            show px_Gx _ _ (205, [(4, .int 3), (3, .int z384), (2, .int z383), (5, .int 1), (1, .int fi), (0, .ref (38 + n))], [], hp382) _
            refine px_gx (fun _ K => px_a 4 (f' := (59, [(5, .int 1), (4, .int 3), (3, .int z384), (2, .int z383), (1, .int fi), (0, .ref (38 + n))], [], hp382)) rfl K) ?_
            have hn : m_st (m_T n hp0 w.toInt h.toInt) (x0.toInt, y0.toInt, 0) (i + 1) = (z383.toInt, z384.toInt, 3) := by
              show m_nx _ (m_st (m_T n hp0 w.toInt h.toInt) (x0.toInt, y0.toInt, 0) i) = _
              rw [hst]
              exact m_nx_s (show z383.toInt = x.toInt + m_dx 3 by show _ = _ + (0 : Int); omega) (show z384.toInt = y.toInt + m_dy 3 by show _ = _ + (-1 : Int); omega) hS385 hS390
            have hne : i + 1 ≠ K0 := by
              intro e
              rw [e, hK] at hn
              have n1 : x0.toInt = z383.toInt := congrArg (fun q : m_P => q.1) hn
              have n2 : y0.toInt = z384.toInt := congrArg (fun q : m_P => q.2.1) hn
              have n3 : (0 : Nat) = 3 := congrArg (fun q : m_P => q.2.2) hn
              omega
            exact ih (i + 1) 3 z384 z383 hp382 z381 hm382 H382 F382 L382 (by omega) (by omega) ⟨by omega, by decide⟩ hn
          · have h392' := h392
            have h392'' : Int32.toInt z383 = Int32.toInt x0 := congrArg Int32.toInt (Decidable.not_not.mp h392)
            refine px_gx (fun _ K => px_b2 false 205 rfl rfl (decide_eq_false h392) K) ?_
            show px_Gx _ _ (190, [(4, .int 3), (3, .int z384), (2, .int z383), (5, .int 1), (1, .int fi), (0, .ref (38 + n))], [], hp382) _
            refine px_gx (fun _ K => px_a 3 (f' := (193, [(4, .int 3), (3, .int z384), (2, .int z383), (5, .int 1), (1, .int fi), (0, .ref (38 + n))], [.ref (38 + n), .int fi, .int z384], hp382)) rfl K) ?_
            refine px_gx (fun _ K => px_gf (38 + n) 51 4 1 (.int w) rfl rfl hm382 rfl K) ?_
            show px_Gx _ _ (196, [(4, .int 3), (3, .int z384), (2, .int z383), (5, .int 1), (1, .int fi), (0, .ref (38 + n))], [.int w, .int fi, .int z384], hp382) _
            refine px_gx (fun _ K => px_idiv rfl (pa_ne0 (by omega)) K) ?_
            show px_Gx _ _ (197, [(4, .int 3), (3, .int z384), (2, .int z383), (5, .int 1), (1, .int fi), (0, .ref (38 + n))], [.int (fi / w), .int z384], hp382) _
            rw [← ey0]
            by_cases h393 : ¬ z384 = y0
            · have h393' := h393
              have h393'' : Int32.toInt z384 ≠ Int32.toInt y0 := fun z => h393 (Int32.toInt_inj.mp z)
              refine px_gx (fun _ K => px_b2 true 205 rfl rfl (decide_eq_true h393) K) ?_
              show px_Gx _ _ (205, [(4, .int 3), (3, .int z384), (2, .int z383), (5, .int 1), (1, .int fi), (0, .ref (38 + n))], [], hp382) _
              refine px_gx (fun _ K => px_a 4 (f' := (59, [(5, .int 1), (4, .int 3), (3, .int z384), (2, .int z383), (1, .int fi), (0, .ref (38 + n))], [], hp382)) rfl K) ?_
              have hn : m_st (m_T n hp0 w.toInt h.toInt) (x0.toInt, y0.toInt, 0) (i + 1) = (z383.toInt, z384.toInt, 3) := by
                show m_nx _ (m_st (m_T n hp0 w.toInt h.toInt) (x0.toInt, y0.toInt, 0) i) = _
                rw [hst]
                exact m_nx_s (show z383.toInt = x.toInt + m_dx 3 by show _ = _ + (0 : Int); omega) (show z384.toInt = y.toInt + m_dy 3 by show _ = _ + (-1 : Int); omega) hS385 hS390
              have hne : i + 1 ≠ K0 := by
                intro e
                rw [e, hK] at hn
                have n1 : x0.toInt = z383.toInt := congrArg (fun q : m_P => q.1) hn
                have n2 : y0.toInt = z384.toInt := congrArg (fun q : m_P => q.2.1) hn
                have n3 : (0 : Nat) = 3 := congrArg (fun q : m_P => q.2.2) hn
                omega
              exact ih (i + 1) 3 z384 z383 hp382 z381 hm382 H382 F382 L382 (by omega) (by omega) ⟨by omega, by decide⟩ hn
            · have h393' := h393
              have h393'' : Int32.toInt z384 = Int32.toInt y0 := congrArg Int32.toInt (Decidable.not_not.mp h393)
              refine px_gx (fun _ K => px_b2 false 205 rfl rfl (decide_eq_false h393) K) ?_
              show px_Gx _ _ (200, [(4, .int 3), (3, .int z384), (2, .int z383), (5, .int 1), (1, .int fi), (0, .ref (38 + n))], [], hp382) _
              refine px_gx (fun _ K => px_a 6 (f' := (59, [(5, .int 1), (4, .int 3), (3, .int z384), (2, .int z383), (1, .int fi), (0, .ref (38 + n))], [], hp382)) rfl K) ?_
              have hn : m_st (m_T n hp0 w.toInt h.toInt) (x0.toInt, y0.toInt, 0) (i + 1) = (z383.toInt, z384.toInt, 3) := by
                show m_nx _ (m_st (m_T n hp0 w.toInt h.toInt) (x0.toInt, y0.toInt, 0) i) = _
                rw [hst]
                exact m_nx_s (show z383.toInt = x.toInt + m_dx 3 by show _ = _ + (0 : Int); omega) (show z384.toInt = y.toInt + m_dy 3 by show _ = _ + (-1 : Int); omega) hS385 hS390
              have hne : i + 1 ≠ K0 := by
                intro e
                rw [e, hK] at hn
                have n1 : x0.toInt = z383.toInt := congrArg (fun q : m_P => q.1) hn
                have n2 : y0.toInt = z384.toInt := congrArg (fun q : m_P => q.2.1) hn
                have n3 : (0 : Nat) = 3 := congrArg (fun q : m_P => q.2.2) hn
                omega
              exact ih (i + 1) 3 z384 z383 hp382 z381 hm382 H382 F382 L382 (by omega) (by omega) ⟨by omega, by decide⟩ hn
        · obtain ⟨o394, hq394, g394, rfl, eh394⟩ := m_side_3 (d := d) hm382 H382 (b := false) (x := z383) (y := z384) (by omega) (by omega) (by omega) (by omega) (by rw [m_T_f H0 F382 (by decide)]; exact hS390)
          rw [eh394] at g394
          refine px_gx (fun _ K => px_cv (38 + n) (as := [.int z383, .int z384, .int 3]) (rest := []) rfl rfl hm382 rfl rfl rfl rfl (Nat.le_of_ble_eq_true rfl) g394 K) ?_
          show px_Gx _ _ (164, [(3, .int z384), (2, .int z383), (5, .int 1), (4, .int 3), (1, .int fi), (0, .ref (38 + n))], [.int 0], hp382) _
          refine px_gx (fun _ K => px_a 10 (f' := (183, [(4, .int 2), (3, .int z384), (2, .int z383), (5, .int 1), (1, .int fi), (0, .ref (38 + n))], [.ref (38 + n), .int fi, .int z383], hp382)) rfl K) ?_
          refine px_gx (fun _ K => px_gf (38 + n) 51 4 1 (.int w) rfl rfl hm382 rfl K) ?_
          show px_Gx _ _ (186, [(4, .int 2), (3, .int z384), (2, .int z383), (5, .int 1), (1, .int fi), (0, .ref (38 + n))], [.int w, .int fi, .int z383], hp382) _
          refine px_gx (fun _ K => px_irem rfl (pa_ne0 (by omega)) K) ?_
          show px_Gx _ _ (187, [(4, .int 2), (3, .int z384), (2, .int z383), (5, .int 1), (1, .int fi), (0, .ref (38 + n))], [.int (fi - fi / w * w), .int z383], hp382) _
          rw [← ex0]
          by_cases h395 : ¬ z383 = x0
          · have h395' := h395
            have h395'' : Int32.toInt z383 ≠ Int32.toInt x0 := fun z => h395 (Int32.toInt_inj.mp z)
            refine px_gx (fun _ K => px_b2 true 205 rfl rfl (decide_eq_true h395) K) ?_
            show px_Gx _ _ (205, [(4, .int 2), (3, .int z384), (2, .int z383), (5, .int 1), (1, .int fi), (0, .ref (38 + n))], [], hp382) _
            refine px_gx (fun _ K => px_a 4 (f' := (59, [(5, .int 1), (4, .int 2), (3, .int z384), (2, .int z383), (1, .int fi), (0, .ref (38 + n))], [], hp382)) rfl K) ?_
            have hn : m_st (m_T n hp0 w.toInt h.toInt) (x0.toInt, y0.toInt, 0) (i + 1) = (z383.toInt, z384.toInt, 2) := by
              show m_nx _ (m_st (m_T n hp0 w.toInt h.toInt) (x0.toInt, y0.toInt, 0) i) = _
              rw [hst]
              exact m_nx_l (show z383.toInt = x.toInt + m_dx 3 by show _ = _ + (0 : Int); omega) (show z384.toInt = y.toInt + m_dy 3 by show _ = _ + (-1 : Int); omega) hS385 hS390
            have hne : i + 1 ≠ K0 := by
              intro e
              rw [e, hK] at hn
              have n1 : x0.toInt = z383.toInt := congrArg (fun q : m_P => q.1) hn
              have n2 : y0.toInt = z384.toInt := congrArg (fun q : m_P => q.2.1) hn
              have n3 : (0 : Nat) = 2 := congrArg (fun q : m_P => q.2.2) hn
              omega
            exact ih (i + 1) 2 z384 z383 hp382 z381 hm382 H382 F382 L382 (by omega) (by omega) ⟨by omega, by decide⟩ hn
          · have h395' := h395
            have h395'' : Int32.toInt z383 = Int32.toInt x0 := congrArg Int32.toInt (Decidable.not_not.mp h395)
            refine px_gx (fun _ K => px_b2 false 205 rfl rfl (decide_eq_false h395) K) ?_
            show px_Gx _ _ (190, [(4, .int 2), (3, .int z384), (2, .int z383), (5, .int 1), (1, .int fi), (0, .ref (38 + n))], [], hp382) _
            refine px_gx (fun _ K => px_a 3 (f' := (193, [(4, .int 2), (3, .int z384), (2, .int z383), (5, .int 1), (1, .int fi), (0, .ref (38 + n))], [.ref (38 + n), .int fi, .int z384], hp382)) rfl K) ?_
            refine px_gx (fun _ K => px_gf (38 + n) 51 4 1 (.int w) rfl rfl hm382 rfl K) ?_
            show px_Gx _ _ (196, [(4, .int 2), (3, .int z384), (2, .int z383), (5, .int 1), (1, .int fi), (0, .ref (38 + n))], [.int w, .int fi, .int z384], hp382) _
            refine px_gx (fun _ K => px_idiv rfl (pa_ne0 (by omega)) K) ?_
            show px_Gx _ _ (197, [(4, .int 2), (3, .int z384), (2, .int z383), (5, .int 1), (1, .int fi), (0, .ref (38 + n))], [.int (fi / w), .int z384], hp382) _
            rw [← ey0]
            by_cases h396 : ¬ z384 = y0
            · have h396' := h396
              have h396'' : Int32.toInt z384 ≠ Int32.toInt y0 := fun z => h396 (Int32.toInt_inj.mp z)
              refine px_gx (fun _ K => px_b2 true 205 rfl rfl (decide_eq_true h396) K) ?_
              show px_Gx _ _ (205, [(4, .int 2), (3, .int z384), (2, .int z383), (5, .int 1), (1, .int fi), (0, .ref (38 + n))], [], hp382) _
              refine px_gx (fun _ K => px_a 4 (f' := (59, [(5, .int 1), (4, .int 2), (3, .int z384), (2, .int z383), (1, .int fi), (0, .ref (38 + n))], [], hp382)) rfl K) ?_
              have hn : m_st (m_T n hp0 w.toInt h.toInt) (x0.toInt, y0.toInt, 0) (i + 1) = (z383.toInt, z384.toInt, 2) := by
                show m_nx _ (m_st (m_T n hp0 w.toInt h.toInt) (x0.toInt, y0.toInt, 0) i) = _
                rw [hst]
                exact m_nx_l (show z383.toInt = x.toInt + m_dx 3 by show _ = _ + (0 : Int); omega) (show z384.toInt = y.toInt + m_dy 3 by show _ = _ + (-1 : Int); omega) hS385 hS390
              have hne : i + 1 ≠ K0 := by
                intro e
                rw [e, hK] at hn
                have n1 : x0.toInt = z383.toInt := congrArg (fun q : m_P => q.1) hn
                have n2 : y0.toInt = z384.toInt := congrArg (fun q : m_P => q.2.1) hn
                have n3 : (0 : Nat) = 2 := congrArg (fun q : m_P => q.2.2) hn
                omega
              exact ih (i + 1) 2 z384 z383 hp382 z381 hm382 H382 F382 L382 (by omega) (by omega) ⟨by omega, by decide⟩ hn
            · have h396' := h396
              have h396'' : Int32.toInt z384 = Int32.toInt y0 := congrArg Int32.toInt (Decidable.not_not.mp h396)
              refine px_gx (fun _ K => px_b2 false 205 rfl rfl (decide_eq_false h396) K) ?_
              show px_Gx _ _ (200, [(4, .int 2), (3, .int z384), (2, .int z383), (5, .int 1), (1, .int fi), (0, .ref (38 + n))], [], hp382) _
              refine px_gx (fun _ K => px_a 6 (f' := (59, [(5, .int 1), (4, .int 2), (3, .int z384), (2, .int z383), (1, .int fi), (0, .ref (38 + n))], [], hp382)) rfl K) ?_
              have hn : m_st (m_T n hp0 w.toInt h.toInt) (x0.toInt, y0.toInt, 0) (i + 1) = (z383.toInt, z384.toInt, 2) := by
                show m_nx _ (m_st (m_T n hp0 w.toInt h.toInt) (x0.toInt, y0.toInt, 0) i) = _
                rw [hst]
                exact m_nx_l (show z383.toInt = x.toInt + m_dx 3 by show _ = _ + (0 : Int); omega) (show z384.toInt = y.toInt + m_dy 3 by show _ = _ + (-1 : Int); omega) hS385 hS390
              have hne : i + 1 ≠ K0 := by
                intro e
                rw [e, hK] at hn
                have n1 : x0.toInt = z383.toInt := congrArg (fun q : m_P => q.1) hn
                have n2 : y0.toInt = z384.toInt := congrArg (fun q : m_P => q.2.1) hn
                have n3 : (0 : Nat) = 2 := congrArg (fun q : m_P => q.2.2) hn
                omega
              exact ih (i + 1) 2 z384 z383 hp382 z381 hm382 H382 F382 L382 (by omega) (by omega) ⟨by omega, by decide⟩ hn
set_option maxRecDepth 20000 in
set_option maxHeartbeats 4000000 in
theorem m_walk_f {d n : Nat} {hp0 hp : px_H} {th w h pn pl fo ru : Int32} {cc : Int} (hcc : cc = w.toInt * h.toInt) (H0 : pa_Hi n hp0) (hm : hp[38 + n]? = some (4, m_O n th w h pn pl fo 0 ru)) (H : pa_Hi n hp) (F : pa_Fr n [(24, 15), (34, 0)] hp0 hp) (L : hp.length = hp0.length) : ∀ (k : Nat) (fi : Int32), (∀ vs, hp[39 + n]? = some (12, vs) → ∀ i, i < fi.toInt.toNat → vs[i]? = some (.int 0)) → fi.toInt + k = cc + 1 → 0 ≤ fi.toInt → fi.toInt ≤ cc → px_Gx (d + 3) 100 (7, [(1, .int fi), (0, .ref (38 + n))], [], hp) (pa_Po n ck_100 hp0) := by
  have cl0 : Int32.toInt 0 = 0 := rfl
  have cl1 : Int32.toInt 1 = 1 := rfl
  intro k
  induction k with
  | zero =>
    intro fi Z g1 g2 g3
    omega
  | succ k ih =>
    intro fi Z g1 g2 g3
    obtain ⟨bth1, bth2, bw1, bw2, bh1, bh2, bpn1, bpn2, bpl1, bpl2, bfo1, bfo2, ble1, ble2, bru1, bru2⟩ := pa_bnd H hm
    refine px_gx (fun _ K => px_a 2 (f' := (9, [(1, .int fi), (0, .ref (38 + n))], [.ref (38 + n), .int fi], hp)) rfl K) ?_
    refine px_gx (fun _ K => px_cv (38 + n) (as := []) (rest := [.int fi]) rfl rfl hm rfl rfl rfl rfl (Nat.le_of_ble_eq_true rfl) (p_cells hm) K) ?_
    show px_Gx _ _ (12, [(1, .int fi), (0, .ref (38 + n))], [.int (w * h), .int fi], hp) _
    obtain ⟨z397, ez397, fz397⟩ : ∃ qz : Int32, qz = w * h ∧ qz.toInt = w.toInt * h.toInt ∧ 1 ≤ qz.toInt ∧ qz.toInt ≤ 36 := ⟨_, rfl, m_mul6 (by omega) (by omega) (by omega) (by omega)⟩
    rw [← ez397]
    by_cases h398 : z397 ≤ fi
    · have h398' := h398
      rw [Int32.le_iff_toInt_le] at h398'
      refine px_gx (fun _ K => px_b2 true 30 rfl rfl (decide_eq_true h398) K) ?_
      show px_Gx _ _ (30, [(1, .int fi), (0, .ref (38 + n))], [], hp) _
      refine px_gx (fun _ K => px_a 2 (f' := (32, [(1, .int fi), (0, .ref (38 + n))], [.ref (38 + n), .int fi], hp)) rfl K) ?_
      refine px_gx (fun _ K => px_cv (38 + n) (as := []) (rest := [.int fi]) rfl rfl hm rfl rfl rfl rfl (Nat.le_of_ble_eq_true rfl) (p_cells hm) K) ?_
      show px_Gx _ _ (35, [(1, .int fi), (0, .ref (38 + n))], [.int (w * h), .int fi], hp) _
      rw [← ez397]
      by_cases h399 : ¬ fi = z397
      · have h399' := h399
        have h399'' : Int32.toInt fi ≠ Int32.toInt z397 := fun z => h399 (Int32.toInt_inj.mp z)
        refine px_gx (fun _ K => px_b2 true 39 rfl rfl (decide_eq_true h399) K) ?_
        show px_Gx _ _ (39, [(1, .int fi), (0, .ref (38 + n))], [], hp) _
        omega
      · have h399' := h399
        have h399'' : Int32.toInt fi = Int32.toInt z397 := congrArg Int32.toInt (Decidable.not_not.mp h399)
        refine px_gx (fun _ K => px_b2 false 39 rfl rfl (decide_eq_false h399) K) ?_
        show px_Gx _ _ (38, [(1, .int fi), (0, .ref (38 + n))], [], hp) _
        exact ⟨_, _, px_e rfl rfl, H, F, Or.inl ⟨_, rfl, trivial, L⟩⟩
    · have h398' := h398
      rw [Int32.le_iff_toInt_le] at h398'
      refine px_gx (fun _ K => px_b2 false 30 rfl rfl (decide_eq_false h398) K) ?_
      show px_Gx _ _ (15, [(1, .int fi), (0, .ref (38 + n))], [], hp) _
      refine px_gx (fun _ K => px_a 1 (f' := (16, [(1, .int fi), (0, .ref (38 + n))], [.ref (38 + n)], hp)) rfl K) ?_
      refine px_gx (fun _ K => px_gf (38 + n) 7 4 3 (.ref (39 + n)) rfl rfl hm rfl K) ?_
      show px_Gx _ _ (19, [(1, .int fi), (0, .ref (38 + n))], [.ref (39 + n)], hp) _
      refine px_gx (fun _ K => px_a 1 (f' := (20, [(1, .int fi), (0, .ref (38 + n))], [.int fi, .ref (39 + n)], hp)) rfl K) ?_
      obtain ⟨vs401, hv401, hl401, hg401⟩ := pa_ara (a := 39 + n) (i := 7) (lo := 0) (hi := 1) H (by omega) (by decide) (by decide) rfl
      have hi400 : fi.toNatClampNeg < vs401.length := by show (Int32.toInt fi).toNat < _; omega
      obtain ⟨z400, ez400, lz400, uz400⟩ := hg401 _ hi400
      refine px_gx (fun _ K => px_al (39 + n) (.int z400) rfl hv401 (Or.inr (Or.inr (Or.inl ⟨rfl, rfl⟩))) (i32_nn (by omega)) ez400 K) ?_
      show px_Gx _ _ (21, [(1, .int fi), (0, .ref (38 + n))], [.int z400], hp) _
      by_cases h402 : ¬ z400 = 0
      · have h402' := h402
        have h402'' : Int32.toInt z400 ≠ Int32.toInt 0 := fun z => h402 (Int32.toInt_inj.mp z)
        refine px_gx (fun _ K => px_b1 true 30 rfl rfl (decide_eq_true h402) K) ?_
        show px_Gx _ _ (30, [(1, .int fi), (0, .ref (38 + n))], [], hp) _
        refine px_gx (fun _ K => px_a 2 (f' := (32, [(1, .int fi), (0, .ref (38 + n))], [.ref (38 + n), .int fi], hp)) rfl K) ?_
        refine px_gx (fun _ K => px_cv (38 + n) (as := []) (rest := [.int fi]) rfl rfl hm rfl rfl rfl rfl (Nat.le_of_ble_eq_true rfl) (p_cells hm) K) ?_
        show px_Gx _ _ (35, [(1, .int fi), (0, .ref (38 + n))], [.int (w * h), .int fi], hp) _
        rw [← ez397]
        by_cases h403 : ¬ fi = z397
        · have h403' := h403
          have h403'' : Int32.toInt fi ≠ Int32.toInt z397 := fun z => h403 (Int32.toInt_inj.mp z)
          refine px_gx (fun _ K => px_b2 true 39 rfl rfl (decide_eq_true h403) K) ?_
          show px_Gx _ _ (39, [(1, .int fi), (0, .ref (38 + n))], [], hp) _
          obtain ⟨hT0, hT1⟩ := m_first (w := w.toInt) (h := h.toInt) (f := fi.toInt) (by omega) (by omega) (by omega) hv401 ez400 h402 (Z _ hv401)
          refine px_gx (fun _ K => px_a 2 (f' := (41, [(1, .int fi), (0, .ref (38 + n))], [.ref (38 + n), .int fi], hp)) rfl K) ?_
          refine px_gx (fun _ K => px_gf (38 + n) 51 4 1 (.int w) rfl rfl hm rfl K) ?_
          show px_Gx _ _ (44, [(1, .int fi), (0, .ref (38 + n))], [.int w, .int fi], hp) _
          refine px_gx (fun _ K => px_irem rfl (pa_ne0 (by omega)) K) ?_
          show px_Gx _ _ (45, [(1, .int fi), (0, .ref (38 + n))], [.int (fi - fi / w * w)], hp) _
          obtain ⟨z404, ez404, fz404⟩ : ∃ qz : Int32, qz = (fi - fi / w * w) ∧ qz.toInt = Int32.toInt fi % Int32.toInt w := ⟨_, rfl, i32_remE (by omega) (by omega)⟩
          rw [← ez404]
          refine px_gx (fun _ K => px_a 3 (f' := (48, [(2, .int z404), (1, .int fi), (0, .ref (38 + n))], [.ref (38 + n), .int fi], hp)) rfl K) ?_
          refine px_gx (fun _ K => px_gf (38 + n) 51 4 1 (.int w) rfl rfl hm rfl K) ?_
          show px_Gx _ _ (51, [(2, .int z404), (1, .int fi), (0, .ref (38 + n))], [.int w, .int fi], hp) _
          refine px_gx (fun _ K => px_idiv rfl (pa_ne0 (by omega)) K) ?_
          show px_Gx _ _ (52, [(2, .int z404), (1, .int fi), (0, .ref (38 + n))], [.int (fi / w)], hp) _
          obtain ⟨z405, ez405, fz405⟩ : ∃ qz : Int32, qz = (fi / w) ∧ qz.toInt = Int32.toInt fi / Int32.toInt w := ⟨_, rfl, i32_divE (by omega) (by omega)⟩
          rw [← ez405]
          refine px_gx (fun _ K => px_a 5 (f' := (59, [(5, .int 1), (4, .int 0), (3, .int z405), (2, .int z404), (1, .int fi), (0, .ref (38 + n))], [], hp)) rfl K) ?_
          have hTF : m_T n hp w.toInt h.toInt = (m_T n hp0 w.toInt h.toInt) := m_T_f H0 F (by decide) _ _
          rw [hTF, ← fz404, ← fz405] at hT0 hT1
          have hs0 : m_ok (m_T n hp0 w.toInt h.toInt) (z404.toInt, z405.toInt, 0) := by
            refine ⟨by show (0 : Nat) < 4; decide, ?_⟩
            show m_co _ _ _ _ 0 = true
            dsimp only
            rw [hT0, hT1]; rfl
          obtain ⟨K0, k1, k2, k3⟩ := m_ret (m_T6 bw2 bh2) hs0
          exact m_walk_l H0 ez404 ez405 hs0 k2 k3 K0 0 0 z405 z404 hp 0 hm H F L (by omega) k1 ⟨by omega, by decide⟩ rfl
        · have h403' := h403
          have h403'' : Int32.toInt fi = Int32.toInt z397 := congrArg Int32.toInt (Decidable.not_not.mp h403)
          refine px_gx (fun _ K => px_b2 false 39 rfl rfl (decide_eq_false h403) K) ?_
          show px_Gx _ _ (38, [(1, .int fi), (0, .ref (38 + n))], [], hp) _
          exact ⟨_, _, px_e rfl rfl, H, F, Or.inl ⟨_, rfl, trivial, L⟩⟩
      · have h402' := h402
        have h402'' : Int32.toInt z400 = Int32.toInt 0 := congrArg Int32.toInt (Decidable.not_not.mp h402)
        refine px_gx (fun _ K => px_b1 false 30 rfl rfl (decide_eq_false h402) K) ?_
        show px_Gx _ _ (24, [(1, .int fi), (0, .ref (38 + n))], [], hp) _
        refine px_gx (fun _ K => px_a 1 (f' := (27, [(1, .int (fi + 1)), (0, .ref (38 + n))], [], hp)) rfl K) ?_
        obtain ⟨z406, ez406, fz406⟩ : ∃ qz : Int32, qz = fi + 1 ∧ qz.toInt = Int32.toInt fi + Int32.toInt 1 := ⟨_, rfl, i32_add (by omega) (by omega)⟩
        rw [← ez406]
        refine px_gx (fun _ K => px_a 1 (f' := (7, [(1, .int z406), (0, .ref (38 + n))], [], hp)) rfl K) ?_
        have Z2 : ∀ vs, hp[39 + n]? = some (12, vs) → ∀ i, i < (z406).toInt.toNat → vs[i]? = some (.int 0) := by
          intro vs hv i hi
          by_cases e : i = fi.toInt.toNat
          · subst e; rw [hv] at hv401; cases hv401; rw [show fi.toInt.toNat = fi.toNatClampNeg from rfl, ez400, Decidable.not_not.mp h402]
          · exact Z vs hv i (by omega)
        exact ih z406 Z2 (by omega) (by omega) (by omega)
set_option maxRecDepth 20000 in
set_option maxHeartbeats 4000000 in
theorem m_walk {d n : Nat} {hp0 : px_H} {th w h pn pl fo le ru : Int32} (hm : hp0[38 + n]? = some (4, m_O n th w h pn pl fo le ru)) (H : pa_Hi n hp0) : px_Gx (d + 3) 100 (0, [(0, .ref (38 + n))], [], hp0) (pa_Po n ck_100 hp0) := by
  have cl0 : Int32.toInt 0 = 0 := rfl
  obtain ⟨bth1, bth2, bw1, bw2, bh1, bh2, bpn1, bpn2, bpl1, bpl2, bfo1, bfo2, ble1, ble2, bru1, bru2⟩ := pa_bnd H hm
  have F : pa_Fr n [(24, 15), (34, 0)] hp0 hp0 := pa_Fr.refl _
  have L : hp0.length = hp0.length := rfl
  refine px_gx (fun _ K => px_a 2 (f' := (2, [(0, .ref (38 + n))], [.int 0, .ref (38 + n)], hp0)) rfl K) ?_
  refine px_gx (fun _ K => px_pf (38 + n) 122 4 15 rfl rfl hm (by omega) (Nat.le_of_ble_eq_true rfl) (rfl) rfl (by decide) K) ?_
  show px_Gx _ _ (5, [(0, .ref (38 + n))], [], hp0.set (38 + n) (4, (m_O n th w h pn pl fo 0 ru))) _
  have hm407 : (hp0.set (38 + n) (4, (m_O n th w h pn pl fo 0 ru)))[38 + n]? = some (4, (m_O n th w h pn pl fo 0 ru)) := px_self hm
  have H407 : pa_Hi n (hp0.set (38 + n) (4, (m_O n th w h pn pl fo 0 ru))) := pa_ms (k := 15) (v := .int 0) H hm rfl (pa_in (by omega) (by omega))
  have F407 : pa_Fr n [(24, 15), (34, 0)] hp0 (hp0.set (38 + n) (4, (m_O n th w h pn pl fo 0 ru))) := F.trans (pa_mf (k := 15) (v := .int 0) hm (by decide) (by decide))
  have L407 : (hp0.set (38 + n) (4, (m_O n th w h pn pl fo 0 ru))).length = hp0.length := List.length_set.trans L
  generalize hp0.set (38 + n) (4, (m_O n th w h pn pl fo 0 ru)) = hp407 at hm407 H407 F407 L407 ⊢
  refine px_gx (fun _ K => px_a 2 (f' := (7, [(1, .int 0), (0, .ref (38 + n))], [], hp407)) rfl K) ?_
  have e1 := m_mul6 bw1 bw2 bh1 bh2
  exact m_walk_f (cc := w.toInt * h.toInt) rfl H hm407 H407 F407 L407 (w.toInt * h.toInt + 1).toNat 0 (fun _ _ i hi => absurd hi (Nat.not_lt_zero i)) (by omega) (by omega) (by omega)
theorem ct_100 {n : Nat} (hN : pa_N n) : pa_Ct pa_tb n 100 ck_100 4 := by
  intro as hp H ha
  obtain ⟨u0, us0, rfl, ⟨a, rfl, ha24, -⟩, ha1⟩ := pa_as1 ha
  obtain rfl := pa_g24 ha24
  obtain rfl := pa_as0 ha1
  obtain ⟨th, w, h, pn, pl, fo, le, ru, hm⟩ := pa_modO H
  obtain ⟨o, hp', hg, hP⟩ := m_walk (d := 1) hm H
  exact ⟨o, hp', hg, hP, Or.inl rfl⟩
