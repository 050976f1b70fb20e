set_option maxRecDepth 20000 in
set_option maxHeartbeats 4000000 in
theorem m_col_c8 {d n : Nat} {hp0 : px_H} {th w h pn pl fo le ru : Int32} {p : Int32} (hpr : m_pr p.toInt) (p1 : 2 ≤ p.toInt) (p2 : p.toInt ≤ 13) : ∀ (k : Nat) (c : Int32) hp (hm : hp[38 + n]? = some (4, m_O n th w h pn pl fo le ru)) (H : pa_Hi n hp) (F : pa_Fr n [(24, 0), (24, 8), (24, 13), (29, 0), (30, 0), (31, 0), (32, 0), (33, 0)] hp0 hp) (L : hp.length = hp0.length) (KQ : m_kq n p.toInt hp 36 37), c.toInt + k = 37 → 0 ≤ c.toInt → c.toInt ≤ 36 → px_Gx (d + 1) 73 (60, [(2, .int c), (0, .ref (38 + n)), (1, .int p)], [], hp) (fun o _ => o = .inl (some (.int 1))) := by
  have cl0 : Int32.toInt 0 = 0 := rfl
  have cl1 : Int32.toInt 1 = 1 := rfl
  have cl36 : Int32.toInt 36 = 36 := rfl
  have cl37 : Int32.toInt 37 = 37 := rfl
  intro k
  induction k with
  | zero =>
    intro c hp hm H F L KQ g1 g2 g3
    omega
  | succ k ih =>
    intro c hp hm H F L KQ g1 g2 g3
    obtain ⟨bth1, bth2, bw1, bw2, bh1, bh2, bpn1, bpn2, bpl1, bpl2, bfo1, bfo2, ble1, ble2, bru1, bru2⟩ := pa_bnd H hm
    refine px_gx (fun _ K9 => px_a 2 (f' := (63, [(2, .int c), (0, .ref (38 + n)), (1, .int p)], [.int 36, .int c], hp)) rfl K9) ?_
    by_cases h260 : (36 : Int32) ≤ c
    · have h260' := h260
      rw [Int32.le_iff_toInt_le] at h260'
      refine px_gx (fun _ K9 => px_b2 true 171 rfl rfl (decide_eq_true h260) K9) ?_
      show px_Gx _ _ (171, [(2, .int c), (0, .ref (38 + n)), (1, .int p)], [], hp) _
      refine px_gx (fun _ K9 => px_a 1 (f' := (172, [(2, .int c), (0, .ref (38 + n)), (1, .int p)], [.int 1], hp)) rfl K9) ?_
      exact ⟨_, _, px_ri rfl rfl rfl, rfl⟩
    · have h260' := h260
      rw [Int32.le_iff_toInt_le] at h260'
      refine px_gx (fun _ K9 => px_b2 false 171 rfl rfl (decide_eq_false h260) K9) ?_
      show px_Gx _ _ (66, [(2, .int c), (0, .ref (38 + n)), (1, .int p)], [], hp) _
      refine px_gx (fun _ K9 => px_a 1 (f' := (67, [(2, .int c), (0, .ref (38 + n)), (1, .int p)], [.ref (38 + n)], hp)) rfl K9) ?_
      refine px_gx (fun _ K9 => px_gf (38 + n) 36 4 14 (.ref (47 + n)) rfl rfl hm rfl K9) ?_
      show px_Gx _ _ (70, [(2, .int c), (0, .ref (38 + n)), (1, .int p)], [.ref (47 + n)], hp) _
      refine px_gx (fun _ K9 => px_a 2 (f' := (72, [(2, .int c), (0, .ref (38 + n)), (1, .int p)], [.int 0, .int c, .ref (47 + n)], hp)) rfl K9) ?_
      obtain ⟨vs262, hv262, hl262, hg262⟩ := pa_ara (a := 47 + n) (i := 15) (lo := -2147483648) (hi := 2147483647) H (by omega) (by decide) (by decide) rfl
      have hi261 : c.toNatClampNeg < vs262.length := by show (Int32.toInt c).toNat < _; omega
      refine px_gx (fun _ K9 => px_ias (47 + n) rfl hv262 (by omega) (i32_nn (by omega)) hi261 K9) ?_
      show px_Gx _ _ (73, [(2, .int c), (0, .ref (38 + n)), (1, .int p)], [], hp.set (47 + n) (10, vs262.set c.toNatClampNeg (.int 0))) _
      have hm261 : (hp.set (47 + n) (10, vs262.set c.toNatClampNeg (.int 0)))[38 + n]? = some (4, (m_O n th w h pn pl fo le ru)) := px_ne hm (by omega)
      have H261 : pa_Hi n (hp.set (47 + n) (10, vs262.set c.toNatClampNeg (.int 0))) := pa_aS (i := 15) H (by omega) (by decide) (by decide) hv262 rfl (pa_top_ok _)
      have F261 : pa_Fr n [(24, 0), (24, 8), (24, 13), (29, 0), (30, 0), (31, 0), (32, 0), (33, 0)] hp0 (hp.set (47 + n) (10, vs262.set c.toNatClampNeg (.int 0))) := F.trans (pa_aF (i := 15) (by omega) (by decide) (by decide) hv262 (by decide) (by decide))
      have L261 : (hp.set (47 + n) (10, vs262.set c.toNatClampNeg (.int 0))).length = hp0.length := List.length_set.trans L
      have K261 : m_kq n p.toInt (hp.set (47 + n) (10, vs262.set c.toNatClampNeg (.int 0))) 36 37 := m_kq_ne KQ (by omega) (by omega)
      generalize hp.set (47 + n) (10, vs262.set c.toNatClampNeg (.int 0)) = hp261 at hm261 H261 F261 L261 K261 ⊢
      refine px_gx (fun _ K9 => px_a 1 (f' := (74, [(2, .int c), (0, .ref (38 + n)), (1, .int p)], [.ref (38 + n)], hp261)) rfl K9) ?_
      refine px_gx (fun _ K9 => px_gf (38 + n) 27 4 10 (.ref (44 + n)) rfl rfl hm261 rfl K9) ?_
      show px_Gx _ _ (77, [(2, .int c), (0, .ref (38 + n)), (1, .int p)], [.ref (44 + n)], hp261) _
      refine px_gx (fun _ K9 => px_a 1 (f' := (78, [(2, .int c), (0, .ref (38 + n)), (1, .int p)], [.int c, .ref (44 + n)], hp261)) rfl K9) ?_
      obtain ⟨vs264, hv264, hl264, hg264⟩ := pa_ara (a := 44 + n) (i := 12) (lo := 0) (hi := 1) H261 (by omega) (by decide) (by decide) rfl
      have hi263 : c.toNatClampNeg < vs264.length := by show (Int32.toInt c).toNat < _; omega
      obtain ⟨z263, ez263, lz263, uz263⟩ := hg264 _ hi263
      refine px_gx (fun _ K9 => px_al (44 + n) (.int z263) rfl hv264 (Or.inr (Or.inr (Or.inl ⟨rfl, rfl⟩))) (i32_nn (by omega)) ez263 K9) ?_
      show px_Gx _ _ (79, [(2, .int c), (0, .ref (38 + n)), (1, .int p)], [.int z263], hp261) _
      by_cases h265 : ¬ z263 = 0
      · have h265' := h265
        have h265'' : Int32.toInt z263 ≠ Int32.toInt 0 := fun z => h265 (Int32.toInt_inj.mp z)
        refine px_gx (fun _ K9 => px_b1 true 85 rfl rfl (decide_eq_true h265) K9) ?_
        show px_Gx _ _ (85, [(2, .int c), (0, .ref (38 + n)), (1, .int p)], [], hp261) _
        have I0 : m_ik n hp261 c.toInt.toNat := m_ikI hv264 ez263 (by omega) (by omega) (by omega)
        refine px_gx (fun _ K9 => px_a 1 (f' := (86, [(2, .int c), (0, .ref (38 + n)), (1, .int p)], [.ref (38 + n)], hp261)) rfl K9) ?_
        refine px_gx (fun _ K9 => px_gf (38 + n) 30 4 11 (.ref (45 + n)) rfl rfl hm261 rfl K9) ?_
        show px_Gx _ _ (89, [(2, .int c), (0, .ref (38 + n)), (1, .int p)], [.ref (45 + n)], hp261) _
        refine px_gx (fun _ K9 => px_a 3 (f' := (93, [(2, .int c), (0, .ref (38 + n)), (1, .int p)], [.int (37 * c), .ref (45 + n)], hp261)) rfl K9) ?_
        obtain ⟨z266, ez266, fz266⟩ : ∃ qz : Int32, qz = 37 * c ∧ qz.toInt = 37 * Int32.toInt c := ⟨_, rfl, i32_mulL rfl (by omega) (by omega)⟩
        rw [← ez266]
        refine px_gx (fun _ K9 => px_a 2 (f' := (96, [(2, .int c), (0, .ref (38 + n)), (1, .int p)], [.int (z266 + 36), .ref (45 + n)], hp261)) rfl K9) ?_
        obtain ⟨z267, ez267, fz267⟩ : ∃ qz : Int32, qz = z266 + 36 ∧ qz.toInt = Int32.toInt z266 + Int32.toInt 36 := ⟨_, rfl, i32_add (by omega) (by omega)⟩
        rw [← ez267]
        obtain ⟨vs269, hv269, hl269, hg269⟩ := pa_ara (a := 45 + n) (i := 13) (lo := -2147483648) (hi := 2147483647) H261 (by omega) (by decide) (by decide) rfl
        have hi268 : z267.toNatClampNeg < vs269.length := by show (Int32.toInt z267).toNat < _; omega
        obtain ⟨z268, ez268, lz268, uz268⟩ := hg269 _ hi268
        refine px_gx (fun _ K9 => px_al (45 + n) (.int z268) rfl hv269 (Or.inl ⟨rfl, Or.inl rfl⟩) (i32_nn (by omega)) ez268 K9) ?_
        show px_Gx _ _ (97, [(2, .int c), (0, .ref (38 + n)), (1, .int p)], [.int z268], hp261) _
        refine px_gx (fun _ K9 => px_a 3 (f' := (101, [(4, .int 0), (3, .int z268), (2, .int c), (0, .ref (38 + n)), (1, .int p)], [], hp261)) rfl K9) ?_
        refine m_col_d hpr p1 p2 (by omega) (by omega) hm261 H261 (c.toInt.toNat + 1) 0 z268 (by omega) (by omega) (by omega) (fun re2 => ?_)
        refine px_gx (fun _ K9 => px_a 1 (f' := (141, [(3, .int re2), (2, .int c), (0, .ref (38 + n)), (1, .int p)], [.ref (38 + n)], hp261)) rfl K9) ?_
        refine px_gx (fun _ K9 => px_gf (38 + n) 36 4 14 (.ref (47 + n)) rfl rfl hm261 rfl K9) ?_
        show px_Gx _ _ (144, [(3, .int re2), (2, .int c), (0, .ref (38 + n)), (1, .int p)], [.ref (47 + n)], hp261) _
        refine px_gx (fun _ K9 => px_a 3 (f' := (147, [(3, .int re2), (2, .int c), (0, .ref (38 + n)), (1, .int p)], [.ref (38 + n), .int re2, .int c, .ref (47 + n)], hp261)) rfl K9) ?_
        refine px_gx (fun _ K9 => px_gf (38 + n) 30 4 11 (.ref (45 + n)) rfl rfl hm261 rfl K9) ?_
        show px_Gx _ _ (150, [(3, .int re2), (2, .int c), (0, .ref (38 + n)), (1, .int p)], [.ref (45 + n), .int re2, .int c, .ref (47 + n)], hp261) _
        refine px_gx (fun _ K9 => px_a 3 (f' := (154, [(3, .int re2), (2, .int c), (0, .ref (38 + n)), (1, .int p)], [.int (37 * c), .ref (45 + n), .int re2, .int c, .ref (47 + n)], hp261)) rfl K9) ?_
        rw [← ez266]
        refine px_gx (fun _ K9 => px_a 2 (f' := (156, [(3, .int re2), (2, .int c), (0, .ref (38 + n)), (1, .int p)], [.int (z266 + c), .ref (45 + n), .int re2, .int c, .ref (47 + n)], hp261)) rfl K9) ?_
        obtain ⟨z270, ez270, fz270⟩ : ∃ qz : Int32, qz = z266 + c ∧ qz.toInt = Int32.toInt z266 + Int32.toInt c := ⟨_, rfl, i32_add (by omega) (by omega)⟩
        rw [← ez270]
        have hi271 : z270.toNatClampNeg < vs269.length := by show (Int32.toInt z270).toNat < _; omega
        obtain ⟨z271, ez271, lz271, uz271⟩ := hg269 _ hi271
        refine px_gx (fun _ K9 => px_al (45 + n) (.int z271) rfl hv269 (Or.inl ⟨rfl, Or.inl rfl⟩) (i32_nn (by omega)) ez271 K9) ?_
        show px_Gx _ _ (157, [(3, .int re2), (2, .int c), (0, .ref (38 + n)), (1, .int p)], [.int z271, .int re2, .int c, .ref (47 + n)], hp261) _
        obtain ⟨klz271, kuz271, kdz271⟩ := m_kqL (k := c.toInt.toNat) (c := c.toInt.toNat) K261 hv264 I0 hv269 ez271 (by show (Int32.toInt z270).toNat = _; omega) (by omega) (by omega)
        refine px_gx (fun _ K9 => px_a 1 (f' := (158, [(3, .int re2), (2, .int c), (0, .ref (38 + n)), (1, .int p)], [.int p, .int z271, .int re2, .int c, .ref (47 + n)], hp261)) rfl K9) ?_
        obtain ⟨o272, hp272, g272, z272, rfl, eh272, l272, u272, -⟩ := m_inverse (d := d) (hp := hp261) (v := z271) hpr (by omega) (by omega)
        rw [eh272] at g272
        refine px_gx (fun _ K9 => px_cl (as := [.int z271, .int p]) (rest := [.int re2, .int c, .ref (47 + n)]) rfl rfl g272 K9) ?_
        show px_Gx _ _ (161, [(3, .int re2), (2, .int c), (0, .ref (38 + n)), (1, .int p)], [.int z272, .int re2, .int c, .ref (47 + n)], hp261) _
        refine px_gx (fun _ K9 => px_a 1 (f' := (162, [(3, .int re2), (2, .int c), (0, .ref (38 + n)), (1, .int p)], [.int (re2 * z272), .int c, .ref (47 + n)], hp261)) rfl K9) ?_
        obtain ⟨z273, ez273, fz273⟩ : ∃ qz : Int32, qz = re2 * z272 ∧ True := ⟨_, rfl, trivial⟩
        rw [← ez273]
        refine px_gx (fun _ K9 => px_a 1 (f' := (163, [(3, .int re2), (2, .int c), (0, .ref (38 + n)), (1, .int p)], [.int p, .int z273, .int c, .ref (47 + n)], hp261)) rfl K9) ?_
        refine px_gx (fun _ K9 => px_irem rfl (pa_ne0 (by omega)) K9) ?_
        show px_Gx _ _ (164, [(3, .int re2), (2, .int c), (0, .ref (38 + n)), (1, .int p)], [.int (z273 - z273 / p * p), .int c, .ref (47 + n)], hp261) _
        obtain ⟨z274, ez274, fz274⟩ : ∃ qz : Int32, qz = (z273 - z273 / p * p) ∧ True := ⟨_, rfl, trivial⟩
        rw [← ez274]
        obtain ⟨vs276, hv276, hl276, hg276⟩ := pa_ara (a := 47 + n) (i := 15) (lo := -2147483648) (hi := 2147483647) H261 (by omega) (by decide) (by decide) rfl
        have hi275 : c.toNatClampNeg < vs276.length := by show (Int32.toInt c).toNat < _; omega
        refine px_gx (fun _ K9 => px_ias (47 + n) rfl hv276 (by omega) (i32_nn (by omega)) hi275 K9) ?_
        show px_Gx _ _ (165, [(3, .int re2), (2, .int c), (0, .ref (38 + n)), (1, .int p)], [], hp261.set (47 + n) (10, vs276.set c.toNatClampNeg (.int z274))) _
        have hm275 : (hp261.set (47 + n) (10, vs276.set c.toNatClampNeg (.int z274)))[38 + n]? = some (4, (m_O n th w h pn pl fo le ru)) := px_ne hm261 (by omega)
        have H275 : pa_Hi n (hp261.set (47 + n) (10, vs276.set c.toNatClampNeg (.int z274))) := pa_aS (i := 15) H261 (by omega) (by decide) (by decide) hv276 rfl (pa_top_ok _)
        have F275 : pa_Fr n [(24, 0), (24, 8), (24, 13), (29, 0), (30, 0), (31, 0), (32, 0), (33, 0)] hp0 (hp261.set (47 + n) (10, vs276.set c.toNatClampNeg (.int z274))) := F261.trans (pa_aF (i := 15) (by omega) (by decide) (by decide) hv276 (by decide) (by decide))
        have L275 : (hp261.set (47 + n) (10, vs276.set c.toNatClampNeg (.int z274))).length = hp0.length := List.length_set.trans L261
        have K275 : m_kq n p.toInt (hp261.set (47 + n) (10, vs276.set c.toNatClampNeg (.int z274))) 36 37 := m_kq_ne K261 (by omega) (by omega)
        have hv264_275 : (hp261.set (47 + n) (10, vs276.set c.toNatClampNeg (.int z274)))[44 + n]? = some (12, vs264) := px_ne hv264 (by omega)
        have hv269_275 : (hp261.set (47 + n) (10, vs276.set c.toNatClampNeg (.int z274)))[45 + n]? = some (10, vs269) := px_ne hv269 (by omega)
        generalize hp261.set (47 + n) (10, vs276.set c.toNatClampNeg (.int z274)) = hp275 at hm275 H275 F275 L275 K275 hv264_275 hv269_275 ⊢
        refine px_gx (fun _ K9 => px_a 1 (f' := (168, [(2, .int (c + 1)), (3, .int re2), (0, .ref (38 + n)), (1, .int p)], [], hp275)) rfl K9) ?_
        obtain ⟨z277, ez277, fz277⟩ : ∃ qz : Int32, qz = c + 1 ∧ qz.toInt = Int32.toInt c + Int32.toInt 1 := ⟨_, rfl, i32_add (by omega) (by omega)⟩
        rw [← ez277]
        refine px_gx (fun _ K9 => px_a 1 (f' := (60, [(2, .int z277), (3, .int re2), (0, .ref (38 + n)), (1, .int p)], [], hp275)) rfl K9) ?_
        refine px_wk [(2, .int z277), (0, .ref (38 + n)), (1, .int p)] ⟨rfl, rfl, rfl, trivial⟩ ?_
        exact ih z277 hp275 hm275 H275 F275 L275 K275 (by omega) (by omega) (by omega)
      · have h265' := h265
        have h265'' : Int32.toInt z263 = Int32.toInt 0 := congrArg Int32.toInt (Decidable.not_not.mp h265)
        refine px_gx (fun _ K9 => px_b1 false 85 rfl rfl (decide_eq_false h265) K9) ?_
        show px_Gx _ _ (82, [(2, .int c), (0, .ref (38 + n)), (1, .int p)], [], hp261) _
        refine px_gx (fun _ K9 => px_a 2 (f' := (168, [(2, .int (c + 1)), (0, .ref (38 + n)), (1, .int p)], [], hp261)) rfl K9) ?_
        obtain ⟨z278, ez278, fz278⟩ : ∃ qz : Int32, qz = c + 1 ∧ qz.toInt = Int32.toInt c + Int32.toInt 1 := ⟨_, rfl, i32_add (by omega) (by omega)⟩
        rw [← ez278]
        refine px_gx (fun _ K9 => px_a 1 (f' := (60, [(2, .int z278), (0, .ref (38 + n)), (1, .int p)], [], hp261)) rfl K9) ?_
        exact ih z278 hp261 hm261 H261 F261 L261 K261 (by omega) (by omega) (by omega)
set_option maxRecDepth 20000 in
set_option maxHeartbeats 4000000 in
theorem m_col_b8 {d n : Nat} (hN : pa_N n) {hp0 hp : px_H} {th w h pn pl fo le ru : Int32} {p : Int32} (hpr : m_pr p.toInt) (p1 : 2 ≤ p.toInt) (p2 : p.toInt ≤ 13) (hm : hp[38 + n]? = some (4, m_O n th w h pn pl fo le ru)) (H : pa_Hi n hp) (F : pa_Fr n [(24, 0), (24, 8), (24, 13), (29, 0), (30, 0), (31, 0), (32, 0), (33, 0)] hp0 hp) (L : hp.length = hp0.length) {B : Prop} (EX : px_Gx (d + 5) 75 (0, [(0, .ref (38 + n)), (1, .int p)], [], hp) (fun o _ => (o = .inl (some (.int 1)) ∧ B) ∨ (o = .inl (some (.int 0)) ∧ ¬ B))) : px_Gx (d + 6) 73 (40, [(0, .ref (38 + n)), (1, .int p)], [], hp) (fun o _ => (o = .inl (some (.int 1)) ∧ B) ∨ (o = .inl (some (.int 0)) ∧ ¬ B)) := by
  have cl0 : Int32.toInt 0 = 0 := rfl
  obtain ⟨bth1, bth2, bw1, bw2, bh1, bh2, bpn1, bpn2, bpl1, bpl2, bfo1, bfo2, ble1, ble2, bru1, bru2⟩ := pa_bnd H hm
  refine px_gx (fun _ K9 => px_a 3 (f' := (43, [(0, .ref (38 + n)), (1, .int p)], [.int p, .ref (38 + n), .ref (38 + n)], hp)) rfl K9) ?_
  obtain ⟨o279, hp279, g279, ⟨H279, G279, E279⟩, K279⟩ := m_equ (d := d) hN (p := p) hpr hm H
  rcases E279 with ⟨v279, rfl, hv279, hl279⟩ | ⟨ht279, -⟩
  rotate_left
  · exact absurd ht279 (by decide)
  obtain ⟨z279, rfl, lz279, uz279⟩ := pa_gri (lo := 0) (hi := 1) hv279
  obtain ⟨oX, hpX, gX, cX⟩ := EX
  have eX := px_det g279 gX
  cases eX
  refine px_gx (fun _ K9 => px_cv (38 + n) (as := [.int p]) (rest := [.ref (38 + n)]) rfl rfl hm rfl rfl rfl rfl (Nat.le_of_ble_eq_true rfl) g279 K9) ?_
  show px_Gx _ _ (46, [(0, .ref (38 + n)), (1, .int p)], [.int z279, .ref (38 + n)], hp279) _
  have F279 : pa_Fr n [(24, 0), (24, 8), (24, 13), (29, 0), (30, 0), (31, 0), (32, 0), (33, 0)] hp0 hp279 := F.trans (G279.mono (by decide))
  have L279 : hp279.length = hp0.length := hl279.trans L
  obtain ⟨th279, w279, h279, pn279, pl279, fo279, le279, ru279, hm279, -, -, -, -, -, -, -, -, -, -, -, -, -, -, -, -⟩ := pa_mod H279
  obtain rfl : th = th279 := (pa_fk (k := 0) G279 hm hm279 (by decide) rfl rfl).symm
  obtain rfl : w = w279 := (pa_fk (k := 1) G279 hm hm279 (by decide) rfl rfl).symm
  obtain rfl : h = h279 := (pa_fk (k := 2) G279 hm hm279 (by decide) rfl rfl).symm
  obtain rfl : pn = pn279 := (pa_fk (k := 4) G279 hm hm279 (by decide) rfl rfl).symm
  obtain rfl : fo = fo279 := (pa_fk (k := 13) G279 hm hm279 (by decide) rfl rfl).symm
  obtain rfl : le = le279 := (pa_fk (k := 15) G279 hm hm279 (by decide) rfl rfl).symm
  obtain rfl : ru = ru279 := (pa_fk (k := 17) G279 hm hm279 (by decide) rfl rfl).symm
  change hp279[38 + n]? = some (4, (m_O n th w h pn pl279 fo le ru)) at hm279
  obtain ⟨lth279, uth279, lw279, uw279, lh279, uh279, lpn279, upn279, lpl279, upl279, lfo279, ufo279, lle279, ule279, lru279, uru279⟩ := pa_bnd H279 hm279
  refine px_gx (fun _ K9 => px_pf (38 + n) 72 4 13 rfl rfl hm279 (by omega) (Nat.le_of_ble_eq_true rfl) (pa_nb (by omega) (by omega)) (pa_fb (by omega) (by omega)) (by decide) K9) ?_
  show px_Gx _ _ (49, [(0, .ref (38 + n)), (1, .int p)], [], hp279.set (38 + n) (4, (m_O n th w h pn pl279 z279 le ru))) _
  have hm280 : (hp279.set (38 + n) (4, (m_O n th w h pn pl279 z279 le ru)))[38 + n]? = some (4, (m_O n th w h pn pl279 z279 le ru)) := px_self hm279
  have H280 : pa_Hi n (hp279.set (38 + n) (4, (m_O n th w h pn pl279 z279 le ru))) := pa_ms (k := 13) (v := .int z279) H279 hm279 rfl (pa_in (by omega) (by omega))
  have F280 : pa_Fr n [(24, 0), (24, 8), (24, 13), (29, 0), (30, 0), (31, 0), (32, 0), (33, 0)] hp0 (hp279.set (38 + n) (4, (m_O n th w h pn pl279 z279 le ru))) := F279.trans (pa_mf (k := 13) (v := .int z279) hm279 (by decide) (by decide))
  have L280 : (hp279.set (38 + n) (4, (m_O n th w h pn pl279 z279 le ru))).length = hp0.length := List.length_set.trans L279
  have K280 : m_kq n p.toInt (hp279.set (38 + n) (4, (m_O n th w h pn pl279 z279 le ru))) 36 37 := m_kq_ne K279 (by omega) (by omega)
  generalize hp279.set (38 + n) (4, (m_O n th w h pn pl279 z279 le ru)) = hp280 at hm280 H280 F280 L280 K280 ⊢
  refine px_gx (fun _ K9 => px_a 1 (f' := (50, [(0, .ref (38 + n)), (1, .int p)], [.ref (38 + n)], hp280)) rfl K9) ?_
  refine px_gx (fun _ K9 => px_gf (38 + n) 72 4 13 (.int z279) rfl rfl hm280 rfl K9) ?_
  show px_Gx _ _ (53, [(0, .ref (38 + n)), (1, .int p)], [.int z279], hp280) _
  by_cases h281 : ¬ z279 = 0
  · have h281' := h281
    have h281'' : Int32.toInt z279 ≠ Int32.toInt 0 := fun z => h281 (Int32.toInt_inj.mp z)
    refine px_gx (fun _ K9 => px_b1 true 58 rfl rfl (decide_eq_true h281) K9) ?_
    show px_Gx _ _ (58, [(0, .ref (38 + n)), (1, .int p)], [], hp280) _
    refine px_gx (fun _ K9 => px_a 2 (f' := (60, [(2, .int 0), (0, .ref (38 + n)), (1, .int p)], [], hp280)) rfl K9) ?_
    obtain ⟨o8, hp8, g8, e8⟩ := m_col_c8 (d := d + 5) hpr p1 p2 37 0 hp280 hm280 H280 F280 L280 K280 (by omega) (by omega) (by omega)
    refine ⟨o8, hp8, g8, Or.inl ⟨e8, ?_⟩⟩
    rcases cX with ⟨-, b⟩ | ⟨e, -⟩
    · exact b
    · cases e
      exact absurd rfl h281
  · have h281' := h281
    have h281'' : Int32.toInt z279 = Int32.toInt 0 := congrArg Int32.toInt (Decidable.not_not.mp h281)
    refine px_gx (fun _ K9 => px_b1 false 58 rfl rfl (decide_eq_false h281) K9) ?_
    show px_Gx _ _ (56, [(0, .ref (38 + n)), (1, .int p)], [], hp280) _
    refine px_gx (fun _ K9 => px_a 1 (f' := (57, [(0, .ref (38 + n)), (1, .int p)], [.int 0], hp280)) rfl K9) ?_
    refine ⟨_, _, px_ri rfl rfl rfl, Or.inr ⟨rfl, ?_⟩⟩
    rcases cX with ⟨e, -⟩ | ⟨-, b⟩
    · cases e
      exact absurd (by decide) h281
    · exact b
set_option maxRecDepth 20000 in
set_option maxHeartbeats 4000000 in
theorem m_colour8 {d n : Nat} (hN : pa_N n) {hp0 : px_H} {th w h pn pl fo le ru : Int32} {p : Int32} (hm : hp0[38 + n]? = some (4, m_O n th w h pn pl fo le ru)) (H : pa_Hi n hp0) {B : Prop} (EX : m_pr p.toInt → px_Gx (d + 5) 75 (0, [(0, .ref (38 + n)), (1, .int p)], [], (hp0.set (38 + n) (4, (m_O n 0 w h pn pl fo le ru)))) (fun o _ => (o = .inl (some (.int 1)) ∧ B) ∨ (o = .inl (some (.int 0)) ∧ ¬ B))) : px_Gx (d + 6) 73 (0, [(0, .ref (38 + n)), (1, .int p)], [], hp0) (fun o _ => (m_pr p.toInt ∧ ((o = .inl (some (.int 1)) ∧ B) ∨ (o = .inl (some (.int 0)) ∧ ¬ B))) ∨ (¬ m_pr p.toInt ∧ o = .inl (some (.int (-1))))) := by
  have clm1 : Int32.toInt (-1) = -1 := rfl
  have cl0 : Int32.toInt 0 = 0 := rfl
  have cl2 : Int32.toInt 2 = 2 := rfl
  have cl3 : Int32.toInt 3 = 3 := rfl
  have cl5 : Int32.toInt 5 = 5 := rfl
  have cl7 : Int32.toInt 7 = 7 := rfl
  have cl11 : Int32.toInt 11 = 11 := rfl
  have cl13 : Int32.toInt 13 = 13 := rfl
  obtain ⟨bth1, bth2, bw1, bw2, bh1, bh2, bpn1, bpn2, bpl1, bpl2, bfo1, bfo2, ble1, ble2, bru1, bru2⟩ := pa_bnd H hm
  have F : pa_Fr n [(24, 0), (24, 8), (24, 13), (29, 0), (30, 0), (31, 0), (32, 0), (33, 0)] hp0 hp0 := pa_Fr.refl _
  have L : hp0.length = hp0.length := rfl
  refine px_gx (fun _ K9 => px_a 2 (f' := (2, [(0, .ref (38 + n)), (1, .int p)], [.int 0, .ref (38 + n)], hp0)) rfl K9) ?_
  refine px_gx (fun _ K9 => px_pf (38 + n) 58 4 0 rfl rfl hm (by omega) (Nat.le_of_ble_eq_true rfl) (rfl) rfl (by decide) K9) ?_
  show px_Gx _ _ (5, [(0, .ref (38 + n)), (1, .int p)], [], hp0.set (38 + n) (4, (m_O n 0 w h pn pl fo le ru))) _
  have hm282 : (hp0.set (38 + n) (4, (m_O n 0 w h pn pl fo le ru)))[38 + n]? = some (4, (m_O n 0 w h pn pl fo le ru)) := px_self hm
  have H282 : pa_Hi n (hp0.set (38 + n) (4, (m_O n 0 w h pn pl fo le ru))) := pa_ms (k := 0) (v := .int 0) H hm rfl (pa_in (by omega) (by omega))
  have F282 : pa_Fr n [(24, 0), (24, 8), (24, 13), (29, 0), (30, 0), (31, 0), (32, 0), (33, 0)] hp0 (hp0.set (38 + n) (4, (m_O n 0 w h pn pl fo le ru))) := F.trans (pa_mf (k := 0) (v := .int 0) hm (by decide) (by decide))
  have L282 : (hp0.set (38 + n) (4, (m_O n 0 w h pn pl fo le ru))).length = hp0.length := List.length_set.trans L
  generalize hp0.set (38 + n) (4, (m_O n 0 w h pn pl fo le ru)) = hp282 at hm282 H282 F282 L282 EX ⊢
  refine px_gx (fun _ K9 => px_a 2 (f' := (7, [(0, .ref (38 + n)), (1, .int p)], [.int 2, .int p], hp282)) rfl K9) ?_
  by_cases h283 : p = 2
  · have h283' := h283
    replace h283' := congrArg Int32.toInt h283
    refine px_gx (fun _ K9 => px_b2 true 40 rfl rfl (decide_eq_true h283) K9) ?_
    show px_Gx _ _ (40, [(0, .ref (38 + n)), (1, .int p)], [], hp282) _
    have hpr8 : m_pr p.toInt := by unfold m_pr; omega
    obtain ⟨o8, hp8, g8, e8⟩ := m_col_b8 hN hpr8 (by omega) (by omega) hm282 H282 F282 L282 (EX hpr8)
    exact ⟨o8, hp8, g8, Or.inl ⟨hpr8, e8⟩⟩
  · have h283' := h283
    have h283'' : Int32.toInt p ≠ Int32.toInt 2 := fun z => h283 (Int32.toInt_inj.mp z)
    refine px_gx (fun _ K9 => px_b2 false 40 rfl rfl (decide_eq_false h283) K9) ?_
    show px_Gx _ _ (10, [(0, .ref (38 + n)), (1, .int p)], [], hp282) _
    refine px_gx (fun _ K9 => px_a 2 (f' := (12, [(0, .ref (38 + n)), (1, .int p)], [.int 3, .int p], hp282)) rfl K9) ?_
    by_cases h284 : p = 3
    · have h284' := h284
      replace h284' := congrArg Int32.toInt h284
      refine px_gx (fun _ K9 => px_b2 true 40 rfl rfl (decide_eq_true h284) K9) ?_
      show px_Gx _ _ (40, [(0, .ref (38 + n)), (1, .int p)], [], hp282) _
      have hpr8 : m_pr p.toInt := by unfold m_pr; omega
      obtain ⟨o8, hp8, g8, e8⟩ := m_col_b8 hN hpr8 (by omega) (by omega) hm282 H282 F282 L282 (EX hpr8)
      exact ⟨o8, hp8, g8, Or.inl ⟨hpr8, e8⟩⟩
    · have h284' := h284
      have h284'' : Int32.toInt p ≠ Int32.toInt 3 := fun z => h284 (Int32.toInt_inj.mp z)
      refine px_gx (fun _ K9 => px_b2 false 40 rfl rfl (decide_eq_false h284) K9) ?_
      show px_Gx _ _ (15, [(0, .ref (38 + n)), (1, .int p)], [], hp282) _
      refine px_gx (fun _ K9 => px_a 2 (f' := (17, [(0, .ref (38 + n)), (1, .int p)], [.int 5, .int p], hp282)) rfl K9) ?_
      by_cases h285 : p = 5
      · have h285' := h285
        replace h285' := congrArg Int32.toInt h285
        refine px_gx (fun _ K9 => px_b2 true 40 rfl rfl (decide_eq_true h285) K9) ?_
        show px_Gx _ _ (40, [(0, .ref (38 + n)), (1, .int p)], [], hp282) _
        have hpr8 : m_pr p.toInt := by unfold m_pr; omega
        obtain ⟨o8, hp8, g8, e8⟩ := m_col_b8 hN hpr8 (by omega) (by omega) hm282 H282 F282 L282 (EX hpr8)
        exact ⟨o8, hp8, g8, Or.inl ⟨hpr8, e8⟩⟩
      · have h285' := h285
        have h285'' : Int32.toInt p ≠ Int32.toInt 5 := fun z => h285 (Int32.toInt_inj.mp z)
        refine px_gx (fun _ K9 => px_b2 false 40 rfl rfl (decide_eq_false h285) K9) ?_
        show px_Gx _ _ (20, [(0, .ref (38 + n)), (1, .int p)], [], hp282) _
        refine px_gx (fun _ K9 => px_a 2 (f' := (23, [(0, .ref (38 + n)), (1, .int p)], [.int 7, .int p], hp282)) rfl K9) ?_
        by_cases h286 : p = 7
        · have h286' := h286
          replace h286' := congrArg Int32.toInt h286
          refine px_gx (fun _ K9 => px_b2 true 40 rfl rfl (decide_eq_true h286) K9) ?_
          show px_Gx _ _ (40, [(0, .ref (38 + n)), (1, .int p)], [], hp282) _
          have hpr8 : m_pr p.toInt := by unfold m_pr; omega
          obtain ⟨o8, hp8, g8, e8⟩ := m_col_b8 hN hpr8 (by omega) (by omega) hm282 H282 F282 L282 (EX hpr8)
          exact ⟨o8, hp8, g8, Or.inl ⟨hpr8, e8⟩⟩
        · have h286' := h286
          have h286'' : Int32.toInt p ≠ Int32.toInt 7 := fun z => h286 (Int32.toInt_inj.mp z)
          refine px_gx (fun _ K9 => px_b2 false 40 rfl rfl (decide_eq_false h286) K9) ?_
          show px_Gx _ _ (26, [(0, .ref (38 + n)), (1, .int p)], [], hp282) _
          refine px_gx (fun _ K9 => px_a 2 (f' := (29, [(0, .ref (38 + n)), (1, .int p)], [.int 11, .int p], hp282)) rfl K9) ?_
          by_cases h287 : p = 11
          · have h287' := h287
            replace h287' := congrArg Int32.toInt h287
            refine px_gx (fun _ K9 => px_b2 true 40 rfl rfl (decide_eq_true h287) K9) ?_
            show px_Gx _ _ (40, [(0, .ref (38 + n)), (1, .int p)], [], hp282) _
            have hpr8 : m_pr p.toInt := by unfold m_pr; omega
            obtain ⟨o8, hp8, g8, e8⟩ := m_col_b8 hN hpr8 (by omega) (by omega) hm282 H282 F282 L282 (EX hpr8)
            exact ⟨o8, hp8, g8, Or.inl ⟨hpr8, e8⟩⟩
          · have h287' := h287
            have h287'' : Int32.toInt p ≠ Int32.toInt 11 := fun z => h287 (Int32.toInt_inj.mp z)
            refine px_gx (fun _ K9 => px_b2 false 40 rfl rfl (decide_eq_false h287) K9) ?_
            show px_Gx _ _ (32, [(0, .ref (38 + n)), (1, .int p)], [], hp282) _
            refine px_gx (fun _ K9 => px_a 2 (f' := (35, [(0, .ref (38 + n)), (1, .int p)], [.int 13, .int p], hp282)) rfl K9) ?_
            by_cases h288 : p = 13
            · have h288' := h288
              replace h288' := congrArg Int32.toInt h288
              refine px_gx (fun _ K9 => px_b2 true 40 rfl rfl (decide_eq_true h288) K9) ?_
              show px_Gx _ _ (40, [(0, .ref (38 + n)), (1, .int p)], [], hp282) _
              have hpr8 : m_pr p.toInt := by unfold m_pr; omega
              obtain ⟨o8, hp8, g8, e8⟩ := m_col_b8 hN hpr8 (by omega) (by omega) hm282 H282 F282 L282 (EX hpr8)
              exact ⟨o8, hp8, g8, Or.inl ⟨hpr8, e8⟩⟩
            · have h288' := h288
              have h288'' : Int32.toInt p ≠ Int32.toInt 13 := fun z => h288 (Int32.toInt_inj.mp z)
              refine px_gx (fun _ K9 => px_b2 false 40 rfl rfl (decide_eq_false h288) K9) ?_
              show px_Gx _ _ (38, [(0, .ref (38 + n)), (1, .int p)], [], hp282) _
              refine px_gx (fun _ K9 => px_a 1 (f' := (39, [(0, .ref (38 + n)), (1, .int p)], [.int (-1)], hp282)) rfl K9) ?_
              exact ⟨_, _, px_ri rfl rfl rfl, Or.inr ⟨by unfold m_pr; omega, rfl⟩⟩
theorem m_colX {d n W V pc m : Nat} (hN : pa_N n) {th w h fo le ru : Int32} {sh : Int64} {vsu vsz vsq : List Value} {lq : Nat → List Nat} (pm : m = 2 ∨ m = 3 ∨ m = 5 ∨ m = 7 ∨ m = 11 ∨ m = 13) (hW : W ≤ 6) (hV : V ≤ 6) (hnn : n = W * V) (ew2 : w = nI W) (eh2 : h = nI V) (pc6 : pc ≤ 6) (q1 : ∀ c, c < n → vsu[c]? = some (.int (if x_bt sh c = true then 1 else 0))) (q3 : ∀ c, x_bt sh c = true → c < n) (hsq : ∀ k, k < pc → vsz[k]? = some (.int (nI (lq k).length)) ∧ (lq k).length ≤ 6 ∧ ∀ (j q : Nat), (lq k)[j]? = some q → vsq[6 * k + j]? = some (.int (nI q)) ∧ q < 16) {hp : px_H} {pl : Int32} (H : pa_Hi n hp) (hm : hp[38 + n]? = some (4, m_O n th w h (nI pc) pl fo le ru)) (hvu0 : hp[39 + n]? = some (12, vsu)) (hvz0 : hp[40 + n]? = some (10, vsz)) (hvq0 : hp[41 + n]? = some (10, vsq)) : px_Gx (d + 6) 73 (0, [(0, .ref (38 + n)), (1, .int (nI m))], [], hp) (fun o _ => (o = .inl (some (.int 1)) ∧ (∃ w, (∀ q, q < pc → ∀ S, m_D W V sh (lq q) 8 (-3) (-3) S → e_S m 36 (fun d => (g_bt (lN S) d : Int)) 0 w) ∧ e_S m 36 (fun d => (g_bt sh d : Int)) 1 w)) ∨ (o = .inl (some (.int 0)) ∧ ¬ (∃ w, (∀ q, q < pc → ∀ S, m_D W V sh (lq q) 8 (-3) (-3) S → e_S m 36 (fun d => (g_bt (lN S) d : Int)) 0 w) ∧ e_S m 36 (fun d => (g_bt sh d : Int)) 1 w))) := by
  have m14 := g_pm pm
  have em : (nI m).toInt = m := nI_toInt (by omega)
  have hm0 : (hp.set (38 + n) (4, m_O n 0 w h (nI pc) pl fo le ru))[38 + n]? = some (4, m_O n 0 w h (nI pc) pl fo le ru) := px_self hm
  have Hs : pa_Hi n (hp.set (38 + n) (4, m_O n 0 w h (nI pc) pl fo le ru)) := pa_ms (k := 0) (v := .int 0) H hm rfl (pa_in (by decide) (by decide))
  obtain ⟨o, hp', g, e⟩ := m_colour8 (d := d) hN (p := nI m) hm H (fun _ => m_eqX (d := d) hN pm hW hV hnn ew2 eh2 pc6 q1 q3 hsq Hs hm0 (px_ne hvu0 (by omega)) (px_ne hvz0 (by omega)) (px_ne hvq0 (by omega)))
  exact ⟨o, hp', g, (e.resolve_right (fun z => z.1 (by rw [em]; unfold m_pr; omega))).2⟩
theorem m_colN {d n : Nat} (hN : pa_N n) {hp : px_H} {th w h pn pl fo le ru : Int32} {mm : Int32} (hm : hp[38 + n]? = some (4, m_O n th w h pn pl fo le ru)) (H : pa_Hi n hp) (hq : ¬ (mm = 2 ∨ mm = 3 ∨ mm = 5 ∨ mm = 7 ∨ mm = 11 ∨ mm = 13)) : px_Gx (d + 6) 73 (0, [(0, .ref (38 + n)), (1, .int mm)], [], hp) (fun o _ => o = .inl (some (.int (-1)))) := by
  have hp8 : ¬ m_pr mm.toInt := fun z => hq (by
    have hi : ∀ k : Int32, mm.toInt = k.toInt → mm = k := fun k => Int32.toInt_inj.mp
    unfold m_pr at z
    rcases z with z | z | z | z | z | z
    · exact Or.inl (hi 2 z)
    · exact Or.inr (Or.inl (hi 3 z))
    · exact Or.inr (Or.inr (Or.inl (hi 5 z)))
    · exact Or.inr (Or.inr (Or.inr (Or.inl (hi 7 z))))
    · exact Or.inr (Or.inr (Or.inr (Or.inr (Or.inl (hi 11 z)))))
    · exact Or.inr (Or.inr (Or.inr (Or.inr (Or.inr (hi 13 z))))))
  obtain ⟨o, hp', g, e⟩ := m_colour8 (d := d) hN (p := mm) hm H (B := True) (fun z => absurd z hp8)
  exact ⟨o, hp', g, (e.resolve_left (fun z => hp8 z.1)).2⟩
theorem pl_DM {W V N : Nat} {sh : Int64} {l wl : List Nat} (hW : W ≤ 6) (hV : V ≤ 6) (hN : N < 65536) (hwl : (N = 0 ∧ wl = []) ∨ (N ≠ 0 ∧ wl = f_ws N 8)) (hl : ∀ q, q ∈ l ↔ N.testBit q = true) (l16 : ∀ q, q ∈ l → q < 16) (S : Nat) : pl_D W V wl sh S ↔ m_D W V sh l 8 (-3) (-3) S := by
  rcases hwl with ⟨rfl, rfl⟩ | ⟨h0, rfl⟩
  · have ln : l = [] := by
      cases l with
      | nil => rfl
      | cons a r =>
        have := (hl a).mp List.mem_cons_self
        rw [Nat.zero_testBit] at this
        cases this
    subst ln
    constructor
    · rintro ⟨P, hP, -⟩
      exact absurd hP List.not_mem_nil
    · rintro ⟨tu, dy, dx, -, -, -, -, -, -, hS, -, hbt⟩
      refine absurd ?_ hS
      apply Nat.eq_of_testBit_eq
      intro t
      rw [Nat.zero_testBit]
      cases e : S.testBit t
      · rfl
      · obtain ⟨j, q, z, -⟩ := (hbt t).mp e
        rw [List.getElem?_nil] at z
        cases z
  · have hne := f_some hN h0
    rw [← pl_MD hW hV hN hne hl l16, ← pl_eq hN hne hW hV]
    constructor
    · rintro ⟨P, hP, x, y, z⟩
      obtain ⟨k, hk, rfl⟩ := (f_ws_mem 8).mp hP
      exact ⟨k, x, y, hk, z⟩
    · rintro ⟨k, x, y, hk, z⟩
      exact ⟨f_w k N, (f_ws_mem 8).mpr ⟨k, hk, rfl⟩, x, y, z⟩
theorem e_d_x {x w : Nat → Int} {n : Nat} (h : ∀ d, n ≤ d → x d = 0) : ∀ k, e_d x w (n + k) = e_d x w n
  | 0 => rfl
  | k + 1 => by
    show e_d x w (n + k) + x (n + k) * w (n + k) = _
    rw [e_d_x h k, h _ (by omega), Int.zero_mul, Int.add_zero]
theorem e_S_x {x w : Nat → Int} {m b : Int} {n : Nat} (n36 : n ≤ 36) (h : ∀ d, n ≤ d → x d = 0) : e_S m n x b w ↔ e_S m 36 x b w := by
  have e := e_d_x (w := w) h (36 - n)
  rw [show n + (36 - n) = 36 by omega] at e
  unfold e_S
  rw [e]
theorem g_bt0 {n : Nat} {sh : Int64} (q3 : ∀ c, x_bt sh c = true → c < n) : ∀ d, n ≤ d → (g_bt sh d : Int) = 0 := fun d hd => by
  unfold g_bt
  rw [if_neg (fun z => by have := q3 d z; omega)]
  rfl
theorem s_same {n m W V pc : Nat} {sh : Int64} {Nq : Nat → Nat} {lq : Nat → List Nat} (n36 : n ≤ 36) (hW : W ≤ 6) (hV : V ≤ 6) (q3 : ∀ c, x_bt sh c = true → c < n) (hNq6 : ∀ q, q < pc → Nq q < 65536) (hlq : ∀ q, q < pc → (∀ x, x ∈ lq q ↔ (Nq q).testBit x = true) ∧ ∀ x, x ∈ lq q → x < 16) : (∃ w, (∀ q, q < pc → ∀ S, pl_D W V (f_wl (Nq q)) sh S → e_S m n (fun d => (g_bt (lN S) d : Int)) 0 w) ∧ e_S m n (fun d => (g_bt sh d : Int)) 1 w) ↔ (∃ w, (∀ q, q < pc → ∀ S, m_D W V sh (lq q) 8 (-3) (-3) S → e_S m 36 (fun d => (g_bt (lN S) d : Int)) 0 w) ∧ e_S m 36 (fun d => (g_bt sh d : Int)) 1 w) := by
  have hs : ∀ {w b}, e_S m n (fun d => (g_bt sh d : Int)) b w ↔ e_S m 36 (fun d => (g_bt sh d : Int)) b w := e_S_x n36 (g_bt0 q3)
  have hp : ∀ {q S w}, q < pc → pl_D W V (f_wl (Nq q)) sh S → (e_S m n (fun d => (g_bt (lN S) d : Int)) 0 w ↔ e_S m 36 (fun d => (g_bt (lN S) d : Int)) 0 w) := fun {q S w} hq hS => by
    refine e_S_x n36 (g_bt0 (fun c hc => ?_))
    obtain ⟨P, -, x, y, -, -, -, hsub⟩ := hS
    have hS36 : S < 2 ^ 36 := Nat.lt_pow_two_of_testBit S (fun i hi => by
      cases e : S.testBit i
      · rfl
      · have := q3 i (hsub i e)
        omega)
    rw [p_bt hS36] at hc
    exact q3 c (hsub c hc)
  have hD : ∀ {q S}, q < pc → (pl_D W V (f_wl (Nq q)) sh S ↔ m_D W V sh (lq q) 8 (-3) (-3) S) := fun {q S} hq => pl_DM hW hV (hNq6 q hq) (f_wl_c _) (hlq q hq).1 (hlq q hq).2 S
  constructor
  · rintro ⟨w, h1, h2⟩
    exact ⟨w, fun q hq S hS => (hp hq ((hD hq).mpr hS)).mp (h1 q hq S ((hD hq).mpr hS)), hs.mp h2⟩
  · rintro ⟨w, h1, h2⟩
    exact ⟨w, fun q hq S hS => (hp hq hS).mpr (h1 q hq S ((hD hq).mp hS)), hs.mpr h2⟩
def z_nv : Option Value → Nat
  | some (.int x) => x.toBitVec.toNat
  | _ => 0
theorem z_nvE {N : Nat} (h : N < 65536) : z_nv (some (.int (nI N))) = N := pk_tn (by omega)
theorem q_lq {zs us : List Value} {hp : px_H} {pc : Nat} (Q : ∀ k, k < 6 → q_P zs us (pa_fd hp (10 + 3 * k) 4) k ∧ (pc ≤ k → zs[k]? = some (.int 0))) : (∀ k, k < 6 → pa_fd hp (10 + 3 * k) 4 = some (.int (nI (z_nv (pa_fd hp (10 + 3 * k) 4)))) ∧ z_nv (pa_fd hp (10 + 3 * k) 4) < 65536) ∧ ∃ lq : Nat → List Nat, ∀ k, k < 6 → zs[k]? = some (.int (nI (lq k).length)) ∧ (lq k).length ≤ 6 ∧ (∀ (j q : Nat), (lq k)[j]? = some q → us[6 * k + j]? = some (.int (nI q)) ∧ q < 16) ∧ (∀ q, q ∈ lq k ↔ (z_nv (pa_fd hp (10 + 3 * k) 4)).testBit q = true) ∧ ∀ q, q ∈ lq k → q < 16 := by
  have e : ∀ k, k < 6 → ∃ N, N < 65536 ∧ pa_fd hp (10 + 3 * k) 4 = some (.int (nI N)) := fun k hk => by
    obtain ⟨N, l, c1, c2, -⟩ := (Q k hk).1
    exact ⟨N, c1, c2⟩
  refine ⟨fun k hk => ?_, ?_⟩
  · obtain ⟨N, c1, c2⟩ := e k hk
    rw [c2, z_nvE c1]
    exact ⟨rfl, c1⟩
  · have h : ∀ k, ∃ l : List Nat, k < 6 → zs[k]? = some (.int (nI l.length)) ∧ l.length ≤ 6 ∧ (∀ (j q : Nat), l[j]? = some q → us[6 * k + j]? = some (.int (nI q)) ∧ q < 16) ∧ (∀ q, q ∈ l ↔ (z_nv (pa_fd hp (10 + 3 * k) 4)).testBit q = true) ∧ ∀ q, q ∈ l → q < 16 := fun k => by
      by_cases hk : k < 6
      · obtain ⟨N, c1, c2⟩ := e k hk
        have Qk := (Q k hk).1
        rw [c2] at Qk
        obtain ⟨l, a3, a4, a5, a6, a7, a8⟩ := q_get c1 Qk
        refine ⟨l, fun _ => ⟨a3, a4, fun j q hq => ⟨a7 j q hq, a8 q (List.mem_of_getElem? hq)⟩, ?_, a8⟩⟩
        rw [c2, z_nvE c1]
        exact a6
      · exact ⟨[], fun z => absurd z hk⟩
    exact Classical.axiomOfChoice h
def r_eq (n : Nat) (hp : px_H) : Prop := hp[(31 : Nat)]? = some (14, g_refs n) ∧ pa_fd hp 30 3 = some (.ref (33 + n))
theorem r_eq_fr {n : Nat} {M : pa_M} {hp hp1 : px_H} (H : pa_Hi n hp) (G : pa_Fr n M hp hp1) (h1 : (M.all (fun q => q.1 != 16)) = true) (h2 : ¬ (15, 3) ∈ M) (R : r_eq n hp) : r_eq n hp1 := ⟨l_fo G R.1 (r := 16) rfl h1, (l_fd H G (r := 15) rfl (by decide) (by decide) h2).trans R.2⟩
theorem r_rg17 {n c : Nat} (hc : c < n) : pa_rg n (32 + c) = 17 := by
  unfold pa_rg
  repeat (split <;> try omega)
theorem r_rg17b {n : Nat} : pa_rg n (33 + n) = 17 := by
  unfold pa_rg
  repeat (split <;> try omega)
theorem r_eq_P {n : Nat} {hp : px_H} (hN : pa_N n) (H : pa_Hi n hp) (R : r_eq n hp) : g_P n hp := by
  have n36 : n ≤ 36 := hN.2
  obtain ⟨h31, f3⟩ := R
  obtain ⟨vs, h1, h2⟩ := pa_Hi_get H (a := 30) (r := 15) rfl (by decide)
  obtain ⟨v0, vs0, rfl, ⟨x, rfl, gx, gx'⟩, q0⟩ := pa_as1 h2
  obtain ⟨v1, vs1, rfl, ⟨b1, rfl, g1, -⟩, q1⟩ := pa_as1 q0
  obtain ⟨v2, vs2, rfl, ⟨b2, rfl, g2, -⟩, q2⟩ := pa_as1 q1
  obtain ⟨v3, vs3, rfl, ⟨b3, rfl, g3, -⟩, q3⟩ := pa_as1 q2
  obtain ⟨v4, vs4, rfl, ⟨mv, rfl, g4, -⟩, q4⟩ := pa_as1 q3
  obtain rfl := pa_as0 q4
  rw [pa_fd_get h1] at f3
  have e3 : b3 = 33 + n := by
    have f4 : some (Value.ref b3) = some (Value.ref (33 + n)) := f3
    injection f4 with f4
    injection f4
  have e1 : b1 = 31 := by unfold pa_rg at g1; repeat (split at g1 <;> try omega)
  have e2 : b2 = 32 + n := by have := pa_rgm (i := 0) g2 (by decide); omega
  have ev1 : pa_ev n (0, 1) = n := by
    simp only [pa_ev]
    omega
  have ev2 : pa_ev n (1, 1) = 1 + n := by
    simp only [pa_ev]
    omega
  have ex : x = nI n := by
    apply Int32.toInt_inj.mp
    rw [nI_toInt (by omega)]
    have a1 : pa_ev n (0, 1) ≤ x.toInt := gx
    have a2 : x.toInt ≤ pa_ev n (0, 1) := gx'
    omega
  subst e1 e2 e3 ex
  refine ⟨⟨mv, h1⟩, h31, ?_, fun c hc => ?_, ?_⟩
  · obtain ⟨lv, k1, k2, -⟩ := pa_Hi_get H (a := 32 + n) (r := 18) (rr 0 (by decide) (by decide) (by omega)) (by decide)
    have k3 : (lv.length : Int) = pa_ev n (0, 1) := k2
    exact ⟨lv, k1, by omega⟩
  · obtain ⟨lv, k1, k2, -⟩ := pa_Hi_get H (a := 32 + c) (r := 17) (r_rg17 hc) (by decide)
    have k3 : (lv.length : Int) = pa_ev n (1, 1) := k2
    exact ⟨lv, k1, by omega⟩
  · obtain ⟨lv, k1, k2, -⟩ := pa_Hi_get H (a := 33 + n) (r := 17) r_rg17b (by decide)
    have k3 : (lv.length : Int) = pa_ev n (1, 1) := k2
    exact ⟨lv, k1, by omega⟩
theorem c_ans {z : Int32} {o : px_O} {hp hp' : px_H} {B : Prop} (ex : ((.inl (some (.int z)) : px_O), hp) = (o, hp')) (e : (o = .inl (some (.int 1)) ∧ B) ∨ (o = .inl (some (.int 0)) ∧ ¬ B)) : (B → z = 1) ∧ (¬ B → z = 0) := by
  cases ex
  rcases e with ⟨e, b⟩ | ⟨e, b⟩
  · cases e
    exact ⟨fun _ => rfl, fun c => absurd b c⟩
  · cases e
    exact ⟨fun c => absurd c b, fun _ => rfl⟩
theorem c_ansz {z z' : Int32} {B B' : Prop} (h : B ↔ B') (a : (B → z = 1) ∧ (¬ B → z = 0)) (b : (B' → z' = 1) ∧ (¬ B' → z' = 0)) : z = z' := by
  by_cases q : B
  · rw [a.1 q, b.1 (h.mp q)]
  · rw [a.2 q, b.2 (fun c => q (h.mpr c))]
theorem c_ansN {z : Int32} {o : px_O} {hp hp' : px_H} (ex : ((.inl (some (.int z)) : px_O), hp) = (o, hp')) (e : o = .inl (some (.int (-1)))) : z = -1 := by
  cases ex
  cases e
  rfl
