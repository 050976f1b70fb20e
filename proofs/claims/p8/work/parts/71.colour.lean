theorem pa_fb {x : Int32} (h1 : 0 ≤ x.toInt) (h2 : x.toInt ≤ 1) : fits (px_ft 4 13) (.int x) = true := by
  rcases pa_01 h1 h2 with rfl | rfl <;> rfl
def ck_73 : pa_K := ([pa_rf 24, pa_top], some (pa_top), false, [(24, 0), (24, 8), (24, 13), (29, 0), (30, 0), (31, 0), (32, 0), (33, 0)])
set_option maxRecDepth 20000 in
set_option maxHeartbeats 4000000 in
theorem m_col_d {d n : Nat} {hp : px_H} {th w h pn pl fo le ru : Int32} {p c : Int32} {P : px_O → px_H → Prop} (hpr : m_pr p.toInt) (p1 : 2 ≤ p.toInt) (p2 : p.toInt ≤ 13) (c1 : 0 ≤ c.toInt) (c2 : c.toInt ≤ 35) (hm : hp[38 + n]? = some (4, m_O n th w h pn pl fo le ru)) (H : pa_Hi n hp) : ∀ (k : Nat) (i re : Int32), i.toInt + k = c.toInt + 1 → 0 ≤ i.toInt → i.toInt ≤ c.toInt → (∀ re : Int32, px_Gx d 73 (140, [(3, .int re), (2, .int c), (0, .ref (38 + n)), (1, .int p)], [], hp) P) → px_Gx d 73 (101, [(4, .int i), (3, .int re), (2, .int c), (0, .ref (38 + n)), (1, .int p)], [], hp) P := by
  have cl0 : Int32.toInt 0 = 0 := rfl
  have cl1 : Int32.toInt 1 = 1 := rfl
  have cl37 : Int32.toInt 37 = 37 := rfl
  intro k
  induction k with
  | zero =>
    intro i re g1 g2 g3 K
    omega
  | succ k ih =>
    intro i re g1 g2 g3 K
    obtain ⟨bth1, bth2, bw1, bw2, bh1, bh2, bpn1, bpn2, bpl1, bpl2, bfo1, bfo2, ble1, ble2, bru1, bru2⟩ := pa_bnd H hm
    refine px_gx (fun _ K => px_a 2 (f' := (104, [(4, .int i), (3, .int re), (2, .int c), (0, .ref (38 + n)), (1, .int p)], [.int c, .int i], hp)) rfl K) ?_
    by_cases h248 : c ≤ i
    · have h248' := h248
      rw [Int32.le_iff_toInt_le] at h248'
      refine px_gx (fun _ K => px_b2 true 140 rfl rfl (decide_eq_true h248) K) ?_
      show px_Gx _ _ (140, [(4, .int i), (3, .int re), (2, .int c), (0, .ref (38 + n)), (1, .int p)], [], hp) _
      refine px_wk [(3, .int re), (2, .int c), (0, .ref (38 + n)), (1, .int p)] ⟨rfl, rfl, rfl, rfl, trivial⟩ ?_
      exact K re
    · have h248' := h248
      rw [Int32.le_iff_toInt_le] at h248'
      refine px_gx (fun _ K => px_b2 false 140 rfl rfl (decide_eq_false h248) K) ?_
      show px_Gx _ _ (107, [(4, .int i), (3, .int re), (2, .int c), (0, .ref (38 + n)), (1, .int p)], [], hp) _
      refine px_gx (fun _ K => px_a 3 (f' := (110, [(4, .int i), (3, .int re), (2, .int c), (0, .ref (38 + n)), (1, .int p)], [.ref (38 + n), .int p, .int re], hp)) rfl K) ?_
      refine px_gx (fun _ K => px_gf (38 + n) 30 4 11 (.ref (45 + n)) rfl rfl hm rfl K) ?_
      show px_Gx _ _ (113, [(4, .int i), (3, .int re), (2, .int c), (0, .ref (38 + n)), (1, .int p)], [.ref (45 + n), .int p, .int re], hp) _
      refine px_gx (fun _ K => px_a 3 (f' := (117, [(4, .int i), (3, .int re), (2, .int c), (0, .ref (38 + n)), (1, .int p)], [.int (37 * c), .ref (45 + n), .int p, .int re], hp)) rfl K) ?_
      obtain ⟨z249, ez249, fz249⟩ : ∃ qz : Int32, qz = 37 * c ∧ qz.toInt = 37 * Int32.toInt c := ⟨_, rfl, i32_mulL rfl (by omega) (by omega)⟩
      rw [← ez249]
      refine px_gx (fun _ K => px_a 2 (f' := (120, [(4, .int i), (3, .int re), (2, .int c), (0, .ref (38 + n)), (1, .int p)], [.int (z249 + i), .ref (45 + n), .int p, .int re], hp)) rfl K) ?_
      obtain ⟨z250, ez250, fz250⟩ : ∃ qz : Int32, qz = z249 + i ∧ qz.toInt = Int32.toInt z249 + Int32.toInt i := ⟨_, rfl, i32_add (by omega) (by omega)⟩
      rw [← ez250]
      obtain ⟨vs252, hv252, hl252, hg252⟩ := pa_ara (a := 45 + n) (i := 13) (lo := -2147483648) (hi := 2147483647) H (by omega) (by decide) (by decide) rfl
      have hi251 : z250.toNatClampNeg < vs252.length := by show (Int32.toInt z250).toNat < _; omega
      obtain ⟨z251, ez251, lz251, uz251⟩ := hg252 _ hi251
      refine px_gx (fun _ K => px_al (45 + n) (.int z251) rfl hv252 (Or.inl ⟨rfl, Or.inl rfl⟩) (i32_nn (by omega)) ez251 K) ?_
      show px_Gx _ _ (121, [(4, .int i), (3, .int re), (2, .int c), (0, .ref (38 + n)), (1, .int p)], [.int z251, .int p, .int re], hp) _
      refine px_gx (fun _ K => px_a 1 (f' := (122, [(4, .int i), (3, .int re), (2, .int c), (0, .ref (38 + n)), (1, .int p)], [.int (p - z251), .int re], hp)) rfl K) ?_
      obtain ⟨z253, ez253, fz253⟩ : ∃ qz : Int32, qz = p - z251 ∧ True := ⟨_, rfl, trivial⟩
      rw [← ez253]
      refine px_gx (fun _ K => px_a 1 (f' := (123, [(4, .int i), (3, .int re), (2, .int c), (0, .ref (38 + n)), (1, .int p)], [.ref (38 + n), .int z253, .int re], hp)) rfl K) ?_
      refine px_gx (fun _ K => px_gf (38 + n) 36 4 14 (.ref (47 + n)) rfl rfl hm rfl K) ?_
      show px_Gx _ _ (126, [(4, .int i), (3, .int re), (2, .int c), (0, .ref (38 + n)), (1, .int p)], [.ref (47 + n), .int z253, .int re], hp) _
      refine px_gx (fun _ K => px_a 1 (f' := (128, [(4, .int i), (3, .int re), (2, .int c), (0, .ref (38 + n)), (1, .int p)], [.int i, .ref (47 + n), .int z253, .int re], hp)) rfl K) ?_
      obtain ⟨vs255, hv255, hl255, hg255⟩ := pa_ara (a := 47 + n) (i := 15) (lo := -2147483648) (hi := 2147483647) H (by omega) (by decide) (by decide) rfl
      have hi254 : i.toNatClampNeg < vs255.length := by show (Int32.toInt i).toNat < _; omega
      obtain ⟨z254, ez254, lz254, uz254⟩ := hg255 _ hi254
      refine px_gx (fun _ K => px_al (47 + n) (.int z254) rfl hv255 (Or.inl ⟨rfl, Or.inl rfl⟩) (i32_nn (by omega)) ez254 K) ?_
      show px_Gx _ _ (129, [(4, .int i), (3, .int re), (2, .int c), (0, .ref (38 + n)), (1, .int p)], [.int z254, .int z253, .int re], hp) _
      refine px_gx (fun _ K => px_a 1 (f' := (130, [(4, .int i), (3, .int re), (2, .int c), (0, .ref (38 + n)), (1, .int p)], [.int (z253 * z254), .int re], hp)) rfl K) ?_
      obtain ⟨z256, ez256, fz256⟩ : ∃ qz : Int32, qz = z253 * z254 ∧ True := ⟨_, rfl, trivial⟩
      rw [← ez256]
      refine px_gx (fun _ K => px_a 1 (f' := (131, [(4, .int i), (3, .int re), (2, .int c), (0, .ref (38 + n)), (1, .int p)], [.int (re + z256)], hp)) rfl K) ?_
      obtain ⟨z257, ez257, fz257⟩ : ∃ qz : Int32, qz = re + z256 ∧ True := ⟨_, rfl, trivial⟩
      rw [← ez257]
      refine px_gx (fun _ K => px_a 1 (f' := (132, [(4, .int i), (3, .int re), (2, .int c), (0, .ref (38 + n)), (1, .int p)], [.int p, .int z257], hp)) rfl K) ?_
      refine px_gx (fun _ K => px_irem rfl (pa_ne0 (by omega)) K) ?_
      show px_Gx _ _ (133, [(4, .int i), (3, .int re), (2, .int c), (0, .ref (38 + n)), (1, .int p)], [.int (z257 - z257 / p * p)], hp) _
      obtain ⟨z258, ez258, fz258⟩ : ∃ qz : Int32, qz = (z257 - z257 / p * p) ∧ True := ⟨_, rfl, trivial⟩
      rw [← ez258]
      refine px_gx (fun _ K => px_a 2 (f' := (137, [(4, .int (i + 1)), (3, .int z258), (2, .int c), (0, .ref (38 + n)), (1, .int p)], [], hp)) rfl K) ?_
      obtain ⟨z259, ez259, fz259⟩ : ∃ qz : Int32, qz = i + 1 ∧ qz.toInt = Int32.toInt i + Int32.toInt 1 := ⟨_, rfl, i32_add (by omega) (by omega)⟩
      rw [← ez259]
      refine px_gx (fun _ K => px_a 1 (f' := (101, [(4, .int z259), (3, .int z258), (2, .int c), (0, .ref (38 + n)), (1, .int p)], [], hp)) rfl K) ?_
      exact ih z259 z258 (by omega) (by omega) (by omega) K
set_option maxRecDepth 20000 in
set_option maxHeartbeats 4000000 in
theorem m_col_c {d n : Nat} {hp0 : px_H} {th w h pn pl fo le ru : Int32} {p : Int32} (hpr : m_pr p.toInt) (p1 : 2 ≤ p.toInt) (p2 : p.toInt ≤ 13) : ∀ (k : Nat) (c : Int32) hp (hm : hp[38 + n]? = some (4, m_O n th w h pn pl fo le ru)) (H : pa_Hi n hp) (F : pa_Fr n [(24, 0), (24, 8), (24, 13), (29, 0), (30, 0), (31, 0), (32, 0), (33, 0)] hp0 hp) (L : hp.length = hp0.length) (KQ : m_kq n p.toInt hp 36 37), c.toInt + k = 37 → 0 ≤ c.toInt → c.toInt ≤ 36 → px_Gx (d + 1) 73 (60, [(2, .int c), (0, .ref (38 + n)), (1, .int p)], [], hp) (pa_Po n ck_73 hp0) := by
  have cl0 : Int32.toInt 0 = 0 := rfl
  have cl1 : Int32.toInt 1 = 1 := rfl
  have cl36 : Int32.toInt 36 = 36 := rfl
  have cl37 : Int32.toInt 37 = 37 := rfl
  intro k
  induction k with
  | zero =>
    intro c hp hm H F L KQ g1 g2 g3
    omega
  | succ k ih =>
    intro c hp hm H F L KQ g1 g2 g3
    obtain ⟨bth1, bth2, bw1, bw2, bh1, bh2, bpn1, bpn2, bpl1, bpl2, bfo1, bfo2, ble1, ble2, bru1, bru2⟩ := pa_bnd H hm
    refine px_gx (fun _ K => px_a 2 (f' := (63, [(2, .int c), (0, .ref (38 + n)), (1, .int p)], [.int 36, .int c], hp)) rfl K) ?_
    by_cases h260 : (36 : Int32) ≤ c
    · have h260' := h260
      rw [Int32.le_iff_toInt_le] at h260'
      refine px_gx (fun _ K => px_b2 true 171 rfl rfl (decide_eq_true h260) K) ?_
      show px_Gx _ _ (171, [(2, .int c), (0, .ref (38 + n)), (1, .int p)], [], hp) _
      refine px_gx (fun _ K => px_a 1 (f' := (172, [(2, .int c), (0, .ref (38 + n)), (1, .int p)], [.int 1], hp)) rfl K) ?_
      exact ⟨_, _, px_ri rfl rfl rfl, H, F, Or.inl ⟨_, rfl, pa_top_ok _, L⟩⟩
    · have h260' := h260
      rw [Int32.le_iff_toInt_le] at h260'
      refine px_gx (fun _ K => px_b2 false 171 rfl rfl (decide_eq_false h260) K) ?_
      show px_Gx _ _ (66, [(2, .int c), (0, .ref (38 + n)), (1, .int p)], [], hp) _
      refine px_gx (fun _ K => px_a 1 (f' := (67, [(2, .int c), (0, .ref (38 + n)), (1, .int p)], [.ref (38 + n)], hp)) rfl K) ?_
      refine px_gx (fun _ K => px_gf (38 + n) 36 4 14 (.ref (47 + n)) rfl rfl hm rfl K) ?_
      show px_Gx _ _ (70, [(2, .int c), (0, .ref (38 + n)), (1, .int p)], [.ref (47 + n)], hp) _
      refine px_gx (fun _ K => px_a 2 (f' := (72, [(2, .int c), (0, .ref (38 + n)), (1, .int p)], [.int 0, .int c, .ref (47 + n)], hp)) rfl K) ?_
      obtain ⟨vs262, hv262, hl262, hg262⟩ := pa_ara (a := 47 + n) (i := 15) (lo := -2147483648) (hi := 2147483647) H (by omega) (by decide) (by decide) rfl
      have hi261 : c.toNatClampNeg < vs262.length := by show (Int32.toInt c).toNat < _; omega
      refine px_gx (fun _ K => px_ias (47 + n) rfl hv262 (by omega) (i32_nn (by omega)) hi261 K) ?_
      show px_Gx _ _ (73, [(2, .int c), (0, .ref (38 + n)), (1, .int p)], [], hp.set (47 + n) (10, vs262.set c.toNatClampNeg (.int 0))) _
      have hm261 : (hp.set (47 + n) (10, vs262.set c.toNatClampNeg (.int 0)))[38 + n]? = some (4, (m_O n th w h pn pl fo le ru)) := px_ne hm (by omega)
      have H261 : pa_Hi n (hp.set (47 + n) (10, vs262.set c.toNatClampNeg (.int 0))) := pa_aS (i := 15) H (by omega) (by decide) (by decide) hv262 rfl (pa_top_ok _)
      have F261 : pa_Fr n [(24, 0), (24, 8), (24, 13), (29, 0), (30, 0), (31, 0), (32, 0), (33, 0)] hp0 (hp.set (47 + n) (10, vs262.set c.toNatClampNeg (.int 0))) := F.trans (pa_aF (i := 15) (by omega) (by decide) (by decide) hv262 (by decide) (by decide))
      have L261 : (hp.set (47 + n) (10, vs262.set c.toNatClampNeg (.int 0))).length = hp0.length := List.length_set.trans L
      have K261 : m_kq n p.toInt (hp.set (47 + n) (10, vs262.set c.toNatClampNeg (.int 0))) 36 37 := m_kq_ne KQ (by omega) (by omega)
      generalize hp.set (47 + n) (10, vs262.set c.toNatClampNeg (.int 0)) = hp261 at hm261 H261 F261 L261 K261 ⊢
      refine px_gx (fun _ K => px_a 1 (f' := (74, [(2, .int c), (0, .ref (38 + n)), (1, .int p)], [.ref (38 + n)], hp261)) rfl K) ?_
      refine px_gx (fun _ K => px_gf (38 + n) 27 4 10 (.ref (44 + n)) rfl rfl hm261 rfl K) ?_
      show px_Gx _ _ (77, [(2, .int c), (0, .ref (38 + n)), (1, .int p)], [.ref (44 + n)], hp261) _
      refine px_gx (fun _ K => px_a 1 (f' := (78, [(2, .int c), (0, .ref (38 + n)), (1, .int p)], [.int c, .ref (44 + n)], hp261)) rfl K) ?_
      obtain ⟨vs264, hv264, hl264, hg264⟩ := pa_ara (a := 44 + n) (i := 12) (lo := 0) (hi := 1) H261 (by omega) (by decide) (by decide) rfl
      have hi263 : c.toNatClampNeg < vs264.length := by show (Int32.toInt c).toNat < _; omega
      obtain ⟨z263, ez263, lz263, uz263⟩ := hg264 _ hi263
      refine px_gx (fun _ K => px_al (44 + n) (.int z263) rfl hv264 (Or.inr (Or.inr (Or.inl ⟨rfl, rfl⟩))) (i32_nn (by omega)) ez263 K) ?_
      show px_Gx _ _ (79, [(2, .int c), (0, .ref (38 + n)), (1, .int p)], [.int z263], hp261) _
      by_cases h265 : ¬ z263 = 0
      · have h265' := h265
        have h265'' : Int32.toInt z263 ≠ Int32.toInt 0 := fun z => h265 (Int32.toInt_inj.mp z)
        refine px_gx (fun _ K => px_b1 true 85 rfl rfl (decide_eq_true h265) K) ?_
        show px_Gx _ _ (85, [(2, .int c), (0, .ref (38 + n)), (1, .int p)], [], hp261) _
        have I0 : m_ik n hp261 c.toInt.toNat := m_ikI hv264 ez263 (by omega) (by omega) (by omega)
        refine px_gx (fun _ K => px_a 1 (f' := (86, [(2, .int c), (0, .ref (38 + n)), (1, .int p)], [.ref (38 + n)], hp261)) rfl K) ?_
        refine px_gx (fun _ K => px_gf (38 + n) 30 4 11 (.ref (45 + n)) rfl rfl hm261 rfl K) ?_
        show px_Gx _ _ (89, [(2, .int c), (0, .ref (38 + n)), (1, .int p)], [.ref (45 + n)], hp261) _
        refine px_gx (fun _ K => px_a 3 (f' := (93, [(2, .int c), (0, .ref (38 + n)), (1, .int p)], [.int (37 * c), .ref (45 + n)], hp261)) rfl K) ?_
        obtain ⟨z266, ez266, fz266⟩ : ∃ qz : Int32, qz = 37 * c ∧ qz.toInt = 37 * Int32.toInt c := ⟨_, rfl, i32_mulL rfl (by omega) (by omega)⟩
        rw [← ez266]
        refine px_gx (fun _ K => px_a 2 (f' := (96, [(2, .int c), (0, .ref (38 + n)), (1, .int p)], [.int (z266 + 36), .ref (45 + n)], hp261)) rfl K) ?_
        obtain ⟨z267, ez267, fz267⟩ : ∃ qz : Int32, qz = z266 + 36 ∧ qz.toInt = Int32.toInt z266 + Int32.toInt 36 := ⟨_, rfl, i32_add (by omega) (by omega)⟩
        rw [← ez267]
        obtain ⟨vs269, hv269, hl269, hg269⟩ := pa_ara (a := 45 + n) (i := 13) (lo := -2147483648) (hi := 2147483647) H261 (by omega) (by decide) (by decide) rfl
        have hi268 : z267.toNatClampNeg < vs269.length := by show (Int32.toInt z267).toNat < _; omega
        obtain ⟨z268, ez268, lz268, uz268⟩ := hg269 _ hi268
        refine px_gx (fun _ K => px_al (45 + n) (.int z268) rfl hv269 (Or.inl ⟨rfl, Or.inl rfl⟩) (i32_nn (by omega)) ez268 K) ?_
        show px_Gx _ _ (97, [(2, .int c), (0, .ref (38 + n)), (1, .int p)], [.int z268], hp261) _
        refine px_gx (fun _ K => px_a 3 (f' := (101, [(4, .int 0), (3, .int z268), (2, .int c), (0, .ref (38 + n)), (1, .int p)], [], hp261)) rfl K) ?_
        refine m_col_d hpr p1 p2 (by omega) (by omega) hm261 H261 (c.toInt.toNat + 1) 0 z268 (by omega) (by omega) (by omega) (fun re2 => ?_)
        refine px_gx (fun _ K => px_a 1 (f' := (141, [(3, .int re2), (2, .int c), (0, .ref (38 + n)), (1, .int p)], [.ref (38 + n)], hp261)) rfl K) ?_
        refine px_gx (fun _ K => px_gf (38 + n) 36 4 14 (.ref (47 + n)) rfl rfl hm261 rfl K) ?_
        show px_Gx _ _ (144, [(3, .int re2), (2, .int c), (0, .ref (38 + n)), (1, .int p)], [.ref (47 + n)], hp261) _
        refine px_gx (fun _ K => px_a 3 (f' := (147, [(3, .int re2), (2, .int c), (0, .ref (38 + n)), (1, .int p)], [.ref (38 + n), .int re2, .int c, .ref (47 + n)], hp261)) rfl K) ?_
        refine px_gx (fun _ K => px_gf (38 + n) 30 4 11 (.ref (45 + n)) rfl rfl hm261 rfl K) ?_
        show px_Gx _ _ (150, [(3, .int re2), (2, .int c), (0, .ref (38 + n)), (1, .int p)], [.ref (45 + n), .int re2, .int c, .ref (47 + n)], hp261) _
        refine px_gx (fun _ K => px_a 3 (f' := (154, [(3, .int re2), (2, .int c), (0, .ref (38 + n)), (1, .int p)], [.int (37 * c), .ref (45 + n), .int re2, .int c, .ref (47 + n)], hp261)) rfl K) ?_
        rw [← ez266]
        refine px_gx (fun _ K => px_a 2 (f' := (156, [(3, .int re2), (2, .int c), (0, .ref (38 + n)), (1, .int p)], [.int (z266 + c), .ref (45 + n), .int re2, .int c, .ref (47 + n)], hp261)) rfl K) ?_
        obtain ⟨z270, ez270, fz270⟩ : ∃ qz : Int32, qz = z266 + c ∧ qz.toInt = Int32.toInt z266 + Int32.toInt c := ⟨_, rfl, i32_add (by omega) (by omega)⟩
        rw [← ez270]
        have hi271 : z270.toNatClampNeg < vs269.length := by show (Int32.toInt z270).toNat < _; omega
        obtain ⟨z271, ez271, lz271, uz271⟩ := hg269 _ hi271
        refine px_gx (fun _ K => px_al (45 + n) (.int z271) rfl hv269 (Or.inl ⟨rfl, Or.inl rfl⟩) (i32_nn (by omega)) ez271 K) ?_
        show px_Gx _ _ (157, [(3, .int re2), (2, .int c), (0, .ref (38 + n)), (1, .int p)], [.int z271, .int re2, .int c, .ref (47 + n)], hp261) _
        obtain ⟨klz271, kuz271, kdz271⟩ := m_kqL (k := c.toInt.toNat) (c := c.toInt.toNat) K261 hv264 I0 hv269 ez271 (by show (Int32.toInt z270).toNat = _; omega) (by omega) (by omega)
        refine px_gx (fun _ K => px_a 1 (f' := (158, [(3, .int re2), (2, .int c), (0, .ref (38 + n)), (1, .int p)], [.int p, .int z271, .int re2, .int c, .ref (47 + n)], hp261)) rfl K) ?_
        obtain ⟨o272, hp272, g272, z272, rfl, eh272, l272, u272, -⟩ := m_inverse (d := d) (hp := hp261) (v := z271) hpr (by omega) (by omega)
        rw [eh272] at g272
        refine px_gx (fun _ K => px_cl (as := [.int z271, .int p]) (rest := [.int re2, .int c, .ref (47 + n)]) rfl rfl g272 K) ?_
        show px_Gx _ _ (161, [(3, .int re2), (2, .int c), (0, .ref (38 + n)), (1, .int p)], [.int z272, .int re2, .int c, .ref (47 + n)], hp261) _
        refine px_gx (fun _ K => px_a 1 (f' := (162, [(3, .int re2), (2, .int c), (0, .ref (38 + n)), (1, .int p)], [.int (re2 * z272), .int c, .ref (47 + n)], hp261)) rfl K) ?_
        obtain ⟨z273, ez273, fz273⟩ : ∃ qz : Int32, qz = re2 * z272 ∧ True := ⟨_, rfl, trivial⟩
        rw [← ez273]
        refine px_gx (fun _ K => px_a 1 (f' := (163, [(3, .int re2), (2, .int c), (0, .ref (38 + n)), (1, .int p)], [.int p, .int z273, .int c, .ref (47 + n)], hp261)) rfl K) ?_
        refine px_gx (fun _ K => px_irem rfl (pa_ne0 (by omega)) K) ?_
        show px_Gx _ _ (164, [(3, .int re2), (2, .int c), (0, .ref (38 + n)), (1, .int p)], [.int (z273 - z273 / p * p), .int c, .ref (47 + n)], hp261) _
        obtain ⟨z274, ez274, fz274⟩ : ∃ qz : Int32, qz = (z273 - z273 / p * p) ∧ True := ⟨_, rfl, trivial⟩
        rw [← ez274]
        obtain ⟨vs276, hv276, hl276, hg276⟩ := pa_ara (a := 47 + n) (i := 15) (lo := -2147483648) (hi := 2147483647) H261 (by omega) (by decide) (by decide) rfl
        have hi275 : c.toNatClampNeg < vs276.length := by show (Int32.toInt c).toNat < _; omega
        refine px_gx (fun _ K => px_ias (47 + n) rfl hv276 (by omega) (i32_nn (by omega)) hi275 K) ?_
        show px_Gx _ _ (165, [(3, .int re2), (2, .int c), (0, .ref (38 + n)), (1, .int p)], [], hp261.set (47 + n) (10, vs276.set c.toNatClampNeg (.int z274))) _
        have hm275 : (hp261.set (47 + n) (10, vs276.set c.toNatClampNeg (.int z274)))[38 + n]? = some (4, (m_O n th w h pn pl fo le ru)) := px_ne hm261 (by omega)
        have H275 : pa_Hi n (hp261.set (47 + n) (10, vs276.set c.toNatClampNeg (.int z274))) := pa_aS (i := 15) H261 (by omega) (by decide) (by decide) hv276 rfl (pa_top_ok _)
        have F275 : pa_Fr n [(24, 0), (24, 8), (24, 13), (29, 0), (30, 0), (31, 0), (32, 0), (33, 0)] hp0 (hp261.set (47 + n) (10, vs276.set c.toNatClampNeg (.int z274))) := F261.trans (pa_aF (i := 15) (by omega) (by decide) (by decide) hv276 (by decide) (by decide))
        have L275 : (hp261.set (47 + n) (10, vs276.set c.toNatClampNeg (.int z274))).length = hp0.length := List.length_set.trans L261
        have K275 : m_kq n p.toInt (hp261.set (47 + n) (10, vs276.set c.toNatClampNeg (.int z274))) 36 37 := m_kq_ne K261 (by omega) (by omega)
        have hv264_275 : (hp261.set (47 + n) (10, vs276.set c.toNatClampNeg (.int z274)))[44 + n]? = some (12, vs264) := px_ne hv264 (by omega)
        have hv269_275 : (hp261.set (47 + n) (10, vs276.set c.toNatClampNeg (.int z274)))[45 + n]? = some (10, vs269) := px_ne hv269 (by omega)
        generalize hp261.set (47 + n) (10, vs276.set c.toNatClampNeg (.int z274)) = hp275 at hm275 H275 F275 L275 K275 hv264_275 hv269_275 ⊢
        refine px_gx (fun _ K => px_a 1 (f' := (168, [(2, .int (c + 1)), (3, .int re2), (0, .ref (38 + n)), (1, .int p)], [], hp275)) rfl K) ?_
        obtain ⟨z277, ez277, fz277⟩ : ∃ qz : Int32, qz = c + 1 ∧ qz.toInt = Int32.toInt c + Int32.toInt 1 := ⟨_, rfl, i32_add (by omega) (by omega)⟩
        rw [← ez277]
        refine px_gx (fun _ K => px_a 1 (f' := (60, [(2, .int z277), (3, .int re2), (0, .ref (38 + n)), (1, .int p)], [], hp275)) rfl K) ?_
        refine px_wk [(2, .int z277), (0, .ref (38 + n)), (1, .int p)] ⟨rfl, rfl, rfl, trivial⟩ ?_
        exact ih z277 hp275 hm275 H275 F275 L275 K275 (by omega) (by omega) (by omega)
      · have h265' := h265
        have h265'' : Int32.toInt z263 = Int32.toInt 0 := congrArg Int32.toInt (Decidable.not_not.mp h265)
        refine px_gx (fun _ K => px_b1 false 85 rfl rfl (decide_eq_false h265) K) ?_
        show px_Gx _ _ (82, [(2, .int c), (0, .ref (38 + n)), (1, .int p)], [], hp261) _
        refine px_gx (fun _ K => px_a 2 (f' := (168, [(2, .int (c + 1)), (0, .ref (38 + n)), (1, .int p)], [], hp261)) rfl K) ?_
        obtain ⟨z278, ez278, fz278⟩ : ∃ qz : Int32, qz = c + 1 ∧ qz.toInt = Int32.toInt c + Int32.toInt 1 := ⟨_, rfl, i32_add (by omega) (by omega)⟩
        rw [← ez278]
        refine px_gx (fun _ K => px_a 1 (f' := (60, [(2, .int z278), (0, .ref (38 + n)), (1, .int p)], [], hp261)) rfl K) ?_
        exact ih z278 hp261 hm261 H261 F261 L261 K261 (by omega) (by omega) (by omega)
set_option maxRecDepth 20000 in
set_option maxHeartbeats 4000000 in
theorem m_col_b {d n : Nat} (hN : pa_N n) {hp0 hp : px_H} {th w h pn pl fo le ru : Int32} {p : Int32} (hpr : m_pr p.toInt) (p1 : 2 ≤ p.toInt) (p2 : p.toInt ≤ 13) (hm : hp[38 + n]? = some (4, m_O n th w h pn pl fo le ru)) (H : pa_Hi n hp) (F : pa_Fr n [(24, 0), (24, 8), (24, 13), (29, 0), (30, 0), (31, 0), (32, 0), (33, 0)] hp0 hp) (L : hp.length = hp0.length) : px_Gx (d + 6) 73 (40, [(0, .ref (38 + n)), (1, .int p)], [], hp) (pa_Po n ck_73 hp0) := by
  have cl0 : Int32.toInt 0 = 0 := rfl
  obtain ⟨bth1, bth2, bw1, bw2, bh1, bh2, bpn1, bpn2, bpl1, bpl2, bfo1, bfo2, ble1, ble2, bru1, bru2⟩ := pa_bnd H hm
  refine px_gx (fun _ K => px_a 3 (f' := (43, [(0, .ref (38 + n)), (1, .int p)], [.int p, .ref (38 + n), .ref (38 + n)], hp)) rfl K) ?_
  obtain ⟨o279, hp279, g279, ⟨H279, G279, E279⟩, K279⟩ := m_equ (d := d) hN (p := p) hpr hm H
  rcases E279 with ⟨v279, rfl, hv279, hl279⟩ | ⟨ht279, -⟩
  rotate_left
  · exact absurd ht279 (by decide)
  obtain ⟨z279, rfl, lz279, uz279⟩ := pa_gri (lo := 0) (hi := 1) hv279
  refine px_gx (fun _ K => px_cv (38 + n) (as := [.int p]) (rest := [.ref (38 + n)]) rfl rfl hm rfl rfl rfl rfl (Nat.le_of_ble_eq_true rfl) g279 K) ?_
  show px_Gx _ _ (46, [(0, .ref (38 + n)), (1, .int p)], [.int z279, .ref (38 + n)], hp279) _
  have F279 : pa_Fr n [(24, 0), (24, 8), (24, 13), (29, 0), (30, 0), (31, 0), (32, 0), (33, 0)] hp0 hp279 := F.trans (G279.mono (by decide))
  have L279 : hp279.length = hp0.length := hl279.trans L
  obtain ⟨th279, w279, h279, pn279, pl279, fo279, le279, ru279, hm279, -, -, -, -, -, -, -, -, -, -, -, -, -, -, -, -⟩ := pa_mod H279
  obtain rfl : th = th279 := (pa_fk (k := 0) G279 hm hm279 (by decide) rfl rfl).symm
  obtain rfl : w = w279 := (pa_fk (k := 1) G279 hm hm279 (by decide) rfl rfl).symm
  obtain rfl : h = h279 := (pa_fk (k := 2) G279 hm hm279 (by decide) rfl rfl).symm
  obtain rfl : pn = pn279 := (pa_fk (k := 4) G279 hm hm279 (by decide) rfl rfl).symm
  obtain rfl : fo = fo279 := (pa_fk (k := 13) G279 hm hm279 (by decide) rfl rfl).symm
  obtain rfl : le = le279 := (pa_fk (k := 15) G279 hm hm279 (by decide) rfl rfl).symm
  obtain rfl : ru = ru279 := (pa_fk (k := 17) G279 hm hm279 (by decide) rfl rfl).symm
  change hp279[38 + n]? = some (4, (m_O n th w h pn pl279 fo le ru)) at hm279
  obtain ⟨lth279, uth279, lw279, uw279, lh279, uh279, lpn279, upn279, lpl279, upl279, lfo279, ufo279, lle279, ule279, lru279, uru279⟩ := pa_bnd H279 hm279
  refine px_gx (fun _ K => px_pf (38 + n) 72 4 13 rfl rfl hm279 (by omega) (Nat.le_of_ble_eq_true rfl) (pa_nb (by omega) (by omega)) (pa_fb (by omega) (by omega)) (by decide) K) ?_
  show px_Gx _ _ (49, [(0, .ref (38 + n)), (1, .int p)], [], hp279.set (38 + n) (4, (m_O n th w h pn pl279 z279 le ru))) _
  have hm280 : (hp279.set (38 + n) (4, (m_O n th w h pn pl279 z279 le ru)))[38 + n]? = some (4, (m_O n th w h pn pl279 z279 le ru)) := px_self hm279
  have H280 : pa_Hi n (hp279.set (38 + n) (4, (m_O n th w h pn pl279 z279 le ru))) := pa_ms (k := 13) (v := .int z279) H279 hm279 rfl (pa_in (by omega) (by omega))
  have F280 : pa_Fr n [(24, 0), (24, 8), (24, 13), (29, 0), (30, 0), (31, 0), (32, 0), (33, 0)] hp0 (hp279.set (38 + n) (4, (m_O n th w h pn pl279 z279 le ru))) := F279.trans (pa_mf (k := 13) (v := .int z279) hm279 (by decide) (by decide))
  have L280 : (hp279.set (38 + n) (4, (m_O n th w h pn pl279 z279 le ru))).length = hp0.length := List.length_set.trans L279
  have K280 : m_kq n p.toInt (hp279.set (38 + n) (4, (m_O n th w h pn pl279 z279 le ru))) 36 37 := m_kq_ne K279 (by omega) (by omega)
  generalize hp279.set (38 + n) (4, (m_O n th w h pn pl279 z279 le ru)) = hp280 at hm280 H280 F280 L280 K280 ⊢
  refine px_gx (fun _ K => px_a 1 (f' := (50, [(0, .ref (38 + n)), (1, .int p)], [.ref (38 + n)], hp280)) rfl K) ?_
  refine px_gx (fun _ K => px_gf (38 + n) 72 4 13 (.int z279) rfl rfl hm280 rfl K) ?_
  show px_Gx _ _ (53, [(0, .ref (38 + n)), (1, .int p)], [.int z279], hp280) _
  by_cases h281 : ¬ z279 = 0
  · have h281' := h281
    have h281'' : Int32.toInt z279 ≠ Int32.toInt 0 := fun z => h281 (Int32.toInt_inj.mp z)
    refine px_gx (fun _ K => px_b1 true 58 rfl rfl (decide_eq_true h281) K) ?_
    show px_Gx _ _ (58, [(0, .ref (38 + n)), (1, .int p)], [], hp280) _
    refine px_gx (fun _ K => px_a 2 (f' := (60, [(2, .int 0), (0, .ref (38 + n)), (1, .int p)], [], hp280)) rfl K) ?_
    exact m_col_c hpr p1 p2 37 0 hp280 hm280 H280 F280 L280 K280 (by omega) (by omega) (by omega)
  · have h281' := h281
    have h281'' : Int32.toInt z279 = Int32.toInt 0 := congrArg Int32.toInt (Decidable.not_not.mp h281)
    refine px_gx (fun _ K => px_b1 false 58 rfl rfl (decide_eq_false h281) K) ?_
    show px_Gx _ _ (56, [(0, .ref (38 + n)), (1, .int p)], [], hp280) _
    refine px_gx (fun _ K => px_a 1 (f' := (57, [(0, .ref (38 + n)), (1, .int p)], [.int 0], hp280)) rfl K) ?_
    exact ⟨_, _, px_ri rfl rfl rfl, H280, F280, Or.inl ⟨_, rfl, pa_top_ok _, L280⟩⟩
set_option maxRecDepth 20000 in
set_option maxHeartbeats 4000000 in
theorem m_colour {d n : Nat} (hN : pa_N n) {hp0 : px_H} {th w h pn pl fo le ru : Int32} {p : Int32} (hm : hp0[38 + n]? = some (4, m_O n th w h pn pl fo le ru)) (H : pa_Hi n hp0) : px_Gx (d + 6) 73 (0, [(0, .ref (38 + n)), (1, .int p)], [], hp0) (pa_Po n ck_73 hp0) := by
  have clm1 : Int32.toInt (-1) = -1 := rfl
  have cl0 : Int32.toInt 0 = 0 := rfl
  have cl2 : Int32.toInt 2 = 2 := rfl
  have cl3 : Int32.toInt 3 = 3 := rfl
  have cl5 : Int32.toInt 5 = 5 := rfl
  have cl7 : Int32.toInt 7 = 7 := rfl
  have cl11 : Int32.toInt 11 = 11 := rfl
  have cl13 : Int32.toInt 13 = 13 := rfl
  obtain ⟨bth1, bth2, bw1, bw2, bh1, bh2, bpn1, bpn2, bpl1, bpl2, bfo1, bfo2, ble1, ble2, bru1, bru2⟩ := pa_bnd H hm
  have F : pa_Fr n [(24, 0), (24, 8), (24, 13), (29, 0), (30, 0), (31, 0), (32, 0), (33, 0)] hp0 hp0 := pa_Fr.refl _
  have L : hp0.length = hp0.length := rfl
  refine px_gx (fun _ K => px_a 2 (f' := (2, [(0, .ref (38 + n)), (1, .int p)], [.int 0, .ref (38 + n)], hp0)) rfl K) ?_
  refine px_gx (fun _ K => px_pf (38 + n) 58 4 0 rfl rfl hm (by omega) (Nat.le_of_ble_eq_true rfl) (rfl) rfl (by decide) K) ?_
  show px_Gx _ _ (5, [(0, .ref (38 + n)), (1, .int p)], [], hp0.set (38 + n) (4, (m_O n 0 w h pn pl fo le ru))) _
  have hm282 : (hp0.set (38 + n) (4, (m_O n 0 w h pn pl fo le ru)))[38 + n]? = some (4, (m_O n 0 w h pn pl fo le ru)) := px_self hm
  have H282 : pa_Hi n (hp0.set (38 + n) (4, (m_O n 0 w h pn pl fo le ru))) := pa_ms (k := 0) (v := .int 0) H hm rfl (pa_in (by omega) (by omega))
  have F282 : pa_Fr n [(24, 0), (24, 8), (24, 13), (29, 0), (30, 0), (31, 0), (32, 0), (33, 0)] hp0 (hp0.set (38 + n) (4, (m_O n 0 w h pn pl fo le ru))) := F.trans (pa_mf (k := 0) (v := .int 0) hm (by decide) (by decide))
  have L282 : (hp0.set (38 + n) (4, (m_O n 0 w h pn pl fo le ru))).length = hp0.length := List.length_set.trans L
  generalize hp0.set (38 + n) (4, (m_O n 0 w h pn pl fo le ru)) = hp282 at hm282 H282 F282 L282 ⊢
  refine px_gx (fun _ K => px_a 2 (f' := (7, [(0, .ref (38 + n)), (1, .int p)], [.int 2, .int p], hp282)) rfl K) ?_
  by_cases h283 : p = 2
  · have h283' := h283
    replace h283' := congrArg Int32.toInt h283
    refine px_gx (fun _ K => px_b2 true 40 rfl rfl (decide_eq_true h283) K) ?_
    show px_Gx _ _ (40, [(0, .ref (38 + n)), (1, .int p)], [], hp282) _
    exact m_col_b hN (by unfold m_pr; omega) (by omega) (by omega) hm282 H282 F282 L282
  · have h283' := h283
    have h283'' : Int32.toInt p ≠ Int32.toInt 2 := fun z => h283 (Int32.toInt_inj.mp z)
    refine px_gx (fun _ K => px_b2 false 40 rfl rfl (decide_eq_false h283) K) ?_
    show px_Gx _ _ (10, [(0, .ref (38 + n)), (1, .int p)], [], hp282) _
    refine px_gx (fun _ K => px_a 2 (f' := (12, [(0, .ref (38 + n)), (1, .int p)], [.int 3, .int p], hp282)) rfl K) ?_
    by_cases h284 : p = 3
    · have h284' := h284
      replace h284' := congrArg Int32.toInt h284
      refine px_gx (fun _ K => px_b2 true 40 rfl rfl (decide_eq_true h284) K) ?_
      show px_Gx _ _ (40, [(0, .ref (38 + n)), (1, .int p)], [], hp282) _
      exact m_col_b hN (by unfold m_pr; omega) (by omega) (by omega) hm282 H282 F282 L282
    · have h284' := h284
      have h284'' : Int32.toInt p ≠ Int32.toInt 3 := fun z => h284 (Int32.toInt_inj.mp z)
      refine px_gx (fun _ K => px_b2 false 40 rfl rfl (decide_eq_false h284) K) ?_
      show px_Gx _ _ (15, [(0, .ref (38 + n)), (1, .int p)], [], hp282) _
      refine px_gx (fun _ K => px_a 2 (f' := (17, [(0, .ref (38 + n)), (1, .int p)], [.int 5, .int p], hp282)) rfl K) ?_
      by_cases h285 : p = 5
      · have h285' := h285
        replace h285' := congrArg Int32.toInt h285
        refine px_gx (fun _ K => px_b2 true 40 rfl rfl (decide_eq_true h285) K) ?_
        show px_Gx _ _ (40, [(0, .ref (38 + n)), (1, .int p)], [], hp282) _
        exact m_col_b hN (by unfold m_pr; omega) (by omega) (by omega) hm282 H282 F282 L282
      · have h285' := h285
        have h285'' : Int32.toInt p ≠ Int32.toInt 5 := fun z => h285 (Int32.toInt_inj.mp z)
        refine px_gx (fun _ K => px_b2 false 40 rfl rfl (decide_eq_false h285) K) ?_
        show px_Gx _ _ (20, [(0, .ref (38 + n)), (1, .int p)], [], hp282) _
        refine px_gx (fun _ K => px_a 2 (f' := (23, [(0, .ref (38 + n)), (1, .int p)], [.int 7, .int p], hp282)) rfl K) ?_
        by_cases h286 : p = 7
        · have h286' := h286
          replace h286' := congrArg Int32.toInt h286
          refine px_gx (fun _ K => px_b2 true 40 rfl rfl (decide_eq_true h286) K) ?_
          show px_Gx _ _ (40, [(0, .ref (38 + n)), (1, .int p)], [], hp282) _
          exact m_col_b hN (by unfold m_pr; omega) (by omega) (by omega) hm282 H282 F282 L282
        · have h286' := h286
          have h286'' : Int32.toInt p ≠ Int32.toInt 7 := fun z => h286 (Int32.toInt_inj.mp z)
          refine px_gx (fun _ K => px_b2 false 40 rfl rfl (decide_eq_false h286) K) ?_
          show px_Gx _ _ (26, [(0, .ref (38 + n)), (1, .int p)], [], hp282) _
          refine px_gx (fun _ K => px_a 2 (f' := (29, [(0, .ref (38 + n)), (1, .int p)], [.int 11, .int p], hp282)) rfl K) ?_
          by_cases h287 : p = 11
          · have h287' := h287
            replace h287' := congrArg Int32.toInt h287
            refine px_gx (fun _ K => px_b2 true 40 rfl rfl (decide_eq_true h287) K) ?_
            show px_Gx _ _ (40, [(0, .ref (38 + n)), (1, .int p)], [], hp282) _
            exact m_col_b hN (by unfold m_pr; omega) (by omega) (by omega) hm282 H282 F282 L282
          · have h287' := h287
            have h287'' : Int32.toInt p ≠ Int32.toInt 11 := fun z => h287 (Int32.toInt_inj.mp z)
            refine px_gx (fun _ K => px_b2 false 40 rfl rfl (decide_eq_false h287) K) ?_
            show px_Gx _ _ (32, [(0, .ref (38 + n)), (1, .int p)], [], hp282) _
            refine px_gx (fun _ K => px_a 2 (f' := (35, [(0, .ref (38 + n)), (1, .int p)], [.int 13, .int p], hp282)) rfl K) ?_
            by_cases h288 : p = 13
            · have h288' := h288
              replace h288' := congrArg Int32.toInt h288
              refine px_gx (fun _ K => px_b2 true 40 rfl rfl (decide_eq_true h288) K) ?_
              show px_Gx _ _ (40, [(0, .ref (38 + n)), (1, .int p)], [], hp282) _
              exact m_col_b hN (by unfold m_pr; omega) (by omega) (by omega) hm282 H282 F282 L282
            · have h288' := h288
              have h288'' : Int32.toInt p ≠ Int32.toInt 13 := fun z => h288 (Int32.toInt_inj.mp z)
              refine px_gx (fun _ K => px_b2 false 40 rfl rfl (decide_eq_false h288) K) ?_
              show px_Gx _ _ (38, [(0, .ref (38 + n)), (1, .int p)], [], hp282) _
              refine px_gx (fun _ K => px_a 1 (f' := (39, [(0, .ref (38 + n)), (1, .int p)], [.int (-1)], hp282)) rfl K) ?_
              exact ⟨_, _, px_ri rfl rfl rfl, H282, F282, Or.inl ⟨_, rfl, pa_top_ok _, L282⟩⟩
theorem ct_73 {n : Nat} (hN : pa_N n) : pa_Ct pa_tb n 73 ck_73 7 := by
  intro as hp H ha
  obtain ⟨u0, us0, rfl, ⟨a, rfl, ha24, -⟩, ha1⟩ := pa_as1 ha
  obtain rfl := pa_g24 ha24
  obtain ⟨u1, us1, rfl, ⟨p, rfl, p1, p2⟩, ha2⟩ := pa_as1 ha1
  obtain rfl := pa_as0 ha2
  obtain ⟨th, w, h, pn, pl, fo, le, ru, hm⟩ := pa_modO H
  simp only [pa_ev, Int.zero_mul, Int.add_zero] at p1 p2
  obtain ⟨o, hp', hg, hP⟩ := m_colour (d := 1) hN hm H
  exact ⟨o, hp', hg, hP, Or.inl rfl⟩
