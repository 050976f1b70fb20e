set_option maxRecDepth 20000 in
set_option maxHeartbeats 4000000 in
theorem m_addPlace_2 {d n : Nat} {hp0 : px_H} {th w h pn pl fo le ru : Int32} {a : Int32} {z : Int64} (q1 : pl.toInt ≤ 511) (a1 : 0 ≤ a.toInt) (a2 : a.toInt ≤ pl.toInt) : ∀ (k : Nat) (i : Int32) hp (hm : hp[38 + n]? = some (4, m_O n th w h pn pl fo le ru)) (H : pa_Hi n hp) (F : pa_Fr n [(24, 8), (29, 0)] hp0 hp) (L : hp.length = hp0.length), i.toInt + 1 = a.toInt + k → a.toInt ≤ i.toInt → i.toInt ≤ pl.toInt → px_Gx d 68 (53, [(4, .int i), (3, .int a), (0, .ref (38 + n)), (1, .long z)], [], hp) (fun o hp' => o = .inl none ∧ pa_Hi n hp' ∧ pa_Fr n [(24, 8), (29, 0)] hp0 hp' ∧ hp'.length = hp0.length ∧ ∃ pl', hp'[38 + n]? = some (4, m_O n th w h pn pl' fo le ru) ∧ pl.toInt ≤ pl'.toInt ∧ pl'.toInt ≤ pl.toInt + 1) := by
  have clm1 : Int32.toInt (-1) = -1 := rfl
  have cl1 : Int32.toInt 1 = 1 := rfl
  intro k
  induction k with
  | zero =>
    intro i hp hm H F L g1 g2 g3
    omega
  | succ k ih =>
    intro i hp hm H F L g1 g2 g3
    obtain ⟨bth1, bth2, bw1, bw2, bh1, bh2, bpn1, bpn2, bpl1, bpl2, bfo1, bfo2, ble1, ble2, bru1, bru2⟩ := pa_bnd H hm
    refine px_gx (fun _ K => px_a 2 (f' := (56, [(4, .int i), (3, .int a), (0, .ref (38 + n)), (1, .long z)], [.int a, .int i], hp)) rfl K) ?_
    by_cases h88 : i ≤ a
    · have h88' := h88
      rw [Int32.le_iff_toInt_le] at h88'
      refine px_gx (fun _ K => px_b2 true 81 rfl rfl (decide_eq_true h88) K) ?_
      show px_Gx _ _ (81, [(4, .int i), (3, .int a), (0, .ref (38 + n)), (1, .long z)], [], hp) _
      refine px_gx (fun _ K => px_a 1 (f' := (82, [(4, .int i), (3, .int a), (0, .ref (38 + n)), (1, .long z)], [.ref (38 + n)], hp)) rfl K) ?_
      refine px_gx (fun _ K => px_gf (38 + n) 23 4 9 (.ref (43 + n)) rfl rfl hm rfl K) ?_
      show px_Gx _ _ (85, [(4, .int i), (3, .int a), (0, .ref (38 + n)), (1, .long z)], [.ref (43 + n)], hp) _
      refine px_gx (fun _ K => px_a 2 (f' := (87, [(4, .int i), (3, .int a), (0, .ref (38 + n)), (1, .long z)], [.long z, .int a, .ref (43 + n)], hp)) rfl K) ?_
      obtain ⟨vs90, hv90, hl90, hg90⟩ := pa_arl (a := 43 + n) (i := 11) H (by omega) (by decide) (by decide) rfl
      have hi89 : a.toNatClampNeg < vs90.length := by show (Int32.toInt a).toNat < _; omega
      refine px_gx (fun _ K => px_las (43 + n) rfl hv90 (by omega) (i32_nn (by omega)) hi89 K) ?_
      show px_Gx _ _ (88, [(4, .int i), (3, .int a), (0, .ref (38 + n)), (1, .long z)], [], hp.set (43 + n) (11, vs90.set a.toNatClampNeg (.long z))) _
      have hm89 : (hp.set (43 + n) (11, vs90.set a.toNatClampNeg (.long z)))[38 + n]? = some (4, (m_O n th w h pn pl fo le ru)) := px_ne hm (by omega)
      have H89 : pa_Hi n (hp.set (43 + n) (11, vs90.set a.toNatClampNeg (.long z))) := pa_aS (i := 11) H (by omega) (by decide) (by decide) hv90 rfl (pa_lgk _)
      have F89 : pa_Fr n [(24, 8), (29, 0)] hp0 (hp.set (43 + n) (11, vs90.set a.toNatClampNeg (.long z))) := F.trans (pa_aF (i := 11) (by omega) (by decide) (by decide) hv90 (by decide) (by decide))
      have L89 : (hp.set (43 + n) (11, vs90.set a.toNatClampNeg (.long z))).length = hp0.length := List.length_set.trans L
      generalize hp.set (43 + n) (11, vs90.set a.toNatClampNeg (.long z)) = hp89 at hm89 H89 F89 L89 ⊢
      refine px_gx (fun _ K => px_a 2 (f' := (90, [(4, .int i), (3, .int a), (0, .ref (38 + n)), (1, .long z)], [.ref (38 + n), .ref (38 + n)], hp89)) rfl K) ?_
      refine px_gx (fun _ K => px_gf (38 + n) 80 4 8 (.int pl) rfl rfl hm89 rfl K) ?_
      show px_Gx _ _ (93, [(4, .int i), (3, .int a), (0, .ref (38 + n)), (1, .long z)], [.int pl, .ref (38 + n)], hp89) _
      refine px_gx (fun _ K => px_a 2 (f' := (95, [(4, .int i), (3, .int a), (0, .ref (38 + n)), (1, .long z)], [.int (pl + 1), .ref (38 + n)], hp89)) rfl K) ?_
      obtain ⟨z91, ez91, fz91⟩ : ∃ qz : Int32, qz = pl + 1 ∧ qz.toInt = Int32.toInt pl + Int32.toInt 1 := ⟨_, rfl, i32_add (by omega) (by omega)⟩
      rw [← ez91]
      refine px_gx (fun _ K => px_pf (38 + n) 80 4 8 rfl rfl hm89 (by omega) (Nat.le_of_ble_eq_true rfl) (rfl) rfl (by decide) K) ?_
      show px_Gx _ _ (98, [(4, .int i), (3, .int a), (0, .ref (38 + n)), (1, .long z)], [], hp89.set (38 + n) (4, (m_O n th w h pn z91 fo le ru))) _
      have hm92 : (hp89.set (38 + n) (4, (m_O n th w h pn z91 fo le ru)))[38 + n]? = some (4, (m_O n th w h pn z91 fo le ru)) := px_self hm89
      have H92 : pa_Hi n (hp89.set (38 + n) (4, (m_O n th w h pn z91 fo le ru))) := pa_ms (k := 8) (v := .int z91) H89 hm89 rfl (pa_in (by omega) (by omega))
      have F92 : pa_Fr n [(24, 8), (29, 0)] hp0 (hp89.set (38 + n) (4, (m_O n th w h pn z91 fo le ru))) := F89.trans (pa_mf (k := 8) (v := .int z91) hm89 (by decide) (by decide))
      have L92 : (hp89.set (38 + n) (4, (m_O n th w h pn z91 fo le ru))).length = hp0.length := List.length_set.trans L89
      generalize hp89.set (38 + n) (4, (m_O n th w h pn z91 fo le ru)) = hp92 at hm92 H92 F92 L92 ⊢
      exact ⟨_, _, px_e rfl rfl, rfl, H92, F92, L92, _, hm92, by omega, by omega⟩
    · have h88' := h88
      rw [Int32.le_iff_toInt_le] at h88'
      refine px_gx (fun _ K => px_b2 false 81 rfl rfl (decide_eq_false h88) K) ?_
      show px_Gx _ _ (59, [(4, .int i), (3, .int a), (0, .ref (38 + n)), (1, .long z)], [], hp) _
      refine px_gx (fun _ K => px_a 1 (f' := (60, [(4, .int i), (3, .int a), (0, .ref (38 + n)), (1, .long z)], [.ref (38 + n)], hp)) rfl K) ?_
      refine px_gx (fun _ K => px_gf (38 + n) 23 4 9 (.ref (43 + n)) rfl rfl hm rfl K) ?_
      show px_Gx _ _ (63, [(4, .int i), (3, .int a), (0, .ref (38 + n)), (1, .long z)], [.ref (43 + n)], hp) _
      refine px_gx (fun _ K => px_a 2 (f' := (66, [(4, .int i), (3, .int a), (0, .ref (38 + n)), (1, .long z)], [.ref (38 + n), .int i, .ref (43 + n)], hp)) rfl K) ?_
      refine px_gx (fun _ K => px_gf (38 + n) 23 4 9 (.ref (43 + n)) rfl rfl hm rfl K) ?_
      show px_Gx _ _ (69, [(4, .int i), (3, .int a), (0, .ref (38 + n)), (1, .long z)], [.ref (43 + n), .int i, .ref (43 + n)], hp) _
      refine px_gx (fun _ K => px_a 3 (f' := (73, [(4, .int i), (3, .int a), (0, .ref (38 + n)), (1, .long z)], [.int (i - 1), .ref (43 + n), .int i, .ref (43 + n)], hp)) rfl K) ?_
      obtain ⟨z93, ez93, fz93⟩ : ∃ qz : Int32, qz = i - 1 ∧ qz.toInt = Int32.toInt i - Int32.toInt 1 := ⟨_, rfl, i32_sub (by omega) (by omega)⟩
      rw [← ez93]
      obtain ⟨vs95, hv95, hl95, hg95⟩ := pa_arl (a := 43 + n) (i := 11) H (by omega) (by decide) (by decide) rfl
      have hi94 : z93.toNatClampNeg < vs95.length := by show (Int32.toInt z93).toNat < _; omega
      obtain ⟨z94, ez94⟩ := hg95 _ hi94
      refine px_gx (fun _ K => px_al (43 + n) (.long z94) rfl hv95 (Or.inr (Or.inl ⟨rfl, rfl⟩)) (i32_nn (by omega)) ez94 K) ?_
      show px_Gx _ _ (74, [(4, .int i), (3, .int a), (0, .ref (38 + n)), (1, .long z)], [.long z94, .int i, .ref (43 + n)], hp) _
      have hi96 : i.toNatClampNeg < vs95.length := by show (Int32.toInt i).toNat < _; omega
      refine px_gx (fun _ K => px_las (43 + n) rfl hv95 (by omega) (i32_nn (by omega)) hi96 K) ?_
      show px_Gx _ _ (75, [(4, .int i), (3, .int a), (0, .ref (38 + n)), (1, .long z)], [], hp.set (43 + n) (11, vs95.set i.toNatClampNeg (.long z94))) _
      have hm96 : (hp.set (43 + n) (11, vs95.set i.toNatClampNeg (.long z94)))[38 + n]? = some (4, (m_O n th w h pn pl fo le ru)) := px_ne hm (by omega)
      have H96 : pa_Hi n (hp.set (43 + n) (11, vs95.set i.toNatClampNeg (.long z94))) := pa_aS (i := 11) H (by omega) (by decide) (by decide) hv95 rfl (pa_lgk _)
      have F96 : pa_Fr n [(24, 8), (29, 0)] hp0 (hp.set (43 + n) (11, vs95.set i.toNatClampNeg (.long z94))) := F.trans (pa_aF (i := 11) (by omega) (by decide) (by decide) hv95 (by decide) (by decide))
      have L96 : (hp.set (43 + n) (11, vs95.set i.toNatClampNeg (.long z94))).length = hp0.length := List.length_set.trans L
      generalize hp.set (43 + n) (11, vs95.set i.toNatClampNeg (.long z94)) = hp96 at hm96 H96 F96 L96 ⊢
      refine px_gx (fun _ K => px_a 1 (f' := (78, [(4, .int (i + (-1))), (3, .int a), (0, .ref (38 + n)), (1, .long z)], [], hp96)) rfl K) ?_
      obtain ⟨z97, ez97, fz97⟩ : ∃ qz : Int32, qz = i + (-1) ∧ qz.toInt = Int32.toInt i + Int32.toInt (-1) := ⟨_, rfl, i32_add (by omega) (by omega)⟩
      rw [← ez97]
      refine px_gx (fun _ K => px_a 1 (f' := (53, [(4, .int z97), (3, .int a), (0, .ref (38 + n)), (1, .long z)], [], hp96)) rfl K) ?_
      exact ih z97 hp96 hm96 H96 F96 L96 (by omega) (by omega) (by omega)
set_option maxRecDepth 20000 in
set_option maxHeartbeats 4000000 in
theorem m_addPlace_1 {d n : Nat} {hp0 : px_H} {th w h pn pl fo le ru : Int32} {z : Int64} (q1 : pl.toInt ≤ 511) {hp : px_H} (hm : hp[38 + n]? = some (4, m_O n th w h pn pl fo le ru)) (H : pa_Hi n hp) (F : pa_Fr n [(24, 8), (29, 0)] hp0 hp) (L : hp.length = hp0.length) : ∀ (k : Nat) (a : Int32), a.toInt + k = pl.toInt + 1 → 0 ≤ a.toInt → a.toInt ≤ pl.toInt → px_Gx d 68 (2, [(3, .int a), (0, .ref (38 + n)), (1, .long z)], [], hp) (fun o hp' => o = .inl none ∧ pa_Hi n hp' ∧ pa_Fr n [(24, 8), (29, 0)] hp0 hp' ∧ hp'.length = hp0.length ∧ ∃ pl', hp'[38 + n]? = some (4, m_O n th w h pn pl' fo le ru) ∧ pl.toInt ≤ pl'.toInt ∧ pl'.toInt ≤ pl.toInt + 1) := by
  have cl0 : Int32.toInt 0 = 0 := rfl
  have cl1 : Int32.toInt 1 = 1 := rfl
  intro k
  induction k with
  | zero =>
    intro a g1 g2 g3
    omega
  | succ k ih =>
    intro a g1 g2 g3
    obtain ⟨bth1, bth2, bw1, bw2, bh1, bh2, bpn1, bpn2, bpl1, bpl2, bfo1, bfo2, ble1, ble2, bru1, bru2⟩ := pa_bnd H hm
    refine px_gx (fun _ K => px_a 2 (f' := (4, [(3, .int a), (0, .ref (38 + n)), (1, .long z)], [.ref (38 + n), .int a], hp)) rfl K) ?_
    refine px_gx (fun _ K => px_gf (38 + n) 80 4 8 (.int pl) rfl rfl hm rfl K) ?_
    show px_Gx _ _ (7, [(3, .int a), (0, .ref (38 + n)), (1, .long z)], [.int pl, .int a], hp) _
    by_cases h98 : pl ≤ a
    · have h98' := h98
      rw [Int32.le_iff_toInt_le] at h98'
      refine px_gx (fun _ K => px_b2 true 27 rfl rfl (decide_eq_true h98) K) ?_
      show px_Gx _ _ (27, [(3, .int a), (0, .ref (38 + n)), (1, .long z)], [], hp) _
      refine px_gx (fun _ K => px_a 2 (f' := (29, [(3, .int a), (0, .ref (38 + n)), (1, .long z)], [.ref (38 + n), .int a], hp)) rfl K) ?_
      refine px_gx (fun _ K => px_gf (38 + n) 80 4 8 (.int pl) rfl rfl hm rfl K) ?_
      show px_Gx _ _ (32, [(3, .int a), (0, .ref (38 + n)), (1, .long z)], [.int pl, .int a], hp) _
      by_cases h99 : pl ≤ a
      · have h99' := h99
        rw [Int32.le_iff_toInt_le] at h99'
        refine px_gx (fun _ K => px_b2 true 47 rfl rfl (decide_eq_true h99) K) ?_
        show px_Gx _ _ (47, [(3, .int a), (0, .ref (38 + n)), (1, .long z)], [], hp) _
        refine px_gx (fun _ K => px_a 1 (f' := (48, [(3, .int a), (0, .ref (38 + n)), (1, .long z)], [.ref (38 + n)], hp)) rfl K) ?_
        refine px_gx (fun _ K => px_gf (38 + n) 80 4 8 (.int pl) rfl rfl hm rfl K) ?_
        show px_Gx _ _ (51, [(3, .int a), (0, .ref (38 + n)), (1, .long z)], [.int pl], hp) _
        refine px_gx (fun _ K => px_a 1 (f' := (53, [(4, .int pl), (3, .int a), (0, .ref (38 + n)), (1, .long z)], [], hp)) rfl K) ?_
        exact m_addPlace_2 (by omega) (by omega) (by omega) (pl.toInt + 1 - a.toInt).toNat pl hp hm H F L (by omega) (by omega) (by omega)
      · have h99' := h99
        rw [Int32.le_iff_toInt_le] at h99'
        refine px_gx (fun _ K => px_b2 false 47 rfl rfl (decide_eq_false h99) K) ?_
        show px_Gx _ _ (35, [(3, .int a), (0, .ref (38 + n)), (1, .long z)], [], hp) _
        refine px_gx (fun _ K => px_a 1 (f' := (36, [(3, .int a), (0, .ref (38 + n)), (1, .long z)], [.ref (38 + n)], hp)) rfl K) ?_
        refine px_gx (fun _ K => px_gf (38 + n) 23 4 9 (.ref (43 + n)) rfl rfl hm rfl K) ?_
        show px_Gx _ _ (39, [(3, .int a), (0, .ref (38 + n)), (1, .long z)], [.ref (43 + n)], hp) _
        refine px_gx (fun _ K => px_a 1 (f' := (40, [(3, .int a), (0, .ref (38 + n)), (1, .long z)], [.int a, .ref (43 + n)], hp)) rfl K) ?_
        obtain ⟨vs101, hv101, hl101, hg101⟩ := pa_arl (a := 43 + n) (i := 11) H (by omega) (by decide) (by decide) rfl
        have hi100 : a.toNatClampNeg < vs101.length := by show (Int32.toInt a).toNat < _; omega
        obtain ⟨z100, ez100⟩ := hg101 _ hi100
        refine px_gx (fun _ K => px_al (43 + n) (.long z100) rfl hv101 (Or.inr (Or.inl ⟨rfl, rfl⟩)) (i32_nn (by omega)) ez100 K) ?_
        show px_Gx _ _ (41, [(3, .int a), (0, .ref (38 + n)), (1, .long z)], [.long z100], hp) _
        refine px_gx (fun _ K => px_a 2 (f' := (43, [(3, .int a), (0, .ref (38 + n)), (1, .long z)], [.int (lg_cmp z100 z)], hp)) rfl K) ?_
        obtain ⟨z102, ez102, fz102⟩ : ∃ qz : Int32, qz = (lg_cmp z100 z) ∧ True := ⟨_, rfl, trivial⟩
        rw [← ez102]
        by_cases h103 : ¬ z102 = 0
        · have h103' := h103
          have h103'' : Int32.toInt z102 ≠ Int32.toInt 0 := fun z => h103 (Int32.toInt_inj.mp z)
          refine px_gx (fun _ K => px_b1 true 47 rfl rfl (decide_eq_true h103) K) ?_
          show px_Gx _ _ (47, [(3, .int a), (0, .ref (38 + n)), (1, .long z)], [], hp) _
          refine px_gx (fun _ K => px_a 1 (f' := (48, [(3, .int a), (0, .ref (38 + n)), (1, .long z)], [.ref (38 + n)], hp)) rfl K) ?_
          refine px_gx (fun _ K => px_gf (38 + n) 80 4 8 (.int pl) rfl rfl hm rfl K) ?_
          show px_Gx _ _ (51, [(3, .int a), (0, .ref (38 + n)), (1, .long z)], [.int pl], hp) _
          refine px_gx (fun _ K => px_a 1 (f' := (53, [(4, .int pl), (3, .int a), (0, .ref (38 + n)), (1, .long z)], [], hp)) rfl K) ?_
          exact m_addPlace_2 (by omega) (by omega) (by omega) (pl.toInt + 1 - a.toInt).toNat pl hp hm H F L (by omega) (by omega) (by omega)
        · have h103' := h103
          have h103'' : Int32.toInt z102 = Int32.toInt 0 := congrArg Int32.toInt (Decidable.not_not.mp h103)
          refine px_gx (fun _ K => px_b1 false 47 rfl rfl (decide_eq_false h103) K) ?_
          show px_Gx _ _ (46, [(3, .int a), (0, .ref (38 + n)), (1, .long z)], [], hp) _
          exact ⟨_, _, px_e rfl rfl, rfl, H, F, L, _, hm, by omega, by omega⟩
    · have h98' := h98
      rw [Int32.le_iff_toInt_le] at h98'
      refine px_gx (fun _ K => px_b2 false 27 rfl rfl (decide_eq_false h98) K) ?_
      show px_Gx _ _ (10, [(3, .int a), (0, .ref (38 + n)), (1, .long z)], [], hp) _
      refine px_gx (fun _ K => px_a 1 (f' := (11, [(3, .int a), (0, .ref (38 + n)), (1, .long z)], [.ref (38 + n)], hp)) rfl K) ?_
      refine px_gx (fun _ K => px_gf (38 + n) 23 4 9 (.ref (43 + n)) rfl rfl hm rfl K) ?_
      show px_Gx _ _ (14, [(3, .int a), (0, .ref (38 + n)), (1, .long z)], [.ref (43 + n)], hp) _
      refine px_gx (fun _ K => px_a 1 (f' := (15, [(3, .int a), (0, .ref (38 + n)), (1, .long z)], [.int a, .ref (43 + n)], hp)) rfl K) ?_
      obtain ⟨vs105, hv105, hl105, hg105⟩ := pa_arl (a := 43 + n) (i := 11) H (by omega) (by decide) (by decide) rfl
      have hi104 : a.toNatClampNeg < vs105.length := by show (Int32.toInt a).toNat < _; omega
      obtain ⟨z104, ez104⟩ := hg105 _ hi104
      refine px_gx (fun _ K => px_al (43 + n) (.long z104) rfl hv105 (Or.inr (Or.inl ⟨rfl, rfl⟩)) (i32_nn (by omega)) ez104 K) ?_
      show px_Gx _ _ (16, [(3, .int a), (0, .ref (38 + n)), (1, .long z)], [.long z104], hp) _
      refine px_gx (fun _ K => px_a 2 (f' := (18, [(3, .int a), (0, .ref (38 + n)), (1, .long z)], [.int (lg_cmp z104 z)], hp)) rfl K) ?_
      obtain ⟨z106, ez106, fz106⟩ : ∃ qz : Int32, qz = (lg_cmp z104 z) ∧ True := ⟨_, rfl, trivial⟩
      rw [← ez106]
      by_cases h107 : (0 : Int32) ≤ z106
      · have h107' := h107
        rw [Int32.le_iff_toInt_le] at h107'
        refine px_gx (fun _ K => px_b1 true 27 rfl rfl (decide_eq_true h107) K) ?_
        show px_Gx _ _ (27, [(3, .int a), (0, .ref (38 + n)), (1, .long z)], [], hp) _
        refine px_gx (fun _ K => px_a 2 (f' := (29, [(3, .int a), (0, .ref (38 + n)), (1, .long z)], [.ref (38 + n), .int a], hp)) rfl K) ?_
        refine px_gx (fun _ K => px_gf (38 + n) 80 4 8 (.int pl) rfl rfl hm rfl K) ?_
        show px_Gx _ _ (32, [(3, .int a), (0, .ref (38 + n)), (1, .long z)], [.int pl, .int a], hp) _
        by_cases h108 : pl ≤ a
        · have h108' := h108
          rw [Int32.le_iff_toInt_le] at h108'
          refine px_gx (fun _ K => px_b2 true 47 rfl rfl (decide_eq_true h108) K) ?_
          show px_Gx _ _ (47, [(3, .int a), (0, .ref (38 + n)), (1, .long z)], [], hp) _
          refine px_gx (fun _ K => px_a 1 (f' := (48, [(3, .int a), (0, .ref (38 + n)), (1, .long z)], [.ref (38 + n)], hp)) rfl K) ?_
          refine px_gx (fun _ K => px_gf (38 + n) 80 4 8 (.int pl) rfl rfl hm rfl K) ?_
          show px_Gx _ _ (51, [(3, .int a), (0, .ref (38 + n)), (1, .long z)], [.int pl], hp) _
          refine px_gx (fun _ K => px_a 1 (f' := (53, [(4, .int pl), (3, .int a), (0, .ref (38 + n)), (1, .long z)], [], hp)) rfl K) ?_
          exact m_addPlace_2 (by omega) (by omega) (by omega) (pl.toInt + 1 - a.toInt).toNat pl hp hm H F L (by omega) (by omega) (by omega)
        · have h108' := h108
          rw [Int32.le_iff_toInt_le] at h108'
          refine px_gx (fun _ K => px_b2 false 47 rfl rfl (decide_eq_false h108) K) ?_
          show px_Gx _ _ (35, [(3, .int a), (0, .ref (38 + n)), (1, .long z)], [], hp) _
          refine px_gx (fun _ K => px_a 1 (f' := (36, [(3, .int a), (0, .ref (38 + n)), (1, .long z)], [.ref (38 + n)], hp)) rfl K) ?_
          refine px_gx (fun _ K => px_gf (38 + n) 23 4 9 (.ref (43 + n)) rfl rfl hm rfl K) ?_
          show px_Gx _ _ (39, [(3, .int a), (0, .ref (38 + n)), (1, .long z)], [.ref (43 + n)], hp) _
          refine px_gx (fun _ K => px_a 1 (f' := (40, [(3, .int a), (0, .ref (38 + n)), (1, .long z)], [.int a, .ref (43 + n)], hp)) rfl K) ?_
          refine px_gx (fun _ K => px_al (43 + n) (.long z104) rfl hv105 (Or.inr (Or.inl ⟨rfl, rfl⟩)) (i32_nn (by omega)) ez104 K) ?_
          show px_Gx _ _ (41, [(3, .int a), (0, .ref (38 + n)), (1, .long z)], [.long z104], hp) _
          refine px_gx (fun _ K => px_a 2 (f' := (43, [(3, .int a), (0, .ref (38 + n)), (1, .long z)], [.int (lg_cmp z104 z)], hp)) rfl K) ?_
          rw [← ez106]
          by_cases h110 : ¬ z106 = 0
          · have h110' := h110
            have h110'' : Int32.toInt z106 ≠ Int32.toInt 0 := fun z => h110 (Int32.toInt_inj.mp z)
            refine px_gx (fun _ K => px_b1 true 47 rfl rfl (decide_eq_true h110) K) ?_
            show px_Gx _ _ (47, [(3, .int a), (0, .ref (38 + n)), (1, .long z)], [], hp) _
            refine px_gx (fun _ K => px_a 1 (f' := (48, [(3, .int a), (0, .ref (38 + n)), (1, .long z)], [.ref (38 + n)], hp)) rfl K) ?_
            refine px_gx (fun _ K => px_gf (38 + n) 80 4 8 (.int pl) rfl rfl hm rfl K) ?_
            show px_Gx _ _ (51, [(3, .int a), (0, .ref (38 + n)), (1, .long z)], [.int pl], hp) _
            refine px_gx (fun _ K => px_a 1 (f' := (53, [(4, .int pl), (3, .int a), (0, .ref (38 + n)), (1, .long z)], [], hp)) rfl K) ?_
            exact m_addPlace_2 (by omega) (by omega) (by omega) (pl.toInt + 1 - a.toInt).toNat pl hp hm H F L (by omega) (by omega) (by omega)
          · have h110' := h110
            have h110'' : Int32.toInt z106 = Int32.toInt 0 := congrArg Int32.toInt (Decidable.not_not.mp h110)
            refine px_gx (fun _ K => px_b1 false 47 rfl rfl (decide_eq_false h110) K) ?_
            show px_Gx _ _ (46, [(3, .int a), (0, .ref (38 + n)), (1, .long z)], [], hp) _
            exact ⟨_, _, px_e rfl rfl, rfl, H, F, L, _, hm, by omega, by omega⟩
      · have h107' := h107
        rw [Int32.le_iff_toInt_le] at h107'
        refine px_gx (fun _ K => px_b1 false 27 rfl rfl (decide_eq_false h107) K) ?_
        show px_Gx _ _ (21, [(3, .int a), (0, .ref (38 + n)), (1, .long z)], [], hp) _
        refine px_gx (fun _ K => px_a 1 (f' := (24, [(3, .int (a + 1)), (0, .ref (38 + n)), (1, .long z)], [], hp)) rfl K) ?_
        obtain ⟨z111, ez111, fz111⟩ : ∃ qz : Int32, qz = a + 1 ∧ qz.toInt = Int32.toInt a + Int32.toInt 1 := ⟨_, rfl, i32_add (by omega) (by omega)⟩
        rw [← ez111]
        refine px_gx (fun _ K => px_a 1 (f' := (2, [(3, .int z111), (0, .ref (38 + n)), (1, .long z)], [], hp)) rfl K) ?_
        exact ih z111 (by omega) (by omega) (by omega)
set_option maxRecDepth 20000 in
set_option maxHeartbeats 4000000 in
theorem m_addPlace {d n : Nat} {hp0 : px_H} {th w h pn pl fo le ru : Int32} {z : Int64} (q1 : pl.toInt ≤ 511) (hm : hp0[38 + n]? = some (4, m_O n th w h pn pl fo le ru)) (H : pa_Hi n hp0) : px_Gx d 68 (0, [(0, .ref (38 + n)), (1, .long z)], [], hp0) (fun o hp' => o = .inl none ∧ pa_Hi n hp' ∧ pa_Fr n [(24, 8), (29, 0)] hp0 hp' ∧ hp'.length = hp0.length ∧ ∃ pl', hp'[38 + n]? = some (4, m_O n th w h pn pl' fo le ru) ∧ pl.toInt ≤ pl'.toInt ∧ pl'.toInt ≤ pl.toInt + 1) := by
  have cl0 : Int32.toInt 0 = 0 := rfl
  obtain ⟨bth1, bth2, bw1, bw2, bh1, bh2, bpn1, bpn2, bpl1, bpl2, bfo1, bfo2, ble1, ble2, bru1, bru2⟩ := pa_bnd H hm
  have F : pa_Fr n [(24, 8), (29, 0)] hp0 hp0 := pa_Fr.refl _
  have L : hp0.length = hp0.length := rfl
  refine px_gx (fun _ K => px_a 2 (f' := (2, [(3, .int 0), (0, .ref (38 + n)), (1, .long z)], [], hp0)) rfl K) ?_
  exact m_addPlace_1 q1 hm H F L (pl.toInt + 1).toNat 0 (by omega) (by omega) (by omega)
