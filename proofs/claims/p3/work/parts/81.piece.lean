def l_R (n : Nat) (hp : px_H) : Prop := pa_fd hp 8 7 = pa_fd hp (38 + n) 4
theorem l_R_fr {n : Nat} {M : pa_M} {hp hp1 : px_H} (H : pa_Hi n hp) (G : pa_Fr n M hp hp1) (h1 : ¬ (8, 7) ∈ M) (h2 : ¬ (24, 4) ∈ M) (R : l_R n hp) : l_R n hp1 := by
  unfold l_R
  rw [l_fd H G (r := 8) rfl (by decide) (by decide) h1, l_fd H G (r24 n) (by decide) (by decide) h2]
  exact R
set_option maxRecDepth 20000 in
theorem x_piece {d : Nat} {hp : px_H} {W V b2 b3 b4 b5 b6 : Nat} {fc fd : Int32} {sh : Int64} (hc : hp[(8 : Nat)]? = some (3, [.int (nI W), .int (nI V), .ref b2, .ref b3, .ref b4, .ref b5, .ref b6, .int fc, .long sh, .int fd])) : px_Gx d 56 (0, [(0, .ref 8)], [], hp) (fun o hp' => ∃ r fc' : Int32, o = .inl (some (.int r)) ∧ pa_fd hp' 8 7 = some (.int fc') ∧ ((6 ≤ fc ∧ r = -1 ∧ fc' = fc) ∨ (¬ 6 ≤ fc ∧ r = fc + 1 - 1 ∧ fc' = fc + 1))) := by
  by_cases h : (6 : Int32) ≤ fc
  · refine ⟨_, hp, ?_, -1, fc, rfl, by rw [pa_fd_get hc]; rfl, Or.inl ⟨h, rfl, rfl⟩⟩
    refine px_a 1 (f' := (1, [(0, .ref 8)], [.ref 8], hp)) rfl ?_
    refine px_gf 8 72 3 7 (.int fc) rfl rfl hc rfl ?_
    show px_Go _ _ (4, [(0, .ref 8)], [.int fc], hp) _
    refine px_a 1 (f' := (6, [(0, .ref 8)], [.int 6, .int fc], hp)) rfl ?_
    refine px_b2 false 11 rfl rfl (decide_eq_false (Int32.not_lt.mpr h)) ?_
    show px_Go _ _ (9, [(0, .ref 8)], [], hp) _
    refine px_a 1 (f' := (10, [(0, .ref 8)], [.int (-1)], hp)) rfl ?_
    exact px_ri rfl rfl rfl
  · refine ⟨_, (((hp.set 8 (3, [.int (nI W), .int (nI V), .ref b2, .ref b3, .ref b4, .ref b5, .ref b6, .int fc, .long sh, .int 0]))).set 8 (3, [.int (nI W), .int (nI V), .ref b2, .ref b3, .ref b4, .ref b5, .ref b6, .int (fc + 1), .long sh, .int 0])), ?_, fc + 1 - 1, fc + 1, rfl, by rw [pa_fd_get (px_self (px_self hc))]; rfl, Or.inr ⟨h, rfl, rfl⟩⟩
    refine px_a 1 (f' := (1, [(0, .ref 8)], [.ref 8], hp)) rfl ?_
    refine px_gf 8 72 3 7 (.int fc) rfl rfl hc rfl ?_
    show px_Go _ _ (4, [(0, .ref 8)], [.int fc], hp) _
    refine px_a 1 (f' := (6, [(0, .ref 8)], [.int 6, .int fc], hp)) rfl ?_
    refine px_b2 true 11 rfl rfl (decide_eq_true (Int32.not_le.mp h)) ?_
    show px_Go _ _ (11, [(0, .ref 8)], [], hp) _
    refine px_a 2 (f' := (13, [(0, .ref 8)], [.int 0, .ref 8], hp)) rfl ?_
    refine px_pf 8 68 3 9 rfl rfl hc (by omega) (by simp) rfl rfl (by decide) ?_
    have hf1_8 : (hp.set 8 (3, [.int (nI W), .int (nI V), .ref b2, .ref b3, .ref b4, .ref b5, .ref b6, .int fc, .long sh, .int 0]))[(8 : Nat)]? = some (3, [.int (nI W), .int (nI V), .ref b2, .ref b3, .ref b4, .ref b5, .ref b6, .int fc, .long sh, .int 0]) := px_self hc
    show px_Go _ _ (16, [(0, .ref 8)], [], (hp.set 8 (3, [.int (nI W), .int (nI V), .ref b2, .ref b3, .ref b4, .ref b5, .ref b6, .int fc, .long sh, .int 0]))) _
    refine px_a 2 (f' := (18, [(0, .ref 8)], [.ref 8, .ref 8], (hp.set 8 (3, [.int (nI W), .int (nI V), .ref b2, .ref b3, .ref b4, .ref b5, .ref b6, .int fc, .long sh, .int 0])))) rfl ?_
    refine px_gf 8 72 3 7 (.int fc) rfl rfl hf1_8 rfl ?_
    show px_Go _ _ (21, [(0, .ref 8)], [.int fc, .ref 8], (hp.set 8 (3, [.int (nI W), .int (nI V), .ref b2, .ref b3, .ref b4, .ref b5, .ref b6, .int fc, .long sh, .int 0]))) _
    refine px_a 2 (f' := (23, [(0, .ref 8)], [.int (fc + 1), .ref 8], (hp.set 8 (3, [.int (nI W), .int (nI V), .ref b2, .ref b3, .ref b4, .ref b5, .ref b6, .int fc, .long sh, .int 0])))) rfl ?_
    refine px_pf 8 72 3 7 rfl rfl hf1_8 (by omega) (by simp) rfl rfl (by decide) ?_
    have hf2_8 : (((hp.set 8 (3, [.int (nI W), .int (nI V), .ref b2, .ref b3, .ref b4, .ref b5, .ref b6, .int fc, .long sh, .int 0]))).set 8 (3, [.int (nI W), .int (nI V), .ref b2, .ref b3, .ref b4, .ref b5, .ref b6, .int (fc + 1), .long sh, .int 0]))[(8 : Nat)]? = some (3, [.int (nI W), .int (nI V), .ref b2, .ref b3, .ref b4, .ref b5, .ref b6, .int (fc + 1), .long sh, .int 0]) := px_self hf1_8
    show px_Go _ _ (26, [(0, .ref 8)], [], (((hp.set 8 (3, [.int (nI W), .int (nI V), .ref b2, .ref b3, .ref b4, .ref b5, .ref b6, .int fc, .long sh, .int 0]))).set 8 (3, [.int (nI W), .int (nI V), .ref b2, .ref b3, .ref b4, .ref b5, .ref b6, .int (fc + 1), .long sh, .int 0]))) _
    refine px_a 1 (f' := (27, [(0, .ref 8)], [.ref 8], (((hp.set 8 (3, [.int (nI W), .int (nI V), .ref b2, .ref b3, .ref b4, .ref b5, .ref b6, .int fc, .long sh, .int 0]))).set 8 (3, [.int (nI W), .int (nI V), .ref b2, .ref b3, .ref b4, .ref b5, .ref b6, .int (fc + 1), .long sh, .int 0])))) rfl ?_
    refine px_gf 8 72 3 7 (.int (fc + 1)) rfl rfl hf2_8 rfl ?_
    show px_Go _ _ (30, [(0, .ref 8)], [.int (fc + 1)], (((hp.set 8 (3, [.int (nI W), .int (nI V), .ref b2, .ref b3, .ref b4, .ref b5, .ref b6, .int fc, .long sh, .int 0]))).set 8 (3, [.int (nI W), .int (nI V), .ref b2, .ref b3, .ref b4, .ref b5, .ref b6, .int (fc + 1), .long sh, .int 0]))) _
    refine px_a 2 (f' := (32, [(0, .ref 8)], [.int ((fc + 1) - 1)], (((hp.set 8 (3, [.int (nI W), .int (nI V), .ref b2, .ref b3, .ref b4, .ref b5, .ref b6, .int fc, .long sh, .int 0]))).set 8 (3, [.int (nI W), .int (nI V), .ref b2, .ref b3, .ref b4, .ref b5, .ref b6, .int (fc + 1), .long sh, .int 0])))) rfl ?_
    exact px_ri rfl rfl rfl
set_option maxRecDepth 20000 in
set_option maxHeartbeats 4000000 in
theorem m_piece {d n : Nat} {hp0 : px_H} {th w h pn pl fo le ru : Int32} (hm : hp0[38 + n]? = some (4, m_O n th w h pn pl fo le ru)) (H : pa_Hi n hp0) : px_Gx d 84 (0, [(0, .ref (38 + n))], [], hp0) (fun o hp' => ∃ r pn' : Int32, o = .inl (some (.int r)) ∧ pa_fd hp' (38 + n) 4 = some (.int pn') ∧ ((pn = 6 ∧ r = -1 ∧ pn' = pn) ∨ (¬ pn = 6 ∧ r = pn + 1 - 1 ∧ pn' = pn + 1))) := by
  have clm1 : Int32.toInt (-1) = -1 := rfl
  have cl0 : Int32.toInt 0 = 0 := rfl
  have cl1 : Int32.toInt 1 = 1 := rfl
  have cl6 : Int32.toInt 6 = 6 := rfl
  obtain ⟨bth1, bth2, bw1, bw2, bh1, bh2, bpn1, bpn2, bpl1, bpl2, bfo1, bfo2, ble1, ble2, bru1, bru2⟩ := pa_bnd H hm
  have F : pa_Fr n [(24, 0), (24, 4), (24, 13), (26, 0)] hp0 hp0 := pa_Fr.refl _
  have L : hp0.length = hp0.length := rfl
  refine px_gx (fun _ K => px_a 2 (f' := (2, [(0, .ref (38 + n))], [.int 0, .ref (38 + n)], hp0)) rfl K) ?_
  refine px_gx (fun _ K => px_pf (38 + n) 58 4 0 rfl rfl hm (by omega) (Nat.le_of_ble_eq_true rfl) (rfl) rfl (by decide) K) ?_
  show px_Gx _ _ (5, [(0, .ref (38 + n))], [], hp0.set (38 + n) (4, (m_O n 0 w h pn pl fo le ru))) _
  have hm501 : (hp0.set (38 + n) (4, (m_O n 0 w h pn pl fo le ru)))[38 + n]? = some (4, (m_O n 0 w h pn pl fo le ru)) := px_self hm
  have H501 : pa_Hi n (hp0.set (38 + n) (4, (m_O n 0 w h pn pl fo le ru))) := pa_ms (k := 0) (v := .int 0) H hm rfl (pa_in (by omega) (by omega))
  have F501 : pa_Fr n [(24, 0), (24, 4), (24, 13), (26, 0)] hp0 (hp0.set (38 + n) (4, (m_O n 0 w h pn pl fo le ru))) := F.trans (pa_mf (k := 0) (v := .int 0) hm (by decide) (by decide))
  have L501 : (hp0.set (38 + n) (4, (m_O n 0 w h pn pl fo le ru))).length = hp0.length := List.length_set.trans L
  generalize hp0.set (38 + n) (4, (m_O n 0 w h pn pl fo le ru)) = hp501 at hm501 H501 F501 L501 ⊢
  refine px_gx (fun _ K => px_a 1 (f' := (6, [(0, .ref (38 + n))], [.ref (38 + n)], hp501)) rfl K) ?_
  refine px_gx (fun _ K => px_gf (38 + n) 61 4 4 (.int pn) rfl rfl hm501 rfl K) ?_
  show px_Gx _ _ (9, [(0, .ref (38 + n))], [.int pn], hp501) _
  refine px_gx (fun _ K => px_a 1 (f' := (11, [(0, .ref (38 + n))], [.int 6, .int pn], hp501)) rfl K) ?_
  by_cases h502 : ¬ pn = 6
  · have h502' := h502
    have h502'' : Int32.toInt pn ≠ Int32.toInt 6 := fun z => h502 (Int32.toInt_inj.mp z)
    refine px_gx (fun _ K => px_b2 true 16 rfl rfl (decide_eq_true h502) K) ?_
    show px_Gx _ _ (16, [(0, .ref (38 + n))], [], hp501) _
    refine px_gx (fun _ K => px_a 1 (f' := (17, [(0, .ref (38 + n))], [.ref (38 + n)], hp501)) rfl K) ?_
    refine px_gx (fun _ K => px_gf (38 + n) 13 4 5 (.ref (40 + n)) rfl rfl hm501 rfl K) ?_
    show px_Gx _ _ (20, [(0, .ref (38 + n))], [.ref (40 + n)], hp501) _
    refine px_gx (fun _ K => px_a 1 (f' := (21, [(0, .ref (38 + n))], [.ref (38 + n), .ref (40 + n)], hp501)) rfl K) ?_
    refine px_gx (fun _ K => px_gf (38 + n) 61 4 4 (.int pn) rfl rfl hm501 rfl K) ?_
    show px_Gx _ _ (24, [(0, .ref (38 + n))], [.int pn, .ref (40 + n)], hp501) _
    refine px_gx (fun _ K => px_a 1 (f' := (25, [(0, .ref (38 + n))], [.int 0, .int pn, .ref (40 + n)], hp501)) rfl K) ?_
    obtain ⟨vs504, hv504, hl504, hg504⟩ := pa_ara (a := 40 + n) (i := 8) (lo := 0) (hi := 6) H501 (by omega) (by decide) (by decide) rfl
    have hi503 : pn.toNatClampNeg < vs504.length := by show (Int32.toInt pn).toNat < _; omega
    refine px_gx (fun _ K => px_ias (40 + n) rfl hv504 (by omega) (i32_nn (by omega)) hi503 K) ?_
    show px_Gx _ _ (26, [(0, .ref (38 + n))], [], hp501.set (40 + n) (10, vs504.set pn.toNatClampNeg (.int 0))) _
    have hm503 : (hp501.set (40 + n) (10, vs504.set pn.toNatClampNeg (.int 0)))[38 + n]? = some (4, (m_O n 0 w h pn pl fo le ru)) := px_ne hm501 (by omega)
    have H503 : pa_Hi n (hp501.set (40 + n) (10, vs504.set pn.toNatClampNeg (.int 0))) := pa_aS (i := 8) H501 (by omega) (by decide) (by decide) hv504 rfl (pa_in (by omega) (by omega))
    have F503 : pa_Fr n [(24, 0), (24, 4), (24, 13), (26, 0)] hp0 (hp501.set (40 + n) (10, vs504.set pn.toNatClampNeg (.int 0))) := F501.trans (pa_aF (i := 8) (by omega) (by decide) (by decide) hv504 (by decide) (by decide))
    have L503 : (hp501.set (40 + n) (10, vs504.set pn.toNatClampNeg (.int 0))).length = hp0.length := List.length_set.trans L501
    generalize hp501.set (40 + n) (10, vs504.set pn.toNatClampNeg (.int 0)) = hp503 at hm503 H503 F503 L503 ⊢
    refine px_gx (fun _ K => px_a 2 (f' := (28, [(0, .ref (38 + n))], [.ref (38 + n), .ref (38 + n)], hp503)) rfl K) ?_
    refine px_gx (fun _ K => px_gf (38 + n) 61 4 4 (.int pn) rfl rfl hm503 rfl K) ?_
    show px_Gx _ _ (31, [(0, .ref (38 + n))], [.int pn, .ref (38 + n)], hp503) _
    refine px_gx (fun _ K => px_a 2 (f' := (33, [(0, .ref (38 + n))], [.int (pn + 1), .ref (38 + n)], hp503)) rfl K) ?_
    obtain ⟨z505, ez505, fz505⟩ : ∃ qz : Int32, qz = pn + 1 ∧ qz.toInt = Int32.toInt pn + Int32.toInt 1 := ⟨_, rfl, i32_add (by omega) (by omega)⟩
    rw [← ez505]
    refine px_gx (fun _ K => px_pf (38 + n) 61 4 4 rfl rfl hm503 (by omega) (Nat.le_of_ble_eq_true rfl) (rfl) rfl (by decide) K) ?_
    show px_Gx _ _ (36, [(0, .ref (38 + n))], [], hp503.set (38 + n) (4, (m_O n 0 w h z505 pl fo le ru))) _
    have hm506 : (hp503.set (38 + n) (4, (m_O n 0 w h z505 pl fo le ru)))[38 + n]? = some (4, (m_O n 0 w h z505 pl fo le ru)) := px_self hm503
    have H506 : pa_Hi n (hp503.set (38 + n) (4, (m_O n 0 w h z505 pl fo le ru))) := pa_ms (k := 4) (v := .int z505) H503 hm503 rfl (pa_in (by omega) (by omega))
    have F506 : pa_Fr n [(24, 0), (24, 4), (24, 13), (26, 0)] hp0 (hp503.set (38 + n) (4, (m_O n 0 w h z505 pl fo le ru))) := F503.trans (pa_mf (k := 4) (v := .int z505) hm503 (by decide) (by decide))
    have L506 : (hp503.set (38 + n) (4, (m_O n 0 w h z505 pl fo le ru))).length = hp0.length := List.length_set.trans L503
    generalize hp503.set (38 + n) (4, (m_O n 0 w h z505 pl fo le ru)) = hp506 at hm506 H506 F506 L506 ⊢
    refine px_gx (fun _ K => px_a 2 (f' := (38, [(0, .ref (38 + n))], [.int 0, .ref (38 + n)], hp506)) rfl K) ?_
    refine px_gx (fun _ K => px_pf (38 + n) 72 4 13 rfl rfl hm506 (by omega) (Nat.le_of_ble_eq_true rfl) (pa_nb (by omega) (by omega)) rfl (by decide) K) ?_
    show px_Gx _ _ (41, [(0, .ref (38 + n))], [], hp506.set (38 + n) (4, (m_O n 0 w h z505 pl 0 le ru))) _
    have hm507 : (hp506.set (38 + n) (4, (m_O n 0 w h z505 pl 0 le ru)))[38 + n]? = some (4, (m_O n 0 w h z505 pl 0 le ru)) := px_self hm506
    have H507 : pa_Hi n (hp506.set (38 + n) (4, (m_O n 0 w h z505 pl 0 le ru))) := pa_ms (k := 13) (v := .int 0) H506 hm506 rfl (pa_in (by omega) (by omega))
    have F507 : pa_Fr n [(24, 0), (24, 4), (24, 13), (26, 0)] hp0 (hp506.set (38 + n) (4, (m_O n 0 w h z505 pl 0 le ru))) := F506.trans (pa_mf (k := 13) (v := .int 0) hm506 (by decide) (by decide))
    have L507 : (hp506.set (38 + n) (4, (m_O n 0 w h z505 pl 0 le ru))).length = hp0.length := List.length_set.trans L506
    generalize hp506.set (38 + n) (4, (m_O n 0 w h z505 pl 0 le ru)) = hp507 at hm507 H507 F507 L507 ⊢
    refine px_gx (fun _ K => px_a 1 (f' := (42, [(0, .ref (38 + n))], [.ref (38 + n)], hp507)) rfl K) ?_
    refine px_gx (fun _ K => px_gf (38 + n) 61 4 4 (.int z505) rfl rfl hm507 rfl K) ?_
    show px_Gx _ _ (45, [(0, .ref (38 + n))], [.int z505], hp507) _
    refine px_gx (fun _ K => px_a 2 (f' := (47, [(0, .ref (38 + n))], [.int (z505 - 1)], hp507)) rfl K) ?_
    obtain ⟨z508, ez508, fz508⟩ : ∃ qz : Int32, qz = z505 - 1 ∧ qz.toInt = Int32.toInt z505 - Int32.toInt 1 := ⟨_, rfl, i32_sub (by omega) (by omega)⟩
    rw [← ez508]
    exact ⟨_, _, px_ri rfl rfl rfl, _, _, rfl, by rw [pa_fd_get hm507]; rfl, Or.inr ⟨h502, by first | rfl | (rw [ez508, ez505]), by first | rfl | exact ez505⟩⟩
  · have h502' := h502
    have h502'' : Int32.toInt pn = Int32.toInt 6 := congrArg Int32.toInt (Decidable.not_not.mp h502)
    refine px_gx (fun _ K => px_b2 false 16 rfl rfl (decide_eq_false h502) K) ?_
    show px_Gx _ _ (14, [(0, .ref (38 + n))], [], hp501) _
    refine px_gx (fun _ K => px_a 1 (f' := (15, [(0, .ref (38 + n))], [.int (-1)], hp501)) rfl K) ?_
    exact ⟨_, _, px_ri rfl rfl rfl, _, pn, rfl, by rw [pa_fd_get hm501]; rfl, Or.inl ⟨Decidable.not_not.mp h502, rfl, rfl⟩⟩
theorem l_R0 {L : Nat} {xs : Nat → Int32} {W V n : Nat} {hn36 : n ≤ 36} : l_R n (px_H2 (20, px_s0 L xs) (px_sarr 1) (px_sarr 2) (px_sarr 3) (px_sarr 4) (px_sarr 5) (px_sarr 6) (30, []) (nI W) (nI V) n) := by
  unfold l_R
  rw [pa_fd_get f_8, pa_fd_get f_m0]
  rfl
theorem l_6 {x : Int32} (h : x.toInt ≤ 6) : (6 ≤ x) ↔ x = 6 := by
  have e6 : (6 : Int32).toInt = 6 := rfl
  rw [Int32.le_iff_toInt_le, ← Int32.toInt_inj]
  omega
