theorem p_29 {n : Nat} {hp : px_H} (hN : pa_N n) (H : pa_Hi n hp) : ∃ fw : List Value, hp[(29 : Nat)]? = some (10, fw) ∧ fw.length ≤ 36 := by
  obtain ⟨vq, hq1, hq2, -⟩ := pa_Hi_get H (a := 29) (r := 14) rfl (by decide)
  refine ⟨vq, hq1, ?_⟩
  change (vq.length : Int) = pa_ev n (0, 1) at hq2
  simp only [pa_ev] at hq2
  have := hN.2
  omega
theorem p_z29 {n k : Nat} {hp : px_H} {fw : List Value} {z : Int32} (H : pa_Hi n hp) (h : hp[(29 : Nat)]? = some (10, fw)) : pa_Hi n (hp.set 29 (10, fw.set k (.int z))) := pa_Hi_set H (r := 14) (k := k) (v := .int z) rfl (by decide) h (pa_top_ok _) (by omega)
set_option maxRecDepth 20000 in
theorem x_apsl {d n k : Nat} (hN : pa_N n) {W V c N : Nat} {fc fd : Int32} {sh : Int64} {wl : List Nat} {st : List Value} {f : Nat → Nat} (hk : k < 6) (c160 : c ≤ 160) (hr1 : st.length = 160 ∧ (∀ j, j < c → st[j]? = some (.long (lN (f j))))) : ∀ t j, j + t = c → ∀ (hp : px_H) (H : pa_Hi n hp) (hc : hp[(8 : Nat)]? = some (3, [.int (nI W), .int (nI V), .ref 9, .ref 28, .ref 29, .ref 30, .ref (34 + n), .int fc, .long sh, .int fd])) (R : r_fm hp W V) (hf1 : hp[10 + 3 * k]? = some (1, [.int (nI W), .int (nI V), .ref (11 + 3 * k), .ref (12 + 3 * k), .int (nI N), .int (nI wl.length), .int (nI c), .long sh])) (hs1 : hp[12 + 3 * k]? = some (11, st)), px_Gx (d + 5) 43 (10, [(2, .int (nI j)), (0, .ref 8), (1, .ref (10 + 3 * k))], [], hp) (fun o hp' => o = .inl none ∧ r_fm hp' W V) := by
  intro t
  induction t with
  | zero =>
    intro j h hp H hc R hf1 hs1
    refine px_gx (fun _ K9 => px_a 2 (f' := (12, [(2, .int (nI j)), (0, .ref 8), (1, .ref (10 + 3 * k))], [.ref (10 + 3 * k), .int (nI j)], hp)) rfl K9) ?_
    refine px_gx (fun _ K9 => px_gf (10 + 3 * k) 94 1 6 (.int (nI c)) rfl rfl hf1 rfl K9) ?_
    show px_Gx _ _ (15, [(2, .int (nI j)), (0, .ref 8), (1, .ref (10 + 3 * k))], [.int (nI c), .int (nI j)], hp) _
    refine px_gx (fun _ K9 => px_b2 true 39 rfl rfl (decide_eq_true (show nI c ≤ nI j by rw [Int32.le_iff_toInt_le, nI_toInt (by omega), nI_toInt (by omega)]; omega)) K9) ?_
    show px_Gx _ _ (39, [(2, .int (nI j)), (0, .ref 8), (1, .ref (10 + 3 * k))], [], hp) _
    exact ⟨_, _, px_e rfl rfl, rfl, R⟩
  | succ t ih =>
    intro j h hp H hc R hf1 hs1
    have hj : j < c := by omega
    obtain ⟨ev, h30, -⟩ := pa_Hi_get H (a := 30) (r := 15) rfl (by decide)
    obtain ⟨z, hp2, g2, H2, G2⟩ := x_ci (d' := d + 4) (ct_12 hN) (by omega) rfl rfl H [.ref 30, .long (lN (f j)), .int 0] ⟨⟨30, rfl, rfl, by decide⟩, ⟨_, rfl⟩, pa_top_ok _, trivial⟩
    refine px_gx (fun _ K9 => px_a 2 (f' := (12, [(2, .int (nI j)), (0, .ref 8), (1, .ref (10 + 3 * k))], [.ref (10 + 3 * k), .int (nI j)], hp)) rfl K9) ?_
    refine px_gx (fun _ K9 => px_gf (10 + 3 * k) 94 1 6 (.int (nI c)) rfl rfl hf1 rfl K9) ?_
    show px_Gx _ _ (15, [(2, .int (nI j)), (0, .ref 8), (1, .ref (10 + 3 * k))], [.int (nI c), .int (nI j)], hp) _
    refine px_gx (fun _ K9 => px_b2 false 39 rfl rfl (decide_eq_false (show ¬ nI c ≤ nI j by rw [Int32.le_iff_toInt_le, nI_toInt (by omega), nI_toInt (by omega)]; omega)) K9) ?_
    show px_Gx _ _ (18, [(2, .int (nI j)), (0, .ref 8), (1, .ref (10 + 3 * k))], [], hp) _
    refine px_gx (fun _ K9 => px_a 1 (f' := (19, [(2, .int (nI j)), (0, .ref 8), (1, .ref (10 + 3 * k))], [.ref 8], hp)) rfl K9) ?_
    refine px_gx (fun _ K9 => px_gf 8 46 3 5 (.ref 30) rfl rfl hc rfl K9) ?_
    show px_Gx _ _ (22, [(2, .int (nI j)), (0, .ref 8), (1, .ref (10 + 3 * k))], [.ref 30], hp) _
    refine px_gx (fun _ K9 => px_a 1 (f' := (23, [(2, .int (nI j)), (0, .ref 8), (1, .ref (10 + 3 * k))], [.ref (10 + 3 * k), .ref 30], hp)) rfl K9) ?_
    refine px_gx (fun _ K9 => px_gf (10 + 3 * k) 97 1 3 (.ref (12 + 3 * k)) rfl rfl hf1 rfl K9) ?_
    show px_Gx _ _ (26, [(2, .int (nI j)), (0, .ref 8), (1, .ref (10 + 3 * k))], [.ref (12 + 3 * k), .ref 30], hp) _
    refine px_gx (fun _ K9 => px_a 1 (f' := (27, [(2, .int (nI j)), (0, .ref 8), (1, .ref (10 + 3 * k))], [.int (nI j), .ref (12 + 3 * k), .ref 30], hp)) rfl K9) ?_
    refine px_gx (fun _ K9 => px_al (12 + 3 * k) (.long (lN (f j))) rfl hs1 (Or.inr (Or.inl ⟨rfl, rfl⟩)) (nI_pos (by omega)) (by rw [nI_clamp (by omega)]; exact hr1.2 j hj) K9) ?_
    show px_Gx _ _ (28, [(2, .int (nI j)), (0, .ref 8), (1, .ref (10 + 3 * k))], [.long (lN (f j)), .ref 30], hp) _
    refine px_gx (fun _ K9 => px_a 1 (f' := (29, [(2, .int (nI j)), (0, .ref 8), (1, .ref (10 + 3 * k))], [.int 0, .long (lN (f j)), .ref 30], hp)) rfl K9) ?_
    refine px_gx (fun _ K9 => px_cv 30 (as := [.long (lN (f j)), .int 0]) (rest := []) rfl rfl h30 rfl rfl rfl rfl (Nat.le_of_ble_eq_true rfl) (g2) K9) ?_
    show px_Gx _ _ (32, [(2, .int (nI j)), (0, .ref 8), (1, .ref (10 + 3 * k))], [.int z], hp2) _
    refine px_gx (fun _ K9 => px_a 3 (f' := (10, [(2, .int ((nI j) + 1)), (0, .ref 8), (1, .ref (10 + 3 * k))], [], hp2)) rfl K9) ?_
    rw [p_s16 j (by omega)]
    refine px_wk [(2, .int (nI (j + 1))), (0, .ref 8), (1, .ref (10 + 3 * k))] ⟨rfl, rfl, rfl, trivial⟩ ?_
    exact ih (j + 1) (by omega) hp2 H2 (l_fo G2 hc (r := 8) rfl (by decide)) (r_fm_fr H G2 (by decide) (by decide) (by decide) R) (l_fo G2 hf1 (r10 hk) (by decide)) (l_fo G2 hs1 (r12 hk) (by decide))
set_option maxRecDepth 20000 in
theorem x_aps {d n k : Nat} (hN : pa_N n) {hp : px_H} (H : pa_Hi n hp) {W V : Nat} {fc fd : Int32} {sh : Int64} (hc : hp[(8 : Nat)]? = some (3, [.int (nI W), .int (nI V), .ref 9, .ref 28, .ref 29, .ref 30, .ref (34 + n), .int fc, .long sh, .int fd])) (hk : k < 6) (hW : W ≤ 6) (hV : V ≤ 6) (R : r_fm hp W V) : ∃ hp1, px_Go (d + 5) 43 (0, [(0, .ref 8), (1, .ref (10 + 3 * k))], [], hp) (.inl none, hp1) ∧ pa_Hi n hp1 ∧ pa_Fr n [(10, 6), (10, 7), (12, 0), (17, 0), (18, 0)] hp hp1 ∧ r_fm hp1 W V := by
  have key : px_Gx (d + 5) 43 (0, [(0, .ref 8), (1, .ref (10 + 3 * k))], [], hp) (fun o hp' => o = .inl none ∧ r_fm hp' W V) := by
    obtain ⟨hp1, N, c, g, H1, G1, R1, Rk, ss0, c0, R0⟩ := x_prep (d := d) (sh := sh) hN H hW hV hk R
    obtain ⟨wl0, ws0, u1, u2, u3, u4, u5, st0, f0, hf, -⟩ := R0
    obtain ⟨wl, ws, v1, v2, v3, v4, v5, st, f, hf1, hs1, hr1⟩ := Rk
    refine px_gx (fun _ K9 => px_a 2 (f' := (2, [(0, .ref 8), (1, .ref (10 + 3 * k))], [.ref 8, .ref (10 + 3 * k)], hp)) rfl K9) ?_
    refine px_gx (fun _ K9 => px_gf 8 64 3 8 (.long sh) rfl rfl hc rfl K9) ?_
    show px_Gx _ _ (5, [(0, .ref 8), (1, .ref (10 + 3 * k))], [.long sh, .ref (10 + 3 * k)], hp) _
    refine px_gx (fun _ K9 => px_cv (10 + 3 * k) (as := [.long sh]) (rest := []) rfl rfl hf rfl rfl rfl rfl (Nat.le_of_ble_eq_true rfl) (g) K9) ?_
    show px_Gx _ _ (8, [(0, .ref 8), (1, .ref (10 + 3 * k))], [], hp1) _
    refine px_gx (fun _ K9 => px_a 2 (f' := (10, [(2, .int 0), (0, .ref 8), (1, .ref (10 + 3 * k))], [], hp1)) rfl K9) ?_
    exact x_apsl hN hk (pl_c160 hr1) ⟨hr1.1, hr1.2.1⟩ c 0 (by omega) hp1 H1 (l_fo G1 hc (r := 8) rfl (by decide)) R1 hf1 hs1
  obtain ⟨o, hp1, g, e, R1⟩ := key
  obtain ⟨hp2, g2, H2, G2⟩ := x_cn (d' := d + 5) (ct_43 hN) (by omega) rfl rfl H [.ref 8, .ref (10 + 3 * k)] ⟨⟨8, rfl, rfl, by decide⟩, ⟨_, rfl, r10 hk, by decide⟩, trivial⟩
  have e2 := px_det g g2
  cases e2
  exact ⟨hp1, g, H2, G2.mono (by decide), R1⟩
set_option maxRecDepth 20000 in
theorem x_colw {d n : Nat} (hN : pa_N n) {W V pc : Nat} {fd : Int32} {sh : Int64} {m : Int32} (pc6 : pc ≤ 6) (hW : W ≤ 6) (hV : V ≤ 6) : ∀ t p (hp : px_H) (fw : List Value), p + t = fw.length → fw.length ≤ 36 → ∀ (H : pa_Hi n hp) (hc : hp[(8 : Nat)]? = some (3, [.int (nI W), .int (nI V), .ref 9, .ref 28, .ref 29, .ref 30, .ref (34 + n), .int (nI pc), .long sh, .int fd])) (h29 : hp[(29 : Nat)]? = some (10, fw)) (R : r_fm hp W V), px_Gx (d + 6) 48 (62, [(2, .int (nI p)), (0, .ref 8), (1, .int m)], [], hp) (fun o hp' => r_fm hp' W V ∧ ∃ z, o = .inl (some (.int z))) := by
  intro t
  induction t with
  | zero =>
    intro p hp fw h l36 H hc h29 R
    obtain ⟨ev, h30, -⟩ := pa_Hi_get H (a := 30) (r := 15) rfl (by decide)
    refine px_gx (fun _ K9 => px_a 2 (f' := (64, [(2, .int (nI p)), (0, .ref 8), (1, .int m)], [.ref 8, .int (nI p)], hp)) rfl K9) ?_
    refine px_gx (fun _ K9 => px_gf 8 38 3 4 (.ref 29) rfl rfl hc rfl K9) ?_
    show px_Gx _ _ (67, [(2, .int (nI p)), (0, .ref 8), (1, .int m)], [.ref 29, .int (nI p)], hp) _
    refine px_gx (fun _ K9 => px_len_ 29 rfl h29 (by decide) (by decide) K9) ?_
    rw [show fw.length.toInt32 = nI fw.length from rfl]
    show px_Gx _ _ (68, [(2, .int (nI p)), (0, .ref 8), (1, .int m)], [.int (nI fw.length), .int (nI p)], hp) _
    refine px_gx (fun _ K9 => px_b2 true 91 rfl rfl (decide_eq_true (show nI fw.length ≤ nI p by rw [Int32.le_iff_toInt_le, nI_toInt (by omega), nI_toInt (by omega)]; omega)) K9) ?_
    show px_Gx _ _ (91, [(2, .int (nI p)), (0, .ref 8), (1, .int m)], [], hp) _
    refine px_gx (fun _ K9 => px_a 2 (f' := (93, [(2, .int (nI p)), (0, .ref 8), (1, .int m)], [.int 1, .ref 8], hp)) rfl K9) ?_
    refine px_gx (fun _ K9 => px_pf 8 68 3 9 rfl rfl hc (by omega) (by simp) rfl rfl (by decide) K9) ?_
    have hf1_8 : (hp.set 8 (3, [.int (nI W), .int (nI V), .ref 9, .ref 28, .ref 29, .ref 30, .ref (34 + n), .int (nI pc), .long sh, .int 1]))[(8 : Nat)]? = some (3, [.int (nI W), .int (nI V), .ref 9, .ref 28, .ref 29, .ref 30, .ref (34 + n), .int (nI pc), .long sh, .int 1]) := px_self hc
    have hf1_29 : (hp.set 8 (3, [.int (nI W), .int (nI V), .ref 9, .ref 28, .ref 29, .ref 30, .ref (34 + n), .int (nI pc), .long sh, .int 1]))[(29 : Nat)]? = some (10, fw) := px_ne h29 (by omega)
    have hf1_30 : (hp.set 8 (3, [.int (nI W), .int (nI V), .ref 9, .ref 28, .ref 29, .ref 30, .ref (34 + n), .int (nI pc), .long sh, .int 1]))[(30 : Nat)]? = some (0, ev) := px_ne h30 (by omega)
    show px_Gx _ _ (96, [(2, .int (nI p)), (0, .ref 8), (1, .int m)], [], (hp.set 8 (3, [.int (nI W), .int (nI V), .ref 9, .ref 28, .ref 29, .ref 30, .ref (34 + n), .int (nI pc), .long sh, .int 1]))) _
    refine px_gx (fun _ K9 => px_a 1 (f' := (97, [(2, .int (nI p)), (0, .ref 8), (1, .int m)], [.int 1], (hp.set 8 (3, [.int (nI W), .int (nI V), .ref 9, .ref 28, .ref 29, .ref 30, .ref (34 + n), .int (nI pc), .long sh, .int 1])))) rfl K9) ?_
    exact ⟨_, _, px_ri rfl rfl rfl, r_fm_set (Or.inl (by decide)) R, _, rfl⟩
  | succ t ih =>
    intro p hp fw h l36 H hc h29 R
    obtain ⟨ev, h30, -⟩ := pa_Hi_get H (a := 30) (r := 15) rfl (by decide)
    obtain ⟨z, hp1, g, H1, G1⟩ := x_ci (d' := d + 5) (ct_18 hN) (by omega) rfl rfl H [.ref 30, .int (nI p)] ⟨⟨30, rfl, rfl, by decide⟩, pa_top_ok _, trivial⟩
    have hc1 := l_fo G1 hc (r := 8) rfl (by decide)
    have h291 := l_fo G1 h29 (r := 14) rfl (by decide)
    refine px_gx (fun _ K9 => px_a 2 (f' := (64, [(2, .int (nI p)), (0, .ref 8), (1, .int m)], [.ref 8, .int (nI p)], hp)) rfl K9) ?_
    refine px_gx (fun _ K9 => px_gf 8 38 3 4 (.ref 29) rfl rfl hc rfl K9) ?_
    show px_Gx _ _ (67, [(2, .int (nI p)), (0, .ref 8), (1, .int m)], [.ref 29, .int (nI p)], hp) _
    refine px_gx (fun _ K9 => px_len_ 29 rfl h29 (by decide) (by decide) K9) ?_
    rw [show fw.length.toInt32 = nI fw.length from rfl]
    show px_Gx _ _ (68, [(2, .int (nI p)), (0, .ref 8), (1, .int m)], [.int (nI fw.length), .int (nI p)], hp) _
    refine px_gx (fun _ K9 => px_b2 false 91 rfl rfl (decide_eq_false (show ¬ nI fw.length ≤ nI p by rw [Int32.le_iff_toInt_le, nI_toInt (by omega), nI_toInt (by omega)]; omega)) K9) ?_
    show px_Gx _ _ (71, [(2, .int (nI p)), (0, .ref 8), (1, .int m)], [], hp) _
    refine px_gx (fun _ K9 => px_a 1 (f' := (72, [(2, .int (nI p)), (0, .ref 8), (1, .int m)], [.ref 8], hp)) rfl K9) ?_
    refine px_gx (fun _ K9 => px_gf 8 38 3 4 (.ref 29) rfl rfl hc rfl K9) ?_
    show px_Gx _ _ (75, [(2, .int (nI p)), (0, .ref 8), (1, .int m)], [.ref 29], hp) _
    refine px_gx (fun _ K9 => px_a 2 (f' := (77, [(2, .int (nI p)), (0, .ref 8), (1, .int m)], [.ref 8, .int (nI p), .ref 29], hp)) rfl K9) ?_
    refine px_gx (fun _ K9 => px_gf 8 46 3 5 (.ref 30) rfl rfl hc rfl K9) ?_
    show px_Gx _ _ (80, [(2, .int (nI p)), (0, .ref 8), (1, .int m)], [.ref 30, .int (nI p), .ref 29], hp) _
    refine px_gx (fun _ K9 => px_a 1 (f' := (81, [(2, .int (nI p)), (0, .ref 8), (1, .int m)], [.int (nI p), .ref 30, .int (nI p), .ref 29], hp)) rfl K9) ?_
    refine px_gx (fun _ K9 => px_cv 30 (as := [.int (nI p)]) (rest := [.int (nI p), .ref 29]) rfl rfl h30 rfl rfl rfl rfl (Nat.le_of_ble_eq_true rfl) (g) K9) ?_
    show px_Gx _ _ (84, [(2, .int (nI p)), (0, .ref 8), (1, .int m)], [.int z, .int (nI p), .ref 29], hp1) _
    refine px_gx (fun _ K9 => px_ias 29 rfl h291 (by omega) (nI_pos (by omega)) (by rw [nI_clamp (by omega)]; omega) K9) ?_
    have hf1_8 : (hp1.set 29 (10, (fw.set (nI p).toNatClampNeg (.int z))))[(8 : Nat)]? = some (3, [.int (nI W), .int (nI V), .ref 9, .ref 28, .ref 29, .ref 30, .ref (34 + n), .int (nI pc), .long sh, .int fd]) := px_ne hc1 (by omega)
    have hf1_29 : (hp1.set 29 (10, (fw.set (nI p).toNatClampNeg (.int z))))[(29 : Nat)]? = some (10, (fw.set (nI p).toNatClampNeg (.int z))) := px_self h291
    show px_Gx _ _ (85, [(2, .int (nI p)), (0, .ref 8), (1, .int m)], [], (hp1.set 29 (10, (fw.set (nI p).toNatClampNeg (.int z))))) _
    refine px_gx (fun _ K9 => px_a 2 (f' := (62, [(2, .int ((nI p) + 1)), (0, .ref 8), (1, .int m)], [], (hp1.set 29 (10, (fw.set (nI p).toNatClampNeg (.int z)))))) rfl K9) ?_
    rw [p_s16 p (by omega)]
    have H3 : pa_Hi n (hp1.set 29 (10, fw.set (nI p).toNatClampNeg (.int z))) := p_z29 H1 h291
    refine ih (p + 1) _ _ (by rw [List.length_set]; omega) (by rw [List.length_set]; exact l36) H3 (px_ne hc1 (by omega)) (px_self h291) (r_fm_set (Or.inr (by decide)) (r_fm_fr H G1 (by decide) (by decide) (by decide) R))
set_option maxRecDepth 20000 in
theorem x_coll {d n : Nat} (hN : pa_N n) {W V pc : Nat} {fd : Int32} {sh : Int64} {m : Int32} (pc6 : pc ≤ 6) (hW : W ≤ 6) (hV : V ≤ 6) : ∀ t p, p + t = pc → ∀ (hp : px_H) (H : pa_Hi n hp) (hc : hp[(8 : Nat)]? = some (3, [.int (nI W), .int (nI V), .ref 9, .ref 28, .ref 29, .ref 30, .ref (34 + n), .int (nI pc), .long sh, .int fd])) (h9 : hp[(9 : Nat)]? = some (13, q_forms)) (R : r_fm hp W V), px_Gx (d + 6) 48 (19, [(2, .int (nI p)), (0, .ref 8), (1, .int m)], [], hp) (fun o hp' => r_fm hp' W V ∧ ∃ z, o = .inl (some (.int z))) := by
  intro t
  induction t with
  | zero =>
    intro p h hp H hc h9 R
    obtain ⟨ev, h30, -⟩ := pa_Hi_get H (a := 30) (r := 15) rfl (by decide)
    refine px_gx (fun _ K9 => px_a 2 (f' := (21, [(2, .int (nI p)), (0, .ref 8), (1, .int m)], [.ref 8, .int (nI p)], hp)) rfl K9) ?_
    refine px_gx (fun _ K9 => px_gf 8 72 3 7 (.int (nI pc)) rfl rfl hc rfl K9) ?_
    show px_Gx _ _ (24, [(2, .int (nI p)), (0, .ref 8), (1, .int m)], [.int (nI pc), .int (nI p)], hp) _
    refine px_gx (fun _ K9 => px_b2 true 43 rfl rfl (decide_eq_true (show nI pc ≤ nI p by rw [Int32.le_iff_toInt_le, nI_toInt (by omega), nI_toInt (by omega)]; omega)) K9) ?_
    show px_Gx _ _ (43, [(2, .int (nI p)), (0, .ref 8), (1, .int m)], [], hp) _
    obtain ⟨z, hp1, g, H1, G1⟩ := x_ci (d' := d + 5) (ct_12 hN) (by omega) rfl rfl H [.ref 30, .long sh, .int 1] ⟨⟨30, rfl, rfl, by decide⟩, ⟨_, rfl⟩, pa_top_ok _, trivial⟩
    have hc1 := l_fo G1 hc (r := 8) rfl (by decide)
    have R1 := r_fm_fr H G1 (by decide) (by decide) (by decide) R
    by_cases hz : z = 0
    · 
      refine px_gx (fun _ K9 => px_a 1 (f' := (44, [(2, .int (nI p)), (0, .ref 8), (1, .int m)], [.ref 8], hp)) rfl K9) ?_
      refine px_gx (fun _ K9 => px_gf 8 46 3 5 (.ref 30) rfl rfl hc rfl K9) ?_
      show px_Gx _ _ (47, [(2, .int (nI p)), (0, .ref 8), (1, .int m)], [.ref 30], hp) _
      refine px_gx (fun _ K9 => px_a 1 (f' := (48, [(2, .int (nI p)), (0, .ref 8), (1, .int m)], [.ref 8, .ref 30], hp)) rfl K9) ?_
      refine px_gx (fun _ K9 => px_gf 8 64 3 8 (.long sh) rfl rfl hc rfl K9) ?_
      show px_Gx _ _ (51, [(2, .int (nI p)), (0, .ref 8), (1, .int m)], [.long sh, .ref 30], hp) _
      refine px_gx (fun _ K9 => px_a 1 (f' := (52, [(2, .int (nI p)), (0, .ref 8), (1, .int m)], [.int 1, .long sh, .ref 30], hp)) rfl K9) ?_
      refine px_gx (fun _ K9 => px_cv 30 (as := [.long sh, .int 1]) (rest := []) rfl rfl h30 rfl rfl rfl rfl (Nat.le_of_ble_eq_true rfl) (g) K9) ?_
      show px_Gx _ _ (55, [(2, .int (nI p)), (0, .ref 8), (1, .int m)], [.int z], hp1) _
      refine px_gx (fun _ K9 => px_b1 false 60 rfl rfl (decide_eq_false (not_not_intro hz)) K9) ?_
      show px_Gx _ _ (58, [(2, .int (nI p)), (0, .ref 8), (1, .int m)], [], hp1) _
      refine px_gx (fun _ K9 => px_a 1 (f' := (59, [(2, .int (nI p)), (0, .ref 8), (1, .int m)], [.int 0], hp1)) rfl K9) ?_
      exact ⟨_, _, px_ri rfl rfl rfl, R1, _, rfl⟩
    · 
      refine px_gx (fun _ K9 => px_a 1 (f' := (44, [(2, .int (nI p)), (0, .ref 8), (1, .int m)], [.ref 8], hp)) rfl K9) ?_
      refine px_gx (fun _ K9 => px_gf 8 46 3 5 (.ref 30) rfl rfl hc rfl K9) ?_
      show px_Gx _ _ (47, [(2, .int (nI p)), (0, .ref 8), (1, .int m)], [.ref 30], hp) _
      refine px_gx (fun _ K9 => px_a 1 (f' := (48, [(2, .int (nI p)), (0, .ref 8), (1, .int m)], [.ref 8, .ref 30], hp)) rfl K9) ?_
      refine px_gx (fun _ K9 => px_gf 8 64 3 8 (.long sh) rfl rfl hc rfl K9) ?_
      show px_Gx _ _ (51, [(2, .int (nI p)), (0, .ref 8), (1, .int m)], [.long sh, .ref 30], hp) _
      refine px_gx (fun _ K9 => px_a 1 (f' := (52, [(2, .int (nI p)), (0, .ref 8), (1, .int m)], [.int 1, .long sh, .ref 30], hp)) rfl K9) ?_
      refine px_gx (fun _ K9 => px_cv 30 (as := [.long sh, .int 1]) (rest := []) rfl rfl h30 rfl rfl rfl rfl (Nat.le_of_ble_eq_true rfl) (g) K9) ?_
      show px_Gx _ _ (55, [(2, .int (nI p)), (0, .ref 8), (1, .int m)], [.int z], hp1) _
      refine px_gx (fun _ K9 => px_b1 true 60 rfl rfl (decide_eq_true hz) K9) ?_
      show px_Gx _ _ (60, [(2, .int (nI p)), (0, .ref 8), (1, .int m)], [], hp1) _
      refine px_gx (fun _ K9 => px_a 2 (f' := (62, [(2, .int 0), (0, .ref 8), (1, .int m)], [], hp1)) rfl K9) ?_
      obtain ⟨fw, h29, l36⟩ := p_29 hN H1
      refine px_wk [(2, .int (nI 0)), (0, .ref 8), (1, .int m)] ⟨rfl, rfl, rfl, trivial⟩ ?_
      exact x_colw hN pc6 hW hV fw.length 0 hp1 fw (by omega) l36 H1 hc1 h29 R1
  | succ t ih =>
    intro p h hp H hc h9 R
    obtain ⟨hp1, g, H1, G1, R1⟩ := x_aps (d := d) (k := p) hN H hc (by omega) hW hV R
    refine px_gx (fun _ K9 => px_a 2 (f' := (21, [(2, .int (nI p)), (0, .ref 8), (1, .int m)], [.ref 8, .int (nI p)], hp)) rfl K9) ?_
    refine px_gx (fun _ K9 => px_gf 8 72 3 7 (.int (nI pc)) rfl rfl hc rfl K9) ?_
    show px_Gx _ _ (24, [(2, .int (nI p)), (0, .ref 8), (1, .int m)], [.int (nI pc), .int (nI p)], hp) _
    refine px_gx (fun _ K9 => px_b2 false 43 rfl rfl (decide_eq_false (show ¬ nI pc ≤ nI p by rw [Int32.le_iff_toInt_le, nI_toInt (by omega), nI_toInt (by omega)]; omega)) K9) ?_
    show px_Gx _ _ (27, [(2, .int (nI p)), (0, .ref 8), (1, .int m)], [], hp) _
    refine px_gx (fun _ K9 => px_a 2 (f' := (29, [(2, .int (nI p)), (0, .ref 8), (1, .int m)], [.ref 8, .ref 8], hp)) rfl K9) ?_
    refine px_gx (fun _ K9 => px_gf 8 27 3 2 (.ref 9) rfl rfl hc rfl K9) ?_
    show px_Gx _ _ (32, [(2, .int (nI p)), (0, .ref 8), (1, .int m)], [.ref 9, .ref 8], hp) _
    refine px_gx (fun _ K9 => px_a 1 (f' := (33, [(2, .int (nI p)), (0, .ref 8), (1, .int m)], [.int (nI p), .ref 9, .ref 8], hp)) rfl K9) ?_
    refine px_gx (fun _ K9 => px_al 9 (.ref (10 + 3 * p)) rfl h9 (Or.inr (Or.inr (Or.inr ⟨rfl, Or.inl rfl⟩))) (nI_pos (by omega)) (q_f p (by omega)) K9) ?_
    show px_Gx _ _ (34, [(2, .int (nI p)), (0, .ref 8), (1, .int m)], [.ref (10 + 3 * p), .ref 8], hp) _
    refine px_gx (fun _ K9 => px_cv 8 (as := [.ref (10 + 3 * p)]) (rest := []) rfl rfl hc rfl rfl rfl rfl (Nat.le_of_ble_eq_true rfl) (g) K9) ?_
    show px_Gx _ _ (37, [(2, .int (nI p)), (0, .ref 8), (1, .int m)], [], hp1) _
    refine px_gx (fun _ K9 => px_a 2 (f' := (19, [(2, .int ((nI p) + 1)), (0, .ref 8), (1, .int m)], [], hp1)) rfl K9) ?_
    rw [p_s16 p (by omega)]
    exact ih (p + 1) (by omega) hp1 H1 (l_fo G1 hc (r := 8) rfl (by decide)) (l_fo G1 h9 (r := 9) rfl (by decide)) R1
set_option maxRecDepth 20000 in
theorem x_colF {d n : Nat} (hN : pa_N n) {W V pc : Nat} {fd : Int32} {sh : Int64} {m : Int32} (pc6 : pc ≤ 6) (hW : W ≤ 6) (hV : V ≤ 6) {hp : px_H} (H : pa_Hi n hp) (hc : hp[(8 : Nat)]? = some (3, [.int (nI W), .int (nI V), .ref 9, .ref 28, .ref 29, .ref 30, .ref (34 + n), .int (nI pc), .long sh, .int fd])) (h9 : hp[(9 : Nat)]? = some (13, q_forms)) (R : r_fm hp W V) : px_Gx (d + 6) 48 (0, [(0, .ref 8), (1, .int m)], [], hp) (fun o hp' => r_fm hp' W V ∧ ∃ z, o = .inl (some (.int z))) := by
  obtain ⟨ev, h30, -⟩ := pa_Hi_get H (a := 30) (r := 15) rfl (by decide)
  obtain ⟨zi, hpi, gi, Hi, Gi⟩ := x_ci (d' := d + 5) (ct_52 hN) (by omega) rfl rfl H [.int m] ⟨pa_top_ok _, trivial⟩
  have hci := l_fo Gi hc (r := 8) rfl (by decide)
  have h9i := l_fo Gi h9 (r := 9) rfl (by decide)
  have h30i := l_fo Gi h30 (r := 15) rfl (by decide)
  have Ri := r_fm_fr H Gi (by decide) (by decide) (by decide) R
  by_cases hzi : zi = 0
  · 
    refine px_gx (fun _ K9 => px_a 1 (f' := (1, [(0, .ref 8), (1, .int m)], [.int m], hp)) rfl K9) ?_
    refine px_gx (fun _ K9 => px_cl (as := [.int m]) (rest := []) rfl rfl (gi) K9) ?_
    show px_Gx _ _ (4, [(0, .ref 8), (1, .int m)], [.int zi], hpi) _
    refine px_gx (fun _ K9 => px_b1 false 9 rfl rfl (decide_eq_false (not_not_intro hzi)) K9) ?_
    show px_Gx _ _ (7, [(0, .ref 8), (1, .int m)], [], hpi) _
    refine px_gx (fun _ K9 => px_a 1 (f' := (8, [(0, .ref 8), (1, .int m)], [.int (-1)], hpi)) rfl K9) ?_
    exact ⟨_, _, px_ri rfl rfl rfl, Ri, _, rfl⟩
  obtain ⟨hpb, gb, Hb, Gb⟩ := x_cn (d' := d + 5) (ct_13 hN) (by omega) rfl rfl Hi [.ref 30, .int m] ⟨⟨30, rfl, rfl, by decide⟩, pa_top_ok _, trivial⟩
  refine px_gx (fun _ K9 => px_a 1 (f' := (1, [(0, .ref 8), (1, .int m)], [.int m], hp)) rfl K9) ?_
  refine px_gx (fun _ K9 => px_cl (as := [.int m]) (rest := []) rfl rfl (gi) K9) ?_
  show px_Gx _ _ (4, [(0, .ref 8), (1, .int m)], [.int zi], hpi) _
  refine px_gx (fun _ K9 => px_b1 true 9 rfl rfl (decide_eq_true hzi) K9) ?_
  show px_Gx _ _ (9, [(0, .ref 8), (1, .int m)], [], hpi) _
  refine px_gx (fun _ K9 => px_a 1 (f' := (10, [(0, .ref 8), (1, .int m)], [.ref 8], hpi)) rfl K9) ?_
  refine px_gx (fun _ K9 => px_gf 8 46 3 5 (.ref 30) rfl rfl hci rfl K9) ?_
  show px_Gx _ _ (13, [(0, .ref 8), (1, .int m)], [.ref 30], hpi) _
  refine px_gx (fun _ K9 => px_a 1 (f' := (14, [(0, .ref 8), (1, .int m)], [.int m, .ref 30], hpi)) rfl K9) ?_
  refine px_gx (fun _ K9 => px_cv 30 (as := [.int m]) (rest := []) rfl rfl h30i rfl rfl rfl rfl (Nat.le_of_ble_eq_true rfl) (gb) K9) ?_
  show px_Gx _ _ (17, [(0, .ref 8), (1, .int m)], [], hpb) _
  refine px_gx (fun _ K9 => px_a 2 (f' := (19, [(2, .int 0), (0, .ref 8), (1, .int m)], [], hpb)) rfl K9) ?_
  exact x_coll hN pc6 hW hV pc 0 (by omega) hpb Hb (l_fo Gb hci (r := 8) rfl (by decide)) (l_fo Gb h9i (r := 9) rfl (by decide)) (r_fm_fr Hi Gb (by decide) (by decide) (by decide) Ri)
