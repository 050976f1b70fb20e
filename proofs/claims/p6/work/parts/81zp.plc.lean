def p_Row (c : Nat) (f : Nat → Nat) (k i z : Int32) : Prop := ((k < 0 ∨ nI c ≤ k) ∧ z = -1) ∨ (∃ j, j < c ∧ k = nI j ∧ p_Ans (f j) i z)
theorem p_Row_u {c : Nat} {f f' : Nat → Nat} {k i z z' : Int32} (hc : c ≤ 160) (hf : ∀ j, j < c → f j = f' j) (h : p_Row c f k i z) (h' : p_Row c f' k i z') : z = z' := by
  have no : ∀ {j : Nat}, j < c → ¬ (nI j < 0 ∨ nI c ≤ nI j) := fun hj q => q.elim (nI_pos (by omega)) (fun q => absurd q (nI_ge hj (by omega)))
  rcases h with ⟨a, rfl⟩ | ⟨j, hj, rfl, a⟩
  · rcases h' with ⟨-, rfl⟩ | ⟨j, hj, rfl, -⟩
    · rfl
    · exact absurd a (no hj)
  · rcases h' with ⟨b, -⟩ | ⟨j', hj', e, b⟩
    · exact absurd b (no hj)
    · obtain rfl : j = j' := (nI_eq (by omega) (by omega)).mp e
      rw [hf j hj] at a
      exact p_Ans_u a b
set_option maxRecDepth 20000 in
theorem x_plcX {d n : Nat} (hN : pa_N n) {hp : px_H} (H : pa_Hi n hp) {W V : Nat} {fc fd : Int32} {sh : Int64} (hc : hp[(8 : Nat)]? = some (3, [.int (nI W), .int (nI V), .ref 9, .ref 28, .ref 29, .ref 30, .ref (34 + n), .int fc, .long sh, .int fd])) (h9 : hp[(9 : Nat)]? = some (13, q_forms)) (hF : fc.toInt ≤ 6) (hW : W ≤ 6) (hV : V ≤ 6) (R : r_fm hp W V) {p k0 i0 : Int32} : px_Gx (d + 5) 57 (0, [(0, .ref 8), (1, .int p), (2, .int k0), (3, .int i0)], [], hp) (fun o hp' => r_fm hp' W V ∧ (((p < 0 ∨ fc ≤ p) ∧ o = .inr "java/lang/ArrayIndexOutOfBoundsException") ∨ (¬ (p < 0 ∨ fc ≤ p) ∧ ∃ (kk N : Nat) (wl : List Nat) (c : Nat) (f : Nat → Nat) (z : Int32), kk < 6 ∧ p = nI kk ∧ N < 65536 ∧ ((N = 0 ∧ wl = []) ∨ (N ≠ 0 ∧ wl = f_ws N 8)) ∧ pl_L c f (pl_D W V wl sh) ∧ c ≤ 160 ∧ pa_fd hp (10 + 3 * kk) 4 = some (.int (nI N)) ∧ o = .inl (some (.int z)) ∧ p_Row c f k0 i0 z))) := by
  by_cases ho : (p < 0 ∨ fc ≤ p)
  · refine ⟨_, px_exc hp, ?_, r_fm_exc R, Or.inl ⟨ho, rfl⟩⟩
    refine px_a 2 (f' := (2, [(0, .ref 8), (1, .int p), (2, .int k0), (3, .int i0)], [.int p, .ref 8], hp)) rfl ?_
    exact px_cvt 8 (as := [.int p]) (rest := []) rfl rfl hc rfl rfl rfl rfl (Nat.le_of_ble_eq_true rfl) (x_form_o (d := d + 4) hc ho) (px_hdn (by decide)) rfl
  obtain ⟨k, hk, ek⟩ : ∃ k, k < 6 ∧ p = nI k := by
    refine q_in (m := 6) (by decide) (fun z => ho (Or.inl z)) (fun z => ho (Or.inr ?_))
    rw [Int32.le_iff_toInt_le] at z ⊢
    have : (nI 6).toInt = 6 := rfl
    omega
  obtain ⟨hp1, N, c, g, H1, G1, R1, Rk, ss0, c0, R0⟩ := x_prep (d := d) (sh := sh) hN H hW hV hk R
  obtain ⟨wl0, ws0, u1, u2, u3, u4, u5, st0, f0, hf, -⟩ := R0
  obtain ⟨wl, ws, v1, v2, v3, v4, v5, st, f, hf1, hs1, hr1⟩ := Rk
  have hc1 := l_fo G1 hc (r := 8) rfl (by decide)
  have c160 : c ≤ 160 := pl_c160 hr1
  by_cases h1 : k0 < 0
  · 
    refine px_gx (fun _ K9 => px_a 2 (f' := (2, [(0, .ref 8), (1, .int p), (2, .int k0), (3, .int i0)], [.int p, .ref 8], hp)) rfl K9) ?_
    refine px_gx (fun _ K9 => px_cv 8 (as := [.int p]) (rest := []) rfl rfl hc rfl rfl rfl rfl (Nat.le_of_ble_eq_true rfl) (x_form_i (d := d + 4) hc h9 hk ek ho) K9) ?_
    show px_Gx _ _ (5, [(0, .ref 8), (1, .int p), (2, .int k0), (3, .int i0)], [.ref (10 + 3 * k)], hp) _
    refine px_gx (fun _ K9 => px_a 3 (f' := (10, [(4, .ref (10 + 3 * k)), (0, .ref 8), (1, .int p), (2, .int k0), (3, .int i0)], [.ref 8, .ref (10 + 3 * k)], hp)) rfl K9) ?_
    refine px_gx (fun _ K9 => px_gf 8 64 3 8 (.long sh) rfl rfl hc rfl K9) ?_
    show px_Gx _ _ (13, [(4, .ref (10 + 3 * k)), (0, .ref 8), (1, .int p), (2, .int k0), (3, .int i0)], [.long sh, .ref (10 + 3 * k)], hp) _
    refine px_gx (fun _ K9 => px_cv (10 + 3 * k) (as := [.long sh]) (rest := []) rfl rfl hf rfl rfl rfl rfl (Nat.le_of_ble_eq_true rfl) (g) K9) ?_
    show px_Gx _ _ (16, [(4, .ref (10 + 3 * k)), (0, .ref 8), (1, .int p), (2, .int k0), (3, .int i0)], [], hp1) _
    refine px_gx (fun _ K9 => px_a 1 (f' := (17, [(4, .ref (10 + 3 * k)), (0, .ref 8), (1, .int p), (2, .int k0), (3, .int i0)], [.int k0], hp1)) rfl K9) ?_
    refine px_gx (fun _ K9 => px_b1 true 29 rfl rfl (decide_eq_true h1) K9) ?_
    show px_Gx _ _ (29, [(4, .ref (10 + 3 * k)), (0, .ref 8), (1, .int p), (2, .int k0), (3, .int i0)], [], hp1) _
    refine px_gx (fun _ K9 => px_a 1 (f' := (30, [(4, .ref (10 + 3 * k)), (0, .ref 8), (1, .int p), (2, .int k0), (3, .int i0)], [.int (-1)], hp1)) rfl K9) ?_
    exact ⟨_, _, px_ri rfl rfl rfl, R1, Or.inr ⟨ho, k, N, wl, c, f, -1, hk, ek, v1, v2, hr1.2.2.2, c160, by rw [pa_fd_get hf]; rfl, rfl, Or.inl ⟨Or.inl h1, rfl⟩⟩⟩
  by_cases h2 : k0 < nI c
  rotate_left
  · 
    refine px_gx (fun _ K9 => px_a 2 (f' := (2, [(0, .ref 8), (1, .int p), (2, .int k0), (3, .int i0)], [.int p, .ref 8], hp)) rfl K9) ?_
    refine px_gx (fun _ K9 => px_cv 8 (as := [.int p]) (rest := []) rfl rfl hc rfl rfl rfl rfl (Nat.le_of_ble_eq_true rfl) (x_form_i (d := d + 4) hc h9 hk ek ho) K9) ?_
    show px_Gx _ _ (5, [(0, .ref 8), (1, .int p), (2, .int k0), (3, .int i0)], [.ref (10 + 3 * k)], hp) _
    refine px_gx (fun _ K9 => px_a 3 (f' := (10, [(4, .ref (10 + 3 * k)), (0, .ref 8), (1, .int p), (2, .int k0), (3, .int i0)], [.ref 8, .ref (10 + 3 * k)], hp)) rfl K9) ?_
    refine px_gx (fun _ K9 => px_gf 8 64 3 8 (.long sh) rfl rfl hc rfl K9) ?_
    show px_Gx _ _ (13, [(4, .ref (10 + 3 * k)), (0, .ref 8), (1, .int p), (2, .int k0), (3, .int i0)], [.long sh, .ref (10 + 3 * k)], hp) _
    refine px_gx (fun _ K9 => px_cv (10 + 3 * k) (as := [.long sh]) (rest := []) rfl rfl hf rfl rfl rfl rfl (Nat.le_of_ble_eq_true rfl) (g) K9) ?_
    show px_Gx _ _ (16, [(4, .ref (10 + 3 * k)), (0, .ref 8), (1, .int p), (2, .int k0), (3, .int i0)], [], hp1) _
    refine px_gx (fun _ K9 => px_a 1 (f' := (17, [(4, .ref (10 + 3 * k)), (0, .ref 8), (1, .int p), (2, .int k0), (3, .int i0)], [.int k0], hp1)) rfl K9) ?_
    refine px_gx (fun _ K9 => px_b1 false 29 rfl rfl (decide_eq_false h1) K9) ?_
    show px_Gx _ _ (20, [(4, .ref (10 + 3 * k)), (0, .ref 8), (1, .int p), (2, .int k0), (3, .int i0)], [], hp1) _
    refine px_gx (fun _ K9 => px_a 2 (f' := (23, [(4, .ref (10 + 3 * k)), (0, .ref 8), (1, .int p), (2, .int k0), (3, .int i0)], [.ref (10 + 3 * k), .int k0], hp1)) rfl K9) ?_
    refine px_gx (fun _ K9 => px_gf (10 + 3 * k) 94 1 6 (.int (nI c)) rfl rfl hf1 rfl K9) ?_
    show px_Gx _ _ (26, [(4, .ref (10 + 3 * k)), (0, .ref 8), (1, .int p), (2, .int k0), (3, .int i0)], [.int (nI c), .int k0], hp1) _
    refine px_gx (fun _ K9 => px_b2 false 31 rfl rfl (decide_eq_false h2) K9) ?_
    show px_Gx _ _ (29, [(4, .ref (10 + 3 * k)), (0, .ref 8), (1, .int p), (2, .int k0), (3, .int i0)], [], hp1) _
    refine px_gx (fun _ K9 => px_a 1 (f' := (30, [(4, .ref (10 + 3 * k)), (0, .ref 8), (1, .int p), (2, .int k0), (3, .int i0)], [.int (-1)], hp1)) rfl K9) ?_
    exact ⟨_, _, px_ri rfl rfl rfl, R1, Or.inr ⟨ho, k, N, wl, c, f, -1, hk, ek, v1, v2, hr1.2.2.2, c160, by rw [pa_fd_get hf]; rfl, rfl, Or.inl ⟨Or.inr (Int32.not_lt.mp h2), rfl⟩⟩⟩
  obtain ⟨j, hj, ej⟩ : ∃ j, j < c ∧ k0 = nI j := by
    rcases pk_ix k0 (n := c) (by omega) with q | q | q
    · exact absurd q h1
    · exact absurd h2 (Int32.not_lt.mpr q)
    · exact q
  obtain ⟨o2, hp2, g2, e2, z, eo, an⟩ := x_cos (d := d + 3) (hp := hp1) (S := f j) (i := i0) (hr1.2.2.1 j hj)
  rw [e2, eo] at g2
  refine px_gx (fun _ K9 => px_a 2 (f' := (2, [(0, .ref 8), (1, .int p), (2, .int k0), (3, .int i0)], [.int p, .ref 8], hp)) rfl K9) ?_
  refine px_gx (fun _ K9 => px_cv 8 (as := [.int p]) (rest := []) rfl rfl hc rfl rfl rfl rfl (Nat.le_of_ble_eq_true rfl) (x_form_i (d := d + 4) hc h9 hk ek ho) K9) ?_
  show px_Gx _ _ (5, [(0, .ref 8), (1, .int p), (2, .int k0), (3, .int i0)], [.ref (10 + 3 * k)], hp) _
  refine px_gx (fun _ K9 => px_a 3 (f' := (10, [(4, .ref (10 + 3 * k)), (0, .ref 8), (1, .int p), (2, .int k0), (3, .int i0)], [.ref 8, .ref (10 + 3 * k)], hp)) rfl K9) ?_
  refine px_gx (fun _ K9 => px_gf 8 64 3 8 (.long sh) rfl rfl hc rfl K9) ?_
  show px_Gx _ _ (13, [(4, .ref (10 + 3 * k)), (0, .ref 8), (1, .int p), (2, .int k0), (3, .int i0)], [.long sh, .ref (10 + 3 * k)], hp) _
  refine px_gx (fun _ K9 => px_cv (10 + 3 * k) (as := [.long sh]) (rest := []) rfl rfl hf rfl rfl rfl rfl (Nat.le_of_ble_eq_true rfl) (g) K9) ?_
  show px_Gx _ _ (16, [(4, .ref (10 + 3 * k)), (0, .ref 8), (1, .int p), (2, .int k0), (3, .int i0)], [], hp1) _
  refine px_gx (fun _ K9 => px_a 1 (f' := (17, [(4, .ref (10 + 3 * k)), (0, .ref 8), (1, .int p), (2, .int k0), (3, .int i0)], [.int k0], hp1)) rfl K9) ?_
  refine px_gx (fun _ K9 => px_b1 false 29 rfl rfl (decide_eq_false h1) K9) ?_
  show px_Gx _ _ (20, [(4, .ref (10 + 3 * k)), (0, .ref 8), (1, .int p), (2, .int k0), (3, .int i0)], [], hp1) _
  refine px_gx (fun _ K9 => px_a 2 (f' := (23, [(4, .ref (10 + 3 * k)), (0, .ref 8), (1, .int p), (2, .int k0), (3, .int i0)], [.ref (10 + 3 * k), .int k0], hp1)) rfl K9) ?_
  refine px_gx (fun _ K9 => px_gf (10 + 3 * k) 94 1 6 (.int (nI c)) rfl rfl hf1 rfl K9) ?_
  show px_Gx _ _ (26, [(4, .ref (10 + 3 * k)), (0, .ref 8), (1, .int p), (2, .int k0), (3, .int i0)], [.int (nI c), .int k0], hp1) _
  refine px_gx (fun _ K9 => px_b2 true 31 rfl rfl (decide_eq_true h2) K9) ?_
  show px_Gx _ _ (31, [(4, .ref (10 + 3 * k)), (0, .ref 8), (1, .int p), (2, .int k0), (3, .int i0)], [], hp1) _
  refine px_gx (fun _ K9 => px_a 1 (f' := (33, [(4, .ref (10 + 3 * k)), (0, .ref 8), (1, .int p), (2, .int k0), (3, .int i0)], [.ref (10 + 3 * k)], hp1)) rfl K9) ?_
  refine px_gx (fun _ K9 => px_gf (10 + 3 * k) 97 1 3 (.ref (12 + 3 * k)) rfl rfl hf1 rfl K9) ?_
  show px_Gx _ _ (36, [(4, .ref (10 + 3 * k)), (0, .ref 8), (1, .int p), (2, .int k0), (3, .int i0)], [.ref (12 + 3 * k)], hp1) _
  refine px_gx (fun _ K9 => px_a 1 (f' := (37, [(4, .ref (10 + 3 * k)), (0, .ref 8), (1, .int p), (2, .int k0), (3, .int i0)], [.int k0, .ref (12 + 3 * k)], hp1)) rfl K9) ?_
  refine px_gx (fun _ K9 => px_al (12 + 3 * k) (.long (lN (f j))) rfl hs1 (Or.inr (Or.inl ⟨rfl, rfl⟩)) (h1) (by rw [ej, nI_clamp (by omega)]; exact hr1.2.1 j hj) K9) ?_
  show px_Gx _ _ (38, [(4, .ref (10 + 3 * k)), (0, .ref 8), (1, .int p), (2, .int k0), (3, .int i0)], [.long (lN (f j))], hp1) _
  refine px_gx (fun _ K9 => px_a 1 (f' := (39, [(4, .ref (10 + 3 * k)), (0, .ref 8), (1, .int p), (2, .int k0), (3, .int i0)], [.int i0, .long (lN (f j))], hp1)) rfl K9) ?_
  refine px_gx (fun _ K9 => px_cl (as := [.long (lN (f j)), .int i0]) (rest := []) rfl rfl (g2) K9) ?_
  show px_Gx _ _ (42, [(4, .ref (10 + 3 * k)), (0, .ref 8), (1, .int p), (2, .int k0), (3, .int i0)], [.int z], hp1) _
  exact ⟨_, _, px_ri rfl rfl rfl, R1, Or.inr ⟨ho, k, N, wl, c, f, z, hk, ek, v1, v2, hr1.2.2.2, c160, by rw [pa_fd_get hf]; rfl, rfl, Or.inr ⟨j, hj, ej, an⟩⟩⟩
theorem l_plcX {n : Nat} (hN : pa_N n) {hp : px_H} (H : pa_Hi n hp) {p p1 p2 : Int32} {W V : Nat} {fc fd : Int32} {sh : Int64} (hc : hp[(8 : Nat)]? = some (3, [.int (nI W), .int (nI V), .ref 9, .ref 28, .ref 29, .ref 30, .ref (34 + n), .int fc, .long sh, .int fd])) (hF : fc.toInt ≤ 6) (h9 : hp[(9 : Nat)]? = some (13, q_forms)) (hW : W ≤ 6) (hV : V ≤ 6) (R : r_fm hp W V) : ∃ (z0 : Int32) (hp1 : px_H), px_Go 11 8 (0, [(0, .ref 8), (1, .int p), (2, .int p1), (3, .int p2), (4, .ref (52 + n))], [], hp) (.inl (some (.int z0)), hp1) ∧ l_S n [(10, 6), (10, 7), (12, 0), (38, 0)] hp hp1 ∧ r_fm hp1 W V ∧ (((p < 0 ∨ fc ≤ p) ∧ z0 = 1) ∨ (¬ (p < 0 ∨ fc ≤ p) ∧ z0 = 0 ∧ ∃ (kk N : Nat) (wl : List Nat) (c : Nat) (f : Nat → Nat) (z : Int32), kk < 6 ∧ p = nI kk ∧ N < 65536 ∧ ((N = 0 ∧ wl = []) ∨ (N ≠ 0 ∧ wl = f_ws N 8)) ∧ pl_L c f (pl_D W V wl sh) ∧ c ≤ 160 ∧ pa_fd hp (10 + 3 * kk) 4 = some (.int (nI N)) ∧ pa_fd hp1 (52 + n) 0 = some (.long (Int32.toInt64 z)) ∧ p_Row c f p1 p2 z)) := by
  obtain ⟨o, hp', hg, ⟨H', G', E'⟩, -⟩ := (ct_57 hN).deep (d' := 10) (by decide) [.ref 8, .int p, .int p1, .int p2] hp H ⟨⟨8, rfl, rfl, by decide⟩, pa_top_ok _, pa_top_ok _, pa_top_ok _, trivial⟩
  obtain ⟨o2, hpx, gx, RF, hx⟩ := x_plcX (d := 5) hN H hc h9 hF hW hV R (p := p) (k0 := p1) (i0 := p2)
  have ex := px_det hg gx
  cases ex
  obtain ⟨vs, hv2, hl2, -⟩ := pa_arl (a := 52 + n) (i := 20) H' (by omega) (by decide) (by decide) rfl
  have hlt : Int32.toNatClampNeg 0 < vs.length := by show (0 : Nat) < vs.length; omega
  rcases hx with ⟨ho, rfl⟩ | ⟨ho, kk, N, wl, c, f, z, b1, b2, b3, b4, b5, b6, b7, rfl, b9⟩
  · rcases E' with ⟨v, hq, -⟩ | ⟨-, E2, -, hl, hz⟩
    · cases hq
    · exact ⟨1, _, l_t8 hc hg, ⟨H', G'.mono (by decide), by omega, by omega⟩, RF, Or.inl ⟨ho, rfl⟩⟩
  · rcases E' with ⟨v, -, -, hl⟩ | ⟨-, E2, hq, -⟩
    · have hG := l_e8 hc hg hv2 hlt
      have el : (hp'.set (52 + n) (11, vs.set (Int32.toNatClampNeg 0) (.long (Int32.toInt64 z)))).length = hp.length := by rw [List.length_set]; exact hl
      exact ⟨0, _, hG, ⟨pa_aS (i := 20) H' (by omega) (by decide) (by decide) hv2 rfl (pa_lgk _), (G'.mono (by decide)).trans (pa_aF (i := 20) (by omega) (by decide) (by decide) hv2 (by decide) (by decide)), by omega, by rw [(pa_kept hG).sz el]; omega⟩, r_fm_set (Or.inr (by omega)) RF, Or.inr ⟨ho, rfl, kk, N, wl, c, f, z, b1, b2, b3, b4, b5, b6, b7, by rw [pa_fd_get (px_self hv2)]; exact List.getElem?_set_self hlt, b9⟩⟩
    · cases hq
theorem m_Dn {W V S b : Nat} {sh : Int64} {l : List Nat} {tu dy dx : Int} (hW : W ≤ 6) (hV : V ≤ 6) (h : m_D W V sh l tu dy dx S) (hb : S.testBit b = true) : b < W * V := by
  obtain ⟨a, b', c, -, -, -, -, -, -, -, hok, hbt⟩ := h
  obtain ⟨j, q, hq, e⟩ := (hbt b).mp hb
  obtain ⟨c1, c2, c3, c4, -⟩ := hok j q hq
  have := m_bn hW hV c1 c2 c3 c4
  omega
set_option maxRecDepth 20000 in
theorem m_plcl {d n c S j : Nat} {hp1 : px_H} {w h pn fo le ru p i0 : Int32} {st1 : List Value} (n36 : n ≤ 36) (hSn : ∀ b, S.testBit b = true → b < n) (hS : S < 2 ^ 36) (j512 : j < 512) (hm1 : hp1[38 + n]? = some (4, m_O n 0 w h pn (nI c) fo le ru)) (hs1 : hp1[43 + n]? = some (11, st1)) (hst : st1[j]? = some (.long (lN S))) (hcl : px_Go d 72 (0, [(0, .ref (38 + n))], [], hp1) (.inl (some (.int (nI n))), hp1)) : ∀ t e, e + t = n → (∀ b, b < e → S.testBit b = true → nI (z_c S b) ≠ i0) → px_Gx (d + 1) 86 (48, [(5, .int (nI e)), (4, .int (nI (z_c S e))), (0, .ref (38 + n)), (1, .int p), (2, .int (nI j)), (3, .int i0)], [], hp1) (fun o hp' => hp' = hp1 ∧ ∃ z, o = .inl (some (.int z)) ∧ p_Ans S i0 z) := by
  intro t
  induction t with
  | zero =>
    intro e h hno
    refine px_gx (fun _ K9 => px_a 2 (f' := (51, [(5, .int (nI e)), (4, .int (nI (z_c S e))), (0, .ref (38 + n)), (1, .int p), (2, .int (nI j)), (3, .int i0)], [.ref (38 + n), .int (nI e)], hp1)) rfl K9) ?_
    refine px_gx (fun _ K9 => px_cv (38 + n) (as := []) (rest := [.int (nI e)]) rfl rfl hm1 rfl rfl rfl rfl (Nat.le_of_ble_eq_true rfl) (hcl) K9) ?_
    show px_Gx _ _ (54, [(5, .int (nI e)), (4, .int (nI (z_c S e))), (0, .ref (38 + n)), (1, .int p), (2, .int (nI j)), (3, .int i0)], [.int (nI n), .int (nI e)], hp1) _
    refine px_gx (fun _ K9 => px_b2 true 94 rfl rfl (decide_eq_true (show nI n ≤ nI e by rw [Int32.le_iff_toInt_le, nI_toInt (by omega), nI_toInt (by omega)]; omega)) K9) ?_
    show px_Gx _ _ (94, [(5, .int (nI e)), (4, .int (nI (z_c S e))), (0, .ref (38 + n)), (1, .int p), (2, .int (nI j)), (3, .int i0)], [], hp1) _
    refine px_gx (fun _ K9 => px_a 1 (f' := (95, [(5, .int (nI e)), (4, .int (nI (z_c S e))), (0, .ref (38 + n)), (1, .int p), (2, .int (nI j)), (3, .int i0)], [.int (-1)], hp1)) rfl K9) ?_
    exact ⟨_, _, px_ri rfl rfl rfl, rfl, _, rfl, Or.inr ⟨fun b _ hb => hno b (by have := hSn b hb; omega) hb, rfl⟩⟩
  | succ t ih =>
    intro e h hno
    have kc := z_c_le S e
    cases hb0 : S.testBit e
    · have hb : x_bt (lN S) e = false := by rw [p_bt hS]; exact hb0
      refine px_gx (fun _ K9 => px_a 2 (f' := (51, [(5, .int (nI e)), (4, .int (nI (z_c S e))), (0, .ref (38 + n)), (1, .int p), (2, .int (nI j)), (3, .int i0)], [.ref (38 + n), .int (nI e)], hp1)) rfl K9) ?_
      refine px_gx (fun _ K9 => px_cv (38 + n) (as := []) (rest := [.int (nI e)]) rfl rfl hm1 rfl rfl rfl rfl (Nat.le_of_ble_eq_true rfl) (hcl) K9) ?_
      show px_Gx _ _ (54, [(5, .int (nI e)), (4, .int (nI (z_c S e))), (0, .ref (38 + n)), (1, .int p), (2, .int (nI j)), (3, .int i0)], [.int (nI n), .int (nI e)], hp1) _
      refine px_gx (fun _ K9 => px_b2 false 94 rfl rfl (decide_eq_false (show ¬ nI n ≤ nI e by rw [Int32.le_iff_toInt_le, nI_toInt (by omega), nI_toInt (by omega)]; omega)) K9) ?_
      show px_Gx _ _ (57, [(5, .int (nI e)), (4, .int (nI (z_c S e))), (0, .ref (38 + n)), (1, .int p), (2, .int (nI j)), (3, .int i0)], [], hp1) _
      refine px_gx (fun _ K9 => px_a 1 (f' := (58, [(5, .int (nI e)), (4, .int (nI (z_c S e))), (0, .ref (38 + n)), (1, .int p), (2, .int (nI j)), (3, .int i0)], [.ref (38 + n)], hp1)) rfl K9) ?_
      refine px_gx (fun _ K9 => px_gf (38 + n) 23 4 9 (.ref (43 + n)) rfl rfl hm1 rfl K9) ?_
      show px_Gx _ _ (61, [(5, .int (nI e)), (4, .int (nI (z_c S e))), (0, .ref (38 + n)), (1, .int p), (2, .int (nI j)), (3, .int i0)], [.ref (43 + n)], hp1) _
      refine px_gx (fun _ K9 => px_a 1 (f' := (62, [(5, .int (nI e)), (4, .int (nI (z_c S e))), (0, .ref (38 + n)), (1, .int p), (2, .int (nI j)), (3, .int i0)], [.int (nI j), .ref (43 + n)], hp1)) rfl K9) ?_
      refine px_gx (fun _ K9 => px_al (43 + n) (.long (lN S)) rfl hs1 (Or.inr (Or.inl ⟨rfl, rfl⟩)) (nI_pos (by omega)) (by rw [nI_clamp (by omega)]; exact hst) K9) ?_
      show px_Gx _ _ (63, [(5, .int (nI e)), (4, .int (nI (z_c S e))), (0, .ref (38 + n)), (1, .int p), (2, .int (nI j)), (3, .int i0)], [.long (lN S)], hp1) _
      refine px_gx (fun _ K9 => px_a 6 (f' := (70, [(5, .int (nI e)), (4, .int (nI (z_c S e))), (0, .ref (38 + n)), (1, .int p), (2, .int (nI j)), (3, .int i0)], [.int (lg_cmp (((lN S) >>> (Int32.toInt64 (nI e) &&& 63)) &&& 1) 0)], hp1)) rfl K9) ?_
      refine px_gx (fun _ K9 => px_b1 false 76 rfl rfl (decide_eq_false (not_not_intro (x_cmp0.mpr ((x_bit (by omega) (lN S)).mpr hb)))) K9) ?_
      show px_Gx _ _ (73, [(5, .int (nI e)), (4, .int (nI (z_c S e))), (0, .ref (38 + n)), (1, .int p), (2, .int (nI j)), (3, .int i0)], [], hp1) _
      refine px_gx (fun _ K9 => px_a 3 (f' := (48, [(5, .int ((nI e) + 1)), (4, .int (nI (z_c S e))), (0, .ref (38 + n)), (1, .int p), (2, .int (nI j)), (3, .int i0)], [], hp1)) rfl K9) ?_
      rw [p_s16 e (by omega), ← z_c_0 hb0]
      exact ih (e + 1) (by omega) (fun b hb1 hb2 => by
        by_cases q : b = e
        · subst q
          rw [hb0] at hb2
          cases hb2
        · exact hno b (by omega) hb2)
    · have hb : x_bt (lN S) e = true := by rw [p_bt hS]; exact hb0
      by_cases hq : nI (z_c S e) = i0
      · 
        refine px_gx (fun _ K9 => px_a 2 (f' := (51, [(5, .int (nI e)), (4, .int (nI (z_c S e))), (0, .ref (38 + n)), (1, .int p), (2, .int (nI j)), (3, .int i0)], [.ref (38 + n), .int (nI e)], hp1)) rfl K9) ?_
        refine px_gx (fun _ K9 => px_cv (38 + n) (as := []) (rest := [.int (nI e)]) rfl rfl hm1 rfl rfl rfl rfl (Nat.le_of_ble_eq_true rfl) (hcl) K9) ?_
        show px_Gx _ _ (54, [(5, .int (nI e)), (4, .int (nI (z_c S e))), (0, .ref (38 + n)), (1, .int p), (2, .int (nI j)), (3, .int i0)], [.int (nI n), .int (nI e)], hp1) _
        refine px_gx (fun _ K9 => px_b2 false 94 rfl rfl (decide_eq_false (show ¬ nI n ≤ nI e by rw [Int32.le_iff_toInt_le, nI_toInt (by omega), nI_toInt (by omega)]; omega)) K9) ?_
        show px_Gx _ _ (57, [(5, .int (nI e)), (4, .int (nI (z_c S e))), (0, .ref (38 + n)), (1, .int p), (2, .int (nI j)), (3, .int i0)], [], hp1) _
        refine px_gx (fun _ K9 => px_a 1 (f' := (58, [(5, .int (nI e)), (4, .int (nI (z_c S e))), (0, .ref (38 + n)), (1, .int p), (2, .int (nI j)), (3, .int i0)], [.ref (38 + n)], hp1)) rfl K9) ?_
        refine px_gx (fun _ K9 => px_gf (38 + n) 23 4 9 (.ref (43 + n)) rfl rfl hm1 rfl K9) ?_
        show px_Gx _ _ (61, [(5, .int (nI e)), (4, .int (nI (z_c S e))), (0, .ref (38 + n)), (1, .int p), (2, .int (nI j)), (3, .int i0)], [.ref (43 + n)], hp1) _
        refine px_gx (fun _ K9 => px_a 1 (f' := (62, [(5, .int (nI e)), (4, .int (nI (z_c S e))), (0, .ref (38 + n)), (1, .int p), (2, .int (nI j)), (3, .int i0)], [.int (nI j), .ref (43 + n)], hp1)) rfl K9) ?_
        refine px_gx (fun _ K9 => px_al (43 + n) (.long (lN S)) rfl hs1 (Or.inr (Or.inl ⟨rfl, rfl⟩)) (nI_pos (by omega)) (by rw [nI_clamp (by omega)]; exact hst) K9) ?_
        show px_Gx _ _ (63, [(5, .int (nI e)), (4, .int (nI (z_c S e))), (0, .ref (38 + n)), (1, .int p), (2, .int (nI j)), (3, .int i0)], [.long (lN S)], hp1) _
        refine px_gx (fun _ K9 => px_a 6 (f' := (70, [(5, .int (nI e)), (4, .int (nI (z_c S e))), (0, .ref (38 + n)), (1, .int p), (2, .int (nI j)), (3, .int i0)], [.int (lg_cmp (((lN S) >>> (Int32.toInt64 (nI e) &&& 63)) &&& 1) 0)], hp1)) rfl K9) ?_
        refine px_gx (fun _ K9 => px_b1 true 76 rfl rfl (decide_eq_true (fun z => by have := (x_bit (by omega) (lN S)).mp (x_cmp0.mp z); rw [hb] at this; cases this)) K9) ?_
        show px_Gx _ _ (76, [(5, .int (nI e)), (4, .int (nI (z_c S e))), (0, .ref (38 + n)), (1, .int p), (2, .int (nI j)), (3, .int i0)], [], hp1) _
        refine px_gx (fun _ K9 => px_a 2 (f' := (79, [(5, .int (nI e)), (4, .int (nI (z_c S e))), (0, .ref (38 + n)), (1, .int p), (2, .int (nI j)), (3, .int i0)], [.int i0, .int (nI (z_c S e))], hp1)) rfl K9) ?_
        refine px_gx (fun _ K9 => px_b2 false 85 rfl rfl (decide_eq_false (not_not_intro hq)) K9) ?_
        show px_Gx _ _ (82, [(5, .int (nI e)), (4, .int (nI (z_c S e))), (0, .ref (38 + n)), (1, .int p), (2, .int (nI j)), (3, .int i0)], [], hp1) _
        refine px_gx (fun _ K9 => px_a 1 (f' := (84, [(5, .int (nI e)), (4, .int (nI (z_c S e))), (0, .ref (38 + n)), (1, .int p), (2, .int (nI j)), (3, .int i0)], [.int (nI e)], hp1)) rfl K9) ?_
        exact ⟨_, _, px_ri rfl rfl rfl, rfl, _, rfl, Or.inl ⟨e, by omega, hb0, hq, rfl⟩⟩
      · 
        refine px_gx (fun _ K9 => px_a 2 (f' := (51, [(5, .int (nI e)), (4, .int (nI (z_c S e))), (0, .ref (38 + n)), (1, .int p), (2, .int (nI j)), (3, .int i0)], [.ref (38 + n), .int (nI e)], hp1)) rfl K9) ?_
        refine px_gx (fun _ K9 => px_cv (38 + n) (as := []) (rest := [.int (nI e)]) rfl rfl hm1 rfl rfl rfl rfl (Nat.le_of_ble_eq_true rfl) (hcl) K9) ?_
        show px_Gx _ _ (54, [(5, .int (nI e)), (4, .int (nI (z_c S e))), (0, .ref (38 + n)), (1, .int p), (2, .int (nI j)), (3, .int i0)], [.int (nI n), .int (nI e)], hp1) _
        refine px_gx (fun _ K9 => px_b2 false 94 rfl rfl (decide_eq_false (show ¬ nI n ≤ nI e by rw [Int32.le_iff_toInt_le, nI_toInt (by omega), nI_toInt (by omega)]; omega)) K9) ?_
        show px_Gx _ _ (57, [(5, .int (nI e)), (4, .int (nI (z_c S e))), (0, .ref (38 + n)), (1, .int p), (2, .int (nI j)), (3, .int i0)], [], hp1) _
        refine px_gx (fun _ K9 => px_a 1 (f' := (58, [(5, .int (nI e)), (4, .int (nI (z_c S e))), (0, .ref (38 + n)), (1, .int p), (2, .int (nI j)), (3, .int i0)], [.ref (38 + n)], hp1)) rfl K9) ?_
        refine px_gx (fun _ K9 => px_gf (38 + n) 23 4 9 (.ref (43 + n)) rfl rfl hm1 rfl K9) ?_
        show px_Gx _ _ (61, [(5, .int (nI e)), (4, .int (nI (z_c S e))), (0, .ref (38 + n)), (1, .int p), (2, .int (nI j)), (3, .int i0)], [.ref (43 + n)], hp1) _
        refine px_gx (fun _ K9 => px_a 1 (f' := (62, [(5, .int (nI e)), (4, .int (nI (z_c S e))), (0, .ref (38 + n)), (1, .int p), (2, .int (nI j)), (3, .int i0)], [.int (nI j), .ref (43 + n)], hp1)) rfl K9) ?_
        refine px_gx (fun _ K9 => px_al (43 + n) (.long (lN S)) rfl hs1 (Or.inr (Or.inl ⟨rfl, rfl⟩)) (nI_pos (by omega)) (by rw [nI_clamp (by omega)]; exact hst) K9) ?_
        show px_Gx _ _ (63, [(5, .int (nI e)), (4, .int (nI (z_c S e))), (0, .ref (38 + n)), (1, .int p), (2, .int (nI j)), (3, .int i0)], [.long (lN S)], hp1) _
        refine px_gx (fun _ K9 => px_a 6 (f' := (70, [(5, .int (nI e)), (4, .int (nI (z_c S e))), (0, .ref (38 + n)), (1, .int p), (2, .int (nI j)), (3, .int i0)], [.int (lg_cmp (((lN S) >>> (Int32.toInt64 (nI e) &&& 63)) &&& 1) 0)], hp1)) rfl K9) ?_
        refine px_gx (fun _ K9 => px_b1 true 76 rfl rfl (decide_eq_true (fun z => by have := (x_bit (by omega) (lN S)).mp (x_cmp0.mp z); rw [hb] at this; cases this)) K9) ?_
        show px_Gx _ _ (76, [(5, .int (nI e)), (4, .int (nI (z_c S e))), (0, .ref (38 + n)), (1, .int p), (2, .int (nI j)), (3, .int i0)], [], hp1) _
        refine px_gx (fun _ K9 => px_a 2 (f' := (79, [(5, .int (nI e)), (4, .int (nI (z_c S e))), (0, .ref (38 + n)), (1, .int p), (2, .int (nI j)), (3, .int i0)], [.int i0, .int (nI (z_c S e))], hp1)) rfl K9) ?_
        refine px_gx (fun _ K9 => px_b2 true 85 rfl rfl (decide_eq_true (hq)) K9) ?_
        show px_Gx _ _ (85, [(5, .int (nI e)), (4, .int (nI (z_c S e))), (0, .ref (38 + n)), (1, .int p), (2, .int (nI j)), (3, .int i0)], [], hp1) _
        refine px_gx (fun _ K9 => px_a 3 (f' := (48, [(5, .int ((nI e) + 1)), (4, .int ((nI (z_c S e)) + 1)), (0, .ref (38 + n)), (1, .int p), (2, .int (nI j)), (3, .int i0)], [], hp1)) rfl K9) ?_
        rw [p_s16 e (by omega), p_s16 (z_c S e) (by omega), ← z_c_1 hb0]
        exact ih (e + 1) (by omega) (fun b hb1 hb2 => by
          by_cases q2 : b = e
          · subst q2
            exact hq
          · exact hno b (by omega) hb2)
theorem m_plcO {d n : Nat} {hp : px_H} {th w h pn pl fo le ru p k0 i0 : Int32} (hm : hp[38 + n]? = some (4, m_O n th w h pn pl fo le ru)) (ho : p < 0 ∨ pn ≤ p) : px_Gx (d + 1) 86 (0, [(0, .ref (38 + n)), (1, .int p), (2, .int k0), (3, .int i0)], [], hp) (fun o hp' => o = .inl (some (.int 0)) ∧ pa_fd hp' (38 + n) 0 = some (.int 1)) := by
  · 
    refine px_gx (fun _ K9 => px_a 4 (f' := (4, [(0, .ref (38 + n)), (1, .int p), (2, .int k0), (3, .int i0)], [.int p, .ref (38 + n), .int 1, .ref (38 + n)], hp)) rfl K9) ?_
    refine px_gx (fun _ K9 => px_cv (38 + n) (as := [.int p]) (rest := [.int 1, .ref (38 + n)]) rfl rfl hm rfl rfl rfl rfl (Nat.le_of_ble_eq_true rfl) (p_isPiece_o hm ho) K9) ?_
    show px_Gx _ _ (7, [(0, .ref (38 + n)), (1, .int p), (2, .int k0), (3, .int i0)], [.int 0, .int 1, .ref (38 + n)], hp) _
    refine px_gx (fun _ K9 => px_a 3 (f' := (15, [(0, .ref (38 + n)), (1, .int p), (2, .int k0), (3, .int i0)], [.int 1, .int 1, .ref (38 + n)], hp)) rfl K9) ?_
    refine px_gx (fun _ K9 => px_cv (38 + n) (as := [.int 1, .int 1]) (rest := []) rfl rfl hm rfl rfl rfl rfl (Nat.le_of_ble_eq_true rfl) (p_throwsIf_1 hm (by omega)) K9) ?_
    show px_Gx _ _ (18, [(0, .ref (38 + n)), (1, .int p), (2, .int k0), (3, .int i0)], [.int 1], (hp.set (38 + n) (4, [.int 1, .int w, .int h, .ref (39 + n), .int pn, .ref (40 + n), .ref (41 + n), .ref (42 + n), .int pl, .ref (43 + n), .ref (44 + n), .ref (45 + n), .ref (46 + n), .int fo, .ref (47 + n), .int le, .ref (48 + n), .int ru, .ref (49 + n), .ref (50 + n), .ref (51 + n)]))) _
    refine px_gx (fun _ K9 => px_a 2 (f' := (22, [(0, .ref (38 + n)), (1, .int p), (2, .int k0), (3, .int i0)], [.int 0], (hp.set (38 + n) (4, [.int 1, .int w, .int h, .ref (39 + n), .int pn, .ref (40 + n), .ref (41 + n), .ref (42 + n), .int pl, .ref (43 + n), .ref (44 + n), .ref (45 + n), .ref (46 + n), .int fo, .ref (47 + n), .int le, .ref (48 + n), .int ru, .ref (49 + n), .ref (50 + n), .ref (51 + n)])))) rfl K9) ?_
    exact ⟨_, _, px_ri rfl rfl rfl, rfl, by rw [pa_fd_get (px_self hm)]; rfl⟩
set_option maxRecDepth 20000 in
theorem m_plcX {d n W V kk : Nat} {hp : px_H} {th w h pn pl fo le ru : Int32} {sh : Int64} {l : List Nat} {vsu vsz vsq : List Value} (hW : W ≤ 6) (hV : V ≤ 6) (hnn : n = W * V) (ew : w.toInt = W) (eh : h.toInt = V) (H : pa_Hi n hp) (hm : hp[38 + n]? = some (4, m_O n th w h pn pl fo le ru)) (hvu0 : hp[39 + n]? = some (12, vsu)) (hvz0 : hp[40 + n]? = some (10, vsz)) (hvq0 : hp[41 + n]? = some (10, vsq)) (q1 : ∀ c, c < n → vsu[c]? = some (.int (if x_bt sh c = true then 1 else 0))) (hz0 : vsz[kk]? = some (.int (nI l.length))) (l6 : l.length ≤ 6) (hu0 : ∀ (j q : Nat), l[j]? = some q → vsq[6 * kk + j]? = some (.int (nI q)) ∧ q < 16) {p k0 i0 : Int32} (hpk : p.toInt = (kk : Int)) (k5 : kk < 6) (ho : ¬ (p < 0 ∨ pn ≤ p)) (ew2 : w = nI W) (eh2 : h = nI V) : px_Gx (d + 3) 86 (0, [(0, .ref (38 + n)), (1, .int p), (2, .int k0), (3, .int i0)], [], hp) (fun o hp' => pa_fd hp' (38 + n) 0 = some (.int 0) ∧ ∃ (c : Nat) (f : Nat → Nat) (z : Int32), pl_L c f (m_D W V sh l 8 (-3) (-3)) ∧ o = .inl (some (.int z)) ∧ p_Row c f k0 i0 z) := by
  have hm0 : (hp.set (38 + n) (4, [.int 0, .int w, .int h, .ref (39 + n), .int pn, .ref (40 + n), .ref (41 + n), .ref (42 + n), .int pl, .ref (43 + n), .ref (44 + n), .ref (45 + n), .ref (46 + n), .int fo, .ref (47 + n), .int le, .ref (48 + n), .int ru, .ref (49 + n), .ref (50 + n), .ref (51 + n)]))[38 + n]? = some (4, m_O n 0 w h pn pl fo le ru) := px_self hm
  have Hs : pa_Hi n (hp.set (38 + n) (4, [.int 0, .int w, .int h, .ref (39 + n), .int pn, .ref (40 + n), .ref (41 + n), .ref (42 + n), .int pl, .ref (43 + n), .ref (44 + n), .ref (45 + n), .ref (46 + n), .int fo, .ref (47 + n), .int le, .ref (48 + n), .int ru, .ref (49 + n), .ref (50 + n), .ref (51 + n)])) := pa_ms (k := 0) (v := .int 0) H hm rfl (pa_in (by decide) (by decide))
  obtain ⟨o, hp1, g, e, c, c512, st1, f1, hm1, hs1, l1, r1, b1, L1⟩ := m_placeX (d := d) hW hV hnn ew eh Hs (px_ne hvu0 (by omega)) (px_ne hvz0 (by omega)) (px_ne hvq0 (by omega)) q1 hz0 l6 hu0 hpk (by omega) (by omega) hm0
  subst e
  have fth : pa_fd hp1 (38 + n) 0 = some (.int 0) := by rw [pa_fd_get hm1]; rfl
  by_cases h1 : k0 < 0
  · 
    refine px_gx (fun _ K9 => px_a 4 (f' := (4, [(0, .ref (38 + n)), (1, .int p), (2, .int k0), (3, .int i0)], [.int p, .ref (38 + n), .int 1, .ref (38 + n)], hp)) rfl K9) ?_
    refine px_gx (fun _ K9 => px_cv (38 + n) (as := [.int p]) (rest := [.int 1, .ref (38 + n)]) rfl rfl hm rfl rfl rfl rfl (Nat.le_of_ble_eq_true rfl) (p_isPiece_i hm ho) K9) ?_
    show px_Gx _ _ (7, [(0, .ref (38 + n)), (1, .int p), (2, .int k0), (3, .int i0)], [.int 1, .int 1, .ref (38 + n)], hp) _
    refine px_gx (fun _ K9 => px_a 2 (f' := (15, [(0, .ref (38 + n)), (1, .int p), (2, .int k0), (3, .int i0)], [.int 0, .int 1, .ref (38 + n)], hp)) rfl K9) ?_
    refine px_gx (fun _ K9 => px_cv (38 + n) (as := [.int 1, .int 0]) (rest := []) rfl rfl hm rfl rfl rfl rfl (Nat.le_of_ble_eq_true rfl) (p_throwsIf_0 hm (by omega)) K9) ?_
    show px_Gx _ _ (18, [(0, .ref (38 + n)), (1, .int p), (2, .int k0), (3, .int i0)], [.int 0], (hp.set (38 + n) (4, [.int 0, .int w, .int h, .ref (39 + n), .int pn, .ref (40 + n), .ref (41 + n), .ref (42 + n), .int pl, .ref (43 + n), .ref (44 + n), .ref (45 + n), .ref (46 + n), .int fo, .ref (47 + n), .int le, .ref (48 + n), .int ru, .ref (49 + n), .ref (50 + n), .ref (51 + n)]))) _
    refine px_gx (fun _ K9 => px_a 3 (f' := (25, [(0, .ref (38 + n)), (1, .int p), (2, .int k0), (3, .int i0)], [.int p, .ref (38 + n)], (hp.set (38 + n) (4, [.int 0, .int w, .int h, .ref (39 + n), .int pn, .ref (40 + n), .ref (41 + n), .ref (42 + n), .int pl, .ref (43 + n), .ref (44 + n), .ref (45 + n), .ref (46 + n), .int fo, .ref (47 + n), .int le, .ref (48 + n), .int ru, .ref (49 + n), .ref (50 + n), .ref (51 + n)])))) rfl K9) ?_
    refine px_gx (fun _ K9 => px_cv (38 + n) (as := [.int p]) (rest := []) rfl rfl hm0 rfl rfl rfl rfl (Nat.le_of_ble_eq_true rfl) (g) K9) ?_
    show px_Gx _ _ (28, [(0, .ref (38 + n)), (1, .int p), (2, .int k0), (3, .int i0)], [], hp1) _
    refine px_gx (fun _ K9 => px_a 1 (f' := (29, [(0, .ref (38 + n)), (1, .int p), (2, .int k0), (3, .int i0)], [.int k0], hp1)) rfl K9) ?_
    refine px_gx (fun _ K9 => px_b1 true 40 rfl rfl (decide_eq_true h1) K9) ?_
    show px_Gx _ _ (40, [(0, .ref (38 + n)), (1, .int p), (2, .int k0), (3, .int i0)], [], hp1) _
    refine px_gx (fun _ K9 => px_a 1 (f' := (41, [(0, .ref (38 + n)), (1, .int p), (2, .int k0), (3, .int i0)], [.int (-1)], hp1)) rfl K9) ?_
    exact ⟨_, _, px_ri rfl rfl rfl, fth, c, f1, _, L1, rfl, Or.inl ⟨Or.inl h1, rfl⟩⟩
  by_cases h2 : k0 < nI c
  rotate_left
  · 
    refine px_gx (fun _ K9 => px_a 4 (f' := (4, [(0, .ref (38 + n)), (1, .int p), (2, .int k0), (3, .int i0)], [.int p, .ref (38 + n), .int 1, .ref (38 + n)], hp)) rfl K9) ?_
    refine px_gx (fun _ K9 => px_cv (38 + n) (as := [.int p]) (rest := [.int 1, .ref (38 + n)]) rfl rfl hm rfl rfl rfl rfl (Nat.le_of_ble_eq_true rfl) (p_isPiece_i hm ho) K9) ?_
    show px_Gx _ _ (7, [(0, .ref (38 + n)), (1, .int p), (2, .int k0), (3, .int i0)], [.int 1, .int 1, .ref (38 + n)], hp) _
    refine px_gx (fun _ K9 => px_a 2 (f' := (15, [(0, .ref (38 + n)), (1, .int p), (2, .int k0), (3, .int i0)], [.int 0, .int 1, .ref (38 + n)], hp)) rfl K9) ?_
    refine px_gx (fun _ K9 => px_cv (38 + n) (as := [.int 1, .int 0]) (rest := []) rfl rfl hm rfl rfl rfl rfl (Nat.le_of_ble_eq_true rfl) (p_throwsIf_0 hm (by omega)) K9) ?_
    show px_Gx _ _ (18, [(0, .ref (38 + n)), (1, .int p), (2, .int k0), (3, .int i0)], [.int 0], (hp.set (38 + n) (4, [.int 0, .int w, .int h, .ref (39 + n), .int pn, .ref (40 + n), .ref (41 + n), .ref (42 + n), .int pl, .ref (43 + n), .ref (44 + n), .ref (45 + n), .ref (46 + n), .int fo, .ref (47 + n), .int le, .ref (48 + n), .int ru, .ref (49 + n), .ref (50 + n), .ref (51 + n)]))) _
    refine px_gx (fun _ K9 => px_a 3 (f' := (25, [(0, .ref (38 + n)), (1, .int p), (2, .int k0), (3, .int i0)], [.int p, .ref (38 + n)], (hp.set (38 + n) (4, [.int 0, .int w, .int h, .ref (39 + n), .int pn, .ref (40 + n), .ref (41 + n), .ref (42 + n), .int pl, .ref (43 + n), .ref (44 + n), .ref (45 + n), .ref (46 + n), .int fo, .ref (47 + n), .int le, .ref (48 + n), .int ru, .ref (49 + n), .ref (50 + n), .ref (51 + n)])))) rfl K9) ?_
    refine px_gx (fun _ K9 => px_cv (38 + n) (as := [.int p]) (rest := []) rfl rfl hm0 rfl rfl rfl rfl (Nat.le_of_ble_eq_true rfl) (g) K9) ?_
    show px_Gx _ _ (28, [(0, .ref (38 + n)), (1, .int p), (2, .int k0), (3, .int i0)], [], hp1) _
    refine px_gx (fun _ K9 => px_a 1 (f' := (29, [(0, .ref (38 + n)), (1, .int p), (2, .int k0), (3, .int i0)], [.int k0], hp1)) rfl K9) ?_
    refine px_gx (fun _ K9 => px_b1 false 40 rfl rfl (decide_eq_false h1) K9) ?_
    show px_Gx _ _ (32, [(0, .ref (38 + n)), (1, .int p), (2, .int k0), (3, .int i0)], [], hp1) _
    refine px_gx (fun _ K9 => px_a 2 (f' := (34, [(0, .ref (38 + n)), (1, .int p), (2, .int k0), (3, .int i0)], [.ref (38 + n), .int k0], hp1)) rfl K9) ?_
    refine px_gx (fun _ K9 => px_gf (38 + n) 80 4 8 (.int (nI c)) rfl rfl hm1 rfl K9) ?_
    show px_Gx _ _ (37, [(0, .ref (38 + n)), (1, .int p), (2, .int k0), (3, .int i0)], [.int (nI c), .int k0], hp1) _
    refine px_gx (fun _ K9 => px_b2 false 42 rfl rfl (decide_eq_false h2) K9) ?_
    show px_Gx _ _ (40, [(0, .ref (38 + n)), (1, .int p), (2, .int k0), (3, .int i0)], [], hp1) _
    refine px_gx (fun _ K9 => px_a 1 (f' := (41, [(0, .ref (38 + n)), (1, .int p), (2, .int k0), (3, .int i0)], [.int (-1)], hp1)) rfl K9) ?_
    exact ⟨_, _, px_ri rfl rfl rfl, fth, c, f1, _, L1, rfl, Or.inl ⟨Or.inr (Int32.not_lt.mp h2), rfl⟩⟩
  obtain ⟨j, hj, rfl⟩ : ∃ j, j < c ∧ k0 = nI j := by
    rcases pk_ix k0 (n := c) (by omega) with q | q | q
    · exact absurd q h1
    · exact absurd h2 (Int32.not_lt.mpr q)
    · exact q
  have wv : W * V ≤ 6 * 6 := Nat.mul_le_mul hW hV
  have hcl : px_Go (d + 2) 72 (0, [(0, .ref (38 + n))], [], hp1) (.inl (some (.int (nI n))), hp1) := by
    have := p_cells (d := d + 2) hm1
    rw [ew2, eh2, pk_mul, ← hnn] at this
    exact this
  refine px_gx (fun _ K9 => px_a 4 (f' := (4, [(0, .ref (38 + n)), (1, .int p), (2, .int (nI j)), (3, .int i0)], [.int p, .ref (38 + n), .int 1, .ref (38 + n)], hp)) rfl K9) ?_
  refine px_gx (fun _ K9 => px_cv (38 + n) (as := [.int p]) (rest := [.int 1, .ref (38 + n)]) rfl rfl hm rfl rfl rfl rfl (Nat.le_of_ble_eq_true rfl) (p_isPiece_i hm ho) K9) ?_
  show px_Gx _ _ (7, [(0, .ref (38 + n)), (1, .int p), (2, .int (nI j)), (3, .int i0)], [.int 1, .int 1, .ref (38 + n)], hp) _
  refine px_gx (fun _ K9 => px_a 2 (f' := (15, [(0, .ref (38 + n)), (1, .int p), (2, .int (nI j)), (3, .int i0)], [.int 0, .int 1, .ref (38 + n)], hp)) rfl K9) ?_
  refine px_gx (fun _ K9 => px_cv (38 + n) (as := [.int 1, .int 0]) (rest := []) rfl rfl hm rfl rfl rfl rfl (Nat.le_of_ble_eq_true rfl) (p_throwsIf_0 hm (by omega)) K9) ?_
  show px_Gx _ _ (18, [(0, .ref (38 + n)), (1, .int p), (2, .int (nI j)), (3, .int i0)], [.int 0], (hp.set (38 + n) (4, [.int 0, .int w, .int h, .ref (39 + n), .int pn, .ref (40 + n), .ref (41 + n), .ref (42 + n), .int pl, .ref (43 + n), .ref (44 + n), .ref (45 + n), .ref (46 + n), .int fo, .ref (47 + n), .int le, .ref (48 + n), .int ru, .ref (49 + n), .ref (50 + n), .ref (51 + n)]))) _
  refine px_gx (fun _ K9 => px_a 3 (f' := (25, [(0, .ref (38 + n)), (1, .int p), (2, .int (nI j)), (3, .int i0)], [.int p, .ref (38 + n)], (hp.set (38 + n) (4, [.int 0, .int w, .int h, .ref (39 + n), .int pn, .ref (40 + n), .ref (41 + n), .ref (42 + n), .int pl, .ref (43 + n), .ref (44 + n), .ref (45 + n), .ref (46 + n), .int fo, .ref (47 + n), .int le, .ref (48 + n), .int ru, .ref (49 + n), .ref (50 + n), .ref (51 + n)])))) rfl K9) ?_
  refine px_gx (fun _ K9 => px_cv (38 + n) (as := [.int p]) (rest := []) rfl rfl hm0 rfl rfl rfl rfl (Nat.le_of_ble_eq_true rfl) (g) K9) ?_
  show px_Gx _ _ (28, [(0, .ref (38 + n)), (1, .int p), (2, .int (nI j)), (3, .int i0)], [], hp1) _
  refine px_gx (fun _ K9 => px_a 1 (f' := (29, [(0, .ref (38 + n)), (1, .int p), (2, .int (nI j)), (3, .int i0)], [.int (nI j)], hp1)) rfl K9) ?_
  refine px_gx (fun _ K9 => px_b1 false 40 rfl rfl (decide_eq_false h1) K9) ?_
  show px_Gx _ _ (32, [(0, .ref (38 + n)), (1, .int p), (2, .int (nI j)), (3, .int i0)], [], hp1) _
  refine px_gx (fun _ K9 => px_a 2 (f' := (34, [(0, .ref (38 + n)), (1, .int p), (2, .int (nI j)), (3, .int i0)], [.ref (38 + n), .int (nI j)], hp1)) rfl K9) ?_
  refine px_gx (fun _ K9 => px_gf (38 + n) 80 4 8 (.int (nI c)) rfl rfl hm1 rfl K9) ?_
  show px_Gx _ _ (37, [(0, .ref (38 + n)), (1, .int p), (2, .int (nI j)), (3, .int i0)], [.int (nI c), .int (nI j)], hp1) _
  refine px_gx (fun _ K9 => px_b2 true 42 rfl rfl (decide_eq_true h2) K9) ?_
  show px_Gx _ _ (42, [(0, .ref (38 + n)), (1, .int p), (2, .int (nI j)), (3, .int i0)], [], hp1) _
  refine px_gx (fun _ K9 => px_a 4 (f' := (48, [(5, .int 0), (4, .int 0), (0, .ref (38 + n)), (1, .int p), (2, .int (nI j)), (3, .int i0)], [], hp1)) rfl K9) ?_
  refine px_wk [(5, .int (nI 0)), (4, .int (nI (z_c (f1 j) 0))), (0, .ref (38 + n)), (1, .int p), (2, .int (nI j)), (3, .int i0)] ⟨rfl, rfl, rfl, rfl, rfl, rfl, trivial⟩ ?_
  obtain ⟨o3, hp3, g3, e3, z, eo, an⟩ := m_plcl (d := d + 2) (p := p) (i0 := i0) (by omega) (fun b hb => hnn ▸ m_Dn hW hV ((L1.2 (f1 j)).mpr ⟨j, hj, rfl⟩) hb) (b1 j hj) (by omega) hm1 hs1 (r1 j hj) hcl n 0 (by omega) (fun b hb => absurd hb (Nat.not_lt_zero b))
  exact ⟨o3, hp3, g3, by rw [e3]; exact fth, c, f1, z, L1, eo, Or.inr ⟨j, hj, rfl, an⟩⟩
