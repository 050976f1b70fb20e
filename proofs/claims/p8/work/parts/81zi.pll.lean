theorem pl_c160 {c : Nat} {st : List Value} {f : Nat → Nat} {P Q : Prop} (h : st.length = 160 ∧ (∀ j, j < c → st[j]? = some (.long (lN (f j)))) ∧ P ∧ Q) : c ≤ 160 := by
  apply Nat.le_of_not_lt
  intro z
  have h2 := h.2.1 160 z
  rw [List.getElem?_eq_none (by omega)] at h2
  cases h2
set_option maxRecDepth 20000 in
theorem x_plc {d n : Nat} (hN : pa_N n) {hp : px_H} (H : pa_Hi n hp) {W V : Nat} {fc fd : Int32} {sh : Int64} (hc : hp[(8 : Nat)]? = some (3, [.int (nI W), .int (nI V), .ref 9, .ref 28, .ref 29, .ref 30, .ref (34 + n), .int fc, .long sh, .int fd])) (h9 : hp[(9 : Nat)]? = some (13, q_forms)) (hF : fc.toInt ≤ 6) (hW : W ≤ 6) (hV : V ≤ 6) (R : r_fm hp W V) {p k0 i0 : Int32} : px_Gx (d + 5) 57 (0, [(0, .ref 8), (1, .int p), (2, .int k0), (3, .int i0)], [], hp) (fun o hp' => r_fm hp' W V ∧ (((p < 0 ∨ fc ≤ p) ∧ o = .inr "java/lang/ArrayIndexOutOfBoundsException") ∨ (¬ (p < 0 ∨ fc ≤ p) ∧ ∃ z, o = .inl (some (.int z))))) := by
  by_cases ho : (p < 0 ∨ fc ≤ p)
  · refine ⟨_, px_exc hp, ?_, r_fm_exc R, Or.inl ⟨ho, rfl⟩⟩
    refine px_a 2 (f' := (2, [(0, .ref 8), (1, .int p), (2, .int k0), (3, .int i0)], [.int p, .ref 8], hp)) rfl ?_
    exact px_cvt 8 (as := [.int p]) (rest := []) rfl rfl hc rfl rfl rfl rfl (Nat.le_of_ble_eq_true rfl) (x_form_o (d := d + 4) hc ho) (px_hdn (by decide)) rfl
  obtain ⟨k, hk, ek⟩ : ∃ k, k < 6 ∧ p = nI k := by
    refine q_in (m := 6) (by decide) (fun z => ho (Or.inl z)) (fun z => ho (Or.inr ?_))
    rw [Int32.le_iff_toInt_le] at z ⊢
    have : (nI 6).toInt = 6 := rfl
    omega
  obtain ⟨hp1, N, c, g, H1, G1, R1, Rk, ss0, c0, R0⟩ := x_prep (d := d) (sh := sh) hN H hW hV hk R
  obtain ⟨wl0, ws0, u1, u2, u3, u4, u5, st0, f0, hf, -⟩ := R0
  obtain ⟨wl, ws, v1, v2, v3, v4, v5, st, f, hf1, hs1, hr1⟩ := Rk
  have hc1 := l_fo G1 hc (r := 8) rfl (by decide)
  by_cases h1 : k0 < 0
  · 
    refine px_gx (fun _ K9 => px_a 2 (f' := (2, [(0, .ref 8), (1, .int p), (2, .int k0), (3, .int i0)], [.int p, .ref 8], hp)) rfl K9) ?_
    refine px_gx (fun _ K9 => px_cv 8 (as := [.int p]) (rest := []) rfl rfl hc rfl rfl rfl rfl (Nat.le_of_ble_eq_true rfl) (x_form_i (d := d + 4) hc h9 hk ek ho) K9) ?_
    show px_Gx _ _ (5, [(0, .ref 8), (1, .int p), (2, .int k0), (3, .int i0)], [.ref (10 + 3 * k)], hp) _
    refine px_gx (fun _ K9 => px_a 3 (f' := (10, [(4, .ref (10 + 3 * k)), (0, .ref 8), (1, .int p), (2, .int k0), (3, .int i0)], [.ref 8, .ref (10 + 3 * k)], hp)) rfl K9) ?_
    refine px_gx (fun _ K9 => px_gf 8 64 3 8 (.long sh) rfl rfl hc rfl K9) ?_
    show px_Gx _ _ (13, [(4, .ref (10 + 3 * k)), (0, .ref 8), (1, .int p), (2, .int k0), (3, .int i0)], [.long sh, .ref (10 + 3 * k)], hp) _
    refine px_gx (fun _ K9 => px_cv (10 + 3 * k) (as := [.long sh]) (rest := []) rfl rfl hf rfl rfl rfl rfl (Nat.le_of_ble_eq_true rfl) (g) K9) ?_
    show px_Gx _ _ (16, [(4, .ref (10 + 3 * k)), (0, .ref 8), (1, .int p), (2, .int k0), (3, .int i0)], [], hp1) _
    refine px_gx (fun _ K9 => px_a 1 (f' := (17, [(4, .ref (10 + 3 * k)), (0, .ref 8), (1, .int p), (2, .int k0), (3, .int i0)], [.int k0], hp1)) rfl K9) ?_
    refine px_gx (fun _ K9 => px_b1 true 29 rfl rfl (decide_eq_true h1) K9) ?_
    show px_Gx _ _ (29, [(4, .ref (10 + 3 * k)), (0, .ref 8), (1, .int p), (2, .int k0), (3, .int i0)], [], hp1) _
    refine px_gx (fun _ K9 => px_a 1 (f' := (30, [(4, .ref (10 + 3 * k)), (0, .ref 8), (1, .int p), (2, .int k0), (3, .int i0)], [.int (-1)], hp1)) rfl K9) ?_
    exact ⟨_, _, px_ri rfl rfl rfl, R1, Or.inr ⟨ho, _, rfl⟩⟩
  by_cases h2 : k0 < nI c
  rotate_left
  · 
    refine px_gx (fun _ K9 => px_a 2 (f' := (2, [(0, .ref 8), (1, .int p), (2, .int k0), (3, .int i0)], [.int p, .ref 8], hp)) rfl K9) ?_
    refine px_gx (fun _ K9 => px_cv 8 (as := [.int p]) (rest := []) rfl rfl hc rfl rfl rfl rfl (Nat.le_of_ble_eq_true rfl) (x_form_i (d := d + 4) hc h9 hk ek ho) K9) ?_
    show px_Gx _ _ (5, [(0, .ref 8), (1, .int p), (2, .int k0), (3, .int i0)], [.ref (10 + 3 * k)], hp) _
    refine px_gx (fun _ K9 => px_a 3 (f' := (10, [(4, .ref (10 + 3 * k)), (0, .ref 8), (1, .int p), (2, .int k0), (3, .int i0)], [.ref 8, .ref (10 + 3 * k)], hp)) rfl K9) ?_
    refine px_gx (fun _ K9 => px_gf 8 64 3 8 (.long sh) rfl rfl hc rfl K9) ?_
    show px_Gx _ _ (13, [(4, .ref (10 + 3 * k)), (0, .ref 8), (1, .int p), (2, .int k0), (3, .int i0)], [.long sh, .ref (10 + 3 * k)], hp) _
    refine px_gx (fun _ K9 => px_cv (10 + 3 * k) (as := [.long sh]) (rest := []) rfl rfl hf rfl rfl rfl rfl (Nat.le_of_ble_eq_true rfl) (g) K9) ?_
    show px_Gx _ _ (16, [(4, .ref (10 + 3 * k)), (0, .ref 8), (1, .int p), (2, .int k0), (3, .int i0)], [], hp1) _
    refine px_gx (fun _ K9 => px_a 1 (f' := (17, [(4, .ref (10 + 3 * k)), (0, .ref 8), (1, .int p), (2, .int k0), (3, .int i0)], [.int k0], hp1)) rfl K9) ?_
    refine px_gx (fun _ K9 => px_b1 false 29 rfl rfl (decide_eq_false h1) K9) ?_
    show px_Gx _ _ (20, [(4, .ref (10 + 3 * k)), (0, .ref 8), (1, .int p), (2, .int k0), (3, .int i0)], [], hp1) _
    refine px_gx (fun _ K9 => px_a 2 (f' := (23, [(4, .ref (10 + 3 * k)), (0, .ref 8), (1, .int p), (2, .int k0), (3, .int i0)], [.ref (10 + 3 * k), .int k0], hp1)) rfl K9) ?_
    refine px_gx (fun _ K9 => px_gf (10 + 3 * k) 94 1 6 (.int (nI c)) rfl rfl hf1 rfl K9) ?_
    show px_Gx _ _ (26, [(4, .ref (10 + 3 * k)), (0, .ref 8), (1, .int p), (2, .int k0), (3, .int i0)], [.int (nI c), .int k0], hp1) _
    refine px_gx (fun _ K9 => px_b2 false 31 rfl rfl (decide_eq_false h2) K9) ?_
    show px_Gx _ _ (29, [(4, .ref (10 + 3 * k)), (0, .ref 8), (1, .int p), (2, .int k0), (3, .int i0)], [], hp1) _
    refine px_gx (fun _ K9 => px_a 1 (f' := (30, [(4, .ref (10 + 3 * k)), (0, .ref 8), (1, .int p), (2, .int k0), (3, .int i0)], [.int (-1)], hp1)) rfl K9) ?_
    exact ⟨_, _, px_ri rfl rfl rfl, R1, Or.inr ⟨ho, _, rfl⟩⟩
  have c160 : c ≤ 160 := pl_c160 hr1
  obtain ⟨j, hj, ej⟩ : ∃ j, j < c ∧ k0 = nI j := by
    rcases pk_ix k0 (n := c) (by omega) with q | q | q
    · exact absurd q h1
    · exact absurd h2 (Int32.not_lt.mpr q)
    · exact q
  obtain ⟨z, hp2, g2, H2, G2⟩ := x_ci (d' := d + 4) (ct_47 hN) (by omega) rfl rfl H1 [.long (lN (f j)), .int i0] ⟨⟨_, rfl⟩, pa_top_ok _, trivial⟩
  refine px_gx (fun _ K9 => px_a 2 (f' := (2, [(0, .ref 8), (1, .int p), (2, .int k0), (3, .int i0)], [.int p, .ref 8], hp)) rfl K9) ?_
  refine px_gx (fun _ K9 => px_cv 8 (as := [.int p]) (rest := []) rfl rfl hc rfl rfl rfl rfl (Nat.le_of_ble_eq_true rfl) (x_form_i (d := d + 4) hc h9 hk ek ho) K9) ?_
  show px_Gx _ _ (5, [(0, .ref 8), (1, .int p), (2, .int k0), (3, .int i0)], [.ref (10 + 3 * k)], hp) _
  refine px_gx (fun _ K9 => px_a 3 (f' := (10, [(4, .ref (10 + 3 * k)), (0, .ref 8), (1, .int p), (2, .int k0), (3, .int i0)], [.ref 8, .ref (10 + 3 * k)], hp)) rfl K9) ?_
  refine px_gx (fun _ K9 => px_gf 8 64 3 8 (.long sh) rfl rfl hc rfl K9) ?_
  show px_Gx _ _ (13, [(4, .ref (10 + 3 * k)), (0, .ref 8), (1, .int p), (2, .int k0), (3, .int i0)], [.long sh, .ref (10 + 3 * k)], hp) _
  refine px_gx (fun _ K9 => px_cv (10 + 3 * k) (as := [.long sh]) (rest := []) rfl rfl hf rfl rfl rfl rfl (Nat.le_of_ble_eq_true rfl) (g) K9) ?_
  show px_Gx _ _ (16, [(4, .ref (10 + 3 * k)), (0, .ref 8), (1, .int p), (2, .int k0), (3, .int i0)], [], hp1) _
  refine px_gx (fun _ K9 => px_a 1 (f' := (17, [(4, .ref (10 + 3 * k)), (0, .ref 8), (1, .int p), (2, .int k0), (3, .int i0)], [.int k0], hp1)) rfl K9) ?_
  refine px_gx (fun _ K9 => px_b1 false 29 rfl rfl (decide_eq_false h1) K9) ?_
  show px_Gx _ _ (20, [(4, .ref (10 + 3 * k)), (0, .ref 8), (1, .int p), (2, .int k0), (3, .int i0)], [], hp1) _
  refine px_gx (fun _ K9 => px_a 2 (f' := (23, [(4, .ref (10 + 3 * k)), (0, .ref 8), (1, .int p), (2, .int k0), (3, .int i0)], [.ref (10 + 3 * k), .int k0], hp1)) rfl K9) ?_
  refine px_gx (fun _ K9 => px_gf (10 + 3 * k) 94 1 6 (.int (nI c)) rfl rfl hf1 rfl K9) ?_
  show px_Gx _ _ (26, [(4, .ref (10 + 3 * k)), (0, .ref 8), (1, .int p), (2, .int k0), (3, .int i0)], [.int (nI c), .int k0], hp1) _
  refine px_gx (fun _ K9 => px_b2 true 31 rfl rfl (decide_eq_true h2) K9) ?_
  show px_Gx _ _ (31, [(4, .ref (10 + 3 * k)), (0, .ref 8), (1, .int p), (2, .int k0), (3, .int i0)], [], hp1) _
  refine px_gx (fun _ K9 => px_a 1 (f' := (33, [(4, .ref (10 + 3 * k)), (0, .ref 8), (1, .int p), (2, .int k0), (3, .int i0)], [.ref (10 + 3 * k)], hp1)) rfl K9) ?_
  refine px_gx (fun _ K9 => px_gf (10 + 3 * k) 97 1 3 (.ref (12 + 3 * k)) rfl rfl hf1 rfl K9) ?_
  show px_Gx _ _ (36, [(4, .ref (10 + 3 * k)), (0, .ref 8), (1, .int p), (2, .int k0), (3, .int i0)], [.ref (12 + 3 * k)], hp1) _
  refine px_gx (fun _ K9 => px_a 1 (f' := (37, [(4, .ref (10 + 3 * k)), (0, .ref 8), (1, .int p), (2, .int k0), (3, .int i0)], [.int k0, .ref (12 + 3 * k)], hp1)) rfl K9) ?_
  refine px_gx (fun _ K9 => px_al (12 + 3 * k) (.long (lN (f j))) rfl hs1 (Or.inr (Or.inl ⟨rfl, rfl⟩)) (h1) (by rw [ej, nI_clamp (by omega)]; exact hr1.2.1 j hj) K9) ?_
  show px_Gx _ _ (38, [(4, .ref (10 + 3 * k)), (0, .ref 8), (1, .int p), (2, .int k0), (3, .int i0)], [.long (lN (f j))], hp1) _
  refine px_gx (fun _ K9 => px_a 1 (f' := (39, [(4, .ref (10 + 3 * k)), (0, .ref 8), (1, .int p), (2, .int k0), (3, .int i0)], [.int i0, .long (lN (f j))], hp1)) rfl K9) ?_
  refine px_gx (fun _ K9 => px_cl (as := [.long (lN (f j)), .int i0]) (rest := []) rfl rfl (g2) K9) ?_
  show px_Gx _ _ (42, [(4, .ref (10 + 3 * k)), (0, .ref 8), (1, .int p), (2, .int k0), (3, .int i0)], [.int z], hp2) _
  exact ⟨_, _, px_ri rfl rfl rfl, r_fm_fr H1 G2 (by decide) (by decide) (by decide) R1, Or.inr ⟨ho, _, rfl⟩⟩
theorem l_plc {n : Nat} (hN : pa_N n) {hp : px_H} (H : pa_Hi n hp) {p p1 p2 : Int32} {W V : Nat} {fc fd : Int32} {sh : Int64} (hc : hp[(8 : Nat)]? = some (3, [.int (nI W), .int (nI V), .ref 9, .ref 28, .ref 29, .ref 30, .ref (34 + n), .int fc, .long sh, .int fd])) (hF : fc.toInt ≤ 6) (h9 : hp[(9 : Nat)]? = some (13, q_forms)) (hW : W ≤ 6) (hV : V ≤ 6) (R : r_fm hp W V) : ∃ (z : Int32) (hp1 : px_H), px_Go 11 8 (0, [(0, .ref 8), (1, .int p), (2, .int p1), (3, .int p2), (4, .ref (52 + n))], [], hp) (.inl (some (.int z)), hp1) ∧ r_fm hp1 W V := by
  obtain ⟨o, hp', hg, ⟨H', G', E'⟩, -⟩ := (ct_57 hN).deep (d' := 10) (by decide) [.ref 8, .int p, .int p1, .int p2] hp H ⟨⟨8, rfl, rfl, by decide⟩, pa_top_ok _, pa_top_ok _, pa_top_ok _, trivial⟩
  obtain ⟨o2, hpx, gx, RF, hx⟩ := x_plc (d := 5) hN H hc h9 hF hW hV R (p := p) (k0 := p1) (i0 := p2)
  have ex := px_det hg gx
  cases ex
  obtain ⟨vs, hv2, hl2, -⟩ := pa_arl (a := 52 + n) (i := 20) H' (by omega) (by decide) (by decide) rfl
  have hlt : Int32.toNatClampNeg 0 < vs.length := by show (0 : Nat) < vs.length; omega
  rcases hx with ⟨ho, rfl⟩ | ⟨ho, z, rfl⟩
  · exact ⟨1, _, l_t8 hc hg, RF⟩
  · exact ⟨0, _, l_e8 hc hg hv2 hlt, r_fm_set (Or.inr (by omega)) RF⟩
theorem p_m0 {m : Int32} (hm : ¬ m < 2) : m ≠ 0 := fun z => hm (by rw [z]; decide)
set_option maxRecDepth 20000 in
theorem x_badj {d n : Nat} (hN : pa_N n) {W V pc : Nat} {fd : Int32} {sh : Int64} {m : Int32} (hm : ¬ m < 2) (pc6 : pc ≤ 6) (hW : W ≤ 6) (hV : V ≤ 6) {p c N : Nat} {wl : List Nat} {st : List Value} {f : Nat → Nat} (hp6 : p < 6) (K : ∀ (hp : px_H) (cnt : Int32) (_ : pa_Hi n hp) (_ : hp[(8 : Nat)]? = some (3, [.int (nI W), .int (nI V), .ref 9, .ref 28, .ref 29, .ref 30, .ref (34 + n), .int (nI pc), .long sh, .int fd])) (_ : hp[(9 : Nat)]? = some (13, q_forms)) (_ : r_fm hp W V), px_Gx (d + 5) 44 (11, [(3, .int (nI (p + 1))), (2, .int cnt), (0, .ref 8), (1, .int m)], [], hp) (fun o hp' => r_fm hp' W V ∧ ∃ z, o = .inl (some (.int z)))) (c160 : c ≤ 160) (hr1 : st.length = 160 ∧ (∀ j, j < c → st[j]? = some (.long (lN (f j))))) : ∀ t j, j + t = c → ∀ (hp : px_H) (cnt : Int32) (H : pa_Hi n hp) (hc : hp[(8 : Nat)]? = some (3, [.int (nI W), .int (nI V), .ref 9, .ref 28, .ref 29, .ref 30, .ref (34 + n), .int (nI pc), .long sh, .int fd])) (h9 : hp[(9 : Nat)]? = some (13, q_forms)) (R : r_fm hp W V) (hf1 : hp[10 + 3 * p]? = some (1, [.int (nI W), .int (nI V), .ref (11 + 3 * p), .ref (12 + 3 * p), .int (nI N), .int (nI wl.length), .int (nI c), .long sh])) (hs1 : hp[12 + 3 * p]? = some (11, st)), px_Gx (d + 5) 44 (39, [(5, .int (nI j)), (4, .ref (10 + 3 * p)), (3, .int (nI p)), (2, .int cnt), (0, .ref 8), (1, .int m)], [], hp) (fun o hp' => r_fm hp' W V ∧ ∃ z, o = .inl (some (.int z))) := by
  have m0 := p_m0 hm
  intro t
  induction t with
  | zero =>
    intro j h hp cnt H hc h9 R hf1 hs1
    · 
      refine px_gx (fun _ K9 => px_a 2 (f' := (43, [(5, .int (nI j)), (4, .ref (10 + 3 * p)), (3, .int (nI p)), (2, .int cnt), (0, .ref 8), (1, .int m)], [.ref (10 + 3 * p), .int (nI j)], hp)) rfl K9) ?_
      refine px_gx (fun _ K9 => px_gf (10 + 3 * p) 94 1 6 (.int (nI c)) rfl rfl hf1 rfl K9) ?_
      show px_Gx _ _ (46, [(5, .int (nI j)), (4, .ref (10 + 3 * p)), (3, .int (nI p)), (2, .int cnt), (0, .ref 8), (1, .int m)], [.int (nI c), .int (nI j)], hp) _
      refine px_gx (fun _ K9 => px_b2 true 75 rfl rfl (decide_eq_true (show nI c ≤ nI j by rw [Int32.le_iff_toInt_le, nI_toInt (by omega), nI_toInt (by omega)]; omega)) K9) ?_
      show px_Gx _ _ (75, [(5, .int (nI j)), (4, .ref (10 + 3 * p)), (3, .int (nI p)), (2, .int cnt), (0, .ref 8), (1, .int m)], [], hp) _
      refine px_gx (fun _ K9 => px_a 2 (f' := (11, [(3, .int ((nI p) + 1)), (5, .int (nI j)), (4, .ref (10 + 3 * p)), (2, .int cnt), (0, .ref 8), (1, .int m)], [], hp)) rfl K9) ?_
      rw [p_s16 p (by omega)]
      refine px_wk [(3, .int (nI (p + 1))), (2, .int cnt), (0, .ref 8), (1, .int m)] ⟨rfl, rfl, rfl, rfl, trivial⟩ ?_
      exact K hp cnt H hc h9 R
  | succ t ih =>
    intro j h hp cnt H hc h9 R hf1 hs1
    have hj : j < c := by omega
    obtain ⟨z, hp2, g2, H2, G2⟩ := x_ci (d' := d + 4) (ct_55 hN) (by omega) rfl rfl H [.ref 8, .long (lN (f j))] ⟨⟨8, rfl, rfl, by decide⟩, ⟨_, rfl⟩, trivial⟩
    have hc2 := l_fo G2 hc (r := 8) rfl (by decide)
    have h92 := l_fo G2 h9 (r := 9) rfl (by decide)
    have hf2 := l_fo G2 hf1 (r10 hp6) (by decide)
    have hs2 := l_fo G2 hs1 (r12 hp6) (by decide)
    have R2 := r_fm_fr H G2 (by decide) (by decide) (by decide) R
    by_cases hz : z - z / m * m = 0
    · 
        refine px_gx (fun _ K9 => px_a 2 (f' := (43, [(5, .int (nI j)), (4, .ref (10 + 3 * p)), (3, .int (nI p)), (2, .int cnt), (0, .ref 8), (1, .int m)], [.ref (10 + 3 * p), .int (nI j)], hp)) rfl K9) ?_
        refine px_gx (fun _ K9 => px_gf (10 + 3 * p) 94 1 6 (.int (nI c)) rfl rfl hf1 rfl K9) ?_
        show px_Gx _ _ (46, [(5, .int (nI j)), (4, .ref (10 + 3 * p)), (3, .int (nI p)), (2, .int cnt), (0, .ref 8), (1, .int m)], [.int (nI c), .int (nI j)], hp) _
        refine px_gx (fun _ K9 => px_b2 false 75 rfl rfl (decide_eq_false (show ¬ nI c ≤ nI j by rw [Int32.le_iff_toInt_le, nI_toInt (by omega), nI_toInt (by omega)]; omega)) K9) ?_
        show px_Gx _ _ (49, [(5, .int (nI j)), (4, .ref (10 + 3 * p)), (3, .int (nI p)), (2, .int cnt), (0, .ref 8), (1, .int m)], [], hp) _
        refine px_gx (fun _ K9 => px_a 2 (f' := (52, [(5, .int (nI j)), (4, .ref (10 + 3 * p)), (3, .int (nI p)), (2, .int cnt), (0, .ref 8), (1, .int m)], [.ref (10 + 3 * p), .ref 8], hp)) rfl K9) ?_
        refine px_gx (fun _ K9 => px_gf (10 + 3 * p) 97 1 3 (.ref (12 + 3 * p)) rfl rfl hf1 rfl K9) ?_
        show px_Gx _ _ (55, [(5, .int (nI j)), (4, .ref (10 + 3 * p)), (3, .int (nI p)), (2, .int cnt), (0, .ref 8), (1, .int m)], [.ref (12 + 3 * p), .ref 8], hp) _
        refine px_gx (fun _ K9 => px_a 1 (f' := (57, [(5, .int (nI j)), (4, .ref (10 + 3 * p)), (3, .int (nI p)), (2, .int cnt), (0, .ref 8), (1, .int m)], [.int (nI j), .ref (12 + 3 * p), .ref 8], hp)) rfl K9) ?_
        refine px_gx (fun _ K9 => px_al (12 + 3 * p) (.long (lN (f j))) rfl hs1 (Or.inr (Or.inl ⟨rfl, rfl⟩)) (nI_pos (by omega)) (by rw [nI_clamp (by omega)]; exact hr1.2 j hj) K9) ?_
        show px_Gx _ _ (58, [(5, .int (nI j)), (4, .ref (10 + 3 * p)), (3, .int (nI p)), (2, .int cnt), (0, .ref 8), (1, .int m)], [.long (lN (f j)), .ref 8], hp) _
        refine px_gx (fun _ K9 => px_cv 8 (as := [.long (lN (f j))]) (rest := []) rfl rfl hc rfl rfl rfl rfl (Nat.le_of_ble_eq_true rfl) (g2) K9) ?_
        show px_Gx _ _ (61, [(5, .int (nI j)), (4, .ref (10 + 3 * p)), (3, .int (nI p)), (2, .int cnt), (0, .ref 8), (1, .int m)], [.int z], hp2) _
        refine px_gx (fun _ K9 => px_a 1 (f' := (62, [(5, .int (nI j)), (4, .ref (10 + 3 * p)), (3, .int (nI p)), (2, .int cnt), (0, .ref 8), (1, .int m)], [.int m, .int z], hp2)) rfl K9) ?_
        refine px_gx (fun _ K9 => px_irem rfl (m0) K9) ?_
        refine px_gx (fun _ K9 => px_b1 true 69 rfl rfl (decide_eq_true hz) K9) ?_
        show px_Gx _ _ (69, [(5, .int (nI j)), (4, .ref (10 + 3 * p)), (3, .int (nI p)), (2, .int cnt), (0, .ref 8), (1, .int m)], [], hp2) _
        refine px_gx (fun _ K9 => px_a 2 (f' := (39, [(5, .int ((nI j) + 1)), (4, .ref (10 + 3 * p)), (3, .int (nI p)), (2, .int cnt), (0, .ref 8), (1, .int m)], [], hp2)) rfl K9) ?_
        rw [p_s16 j (by omega)]
        refine px_wk [(5, .int (nI (j + 1))), (4, .ref (10 + 3 * p)), (3, .int (nI p)), (2, .int cnt), (0, .ref 8), (1, .int m)] ⟨rfl, rfl, rfl, rfl, rfl, rfl, trivial⟩ ?_
        exact ih (j + 1) (by omega) hp2 cnt H2 hc2 h92 R2 hf2 hs2
    · 
        refine px_gx (fun _ K9 => px_a 2 (f' := (43, [(5, .int (nI j)), (4, .ref (10 + 3 * p)), (3, .int (nI p)), (2, .int cnt), (0, .ref 8), (1, .int m)], [.ref (10 + 3 * p), .int (nI j)], hp)) rfl K9) ?_
        refine px_gx (fun _ K9 => px_gf (10 + 3 * p) 94 1 6 (.int (nI c)) rfl rfl hf1 rfl K9) ?_
        show px_Gx _ _ (46, [(5, .int (nI j)), (4, .ref (10 + 3 * p)), (3, .int (nI p)), (2, .int cnt), (0, .ref 8), (1, .int m)], [.int (nI c), .int (nI j)], hp) _
        refine px_gx (fun _ K9 => px_b2 false 75 rfl rfl (decide_eq_false (show ¬ nI c ≤ nI j by rw [Int32.le_iff_toInt_le, nI_toInt (by omega), nI_toInt (by omega)]; omega)) K9) ?_
        show px_Gx _ _ (49, [(5, .int (nI j)), (4, .ref (10 + 3 * p)), (3, .int (nI p)), (2, .int cnt), (0, .ref 8), (1, .int m)], [], hp) _
        refine px_gx (fun _ K9 => px_a 2 (f' := (52, [(5, .int (nI j)), (4, .ref (10 + 3 * p)), (3, .int (nI p)), (2, .int cnt), (0, .ref 8), (1, .int m)], [.ref (10 + 3 * p), .ref 8], hp)) rfl K9) ?_
        refine px_gx (fun _ K9 => px_gf (10 + 3 * p) 97 1 3 (.ref (12 + 3 * p)) rfl rfl hf1 rfl K9) ?_
        show px_Gx _ _ (55, [(5, .int (nI j)), (4, .ref (10 + 3 * p)), (3, .int (nI p)), (2, .int cnt), (0, .ref 8), (1, .int m)], [.ref (12 + 3 * p), .ref 8], hp) _
        refine px_gx (fun _ K9 => px_a 1 (f' := (57, [(5, .int (nI j)), (4, .ref (10 + 3 * p)), (3, .int (nI p)), (2, .int cnt), (0, .ref 8), (1, .int m)], [.int (nI j), .ref (12 + 3 * p), .ref 8], hp)) rfl K9) ?_
        refine px_gx (fun _ K9 => px_al (12 + 3 * p) (.long (lN (f j))) rfl hs1 (Or.inr (Or.inl ⟨rfl, rfl⟩)) (nI_pos (by omega)) (by rw [nI_clamp (by omega)]; exact hr1.2 j hj) K9) ?_
        show px_Gx _ _ (58, [(5, .int (nI j)), (4, .ref (10 + 3 * p)), (3, .int (nI p)), (2, .int cnt), (0, .ref 8), (1, .int m)], [.long (lN (f j)), .ref 8], hp) _
        refine px_gx (fun _ K9 => px_cv 8 (as := [.long (lN (f j))]) (rest := []) rfl rfl hc rfl rfl rfl rfl (Nat.le_of_ble_eq_true rfl) (g2) K9) ?_
        show px_Gx _ _ (61, [(5, .int (nI j)), (4, .ref (10 + 3 * p)), (3, .int (nI p)), (2, .int cnt), (0, .ref 8), (1, .int m)], [.int z], hp2) _
        refine px_gx (fun _ K9 => px_a 1 (f' := (62, [(5, .int (nI j)), (4, .ref (10 + 3 * p)), (3, .int (nI p)), (2, .int cnt), (0, .ref 8), (1, .int m)], [.int m, .int z], hp2)) rfl K9) ?_
        refine px_gx (fun _ K9 => px_irem rfl (m0) K9) ?_
        refine px_gx (fun _ K9 => px_b1 false 69 rfl rfl (decide_eq_false hz) K9) ?_
        show px_Gx _ _ (66, [(5, .int (nI j)), (4, .ref (10 + 3 * p)), (3, .int (nI p)), (2, .int cnt), (0, .ref 8), (1, .int m)], [], hp2) _
        refine px_gx (fun _ K9 => px_a 3 (f' := (39, [(5, .int ((nI j) + 1)), (2, .int (cnt + 1)), (4, .ref (10 + 3 * p)), (3, .int (nI p)), (0, .ref 8), (1, .int m)], [], hp2)) rfl K9) ?_
        rw [p_s16 j (by omega)]
        refine px_wk [(5, .int (nI (j + 1))), (4, .ref (10 + 3 * p)), (3, .int (nI p)), (2, .int (cnt + 1)), (0, .ref 8), (1, .int m)] ⟨rfl, rfl, rfl, rfl, rfl, rfl, trivial⟩ ?_
        exact ih (j + 1) (by omega) hp2 (cnt + 1) H2 hc2 h92 R2 hf2 hs2
set_option maxRecDepth 20000 in
theorem x_badl {d n : Nat} (hN : pa_N n) {W V pc : Nat} {fd : Int32} {sh : Int64} {m : Int32} (hm : ¬ m < 2) (pc6 : pc ≤ 6) (hW : W ≤ 6) (hV : V ≤ 6) : ∀ t p, p + t = pc → ∀ (hp : px_H) (cnt : Int32) (H : pa_Hi n hp) (hc : hp[(8 : Nat)]? = some (3, [.int (nI W), .int (nI V), .ref 9, .ref 28, .ref 29, .ref 30, .ref (34 + n), .int (nI pc), .long sh, .int fd])) (h9 : hp[(9 : Nat)]? = some (13, q_forms)) (R : r_fm hp W V), px_Gx (d + 5) 44 (11, [(3, .int (nI p)), (2, .int cnt), (0, .ref 8), (1, .int m)], [], hp) (fun o hp' => r_fm hp' W V ∧ ∃ z, o = .inl (some (.int z))) := by
  intro t
  induction t with
  | zero =>
    intro p h hp cnt H hc h9 R
    refine px_gx (fun _ K9 => px_a 2 (f' := (13, [(3, .int (nI p)), (2, .int cnt), (0, .ref 8), (1, .int m)], [.ref 8, .int (nI p)], hp)) rfl K9) ?_
    refine px_gx (fun _ K9 => px_gf 8 72 3 7 (.int (nI pc)) rfl rfl hc rfl K9) ?_
    show px_Gx _ _ (16, [(3, .int (nI p)), (2, .int cnt), (0, .ref 8), (1, .int m)], [.int (nI pc), .int (nI p)], hp) _
    refine px_gx (fun _ K9 => px_b2 true 81 rfl rfl (decide_eq_true (show nI pc ≤ nI p by rw [Int32.le_iff_toInt_le, nI_toInt (by omega), nI_toInt (by omega)]; omega)) K9) ?_
    show px_Gx _ _ (81, [(3, .int (nI p)), (2, .int cnt), (0, .ref 8), (1, .int m)], [], hp) _
    refine px_gx (fun _ K9 => px_a 1 (f' := (82, [(3, .int (nI p)), (2, .int cnt), (0, .ref 8), (1, .int m)], [.int cnt], hp)) rfl K9) ?_
    exact ⟨_, _, px_ri rfl rfl rfl, R, _, rfl⟩
  | succ t ih =>
    intro p h hp cnt H hc h9 R
    obtain ⟨hp1, N, c, g, H1, G1, R1, Rk, ss0, c0, R0⟩ := x_prep (d := d) (k := p) (sh := sh) hN H hW hV (by omega) R
    obtain ⟨wl0, ws0, u1, u2, u3, u4, u5, st0, f0, hf, -⟩ := R0
    obtain ⟨wl, ws, v1, v2, v3, v4, v5, st, f, hf1, hs1, hr1⟩ := Rk
    refine px_gx (fun _ K9 => px_a 2 (f' := (13, [(3, .int (nI p)), (2, .int cnt), (0, .ref 8), (1, .int m)], [.ref 8, .int (nI p)], hp)) rfl K9) ?_
    refine px_gx (fun _ K9 => px_gf 8 72 3 7 (.int (nI pc)) rfl rfl hc rfl K9) ?_
    show px_Gx _ _ (16, [(3, .int (nI p)), (2, .int cnt), (0, .ref 8), (1, .int m)], [.int (nI pc), .int (nI p)], hp) _
    refine px_gx (fun _ K9 => px_b2 false 81 rfl rfl (decide_eq_false (show ¬ nI pc ≤ nI p by rw [Int32.le_iff_toInt_le, nI_toInt (by omega), nI_toInt (by omega)]; omega)) K9) ?_
    show px_Gx _ _ (19, [(3, .int (nI p)), (2, .int cnt), (0, .ref 8), (1, .int m)], [], hp) _
    refine px_gx (fun _ K9 => px_a 1 (f' := (20, [(3, .int (nI p)), (2, .int cnt), (0, .ref 8), (1, .int m)], [.ref 8], hp)) rfl K9) ?_
    refine px_gx (fun _ K9 => px_gf 8 27 3 2 (.ref 9) rfl rfl hc rfl K9) ?_
    show px_Gx _ _ (23, [(3, .int (nI p)), (2, .int cnt), (0, .ref 8), (1, .int m)], [.ref 9], hp) _
    refine px_gx (fun _ K9 => px_a 1 (f' := (24, [(3, .int (nI p)), (2, .int cnt), (0, .ref 8), (1, .int m)], [.int (nI p), .ref 9], hp)) rfl K9) ?_
    refine px_gx (fun _ K9 => px_al 9 (.ref (10 + 3 * p)) rfl h9 (Or.inr (Or.inr (Or.inr ⟨rfl, Or.inl rfl⟩))) (nI_pos (by omega)) (q_f p (by omega)) K9) ?_
    show px_Gx _ _ (25, [(3, .int (nI p)), (2, .int cnt), (0, .ref 8), (1, .int m)], [.ref (10 + 3 * p)], hp) _
    refine px_gx (fun _ K9 => px_a 3 (f' := (30, [(4, .ref (10 + 3 * p)), (3, .int (nI p)), (2, .int cnt), (0, .ref 8), (1, .int m)], [.ref 8, .ref (10 + 3 * p)], hp)) rfl K9) ?_
    refine px_gx (fun _ K9 => px_gf 8 64 3 8 (.long sh) rfl rfl hc rfl K9) ?_
    show px_Gx _ _ (33, [(4, .ref (10 + 3 * p)), (3, .int (nI p)), (2, .int cnt), (0, .ref 8), (1, .int m)], [.long sh, .ref (10 + 3 * p)], hp) _
    refine px_gx (fun _ K9 => px_cv (10 + 3 * p) (as := [.long sh]) (rest := []) rfl rfl hf rfl rfl rfl rfl (Nat.le_of_ble_eq_true rfl) (g) K9) ?_
    show px_Gx _ _ (36, [(4, .ref (10 + 3 * p)), (3, .int (nI p)), (2, .int cnt), (0, .ref 8), (1, .int m)], [], hp1) _
    refine px_gx (fun _ K9 => px_a 2 (f' := (39, [(5, .int 0), (4, .ref (10 + 3 * p)), (3, .int (nI p)), (2, .int cnt), (0, .ref 8), (1, .int m)], [], hp1)) rfl K9) ?_
    refine px_wk [(5, .int 0), (4, .ref (10 + 3 * p)), (3, .int (nI p)), (2, .int cnt), (0, .ref 8), (1, .int m)] ⟨rfl, rfl, rfl, rfl, rfl, rfl, trivial⟩ ?_
    exact x_badj hN hm pc6 hW hV (by omega) (fun hp2 cnt2 H2 hc2 h92 R2 => ih (p + 1) (by omega) hp2 cnt2 H2 hc2 h92 R2) (pl_c160 hr1) ⟨hr1.1, hr1.2.1⟩ c 0 (by omega) hp1 cnt H1 (l_fo G1 hc (r := 8) rfl (by decide)) (l_fo G1 h9 (r := 9) rfl (by decide)) R1 hf1 hs1
set_option maxRecDepth 20000 in
theorem x_badF {d n : Nat} (hN : pa_N n) {W V pc : Nat} {fd : Int32} {sh : Int64} {m : Int32} (pc6 : pc ≤ 6) (hW : W ≤ 6) (hV : V ≤ 6) {hp : px_H} (H : pa_Hi n hp) (hc : hp[(8 : Nat)]? = some (3, [.int (nI W), .int (nI V), .ref 9, .ref 28, .ref 29, .ref 30, .ref (34 + n), .int (nI pc), .long sh, .int fd])) (h9 : hp[(9 : Nat)]? = some (13, q_forms)) (R : r_fm hp W V) : px_Gx (d + 5) 44 (0, [(0, .ref 8), (1, .int m)], [], hp) (fun o hp' => r_fm hp' W V ∧ ∃ z, o = .inl (some (.int z))) := by
  by_cases hm : m < 2
  · 
    refine px_gx (fun _ K9 => px_a 2 (f' := (2, [(0, .ref 8), (1, .int m)], [.int 2, .int m], hp)) rfl K9) ?_
    refine px_gx (fun _ K9 => px_b2 false 7 rfl rfl (decide_eq_false (Int32.not_le.mpr hm)) K9) ?_
    show px_Gx _ _ (5, [(0, .ref 8), (1, .int m)], [], hp) _
    refine px_gx (fun _ K9 => px_a 1 (f' := (6, [(0, .ref 8), (1, .int m)], [.int (-1)], hp)) rfl K9) ?_
    exact ⟨_, _, px_ri rfl rfl rfl, R, _, rfl⟩
  · 
    refine px_gx (fun _ K9 => px_a 2 (f' := (2, [(0, .ref 8), (1, .int m)], [.int 2, .int m], hp)) rfl K9) ?_
    refine px_gx (fun _ K9 => px_b2 true 7 rfl rfl (decide_eq_true (Int32.not_lt.mp hm)) K9) ?_
    show px_Gx _ _ (7, [(0, .ref 8), (1, .int m)], [], hp) _
    refine px_gx (fun _ K9 => px_a 4 (f' := (11, [(3, .int 0), (2, .int 0), (0, .ref 8), (1, .int m)], [], hp)) rfl K9) ?_
    exact x_badl hN hm pc6 hW hV pc 0 (by omega) hp 0 H hc h9 R
set_option maxRecDepth 20000 in
theorem x_prvF {d n : Nat} (hN : pa_N n) {W V pc : Nat} {fd : Int32} {sh : Int64} {m : Int32} (pc6 : pc ≤ 6) (hW : W ≤ 6) (hV : V ≤ 6) {hp : px_H} (H : pa_Hi n hp) (hc : hp[(8 : Nat)]? = some (3, [.int (nI W), .int (nI V), .ref 9, .ref 28, .ref 29, .ref 30, .ref (34 + n), .int (nI pc), .long sh, .int fd])) (h9 : hp[(9 : Nat)]? = some (13, q_forms)) (R : r_fm hp W V) : px_Gx (d + 6) 59 (0, [(0, .ref 8), (1, .int m)], [], hp) (fun o hp' => r_fm hp' W V ∧ ∃ z, o = .inl (some (.int z))) := by
  by_cases hm : m < 2
  · 
    refine px_gx (fun _ K9 => px_a 2 (f' := (2, [(0, .ref 8), (1, .int m)], [.int 2, .int m], hp)) rfl K9) ?_
    refine px_gx (fun _ K9 => px_b2 false 7 rfl rfl (decide_eq_false (Int32.not_le.mpr hm)) K9) ?_
    show px_Gx _ _ (5, [(0, .ref 8), (1, .int m)], [], hp) _
    refine px_gx (fun _ K9 => px_a 1 (f' := (6, [(0, .ref 8), (1, .int m)], [.int 0], hp)) rfl K9) ?_
    exact ⟨_, _, px_ri rfl rfl rfl, R, _, rfl⟩
  obtain ⟨z, hp2, g2, H2, G2⟩ := x_ci (d' := d + 5) (ct_55 hN) (by omega) rfl rfl H [.ref 8, .long sh] ⟨⟨8, rfl, rfl, by decide⟩, ⟨_, rfl⟩, trivial⟩
  have hc2 := l_fo G2 hc (r := 8) rfl (by decide)
  have h92 := l_fo G2 h9 (r := 9) rfl (by decide)
  have R2 := r_fm_fr H G2 (by decide) (by decide) (by decide) R
  by_cases hz : z - z / m * m = 0
  · 
    refine px_gx (fun _ K9 => px_a 2 (f' := (2, [(0, .ref 8), (1, .int m)], [.int 2, .int m], hp)) rfl K9) ?_
    refine px_gx (fun _ K9 => px_b2 true 7 rfl rfl (decide_eq_true (Int32.not_lt.mp hm)) K9) ?_
    show px_Gx _ _ (7, [(0, .ref 8), (1, .int m)], [], hp) _
    refine px_gx (fun _ K9 => px_a 2 (f' := (9, [(0, .ref 8), (1, .int m)], [.ref 8, .ref 8], hp)) rfl K9) ?_
    refine px_gx (fun _ K9 => px_gf 8 64 3 8 (.long sh) rfl rfl hc rfl K9) ?_
    show px_Gx _ _ (12, [(0, .ref 8), (1, .int m)], [.long sh, .ref 8], hp) _
    refine px_gx (fun _ K9 => px_cv 8 (as := [.long sh]) (rest := []) rfl rfl hc rfl rfl rfl rfl (Nat.le_of_ble_eq_true rfl) (g2) K9) ?_
    show px_Gx _ _ (15, [(0, .ref 8), (1, .int m)], [.int z], hp2) _
    refine px_gx (fun _ K9 => px_a 1 (f' := (16, [(0, .ref 8), (1, .int m)], [.int m, .int z], hp2)) rfl K9) ?_
    refine px_gx (fun _ K9 => px_irem rfl (p_m0 hm) K9) ?_
    refine px_gx (fun _ K9 => px_b1 true 32 rfl rfl (decide_eq_true hz) K9) ?_
    show px_Gx _ _ (32, [(0, .ref 8), (1, .int m)], [], hp2) _
    refine px_gx (fun _ K9 => px_a 1 (f' := (33, [(0, .ref 8), (1, .int m)], [.int 0], hp2)) rfl K9) ?_
    exact ⟨_, _, px_ri rfl rfl rfl, R2, _, rfl⟩
  obtain ⟨o3, hp3, g3, R3, z3, e3⟩ := x_badF (d := d) (m := m) hN pc6 hW hV H2 hc2 h92 R2
  subst e3
  by_cases hz3 : z3 = 0
  · 
    refine px_gx (fun _ K9 => px_a 2 (f' := (2, [(0, .ref 8), (1, .int m)], [.int 2, .int m], hp)) rfl K9) ?_
    refine px_gx (fun _ K9 => px_b2 true 7 rfl rfl (decide_eq_true (Int32.not_lt.mp hm)) K9) ?_
    show px_Gx _ _ (7, [(0, .ref 8), (1, .int m)], [], hp) _
    refine px_gx (fun _ K9 => px_a 2 (f' := (9, [(0, .ref 8), (1, .int m)], [.ref 8, .ref 8], hp)) rfl K9) ?_
    refine px_gx (fun _ K9 => px_gf 8 64 3 8 (.long sh) rfl rfl hc rfl K9) ?_
    show px_Gx _ _ (12, [(0, .ref 8), (1, .int m)], [.long sh, .ref 8], hp) _
    refine px_gx (fun _ K9 => px_cv 8 (as := [.long sh]) (rest := []) rfl rfl hc rfl rfl rfl rfl (Nat.le_of_ble_eq_true rfl) (g2) K9) ?_
    show px_Gx _ _ (15, [(0, .ref 8), (1, .int m)], [.int z], hp2) _
    refine px_gx (fun _ K9 => px_a 1 (f' := (16, [(0, .ref 8), (1, .int m)], [.int m, .int z], hp2)) rfl K9) ?_
    refine px_gx (fun _ K9 => px_irem rfl (p_m0 hm) K9) ?_
    refine px_gx (fun _ K9 => px_b1 false 32 rfl rfl (decide_eq_false hz) K9) ?_
    show px_Gx _ _ (20, [(0, .ref 8), (1, .int m)], [], hp2) _
    refine px_gx (fun _ K9 => px_a 2 (f' := (22, [(0, .ref 8), (1, .int m)], [.int m, .ref 8], hp2)) rfl K9) ?_
    refine px_gx (fun _ K9 => px_cv 8 (as := [.int m]) (rest := []) rfl rfl hc2 rfl rfl rfl rfl (Nat.le_of_ble_eq_true rfl) (g3) K9) ?_
    show px_Gx _ _ (25, [(0, .ref 8), (1, .int m)], [.int z3], hp3) _
    refine px_gx (fun _ K9 => px_b1 false 32 rfl rfl (decide_eq_false (not_not_intro hz3)) K9) ?_
    show px_Gx _ _ (28, [(0, .ref 8), (1, .int m)], [], hp3) _
    refine px_gx (fun _ K9 => px_a 2 (f' := (33, [(0, .ref 8), (1, .int m)], [.int 1], hp3)) rfl K9) ?_
    exact ⟨_, _, px_ri rfl rfl rfl, R3, _, rfl⟩
  · 
    refine px_gx (fun _ K9 => px_a 2 (f' := (2, [(0, .ref 8), (1, .int m)], [.int 2, .int m], hp)) rfl K9) ?_
    refine px_gx (fun _ K9 => px_b2 true 7 rfl rfl (decide_eq_true (Int32.not_lt.mp hm)) K9) ?_
    show px_Gx _ _ (7, [(0, .ref 8), (1, .int m)], [], hp) _
    refine px_gx (fun _ K9 => px_a 2 (f' := (9, [(0, .ref 8), (1, .int m)], [.ref 8, .ref 8], hp)) rfl K9) ?_
    refine px_gx (fun _ K9 => px_gf 8 64 3 8 (.long sh) rfl rfl hc rfl K9) ?_
    show px_Gx _ _ (12, [(0, .ref 8), (1, .int m)], [.long sh, .ref 8], hp) _
    refine px_gx (fun _ K9 => px_cv 8 (as := [.long sh]) (rest := []) rfl rfl hc rfl rfl rfl rfl (Nat.le_of_ble_eq_true rfl) (g2) K9) ?_
    show px_Gx _ _ (15, [(0, .ref 8), (1, .int m)], [.int z], hp2) _
    refine px_gx (fun _ K9 => px_a 1 (f' := (16, [(0, .ref 8), (1, .int m)], [.int m, .int z], hp2)) rfl K9) ?_
    refine px_gx (fun _ K9 => px_irem rfl (p_m0 hm) K9) ?_
    refine px_gx (fun _ K9 => px_b1 false 32 rfl rfl (decide_eq_false hz) K9) ?_
    show px_Gx _ _ (20, [(0, .ref 8), (1, .int m)], [], hp2) _
    refine px_gx (fun _ K9 => px_a 2 (f' := (22, [(0, .ref 8), (1, .int m)], [.int m, .ref 8], hp2)) rfl K9) ?_
    refine px_gx (fun _ K9 => px_cv 8 (as := [.int m]) (rest := []) rfl rfl hc2 rfl rfl rfl rfl (Nat.le_of_ble_eq_true rfl) (g3) K9) ?_
    show px_Gx _ _ (25, [(0, .ref 8), (1, .int m)], [.int z3], hp3) _
    refine px_gx (fun _ K9 => px_b1 true 32 rfl rfl (decide_eq_true hz3) K9) ?_
    show px_Gx _ _ (32, [(0, .ref 8), (1, .int m)], [], hp3) _
    refine px_gx (fun _ K9 => px_a 1 (f' := (33, [(0, .ref 8), (1, .int m)], [.int 0], hp3)) rfl K9) ?_
    exact ⟨_, _, px_ri rfl rfl rfl, R3, _, rfl⟩
