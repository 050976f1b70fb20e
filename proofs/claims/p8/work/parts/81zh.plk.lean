theorem x_ci {n j : Nat} {K : pa_K} {d d' : Nat} {lo hi : Int} (h : pa_Ct pa_tb n j K d) (hd : d ≤ d') (hr : K.2.1 = some (pa_i lo hi)) (ht : K.2.2.1 = false) {hp : px_H} (H : pa_Hi n hp) (as : List Value) (ha : pa_gfs n K.1 as) : ∃ (z : Int32) (hp1 : px_H), px_Go d' j (0, lv_args 0 as, [], hp) (.inl (some (.int z)), hp1) ∧ pa_Hi n hp1 ∧ pa_Fr n K.2.2.2 hp hp1 := by
  obtain ⟨o, hp1, g, ⟨H1, G1, E⟩, -⟩ := h.deep hd as hp H ha
  rcases E with ⟨v, rfl, gr, -⟩ | z
  · rw [hr] at gr
    obtain ⟨z, rfl, -, -⟩ := pa_gri gr
    exact ⟨z, hp1, g, H1, G1⟩
  · have := z.1
    rw [ht] at this
    cases this
theorem x_cn {n j : Nat} {K : pa_K} {d d' : Nat} (h : pa_Ct pa_tb n j K d) (hd : d ≤ d') (hr : K.2.1 = none) (ht : K.2.2.1 = false) {hp : px_H} (H : pa_Hi n hp) (as : List Value) (ha : pa_gfs n K.1 as) : ∃ (hp1 : px_H), px_Go d' j (0, lv_args 0 as, [], hp) (.inl none, hp1) ∧ pa_Hi n hp1 ∧ pa_Fr n K.2.2.2 hp hp1 := by
  obtain ⟨o, hp1, g, ⟨H1, G1, E⟩, -⟩ := h.deep hd as hp H ha
  rcases E with ⟨v, rfl, gr, -⟩ | z
  · rw [hr] at gr
    cases v with
    | none => exact ⟨hp1, g, H1, G1⟩
    | some w => exact False.elim gr
  · have := z.1
    rw [ht] at this
    cases this
theorem r_fm_exc {hp : px_H} {W V : Nat} (R : r_fm hp W V) : r_fm (px_exc hp) W V := r_fm_m (fun a x _ _ h => by unfold px_exc; exact px_apl h) R
theorem r_fm_set {hp : px_H} {W V a : Nat} {c : px_C} (ha : a < 10 ∨ 27 < a) (R : r_fm hp W V) : r_fm (hp.set a c) W V := r_fm_m (fun b x h1 h2 h => px_ne h (by omega)) R
set_option maxRecDepth 20000 in
theorem x_squareF {d n : Nat} (hN : pa_N n) {hp : px_H} (H : pa_Hi n hp) {W V : Nat} {fc fd : Int32} {sh : Int64} (hc : hp[(8 : Nat)]? = some (3, [.int (nI W), .int (nI V), .ref 9, .ref 28, .ref 29, .ref 30, .ref (34 + n), .int fc, .long sh, .int fd])) (h9 : hp[(9 : Nat)]? = some (13, q_forms)) (hF : fc.toInt ≤ 6) (P : ∀ k, k < 6 → ∃ N, N < 65536 ∧ pa_fd hp (10 + 3 * k) 4 = some (.int (nI N)) ∧ pb_cnt 16 N ≤ 6) (hW : W ≤ 6) (hV : V ≤ 6) (R : r_fm hp W V) {p x y : Int32} : px_Gx (d + 4) 64 (0, [(0, .ref 8), (1, .int p), (2, .int x), (3, .int y)], [], hp) (fun _ hp' => r_fm hp' W V) := by
  by_cases ho : p < 0 ∨ fc ≤ p
  · refine ⟨.inr "java/lang/ArrayIndexOutOfBoundsException", px_exc hp, ?_, r_fm_exc R⟩
    refine px_a 2 (f' := (2, [(0, .ref 8), (1, .int p), (2, .int x), (3, .int y)], [.int p, .ref 8], hp)) rfl ?_
    exact px_cvt 8 (as := [.int p]) (rest := []) rfl rfl hc rfl rfl rfl rfl (Nat.le_of_ble_eq_true rfl) (x_form_o (d := d + 3) hc ho) (px_hdn (by decide)) rfl
  obtain ⟨k, hk, ek⟩ : ∃ k, k < 6 ∧ p = nI k := by
    refine q_in (m := 6) (by decide) (fun z => ho (Or.inl z)) (fun z => ho (Or.inr ?_))
    rw [Int32.le_iff_toInt_le] at z ⊢
    have : (nI 6).toInt = 6 := rfl
    omega
  by_cases hO : (x < 0 ∨ 4 ≤ x ∨ y < 0 ∨ 4 ≤ y)
  · refine ⟨.inr "java/lang/IllegalArgumentException", px_exc hp, ?_, r_fm_exc R⟩
    by_cases h1 : x < 0
    ·
      refine px_a 2 (f' := (2, [(0, .ref 8), (1, .int p), (2, .int x), (3, .int y)], [.int p, .ref 8], hp)) rfl ?_
      refine px_cv 8 (as := [.int p]) (rest := []) rfl rfl hc rfl rfl rfl rfl (Nat.le_of_ble_eq_true rfl) (x_form_i (d := d + 3) hc h9 hk ek ho) ?_
      show px_Go _ _ (5, [(0, .ref 8), (1, .int p), (2, .int x), (3, .int y)], [.ref (10 + 3 * k)], hp) _
      refine px_a 2 (f' := (8, [(4, .ref (10 + 3 * k)), (0, .ref 8), (1, .int p), (2, .int x), (3, .int y)], [.int x], hp)) rfl ?_
      refine px_b1 true 25 rfl rfl (decide_eq_true h1) ?_
      show px_Go _ _ (25, [(4, .ref (10 + 3 * k)), (0, .ref 8), (1, .int p), (2, .int x), (3, .int y)], [], hp) _
      exact px_e rfl rfl
    by_cases h2 : 4 ≤ x
    ·
      refine px_a 2 (f' := (2, [(0, .ref 8), (1, .int p), (2, .int x), (3, .int y)], [.int p, .ref 8], hp)) rfl ?_
      refine px_cv 8 (as := [.int p]) (rest := []) rfl rfl hc rfl rfl rfl rfl (Nat.le_of_ble_eq_true rfl) (x_form_i (d := d + 3) hc h9 hk ek ho) ?_
      show px_Go _ _ (5, [(0, .ref 8), (1, .int p), (2, .int x), (3, .int y)], [.ref (10 + 3 * k)], hp) _
      refine px_a 2 (f' := (8, [(4, .ref (10 + 3 * k)), (0, .ref 8), (1, .int p), (2, .int x), (3, .int y)], [.int x], hp)) rfl ?_
      refine px_b1 false 25 rfl rfl (decide_eq_false h1) ?_
      show px_Go _ _ (11, [(4, .ref (10 + 3 * k)), (0, .ref 8), (1, .int p), (2, .int x), (3, .int y)], [], hp) _
      refine px_a 2 (f' := (13, [(4, .ref (10 + 3 * k)), (0, .ref 8), (1, .int p), (2, .int x), (3, .int y)], [.int 4, .int x], hp)) rfl ?_
      refine px_b2 true 25 rfl rfl (decide_eq_true h2) ?_
      show px_Go _ _ (25, [(4, .ref (10 + 3 * k)), (0, .ref 8), (1, .int p), (2, .int x), (3, .int y)], [], hp) _
      exact px_e rfl rfl
    by_cases h3 : y < 0
    ·
      refine px_a 2 (f' := (2, [(0, .ref 8), (1, .int p), (2, .int x), (3, .int y)], [.int p, .ref 8], hp)) rfl ?_
      refine px_cv 8 (as := [.int p]) (rest := []) rfl rfl hc rfl rfl rfl rfl (Nat.le_of_ble_eq_true rfl) (x_form_i (d := d + 3) hc h9 hk ek ho) ?_
      show px_Go _ _ (5, [(0, .ref 8), (1, .int p), (2, .int x), (3, .int y)], [.ref (10 + 3 * k)], hp) _
      refine px_a 2 (f' := (8, [(4, .ref (10 + 3 * k)), (0, .ref 8), (1, .int p), (2, .int x), (3, .int y)], [.int x], hp)) rfl ?_
      refine px_b1 false 25 rfl rfl (decide_eq_false h1) ?_
      show px_Go _ _ (11, [(4, .ref (10 + 3 * k)), (0, .ref 8), (1, .int p), (2, .int x), (3, .int y)], [], hp) _
      refine px_a 2 (f' := (13, [(4, .ref (10 + 3 * k)), (0, .ref 8), (1, .int p), (2, .int x), (3, .int y)], [.int 4, .int x], hp)) rfl ?_
      refine px_b2 false 25 rfl rfl (decide_eq_false h2) ?_
      show px_Go _ _ (16, [(4, .ref (10 + 3 * k)), (0, .ref 8), (1, .int p), (2, .int x), (3, .int y)], [], hp) _
      refine px_a 1 (f' := (17, [(4, .ref (10 + 3 * k)), (0, .ref 8), (1, .int p), (2, .int x), (3, .int y)], [.int y], hp)) rfl ?_
      refine px_b1 true 25 rfl rfl (decide_eq_true h3) ?_
      show px_Go _ _ (25, [(4, .ref (10 + 3 * k)), (0, .ref 8), (1, .int p), (2, .int x), (3, .int y)], [], hp) _
      exact px_e rfl rfl
    by_cases h4 : 4 ≤ y
    ·
      refine px_a 2 (f' := (2, [(0, .ref 8), (1, .int p), (2, .int x), (3, .int y)], [.int p, .ref 8], hp)) rfl ?_
      refine px_cv 8 (as := [.int p]) (rest := []) rfl rfl hc rfl rfl rfl rfl (Nat.le_of_ble_eq_true rfl) (x_form_i (d := d + 3) hc h9 hk ek ho) ?_
      show px_Go _ _ (5, [(0, .ref 8), (1, .int p), (2, .int x), (3, .int y)], [.ref (10 + 3 * k)], hp) _
      refine px_a 2 (f' := (8, [(4, .ref (10 + 3 * k)), (0, .ref 8), (1, .int p), (2, .int x), (3, .int y)], [.int x], hp)) rfl ?_
      refine px_b1 false 25 rfl rfl (decide_eq_false h1) ?_
      show px_Go _ _ (11, [(4, .ref (10 + 3 * k)), (0, .ref 8), (1, .int p), (2, .int x), (3, .int y)], [], hp) _
      refine px_a 2 (f' := (13, [(4, .ref (10 + 3 * k)), (0, .ref 8), (1, .int p), (2, .int x), (3, .int y)], [.int 4, .int x], hp)) rfl ?_
      refine px_b2 false 25 rfl rfl (decide_eq_false h2) ?_
      show px_Go _ _ (16, [(4, .ref (10 + 3 * k)), (0, .ref 8), (1, .int p), (2, .int x), (3, .int y)], [], hp) _
      refine px_a 1 (f' := (17, [(4, .ref (10 + 3 * k)), (0, .ref 8), (1, .int p), (2, .int x), (3, .int y)], [.int y], hp)) rfl ?_
      refine px_b1 false 25 rfl rfl (decide_eq_false h3) ?_
      show px_Go _ _ (20, [(4, .ref (10 + 3 * k)), (0, .ref 8), (1, .int p), (2, .int x), (3, .int y)], [], hp) _
      refine px_a 2 (f' := (22, [(4, .ref (10 + 3 * k)), (0, .ref 8), (1, .int p), (2, .int x), (3, .int y)], [.int 4, .int y], hp)) rfl ?_
      refine px_b2 false 35 rfl rfl (decide_eq_false (Int32.not_lt.mpr h4)) ?_
      show px_Go _ _ (25, [(4, .ref (10 + 3 * k)), (0, .ref 8), (1, .int p), (2, .int x), (3, .int y)], [], hp) _
      exact px_e rfl rfl
    exact absurd hO (fun z => z.elim h1 (fun z => z.elim h2 (fun z => z.elim h3 h4)))
  have h1 : ¬ x < 0 := fun z => hO (Or.inl z)
  have h2 : ¬ 4 ≤ x := fun z => hO (Or.inr (Or.inl z))
  have h3 : ¬ y < 0 := fun z => hO (Or.inr (Or.inr (Or.inl z)))
  have h4 : ¬ 4 ≤ y := fun z => hO (Or.inr (Or.inr (Or.inr z)))
  obtain ⟨X, hX, eX⟩ := q_in (m := 4) (by decide) h1 h2
  obtain ⟨Y, hY, eY⟩ := q_in (m := 4) (by decide) h3 h4
  obtain ⟨N, h16, fN, c6⟩ := P k hk
  obtain ⟨gw, gh, wc, sc, ss, b1, b2, hf⟩ := x_form H hk fN
  have hbb : (1 : Int32) <<< ((4 * y + x) &&& 31) = nI (2 ^ (4 * Y + X)) := by rw [eX, eY]; exact q_xy X hX Y hY
  obtain ⟨o, hp1, g, hx⟩ := x_take (d := d) hN H (x := x) (y := y) (q := 4 * Y + X) hk h16 (by omega) c6 hbb hf
  obtain ⟨N2, ss2, c2, R2⟩ := R k hk
  have eN : N2 = N := by
    obtain ⟨wl, ws, a1, a2, a3, a4, a5, st, f, hf2, -⟩ := R2
    rw [pa_fd_get hf2] at fN
    have f8 : some (Value.int (nI N2)) = some (Value.int (nI N)) := fN
    injection f8 with f8
    injection f8 with f8
    exact q_nI a1 h16 f8
  rw [eN] at R2
  obtain ⟨oF, hpF, gF, ⟨N3, ss3, c3, R3⟩, smF⟩ := c_takeF (d := d) h16 (show 4 * Y + X < 16 by omega) c6 hbb R2
  have eF := px_det g gF
  cases eF
  have RF := r_fm_1 R R3 smF
  rcases hx with ⟨t1, rfl, e1⟩ | ⟨t1, t2, rfl, t3⟩
  · rw [e1] at g
    refine ⟨.inl (some (.int 0)), hp, ?_, R⟩
    refine px_a 2 (f' := (2, [(0, .ref 8), (1, .int p), (2, .int x), (3, .int y)], [.int p, .ref 8], hp)) rfl ?_
    refine px_cv 8 (as := [.int p]) (rest := []) rfl rfl hc rfl rfl rfl rfl (Nat.le_of_ble_eq_true rfl) (x_form_i (d := d + 3) hc h9 hk ek ho) ?_
    show px_Go _ _ (5, [(0, .ref 8), (1, .int p), (2, .int x), (3, .int y)], [.ref (10 + 3 * k)], hp) _
    refine px_a 2 (f' := (8, [(4, .ref (10 + 3 * k)), (0, .ref 8), (1, .int p), (2, .int x), (3, .int y)], [.int x], hp)) rfl ?_
    refine px_b1 false 25 rfl rfl (decide_eq_false h1) ?_
    show px_Go _ _ (11, [(4, .ref (10 + 3 * k)), (0, .ref 8), (1, .int p), (2, .int x), (3, .int y)], [], hp) _
    refine px_a 2 (f' := (13, [(4, .ref (10 + 3 * k)), (0, .ref 8), (1, .int p), (2, .int x), (3, .int y)], [.int 4, .int x], hp)) rfl ?_
    refine px_b2 false 25 rfl rfl (decide_eq_false h2) ?_
    show px_Go _ _ (16, [(4, .ref (10 + 3 * k)), (0, .ref 8), (1, .int p), (2, .int x), (3, .int y)], [], hp) _
    refine px_a 1 (f' := (17, [(4, .ref (10 + 3 * k)), (0, .ref 8), (1, .int p), (2, .int x), (3, .int y)], [.int y], hp)) rfl ?_
    refine px_b1 false 25 rfl rfl (decide_eq_false h3) ?_
    show px_Go _ _ (20, [(4, .ref (10 + 3 * k)), (0, .ref 8), (1, .int p), (2, .int x), (3, .int y)], [], hp) _
    refine px_a 2 (f' := (22, [(4, .ref (10 + 3 * k)), (0, .ref 8), (1, .int p), (2, .int x), (3, .int y)], [.int 4, .int y], hp)) rfl ?_
    refine px_b2 true 35 rfl rfl (decide_eq_true (Int32.not_le.mp h4)) ?_
    show px_Go _ _ (35, [(4, .ref (10 + 3 * k)), (0, .ref 8), (1, .int p), (2, .int x), (3, .int y)], [], hp) _
    refine px_a 3 (f' := (39, [(4, .ref (10 + 3 * k)), (0, .ref 8), (1, .int p), (2, .int x), (3, .int y)], [.int y, .int x, .ref (10 + 3 * k)], hp)) rfl ?_
    refine px_cv (10 + 3 * k) (as := [.int x, .int y]) (rest := []) rfl rfl hf rfl rfl rfl rfl (Nat.le_of_ble_eq_true rfl) (g) ?_
    show px_Go _ _ (42, [(4, .ref (10 + 3 * k)), (0, .ref 8), (1, .int p), (2, .int x), (3, .int y)], [.int 0], hp) _
    refine px_a 2 (f' := (46, [(4, .ref (10 + 3 * k)), (0, .ref 8), (1, .int p), (2, .int x), (3, .int y)], [.int 0], hp)) rfl ?_
    exact px_ri rfl rfl rfl
  · obtain ⟨o2, hp2, g2, ⟨H2, G2, -⟩, -⟩ := (ct_32 hN).deep (d' := d + 3) (by omega) [.ref (10 + 3 * k), .int x, .int y] hp H ⟨⟨_, rfl, r10 hk, by decide⟩, pa_top_ok _, pa_top_ok _, trivial⟩
    have e2 := px_det g g2
    cases e2
    have hc1 := l_fo G2 hc (r := 8) rfl (by decide)
    refine ⟨.inl (some (.int 1)), (hp1.set 8 (3, [.int (nI W), .int (nI V), .ref 9, .ref 28, .ref 29, .ref 30, .ref (34 + n), .int fc, .long sh, .int 0])), ?_, r_fm_set (Or.inl (by decide)) RF⟩
    refine px_a 2 (f' := (2, [(0, .ref 8), (1, .int p), (2, .int x), (3, .int y)], [.int p, .ref 8], hp)) rfl ?_
    refine px_cv 8 (as := [.int p]) (rest := []) rfl rfl hc rfl rfl rfl rfl (Nat.le_of_ble_eq_true rfl) (x_form_i (d := d + 3) hc h9 hk ek ho) ?_
    show px_Go _ _ (5, [(0, .ref 8), (1, .int p), (2, .int x), (3, .int y)], [.ref (10 + 3 * k)], hp) _
    refine px_a 2 (f' := (8, [(4, .ref (10 + 3 * k)), (0, .ref 8), (1, .int p), (2, .int x), (3, .int y)], [.int x], hp)) rfl ?_
    refine px_b1 false 25 rfl rfl (decide_eq_false h1) ?_
    show px_Go _ _ (11, [(4, .ref (10 + 3 * k)), (0, .ref 8), (1, .int p), (2, .int x), (3, .int y)], [], hp) _
    refine px_a 2 (f' := (13, [(4, .ref (10 + 3 * k)), (0, .ref 8), (1, .int p), (2, .int x), (3, .int y)], [.int 4, .int x], hp)) rfl ?_
    refine px_b2 false 25 rfl rfl (decide_eq_false h2) ?_
    show px_Go _ _ (16, [(4, .ref (10 + 3 * k)), (0, .ref 8), (1, .int p), (2, .int x), (3, .int y)], [], hp) _
    refine px_a 1 (f' := (17, [(4, .ref (10 + 3 * k)), (0, .ref 8), (1, .int p), (2, .int x), (3, .int y)], [.int y], hp)) rfl ?_
    refine px_b1 false 25 rfl rfl (decide_eq_false h3) ?_
    show px_Go _ _ (20, [(4, .ref (10 + 3 * k)), (0, .ref 8), (1, .int p), (2, .int x), (3, .int y)], [], hp) _
    refine px_a 2 (f' := (22, [(4, .ref (10 + 3 * k)), (0, .ref 8), (1, .int p), (2, .int x), (3, .int y)], [.int 4, .int y], hp)) rfl ?_
    refine px_b2 true 35 rfl rfl (decide_eq_true (Int32.not_le.mp h4)) ?_
    show px_Go _ _ (35, [(4, .ref (10 + 3 * k)), (0, .ref 8), (1, .int p), (2, .int x), (3, .int y)], [], hp) _
    refine px_a 3 (f' := (39, [(4, .ref (10 + 3 * k)), (0, .ref 8), (1, .int p), (2, .int x), (3, .int y)], [.int y, .int x, .ref (10 + 3 * k)], hp)) rfl ?_
    refine px_cv (10 + 3 * k) (as := [.int x, .int y]) (rest := []) rfl rfl hf rfl rfl rfl rfl (Nat.le_of_ble_eq_true rfl) (g) ?_
    show px_Go _ _ (42, [(4, .ref (10 + 3 * k)), (0, .ref 8), (1, .int p), (2, .int x), (3, .int y)], [.int 1], hp1) _
    refine px_a 3 (f' := (49, [(4, .ref (10 + 3 * k)), (0, .ref 8), (1, .int p), (2, .int x), (3, .int y)], [.int 0, .ref 8], hp1)) rfl ?_
    refine px_pf 8 68 3 9 rfl rfl hc1 (by omega) (by simp) rfl rfl (by decide) ?_
    have hf1_8 : (hp1.set 8 (3, [.int (nI W), .int (nI V), .ref 9, .ref 28, .ref 29, .ref 30, .ref (34 + n), .int fc, .long sh, .int 0]))[(8 : Nat)]? = some (3, [.int (nI W), .int (nI V), .ref 9, .ref 28, .ref 29, .ref 30, .ref (34 + n), .int fc, .long sh, .int 0]) := px_self hc1
    show px_Go _ _ (52, [(4, .ref (10 + 3 * k)), (0, .ref 8), (1, .int p), (2, .int x), (3, .int y)], [], (hp1.set 8 (3, [.int (nI W), .int (nI V), .ref 9, .ref 28, .ref 29, .ref 30, .ref (34 + n), .int fc, .long sh, .int 0]))) _
    refine px_a 1 (f' := (53, [(4, .ref (10 + 3 * k)), (0, .ref 8), (1, .int p), (2, .int x), (3, .int y)], [.int 1], (hp1.set 8 (3, [.int (nI W), .int (nI V), .ref 9, .ref 28, .ref 29, .ref 30, .ref (34 + n), .int fc, .long sh, .int 0])))) rfl ?_
    exact px_ri rfl rfl rfl
theorem l_squareF {n : Nat} (hN : pa_N n) {hp : px_H} (H : pa_Hi n hp) {p0 p1 p2 : Int32} {W V : Nat} {fc fd : Int32} {sh : Int64} (hc : hp[(8 : Nat)]? = some (3, [.int (nI W), .int (nI V), .ref 9, .ref 28, .ref 29, .ref 30, .ref (34 + n), .int fc, .long sh, .int fd])) (hF : fc.toInt ≤ 6) (h9 : hp[(9 : Nat)]? = some (13, q_forms)) (P : ∀ k, k < 6 → ∃ N, N < 65536 ∧ pa_fd hp (10 + 3 * k) 4 = some (.int (nI N)) ∧ pb_cnt 16 N ≤ 6) (hW : W ≤ 6) (hV : V ≤ 6) (R : r_fm hp W V) : ∃ (k : Int32) (hp1 : px_H), px_Go 11 10 (0, [(0, .ref 8), (1, .int p0), (2, .int p1), (3, .int p2), (4, .ref (52 + n))], [], hp) (.inl (some (.int k)), hp1) ∧ r_fm hp1 W V := by
  obtain ⟨o, hp', hg, ⟨H', G', E'⟩, -⟩ := (ct_64 hN).deep (d' := 10) (by decide) [.ref 8, .int p0, .int p1, .int p2] hp H ⟨⟨8, rfl, rfl, by decide⟩, pa_top_ok _, pa_top_ok _, pa_top_ok _, trivial⟩
  obtain ⟨o2, hpx, gx, hx⟩ := x_square (d := 6) hN H hc h9 hF P (p := p0) (x := p1) (y := p2)
  have ex := px_det hg gx
  cases ex
  obtain ⟨oF, hpF, gF, RF⟩ := x_squareF (d := 6) hN H hc h9 hF P hW hV R (p := p0) (x := p1) (y := p2)
  have eF := px_det hg gF
  cases eF
  obtain ⟨vs, hv2, hl2, -⟩ := pa_arl (a := 52 + n) (i := 20) H' (by omega) (by decide) (by decide) rfl
  have hlt : Int32.toNatClampNeg 0 < vs.length := by show (0 : Nat) < vs.length; omega
  rcases hx with ⟨ho, rfl, e⟩ | ⟨ho, hO, rfl, e⟩ | ⟨ho, hO, kk, X, Y, N, hk, hX, hY, ek, eX, eY, h16, fN, hx⟩
  · exact ⟨1, _, l_t10 hc hg, RF⟩
  · exact ⟨2, _, l_u10 hc hg, RF⟩
  rcases hx with ⟨t1, rfl, e1⟩ | ⟨t1, t2, rfl, t3⟩
  · exact ⟨0, _, l_e10 hc hg hv2 hlt, r_fm_set (Or.inr (by omega)) RF⟩
  · exact ⟨0, _, l_e10 hc hg hv2 hlt, r_fm_set (Or.inr (by omega)) RF⟩
set_option maxRecDepth 20000 in
theorem x_pls {d n : Nat} (hN : pa_N n) {hp : px_H} (H : pa_Hi n hp) {W V : Nat} {fc fd : Int32} {sh : Int64} (hc : hp[(8 : Nat)]? = some (3, [.int (nI W), .int (nI V), .ref 9, .ref 28, .ref 29, .ref 30, .ref (34 + n), .int fc, .long sh, .int fd])) (h9 : hp[(9 : Nat)]? = some (13, q_forms)) (hF : fc.toInt ≤ 6) (hW : W ≤ 6) (hV : V ≤ 6) (R : r_fm hp W V) {p : Int32} : px_Gx (d + 5) 58 (0, [(0, .ref 8), (1, .int p)], [], hp) (fun o hp' => r_fm hp' W V ∧ (((p < 0 ∨ fc ≤ p) ∧ o = .inr "java/lang/ArrayIndexOutOfBoundsException") ∨ (¬ (p < 0 ∨ fc ≤ p) ∧ ∃ k N c, k < 6 ∧ p = nI k ∧ o = .inl (some (.int (nI c))) ∧ r_fkx W V hp' k N sh c ∧ pa_fd hp (10 + 3 * k) 4 = some (.int (nI N))))) := by
  by_cases ho : (p < 0 ∨ fc ≤ p)
  · refine ⟨_, px_exc hp, ?_, r_fm_exc R, Or.inl ⟨ho, rfl⟩⟩
    refine px_a 2 (f' := (2, [(0, .ref 8), (1, .int p)], [.int p, .ref 8], hp)) rfl ?_
    exact px_cvt 8 (as := [.int p]) (rest := []) rfl rfl hc rfl rfl rfl rfl (Nat.le_of_ble_eq_true rfl) (x_form_o (d := d + 4) hc ho) (px_hdn (by decide)) rfl
  obtain ⟨k, hk, ek⟩ : ∃ k, k < 6 ∧ p = nI k := by
    refine q_in (m := 6) (by decide) (fun z => ho (Or.inl z)) (fun z => ho (Or.inr ?_))
    rw [Int32.le_iff_toInt_le] at z ⊢
    have : (nI 6).toInt = 6 := rfl
    omega
  obtain ⟨hp1, N, c, g, H1, G1, R1, Rk, ss0, c0, R0⟩ := x_prep (d := d) (sh := sh) hN H hW hV hk R
  obtain ⟨wl0, ws0, u1, u2, u3, u4, u5, st0, f0, hf, -⟩ := R0
  obtain ⟨wl, ws, v1, v2, v3, v4, v5, st, f, hf1, hs1, hr1⟩ := Rk
  have hc1 := l_fo G1 hc (r := 8) rfl (by decide)
  refine px_gx (fun _ K9 => px_a 2 (f' := (2, [(0, .ref 8), (1, .int p)], [.int p, .ref 8], hp)) rfl K9) ?_
  refine px_gx (fun _ K9 => px_cv 8 (as := [.int p]) (rest := []) rfl rfl hc rfl rfl rfl rfl (Nat.le_of_ble_eq_true rfl) (x_form_i (d := d + 4) hc h9 hk ek ho) K9) ?_
  show px_Gx _ _ (5, [(0, .ref 8), (1, .int p)], [.ref (10 + 3 * k)], hp) _
  refine px_gx (fun _ K9 => px_a 3 (f' := (8, [(2, .ref (10 + 3 * k)), (0, .ref 8), (1, .int p)], [.ref 8, .ref (10 + 3 * k)], hp)) rfl K9) ?_
  refine px_gx (fun _ K9 => px_gf 8 64 3 8 (.long sh) rfl rfl hc rfl K9) ?_
  show px_Gx _ _ (11, [(2, .ref (10 + 3 * k)), (0, .ref 8), (1, .int p)], [.long sh, .ref (10 + 3 * k)], hp) _
  refine px_gx (fun _ K9 => px_cv (10 + 3 * k) (as := [.long sh]) (rest := []) rfl rfl hf rfl rfl rfl rfl (Nat.le_of_ble_eq_true rfl) (g) K9) ?_
  show px_Gx _ _ (14, [(2, .ref (10 + 3 * k)), (0, .ref 8), (1, .int p)], [], hp1) _
  refine px_gx (fun _ K9 => px_a 1 (f' := (15, [(2, .ref (10 + 3 * k)), (0, .ref 8), (1, .int p)], [.ref (10 + 3 * k)], hp1)) rfl K9) ?_
  refine px_gx (fun _ K9 => px_gf (10 + 3 * k) 94 1 6 (.int (nI c)) rfl rfl hf1 rfl K9) ?_
  show px_Gx _ _ (18, [(2, .ref (10 + 3 * k)), (0, .ref 8), (1, .int p)], [.int (nI c)], hp1) _
  exact ⟨_, _, px_ri rfl rfl rfl, R1, Or.inr ⟨ho, k, N, c, hk, ek, rfl, ⟨wl, ws, v1, v2, v3, v4, v5, st, f, hf1, hs1, hr1⟩, by rw [pa_fd_get hf]; rfl⟩⟩
theorem l_pls {n : Nat} (hN : pa_N n) {hp : px_H} (H : pa_Hi n hp) {p : Int32} {W V : Nat} {fc fd : Int32} {sh : Int64} (hc : hp[(8 : Nat)]? = some (3, [.int (nI W), .int (nI V), .ref 9, .ref 28, .ref 29, .ref 30, .ref (34 + n), .int fc, .long sh, .int fd])) (hF : fc.toInt ≤ 6) (h9 : hp[(9 : Nat)]? = some (13, q_forms)) (hW : W ≤ 6) (hV : V ≤ 6) (R : r_fm hp W V) : ∃ (z : Int32) (hp1 : px_H), px_Go 11 9 (0, [(0, .ref 8), (1, .int p), (2, .ref (52 + n))], [], hp) (.inl (some (.int z)), hp1) ∧ l_S n [(10, 6), (10, 7), (12, 0), (38, 0)] hp hp1 ∧ r_fm hp1 W V ∧ (((p < 0 ∨ fc ≤ p) ∧ z = 1) ∨ (¬ (p < 0 ∨ fc ≤ p) ∧ z = 0 ∧ ∃ k N c, k < 6 ∧ p = nI k ∧ pa_fd hp1 (52 + n) 0 = some (.long (Int32.toInt64 (nI c))) ∧ r_fkx W V hp1 k N sh c ∧ pa_fd hp (10 + 3 * k) 4 = some (.int (nI N)))) := by
  obtain ⟨o, hp', hg, ⟨H', G', E'⟩, -⟩ := (ct_58 hN).deep (d' := 10) (by decide) [.ref 8, .int p] hp H ⟨⟨8, rfl, rfl, by decide⟩, pa_top_ok _, trivial⟩
  obtain ⟨o2, hpx, gx, RF, hx⟩ := x_pls (d := 5) hN H hc h9 hF hW hV R (p := p)
  have ex := px_det hg gx
  cases ex
  obtain ⟨vs, hv2, hl2, -⟩ := pa_arl (a := 52 + n) (i := 20) H' (by omega) (by decide) (by decide) rfl
  have hlt : Int32.toNatClampNeg 0 < vs.length := by show (0 : Nat) < vs.length; omega
  rcases hx with ⟨ho, rfl⟩ | ⟨ho, k, N, c, hk, ek, rfl, Rk, fN⟩
  · rcases E' with ⟨v, hq, -⟩ | ⟨-, E2, -, hl, hz⟩
    · cases hq
    · exact ⟨1, _, l_t9 hc hg, ⟨H', G'.mono (by decide), by omega, by omega⟩, RF, Or.inl ⟨ho, rfl⟩⟩
  · rcases E' with ⟨v, -, -, hl⟩ | ⟨-, E2, hq, -⟩
    · have hG := l_e9 hc hg hv2 hlt
      have el : (hp'.set (52 + n) (11, vs.set (Int32.toNatClampNeg 0) (.long (Int32.toInt64 (nI c))))).length = hp.length := by rw [List.length_set]; exact hl
      exact ⟨0, _, hG, ⟨pa_aS (i := 20) H' (by omega) (by decide) (by decide) hv2 rfl (pa_lgk _), (G'.mono (by decide)).trans (pa_aF (i := 20) (by omega) (by decide) (by decide) hv2 (by decide) (by decide)), by omega, by rw [(pa_kept hG).sz el]; omega⟩, r_fm_set (Or.inr (by omega)) RF, Or.inr ⟨ho, rfl, k, N, c, hk, ek, by rw [pa_fd_get (px_self hv2)]; exact List.getElem?_set_self hlt, r_fkx_m (fun a x ha h => px_ne h (by omega)) Rk, fN⟩⟩
    · cases hq
