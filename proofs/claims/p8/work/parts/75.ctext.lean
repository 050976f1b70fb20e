theorem pa_fr0 {n : Nat} {hp hp' : px_H} (G : pa_Fr n [] hp hp') {a t : Nat} {vs : List Value} (h : hp[a]? = some (t, vs)) : hp'[a]? = some (t, vs) := by
  obtain ⟨us, g1, g2, g3⟩ := G _ _ _ h
  rw [g1]
  have : us = vs := by
    apply List.ext_getElem?
    intro k
    exact g3 k (by simp)
  rw [this]
def ck_66 : pa_K := ([pa_rf 8, pa_top], some (pa_top), false, [])
set_option maxRecDepth 20000 in
set_option maxHeartbeats 4000000 in
theorem ct_66 {n : Nat} (hN : pa_N n) : pa_Ct pa_tb n 66 ck_66 2 := by
  intro as hp H ha
  obtain ⟨u0, us0, rfl, ⟨a, rfl, ha8, -⟩, ha1⟩ := pa_as1 ha
  obtain rfl := pa_rg8 ha8
  obtain ⟨u1, us1, rfl, ⟨x, rfl, x1, x2⟩, ha2⟩ := pa_as1 ha1
  obtain rfl := pa_as0 ha2
  obtain ⟨W, V, b2, b3, b4, b5, b6, fc, fd, sh, hW, hV, hn, hc, g2, g3, g4, g5, g6, fc1, fc2, fd1, fd2⟩ := pa_cls H
  have hW1 : 1 ≤ W := by
    rcases Nat.eq_zero_or_pos W with h | h
    · rw [h, Nat.zero_mul] at hn
      have := hN.1
      omega
    · exact h
  have hV1 : 1 ≤ V := by
    rcases Nat.eq_zero_or_pos V with h | h
    · rw [h, Nat.mul_zero] at hn
      have := hN.1
      omega
    · exact h
  have wt : (nI W).toInt = W := nI_toInt (by omega)
  have vt : (nI V).toInt = V := nI_toInt (by omega)
  have wi1 : 1 ≤ (nI W).toInt := by omega
  have wi2 : (nI W).toInt ≤ 6 := by omega
  have e0 : (0 : Int32).toInt = 0 := rfl
  have fin : ∀ {z : Int32} {hp' : px_H}, hp' = hp → px_Go 2 66 (0, [(0, .ref 8), (1, .int x)], [], hp) (.inl (some (.int z)), hp') → px_Gx 2 66 (0, lv_args 0 [.ref 8, .int x], [], hp) (fun o hp' => pa_Po n ck_66 hp o hp' ∧ pa_Ak n (pa_al pa_tb 66) [.ref 8, .int x] o) := by
    intro z hp' e h
    rw [e] at h
    exact ⟨_, _, h, ⟨H, pa_Fr.refl _, Or.inl ⟨_, rfl, pa_top_ok _, rfl⟩⟩, Or.inl rfl⟩
  by_cases h1 : fd = 0
  · refine fin rfl (z := -1) ?_
    refine px_a 1 (f' := (1, [(0, .ref 8), (1, .int x)], [.ref 8], hp)) rfl ?_
    refine px_gf 8 18 3 0 (.int (nI W)) rfl rfl hc rfl ?_
    show px_Go _ _ (4, [(0, .ref 8), (1, .int x)], [.int (nI W)], hp) _
    refine px_a 4 (f' := (8, [(2, .int ((nI W) + 1)), (0, .ref 8), (1, .int x)], [.ref 8], hp)) rfl ?_
    refine px_gf 8 68 3 9 (.int fd) rfl rfl hc rfl ?_
    show px_Go _ _ (11, [(2, .int ((nI W) + 1)), (0, .ref 8), (1, .int x)], [.int fd], hp) _
    refine px_b1 true 28 rfl rfl (decide_eq_true h1) ?_
    show px_Go _ _ (28, [(2, .int ((nI W) + 1)), (0, .ref 8), (1, .int x)], [], hp) _
    refine px_a 1 (f' := (29, [(2, .int ((nI W) + 1)), (0, .ref 8), (1, .int x)], [.int (-1)], hp)) rfl ?_
    exact px_ri rfl rfl rfl
  by_cases h2 : x < 0
  · refine fin rfl (z := -1) ?_
    refine px_a 1 (f' := (1, [(0, .ref 8), (1, .int x)], [.ref 8], hp)) rfl ?_
    refine px_gf 8 18 3 0 (.int (nI W)) rfl rfl hc rfl ?_
    show px_Go _ _ (4, [(0, .ref 8), (1, .int x)], [.int (nI W)], hp) _
    refine px_a 4 (f' := (8, [(2, .int ((nI W) + 1)), (0, .ref 8), (1, .int x)], [.ref 8], hp)) rfl ?_
    refine px_gf 8 68 3 9 (.int fd) rfl rfl hc rfl ?_
    show px_Go _ _ (11, [(2, .int ((nI W) + 1)), (0, .ref 8), (1, .int x)], [.int fd], hp) _
    refine px_b1 false 28 rfl rfl (decide_eq_false h1) ?_
    show px_Go _ _ (14, [(2, .int ((nI W) + 1)), (0, .ref 8), (1, .int x)], [], hp) _
    refine px_a 1 (f' := (15, [(2, .int ((nI W) + 1)), (0, .ref 8), (1, .int x)], [.int x], hp)) rfl ?_
    refine px_b1 true 28 rfl rfl (decide_eq_true h2) ?_
    show px_Go _ _ (28, [(2, .int ((nI W) + 1)), (0, .ref 8), (1, .int x)], [], hp) _
    refine px_a 1 (f' := (29, [(2, .int ((nI W) + 1)), (0, .ref 8), (1, .int x)], [.int (-1)], hp)) rfl ?_
    exact px_ri rfl rfl rfl
  by_cases h3 : x < (nI W + 1) * nI V
  rotate_left
  · refine fin rfl (z := -1) ?_
    refine px_a 1 (f' := (1, [(0, .ref 8), (1, .int x)], [.ref 8], hp)) rfl ?_
    refine px_gf 8 18 3 0 (.int (nI W)) rfl rfl hc rfl ?_
    show px_Go _ _ (4, [(0, .ref 8), (1, .int x)], [.int (nI W)], hp) _
    refine px_a 4 (f' := (8, [(2, .int ((nI W) + 1)), (0, .ref 8), (1, .int x)], [.ref 8], hp)) rfl ?_
    refine px_gf 8 68 3 9 (.int fd) rfl rfl hc rfl ?_
    show px_Go _ _ (11, [(2, .int ((nI W) + 1)), (0, .ref 8), (1, .int x)], [.int fd], hp) _
    refine px_b1 false 28 rfl rfl (decide_eq_false h1) ?_
    show px_Go _ _ (14, [(2, .int ((nI W) + 1)), (0, .ref 8), (1, .int x)], [], hp) _
    refine px_a 1 (f' := (15, [(2, .int ((nI W) + 1)), (0, .ref 8), (1, .int x)], [.int x], hp)) rfl ?_
    refine px_b1 false 28 rfl rfl (decide_eq_false h2) ?_
    show px_Go _ _ (18, [(2, .int ((nI W) + 1)), (0, .ref 8), (1, .int x)], [], hp) _
    refine px_a 3 (f' := (21, [(2, .int ((nI W) + 1)), (0, .ref 8), (1, .int x)], [.ref 8, .int ((nI W) + 1), .int x], hp)) rfl ?_
    refine px_gf 8 22 3 1 (.int (nI V)) rfl rfl hc rfl ?_
    show px_Go _ _ (24, [(2, .int ((nI W) + 1)), (0, .ref 8), (1, .int x)], [.int (nI V), .int ((nI W) + 1), .int x], hp) _
    refine px_a 1 (f' := (25, [(2, .int ((nI W) + 1)), (0, .ref 8), (1, .int x)], [.int (((nI W) + 1) * (nI V)), .int x], hp)) rfl ?_
    refine px_b2 false 30 rfl rfl (decide_eq_false h3) ?_
    show px_Go _ _ (28, [(2, .int ((nI W) + 1)), (0, .ref 8), (1, .int x)], [], hp) _
    refine px_a 1 (f' := (29, [(2, .int ((nI W) + 1)), (0, .ref 8), (1, .int x)], [.int (-1)], hp)) rfl ?_
    exact px_ri rfl rfl rfl
  have h2' := h2
  rw [Int32.lt_iff_toInt_lt] at h2'
  obtain ⟨X, Y, q1, q2, q3, q4, q5⟩ := m_text_ix wi1 wi2 (h := nI V) (by omega) (by omega) (i := x) (by omega) (Int32.not_le.mpr h3)
  by_cases h4 : x - x / (nI W + 1) * (nI W + 1) = nI W
  · refine fin rfl (z := 59) ?_
    refine px_a 1 (f' := (1, [(0, .ref 8), (1, .int x)], [.ref 8], hp)) rfl ?_
    refine px_gf 8 18 3 0 (.int (nI W)) rfl rfl hc rfl ?_
    show px_Go _ _ (4, [(0, .ref 8), (1, .int x)], [.int (nI W)], hp) _
    refine px_a 4 (f' := (8, [(2, .int ((nI W) + 1)), (0, .ref 8), (1, .int x)], [.ref 8], hp)) rfl ?_
    refine px_gf 8 68 3 9 (.int fd) rfl rfl hc rfl ?_
    show px_Go _ _ (11, [(2, .int ((nI W) + 1)), (0, .ref 8), (1, .int x)], [.int fd], hp) _
    refine px_b1 false 28 rfl rfl (decide_eq_false h1) ?_
    show px_Go _ _ (14, [(2, .int ((nI W) + 1)), (0, .ref 8), (1, .int x)], [], hp) _
    refine px_a 1 (f' := (15, [(2, .int ((nI W) + 1)), (0, .ref 8), (1, .int x)], [.int x], hp)) rfl ?_
    refine px_b1 false 28 rfl rfl (decide_eq_false h2) ?_
    show px_Go _ _ (18, [(2, .int ((nI W) + 1)), (0, .ref 8), (1, .int x)], [], hp) _
    refine px_a 3 (f' := (21, [(2, .int ((nI W) + 1)), (0, .ref 8), (1, .int x)], [.ref 8, .int ((nI W) + 1), .int x], hp)) rfl ?_
    refine px_gf 8 22 3 1 (.int (nI V)) rfl rfl hc rfl ?_
    show px_Go _ _ (24, [(2, .int ((nI W) + 1)), (0, .ref 8), (1, .int x)], [.int (nI V), .int ((nI W) + 1), .int x], hp) _
    refine px_a 1 (f' := (25, [(2, .int ((nI W) + 1)), (0, .ref 8), (1, .int x)], [.int (((nI W) + 1) * (nI V)), .int x], hp)) rfl ?_
    refine px_b2 true 30 rfl rfl (decide_eq_true h3) ?_
    show px_Go _ _ (30, [(2, .int ((nI W) + 1)), (0, .ref 8), (1, .int x)], [], hp) _
    refine px_a 2 (f' := (32, [(2, .int ((nI W) + 1)), (0, .ref 8), (1, .int x)], [.int ((nI W) + 1), .int x], hp)) rfl ?_
    refine px_irem rfl (m_w1 wi1 wi2) ?_
    refine px_a 3 (f' := (36, [(3, .int (x - x / ((nI W) + 1) * ((nI W) + 1))), (2, .int ((nI W) + 1)), (0, .ref 8), (1, .int x)], [.ref 8, .int (x - x / ((nI W) + 1) * ((nI W) + 1))], hp)) rfl ?_
    refine px_gf 8 18 3 0 (.int (nI W)) rfl rfl hc rfl ?_
    show px_Go _ _ (39, [(3, .int (x - x / ((nI W) + 1) * ((nI W) + 1))), (2, .int ((nI W) + 1)), (0, .ref 8), (1, .int x)], [.int (nI W), .int (x - x / ((nI W) + 1) * ((nI W) + 1))], hp) _
    refine px_b2 false 45 rfl rfl (decide_eq_false (not_not_intro h4)) ?_
    show px_Go _ _ (42, [(3, .int (x - x / ((nI W) + 1) * ((nI W) + 1))), (2, .int ((nI W) + 1)), (0, .ref 8), (1, .int x)], [], hp) _
    refine px_a 1 (f' := (44, [(3, .int (x - x / ((nI W) + 1) * ((nI W) + 1))), (2, .int ((nI W) + 1)), (0, .ref 8), (1, .int x)], [.int 59], hp)) rfl ?_
    exact px_ri rfl rfl rfl
  have hXW : (X : Int) < (nI W).toInt := by
    have hX : (nI X).toInt = X := nI_toInt (by omega)
    by_cases h : (X : Int) < (nI W).toInt
    · exact h
    · exact absurd (q1.trans (Int32.toInt_inj.mp (by omega))) h4
  obtain ⟨i1, i2, i3, i4⟩ := q5 hXW
  obtain ⟨vs, hv, hl, -⟩ := pa_Hi_get H g4 (by decide)
  change (vs.length : Int) = pa_ev n (0, 1) at hl
  have hl' : (vs.length : Int) = W * V := by rw [hl]; unfold pa_ev; rw [hn]; simp
  obtain ⟨o, hp', hg, ⟨H', G', E'⟩, -⟩ := (ct_50 hN).deep (d' := 1) (by decide) [.ref 8, .int (nI W * (x / (nI W + 1)) + (x - x / (nI W + 1) * (nI W + 1)))] hp H ⟨⟨8, rfl, rfl, by decide⟩, pa_top_ok _, trivial⟩
  rcases E' with ⟨v, rfl, hv', hl2⟩ | ⟨ht, -⟩
  rotate_left
  · exact absurd ht (by decide)
  obtain ⟨z, rfl, z1, z2⟩ := pa_gri (lo := 0) (hi := 1) hv'
  have hc2 := pa_fr0 G' hc
  have hv2 := pa_fr0 G' hv
  have fin2 : ∀ {z : Int32}, px_Go 2 66 (0, [(0, .ref 8), (1, .int x)], [], hp) (.inl (some (.int z)), hp') → px_Gx 2 66 (0, lv_args 0 [.ref 8, .int x], [], hp) (fun o hp' => pa_Po n ck_66 hp o hp' ∧ pa_Ak n (pa_al pa_tb 66) [.ref 8, .int x] o) := by
    intro z h
    exact ⟨_, _, h, ⟨H', G', Or.inl ⟨_, rfl, pa_top_ok _, hl2⟩⟩, Or.inl rfl⟩
  by_cases hz : z = 0
  · refine fin2 (z := 46) ?_
    refine px_a 1 (f' := (1, [(0, .ref 8), (1, .int x)], [.ref 8], hp)) rfl ?_
    refine px_gf 8 18 3 0 (.int (nI W)) rfl rfl hc rfl ?_
    show px_Go _ _ (4, [(0, .ref 8), (1, .int x)], [.int (nI W)], hp) _
    refine px_a 4 (f' := (8, [(2, .int ((nI W) + 1)), (0, .ref 8), (1, .int x)], [.ref 8], hp)) rfl ?_
    refine px_gf 8 68 3 9 (.int fd) rfl rfl hc rfl ?_
    show px_Go _ _ (11, [(2, .int ((nI W) + 1)), (0, .ref 8), (1, .int x)], [.int fd], hp) _
    refine px_b1 false 28 rfl rfl (decide_eq_false h1) ?_
    show px_Go _ _ (14, [(2, .int ((nI W) + 1)), (0, .ref 8), (1, .int x)], [], hp) _
    refine px_a 1 (f' := (15, [(2, .int ((nI W) + 1)), (0, .ref 8), (1, .int x)], [.int x], hp)) rfl ?_
    refine px_b1 false 28 rfl rfl (decide_eq_false h2) ?_
    show px_Go _ _ (18, [(2, .int ((nI W) + 1)), (0, .ref 8), (1, .int x)], [], hp) _
    refine px_a 3 (f' := (21, [(2, .int ((nI W) + 1)), (0, .ref 8), (1, .int x)], [.ref 8, .int ((nI W) + 1), .int x], hp)) rfl ?_
    refine px_gf 8 22 3 1 (.int (nI V)) rfl rfl hc rfl ?_
    show px_Go _ _ (24, [(2, .int ((nI W) + 1)), (0, .ref 8), (1, .int x)], [.int (nI V), .int ((nI W) + 1), .int x], hp) _
    refine px_a 1 (f' := (25, [(2, .int ((nI W) + 1)), (0, .ref 8), (1, .int x)], [.int (((nI W) + 1) * (nI V)), .int x], hp)) rfl ?_
    refine px_b2 true 30 rfl rfl (decide_eq_true h3) ?_
    show px_Go _ _ (30, [(2, .int ((nI W) + 1)), (0, .ref 8), (1, .int x)], [], hp) _
    refine px_a 2 (f' := (32, [(2, .int ((nI W) + 1)), (0, .ref 8), (1, .int x)], [.int ((nI W) + 1), .int x], hp)) rfl ?_
    refine px_irem rfl (m_w1 wi1 wi2) ?_
    refine px_a 3 (f' := (36, [(3, .int (x - x / ((nI W) + 1) * ((nI W) + 1))), (2, .int ((nI W) + 1)), (0, .ref 8), (1, .int x)], [.ref 8, .int (x - x / ((nI W) + 1) * ((nI W) + 1))], hp)) rfl ?_
    refine px_gf 8 18 3 0 (.int (nI W)) rfl rfl hc rfl ?_
    show px_Go _ _ (39, [(3, .int (x - x / ((nI W) + 1) * ((nI W) + 1))), (2, .int ((nI W) + 1)), (0, .ref 8), (1, .int x)], [.int (nI W), .int (x - x / ((nI W) + 1) * ((nI W) + 1))], hp) _
    refine px_b2 true 45 rfl rfl (decide_eq_true h4) ?_
    show px_Go _ _ (45, [(3, .int (x - x / ((nI W) + 1) * ((nI W) + 1))), (2, .int ((nI W) + 1)), (0, .ref 8), (1, .int x)], [], hp) _
    refine px_a 1 (f' := (46, [(3, .int (x - x / ((nI W) + 1) * ((nI W) + 1))), (2, .int ((nI W) + 1)), (0, .ref 8), (1, .int x)], [.ref 8], hp)) rfl ?_
    refine px_gf 8 18 3 0 (.int (nI W)) rfl rfl hc rfl ?_
    show px_Go _ _ (49, [(3, .int (x - x / ((nI W) + 1) * ((nI W) + 1))), (2, .int ((nI W) + 1)), (0, .ref 8), (1, .int x)], [.int (nI W)], hp) _
    refine px_a 2 (f' := (51, [(3, .int (x - x / ((nI W) + 1) * ((nI W) + 1))), (2, .int ((nI W) + 1)), (0, .ref 8), (1, .int x)], [.int ((nI W) + 1), .int x, .int (nI W)], hp)) rfl ?_
    refine px_idiv rfl (m_w1 wi1 wi2) ?_
    refine px_a 6 (f' := (60, [(4, .int (((nI W) * (x / ((nI W) + 1))) + (x - x / ((nI W) + 1) * ((nI W) + 1)))), (3, .int (x - x / ((nI W) + 1) * ((nI W) + 1))), (2, .int ((nI W) + 1)), (0, .ref 8), (1, .int x)], [.int (((nI W) * (x / ((nI W) + 1))) + (x - x / ((nI W) + 1) * ((nI W) + 1))), .ref 8], hp)) rfl ?_
    refine px_cv 8 (as := [.int (((nI W) * (x / ((nI W) + 1))) + (x - x / ((nI W) + 1) * ((nI W) + 1)))]) (rest := []) rfl rfl hc rfl rfl rfl rfl (Nat.le_of_ble_eq_true rfl) (hg) ?_
    show px_Go _ _ (63, [(4, .int (((nI W) * (x / ((nI W) + 1))) + (x - x / ((nI W) + 1) * ((nI W) + 1)))), (3, .int (x - x / ((nI W) + 1) * ((nI W) + 1))), (2, .int ((nI W) + 1)), (0, .ref 8), (1, .int x)], [.int z], hp') _
    refine px_b1 true 79 rfl rfl (decide_eq_true hz) ?_
    show px_Go _ _ (79, [(4, .int (((nI W) * (x / ((nI W) + 1))) + (x - x / ((nI W) + 1) * ((nI W) + 1)))), (3, .int (x - x / ((nI W) + 1) * ((nI W) + 1))), (2, .int ((nI W) + 1)), (0, .ref 8), (1, .int x)], [], hp') _
    refine px_a 1 (f' := (81, [(4, .int (((nI W) * (x / ((nI W) + 1))) + (x - x / ((nI W) + 1) * ((nI W) + 1)))), (3, .int (x - x / ((nI W) + 1) * ((nI W) + 1))), (2, .int ((nI W) + 1)), (0, .ref 8), (1, .int x)], [.int 46], hp')) rfl ?_
    exact px_ri rfl rfl rfl
  · have ic : (nI W * (x / (nI W + 1)) + (x - x / (nI W + 1) * (nI W + 1))).toInt = (nI W).toInt * Y + X := by rw [q1, q2]; exact i1
    have h0 : ¬ (nI W * (x / (nI W + 1)) + (x - x / (nI W + 1) * (nI W + 1))) < 0 := i32_nn (by rw [ic]; exact i2)
    have hlt : (nI W * (x / (nI W + 1)) + (x - x / (nI W + 1) * (nI W + 1))).toNatClampNeg < vs.length := by
      show (nI W * (x / (nI W + 1)) + (x - x / (nI W + 1) * (nI W + 1))).toInt.toNat < vs.length
      rw [wt, vt] at i3
      rw [wt] at ic i2
      omega
    obtain ⟨vs', hv3, hl3, hg3⟩ := pa_Hi_get H' g4 (by decide)
    rw [hv2] at hv3
    cases hv3
    obtain ⟨zf, hzf0, -⟩ := hg3 _ (List.getElem_mem hlt)
    have hzf : vs[(nI W * (x / (nI W + 1)) + (x - x / (nI W + 1) * (nI W + 1))).toNatClampNeg]? = some (.int zf) := by rw [List.getElem?_eq_getElem hlt, hzf0]
    refine fin2 (z := 97 + zf) ?_
    refine px_a 1 (f' := (1, [(0, .ref 8), (1, .int x)], [.ref 8], hp)) rfl ?_
    refine px_gf 8 18 3 0 (.int (nI W)) rfl rfl hc rfl ?_
    show px_Go _ _ (4, [(0, .ref 8), (1, .int x)], [.int (nI W)], hp) _
    refine px_a 4 (f' := (8, [(2, .int ((nI W) + 1)), (0, .ref 8), (1, .int x)], [.ref 8], hp)) rfl ?_
    refine px_gf 8 68 3 9 (.int fd) rfl rfl hc rfl ?_
    show px_Go _ _ (11, [(2, .int ((nI W) + 1)), (0, .ref 8), (1, .int x)], [.int fd], hp) _
    refine px_b1 false 28 rfl rfl (decide_eq_false h1) ?_
    show px_Go _ _ (14, [(2, .int ((nI W) + 1)), (0, .ref 8), (1, .int x)], [], hp) _
    refine px_a 1 (f' := (15, [(2, .int ((nI W) + 1)), (0, .ref 8), (1, .int x)], [.int x], hp)) rfl ?_
    refine px_b1 false 28 rfl rfl (decide_eq_false h2) ?_
    show px_Go _ _ (18, [(2, .int ((nI W) + 1)), (0, .ref 8), (1, .int x)], [], hp) _
    refine px_a 3 (f' := (21, [(2, .int ((nI W) + 1)), (0, .ref 8), (1, .int x)], [.ref 8, .int ((nI W) + 1), .int x], hp)) rfl ?_
    refine px_gf 8 22 3 1 (.int (nI V)) rfl rfl hc rfl ?_
    show px_Go _ _ (24, [(2, .int ((nI W) + 1)), (0, .ref 8), (1, .int x)], [.int (nI V), .int ((nI W) + 1), .int x], hp) _
    refine px_a 1 (f' := (25, [(2, .int ((nI W) + 1)), (0, .ref 8), (1, .int x)], [.int (((nI W) + 1) * (nI V)), .int x], hp)) rfl ?_
    refine px_b2 true 30 rfl rfl (decide_eq_true h3) ?_
    show px_Go _ _ (30, [(2, .int ((nI W) + 1)), (0, .ref 8), (1, .int x)], [], hp) _
    refine px_a 2 (f' := (32, [(2, .int ((nI W) + 1)), (0, .ref 8), (1, .int x)], [.int ((nI W) + 1), .int x], hp)) rfl ?_
    refine px_irem rfl (m_w1 wi1 wi2) ?_
    refine px_a 3 (f' := (36, [(3, .int (x - x / ((nI W) + 1) * ((nI W) + 1))), (2, .int ((nI W) + 1)), (0, .ref 8), (1, .int x)], [.ref 8, .int (x - x / ((nI W) + 1) * ((nI W) + 1))], hp)) rfl ?_
    refine px_gf 8 18 3 0 (.int (nI W)) rfl rfl hc rfl ?_
    show px_Go _ _ (39, [(3, .int (x - x / ((nI W) + 1) * ((nI W) + 1))), (2, .int ((nI W) + 1)), (0, .ref 8), (1, .int x)], [.int (nI W), .int (x - x / ((nI W) + 1) * ((nI W) + 1))], hp) _
    refine px_b2 true 45 rfl rfl (decide_eq_true h4) ?_
    show px_Go _ _ (45, [(3, .int (x - x / ((nI W) + 1) * ((nI W) + 1))), (2, .int ((nI W) + 1)), (0, .ref 8), (1, .int x)], [], hp) _
    refine px_a 1 (f' := (46, [(3, .int (x - x / ((nI W) + 1) * ((nI W) + 1))), (2, .int ((nI W) + 1)), (0, .ref 8), (1, .int x)], [.ref 8], hp)) rfl ?_
    refine px_gf 8 18 3 0 (.int (nI W)) rfl rfl hc rfl ?_
    show px_Go _ _ (49, [(3, .int (x - x / ((nI W) + 1) * ((nI W) + 1))), (2, .int ((nI W) + 1)), (0, .ref 8), (1, .int x)], [.int (nI W)], hp) _
    refine px_a 2 (f' := (51, [(3, .int (x - x / ((nI W) + 1) * ((nI W) + 1))), (2, .int ((nI W) + 1)), (0, .ref 8), (1, .int x)], [.int ((nI W) + 1), .int x, .int (nI W)], hp)) rfl ?_
    refine px_idiv rfl (m_w1 wi1 wi2) ?_
    refine px_a 6 (f' := (60, [(4, .int (((nI W) * (x / ((nI W) + 1))) + (x - x / ((nI W) + 1) * ((nI W) + 1)))), (3, .int (x - x / ((nI W) + 1) * ((nI W) + 1))), (2, .int ((nI W) + 1)), (0, .ref 8), (1, .int x)], [.int (((nI W) * (x / ((nI W) + 1))) + (x - x / ((nI W) + 1) * ((nI W) + 1))), .ref 8], hp)) rfl ?_
    refine px_cv 8 (as := [.int (((nI W) * (x / ((nI W) + 1))) + (x - x / ((nI W) + 1) * ((nI W) + 1)))]) (rest := []) rfl rfl hc rfl rfl rfl rfl (Nat.le_of_ble_eq_true rfl) (hg) ?_
    show px_Go _ _ (63, [(4, .int (((nI W) * (x / ((nI W) + 1))) + (x - x / ((nI W) + 1) * ((nI W) + 1)))), (3, .int (x - x / ((nI W) + 1) * ((nI W) + 1))), (2, .int ((nI W) + 1)), (0, .ref 8), (1, .int x)], [.int z], hp') _
    refine px_b1 false 79 rfl rfl (decide_eq_false hz) ?_
    show px_Go _ _ (66, [(4, .int (((nI W) * (x / ((nI W) + 1))) + (x - x / ((nI W) + 1) * ((nI W) + 1)))), (3, .int (x - x / ((nI W) + 1) * ((nI W) + 1))), (2, .int ((nI W) + 1)), (0, .ref 8), (1, .int x)], [], hp') _
    refine px_a 2 (f' := (69, [(4, .int (((nI W) * (x / ((nI W) + 1))) + (x - x / ((nI W) + 1) * ((nI W) + 1)))), (3, .int (x - x / ((nI W) + 1) * ((nI W) + 1))), (2, .int ((nI W) + 1)), (0, .ref 8), (1, .int x)], [.ref 8, .int 97], hp')) rfl ?_
    refine px_gf 8 38 3 4 (.ref b4) rfl rfl hc2 rfl ?_
    show px_Go _ _ (72, [(4, .int (((nI W) * (x / ((nI W) + 1))) + (x - x / ((nI W) + 1) * ((nI W) + 1)))), (3, .int (x - x / ((nI W) + 1) * ((nI W) + 1))), (2, .int ((nI W) + 1)), (0, .ref 8), (1, .int x)], [.ref b4, .int 97], hp') _
    refine px_a 1 (f' := (74, [(4, .int (((nI W) * (x / ((nI W) + 1))) + (x - x / ((nI W) + 1) * ((nI W) + 1)))), (3, .int (x - x / ((nI W) + 1) * ((nI W) + 1))), (2, .int ((nI W) + 1)), (0, .ref 8), (1, .int x)], [.int (((nI W) * (x / ((nI W) + 1))) + (x - x / ((nI W) + 1) * ((nI W) + 1))), .ref b4, .int 97], hp')) rfl ?_
    refine px_al b4 (.int zf) rfl hv2 (Or.inl ⟨rfl, Or.inl rfl⟩) (h0) (hzf) ?_
    show px_Go _ _ (75, [(4, .int (((nI W) * (x / ((nI W) + 1))) + (x - x / ((nI W) + 1) * ((nI W) + 1)))), (3, .int (x - x / ((nI W) + 1) * ((nI W) + 1))), (2, .int ((nI W) + 1)), (0, .ref 8), (1, .int x)], [.int zf, .int 97], hp') _
    refine px_a 2 (f' := (81, [(4, .int (((nI W) * (x / ((nI W) + 1))) + (x - x / ((nI W) + 1) * ((nI W) + 1)))), (3, .int (x - x / ((nI W) + 1) * ((nI W) + 1))), (2, .int ((nI W) + 1)), (0, .ref 8), (1, .int x)], [.int (97 + zf)], hp')) rfl ?_
    exact px_ri rfl rfl rfl
