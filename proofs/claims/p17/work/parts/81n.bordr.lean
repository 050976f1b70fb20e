def x_lt (K : Nat) (f : Nat → Nat) (i : Int32) : Int32 := if i < 0 ∨ nI K ≤ i then -1 else nI (f i.toNatClampNeg)
theorem r_ls84 {n : Nat} {hp : px_H} (H : pa_Hi n hp) {ls : List Value} (h : hp[35 + n]? = some (10, ls)) : ls.length = 84 := by
  obtain ⟨vq, hq1, hq2, -⟩ := pa_ara (a := 35 + n) (i := 3) (lo := 0) (hi := 3) H (by omega) (by decide) (by decide) rfl
  rw [h] at hq1
  cases hq1
  omega
theorem r_ol6 {n : Nat} {hp hp1 : px_H} {W V : Nat} {le rc : Int32} {s : Int64} (H1 : pa_Hi n hp1) (G : pa_Fr n [(20, 6), (22, 0), (23, 0)] hp hp1) (ho : hp[34 + n]? = some (2, [.int (nI W), .int (nI V), .ref (35 + n), .ref (36 + n), .ref (37 + n), .int le, .int rc, .long s])) : ∃ rc' : Int32, hp1[34 + n]? = some (2, [.int (nI W), .int (nI V), .ref (35 + n), .ref (36 + n), .ref (37 + n), .int le, .int rc', .long s]) := by
  obtain ⟨vs, h1, h2⟩ := pa_Hi_get H1 (r20 n) (by decide)
  obtain ⟨us, g1, g2, g3⟩ := G _ _ _ ho
  rw [h1] at g1
  cases g1
  obtain ⟨v0, vs0, rfl, -, q0⟩ := pa_as1 h2
  obtain ⟨v1, vs1, rfl, -, q1⟩ := pa_as1 q0
  obtain ⟨v2, vs2, rfl, -, q2⟩ := pa_as1 q1
  obtain ⟨v3, vs3, rfl, -, q3⟩ := pa_as1 q2
  obtain ⟨v4, vs4, rfl, -, q4⟩ := pa_as1 q3
  obtain ⟨v5, vs5, rfl, -, q5⟩ := pa_as1 q4
  obtain ⟨v6, vs6, rfl, ⟨z, rfl, -⟩, q6⟩ := pa_as1 q5
  obtain ⟨v7, vs7, rfl, -, q7⟩ := pa_as1 q6
  obtain rfl := pa_as0 q7
  have k : ∀ k, k ≠ 6 → _ := fun k hk => g3 k (by rw [if_pos (by decide), r20]; simp [hk])
  have e0 := k 0 (by decide)
  have e1 := k 1 (by decide)
  have e2 := k 2 (by decide)
  have e3 := k 3 (by decide)
  have e4 := k 4 (by decide)
  have e5 := k 5 (by decide)
  have e7 := k 7 (by decide)
  cases e0
  cases e1
  cases e2
  cases e3
  cases e4
  cases e5
  cases e7
  exact ⟨z, h1⟩
theorem x_Wd84 {W V : Nat} {s : Int64} {K : Nat} {f : Nat → Nat} (h : x_Wd W V s K f) : K ≤ 84 := by
  rcases h with ⟨-, h⟩ | ⟨c0, -, -, -, h, -⟩
  · omega
  · exact h
set_option maxRecDepth 20000 in
theorem x_border {n : Nat} (hN : pa_N n) {hp : px_H} (H : pa_Hi n hp) {W V : Nat} {fc fd : Int32} {sh : Int64} (w1 : 1 ≤ W) (hW : W ≤ 6) (hV : V ≤ 6) (q3 : ∀ c, x_bt sh c = true → c < W * V) (hc : hp[(8 : Nat)]? = some (3, [.int (nI W), .int (nI V), .ref 9, .ref 28, .ref 29, .ref 30, .ref (34 + n), .int fc, .long sh, .int fd])) (ol : r_ol n hp W V) {i : Int32} : px_Gx 10 45 (0, [(0, .ref 8), (1, .int i)], [], hp) (fun o hp' => r_ol n hp' W V ∧ ∃ (K : Nat) (f : Nat → Nat), x_Wd W V sh K f ∧ o = .inl (some (.int (x_lt K f i)))) := by
  obtain ⟨hst, s, ls, K1, f1, rc, ho, hls, hwd, hw⟩ := ol
  have hll := r_ls84 H hls
  obtain ⟨o, hp', hg, ⟨H', G', E'⟩, -⟩ := (ct_42 hN).deep (d' := 9) (by decide) [.ref (34 + n), .long sh] hp H ⟨l_ri (r20 n) (by decide), pa_lgk _, trivial⟩
  obtain ⟨o2, hp2, g2, e2, K, f, ls', a1, a2, a3, a4⟩ := c_trace (d := 5) w1 hW hV q3 ho hls hst hll hwd hw
  have e := px_det hg g2
  cases e
  subst e2
  have hc' := l_fo G' hc (r := 8) rfl (by decide)
  have hst' := c_St_fr G' (by decide) hst
  have R' : r_ol n hp' W V := ⟨hst', sh, ls', K, f, rc, a2, a3, a1, a4⟩
  have k84 := x_Wd84 a1
  by_cases h1 : i < 0
  · refine ⟨_, hp', ?_, R', K, f, a1, by unfold x_lt; rw [if_pos (Or.inl h1)]⟩
    refine px_a 1 (f' := (1, [(0, .ref 8), (1, .int i)], [.ref 8], hp)) rfl ?_
    refine px_gf 8 53 3 6 (.ref (34 + n)) rfl rfl hc rfl ?_
    show px_Go _ _ (4, [(0, .ref 8), (1, .int i)], [.ref (34 + n)], hp) _
    refine px_a 1 (f' := (5, [(0, .ref 8), (1, .int i)], [.ref 8, .ref (34 + n)], hp)) rfl ?_
    refine px_gf 8 64 3 8 (.long sh) rfl rfl hc rfl ?_
    show px_Go _ _ (8, [(0, .ref 8), (1, .int i)], [.long sh, .ref (34 + n)], hp) _
    refine px_cv (34 + n) (as := [.long sh]) (rest := []) rfl rfl ho rfl rfl rfl rfl (Nat.le_of_ble_eq_true rfl) (hg) ?_
    show px_Go _ _ (11, [(0, .ref 8), (1, .int i)], [], hp') _
    refine px_a 1 (f' := (12, [(0, .ref 8), (1, .int i)], [.int i], hp')) rfl ?_
    refine px_b1 true 26 rfl rfl (decide_eq_true h1) ?_
    show px_Go _ _ (26, [(0, .ref 8), (1, .int i)], [], hp') _
    refine px_a 1 (f' := (27, [(0, .ref 8), (1, .int i)], [.int (-1)], hp')) rfl ?_
    exact px_ri rfl rfl rfl
  by_cases h2 : i < nI K
  rotate_left
  · refine ⟨_, hp', ?_, R', K, f, a1, by unfold x_lt; rw [if_pos (Or.inr (Int32.not_lt.mp h2))]⟩
    refine px_a 1 (f' := (1, [(0, .ref 8), (1, .int i)], [.ref 8], hp)) rfl ?_
    refine px_gf 8 53 3 6 (.ref (34 + n)) rfl rfl hc rfl ?_
    show px_Go _ _ (4, [(0, .ref 8), (1, .int i)], [.ref (34 + n)], hp) _
    refine px_a 1 (f' := (5, [(0, .ref 8), (1, .int i)], [.ref 8, .ref (34 + n)], hp)) rfl ?_
    refine px_gf 8 64 3 8 (.long sh) rfl rfl hc rfl ?_
    show px_Go _ _ (8, [(0, .ref 8), (1, .int i)], [.long sh, .ref (34 + n)], hp) _
    refine px_cv (34 + n) (as := [.long sh]) (rest := []) rfl rfl ho rfl rfl rfl rfl (Nat.le_of_ble_eq_true rfl) (hg) ?_
    show px_Go _ _ (11, [(0, .ref 8), (1, .int i)], [], hp') _
    refine px_a 1 (f' := (12, [(0, .ref 8), (1, .int i)], [.int i], hp')) rfl ?_
    refine px_b1 false 26 rfl rfl (decide_eq_false h1) ?_
    show px_Go _ _ (15, [(0, .ref 8), (1, .int i)], [], hp') _
    refine px_a 2 (f' := (17, [(0, .ref 8), (1, .int i)], [.ref 8, .int i], hp')) rfl ?_
    refine px_gf 8 53 3 6 (.ref (34 + n)) rfl rfl hc' rfl ?_
    show px_Go _ _ (20, [(0, .ref 8), (1, .int i)], [.ref (34 + n), .int i], hp') _
    refine px_gf (34 + n) 141 2 5 (.int (nI K)) rfl rfl a2 rfl ?_
    show px_Go _ _ (23, [(0, .ref 8), (1, .int i)], [.int (nI K), .int i], hp') _
    refine px_b2 false 28 rfl rfl (decide_eq_false h2) ?_
    show px_Go _ _ (26, [(0, .ref 8), (1, .int i)], [], hp') _
    refine px_a 1 (f' := (27, [(0, .ref 8), (1, .int i)], [.int (-1)], hp')) rfl ?_
    exact px_ri rfl rfl rfl
  · obtain ⟨j, hj, rfl⟩ : ∃ j : Nat, j < K ∧ i = nI j := by
      rcases pk_ix i (n := K) (by omega) with q | q | q
      · exact absurd q h1
      · exact absurd h2 (Int32.not_lt.mpr q)
      · exact q
    have hz := a4 j hj
    refine ⟨_, hp', ?_, R', K, f, a1, by unfold x_lt; rw [if_neg (fun z => z.elim h1 (fun z => absurd h2 (Int32.not_lt.mpr z))), nI_clamp (by omega)]⟩
    refine px_a 1 (f' := (1, [(0, .ref 8), (1, .int (nI j))], [.ref 8], hp)) rfl ?_
    refine px_gf 8 53 3 6 (.ref (34 + n)) rfl rfl hc rfl ?_
    show px_Go _ _ (4, [(0, .ref 8), (1, .int (nI j))], [.ref (34 + n)], hp) _
    refine px_a 1 (f' := (5, [(0, .ref 8), (1, .int (nI j))], [.ref 8, .ref (34 + n)], hp)) rfl ?_
    refine px_gf 8 64 3 8 (.long sh) rfl rfl hc rfl ?_
    show px_Go _ _ (8, [(0, .ref 8), (1, .int (nI j))], [.long sh, .ref (34 + n)], hp) _
    refine px_cv (34 + n) (as := [.long sh]) (rest := []) rfl rfl ho rfl rfl rfl rfl (Nat.le_of_ble_eq_true rfl) (hg) ?_
    show px_Go _ _ (11, [(0, .ref 8), (1, .int (nI j))], [], hp') _
    refine px_a 1 (f' := (12, [(0, .ref 8), (1, .int (nI j))], [.int (nI j)], hp')) rfl ?_
    refine px_b1 false 26 rfl rfl (decide_eq_false h1) ?_
    show px_Go _ _ (15, [(0, .ref 8), (1, .int (nI j))], [], hp') _
    refine px_a 2 (f' := (17, [(0, .ref 8), (1, .int (nI j))], [.ref 8, .int (nI j)], hp')) rfl ?_
    refine px_gf 8 53 3 6 (.ref (34 + n)) rfl rfl hc' rfl ?_
    show px_Go _ _ (20, [(0, .ref 8), (1, .int (nI j))], [.ref (34 + n), .int (nI j)], hp') _
    refine px_gf (34 + n) 141 2 5 (.int (nI K)) rfl rfl a2 rfl ?_
    show px_Go _ _ (23, [(0, .ref 8), (1, .int (nI j))], [.int (nI K), .int (nI j)], hp') _
    refine px_b2 true 28 rfl rfl (decide_eq_true h2) ?_
    show px_Go _ _ (28, [(0, .ref 8), (1, .int (nI j))], [], hp') _
    refine px_a 1 (f' := (29, [(0, .ref 8), (1, .int (nI j))], [.ref 8], hp')) rfl ?_
    refine px_gf 8 53 3 6 (.ref (34 + n)) rfl rfl hc' rfl ?_
    show px_Go _ _ (32, [(0, .ref 8), (1, .int (nI j))], [.ref (34 + n)], hp') _
    refine px_gf (34 + n) 144 2 2 (.ref (35 + n)) rfl rfl a2 rfl ?_
    show px_Go _ _ (35, [(0, .ref 8), (1, .int (nI j))], [.ref (35 + n)], hp') _
    refine px_a 1 (f' := (36, [(0, .ref 8), (1, .int (nI j))], [.int (nI j), .ref (35 + n)], hp')) rfl ?_
    refine px_al (35 + n) (.int (nI (f j))) rfl a3 (Or.inl ⟨rfl, Or.inl rfl⟩) (nI_pos (by omega)) (by rw [nI_clamp (by omega)]; exact hz) ?_
    show px_Go _ _ (37, [(0, .ref 8), (1, .int (nI j))], [.int (nI (f j))], hp') _
    exact px_ri rfl rfl rfl
set_option maxRecDepth 20000 in
theorem x_runsR {n : Nat} (hN : pa_N n) {hp : px_H} (H : pa_Hi n hp) {W V : Nat} {fc fd : Int32} {sh : Int64} (w1 : 1 ≤ W) (hW : W ≤ 6) (hV : V ≤ 6) (q3 : ∀ c, x_bt sh c = true → c < W * V) (hc : hp[(8 : Nat)]? = some (3, [.int (nI W), .int (nI V), .ref 9, .ref 28, .ref 29, .ref 30, .ref (34 + n), .int fc, .long sh, .int fd])) (ol : r_ol n hp W V) {m : Int32} : px_Gx 10 62 (0, [(0, .ref 8), (1, .int m)], [], hp) (fun _ hp' => r_ol n hp' W V) := by
  have ol0 := ol
  by_cases h1 : m < 2
  · refine ⟨.inl (some (.int (-1))), hp, ?_, ol0⟩
    refine px_a 2 (f' := (2, [(0, .ref 8), (1, .int m)], [.int 2, .int m], hp)) rfl ?_
    refine px_b2 true 11 rfl rfl (decide_eq_true h1) ?_
    show px_Go _ _ (11, [(0, .ref 8), (1, .int m)], [], hp) _
    refine px_a 1 (f' := (12, [(0, .ref 8), (1, .int m)], [.int (-1)], hp)) rfl ?_
    exact px_ri rfl rfl rfl
  by_cases h2 : m ≤ 9
  rotate_left
  · refine ⟨.inl (some (.int (-1))), hp, ?_, ol0⟩
    refine px_a 2 (f' := (2, [(0, .ref 8), (1, .int m)], [.int 2, .int m], hp)) rfl ?_
    refine px_b2 false 11 rfl rfl (decide_eq_false h1) ?_
    show px_Go _ _ (5, [(0, .ref 8), (1, .int m)], [], hp) _
    refine px_a 2 (f' := (8, [(0, .ref 8), (1, .int m)], [.int 9, .int m], hp)) rfl ?_
    refine px_b2 false 13 rfl rfl (decide_eq_false h2) ?_
    show px_Go _ _ (11, [(0, .ref 8), (1, .int m)], [], hp) _
    refine px_a 1 (f' := (12, [(0, .ref 8), (1, .int m)], [.int (-1)], hp)) rfl ?_
    exact px_ri rfl rfl rfl
  obtain ⟨hst, s, ls, K1, f1, rc, ho, hls, hwd, hw⟩ := ol
  have hll := r_ls84 H hls
  obtain ⟨o, hp', hg, ⟨H', G', E'⟩, -⟩ := (ct_42 hN).deep (d' := 9) (by decide) [.ref (34 + n), .long sh] hp H ⟨l_ri (r20 n) (by decide), pa_lgk _, trivial⟩
  obtain ⟨o2, hp2, g2, e2, K, f, ls', a1, a2, a3, a4⟩ := c_trace (d := 5) w1 hW hV q3 ho hls hst hll hwd hw
  have e := px_det hg g2
  cases e
  subst e2
  have hc' := l_fo G' hc (r := 8) rfl (by decide)
  have hst' := c_St_fr G' (by decide) hst
  have R' : r_ol n hp' W V := ⟨hst', sh, ls', K, f, rc, a2, a3, a1, a4⟩
  obtain ⟨o3, hp3, hg2, ⟨H3, G3, E3⟩, -⟩ := (ct_34 hN).deep (d' := 9) (by decide) [.ref (34 + n), .int m] hp' H' ⟨l_ri (r20 n) (by decide), pa_top_ok _, trivial⟩
  rcases E3 with ⟨v, rfl, hv, -⟩ | ⟨ht, -⟩
  rotate_left
  · exact absurd ht (by decide)
  obtain rfl : v = none := pa_gr0 hv
  obtain ⟨rc3, ho3⟩ := r_ol6 H3 G3 a2
  have hc3 := l_fo G3 hc' (r := 8) rfl (by decide)
  refine ⟨.inl (some (.int rc3)), hp3, ?_, c_St_fr G3 (by decide) hst', sh, ls', K, f, rc3, ho3, l_fa G3 a3 (rr 3 (by decide) (by decide) (by omega)) (by decide) (by decide), a1, a4⟩
  refine px_a 2 (f' := (2, [(0, .ref 8), (1, .int m)], [.int 2, .int m], hp)) rfl ?_
  refine px_b2 false 11 rfl rfl (decide_eq_false h1) ?_
  show px_Go _ _ (5, [(0, .ref 8), (1, .int m)], [], hp) _
  refine px_a 2 (f' := (8, [(0, .ref 8), (1, .int m)], [.int 9, .int m], hp)) rfl ?_
  refine px_b2 true 13 rfl rfl (decide_eq_true h2) ?_
  show px_Go _ _ (13, [(0, .ref 8), (1, .int m)], [], hp) _
  refine px_a 1 (f' := (14, [(0, .ref 8), (1, .int m)], [.ref 8], hp)) rfl ?_
  refine px_gf 8 53 3 6 (.ref (34 + n)) rfl rfl hc rfl ?_
  show px_Go _ _ (17, [(0, .ref 8), (1, .int m)], [.ref (34 + n)], hp) _
  refine px_a 1 (f' := (18, [(0, .ref 8), (1, .int m)], [.ref 8, .ref (34 + n)], hp)) rfl ?_
  refine px_gf 8 64 3 8 (.long sh) rfl rfl hc rfl ?_
  show px_Go _ _ (21, [(0, .ref 8), (1, .int m)], [.long sh, .ref (34 + n)], hp) _
  refine px_cv (34 + n) (as := [.long sh]) (rest := []) rfl rfl ho rfl rfl rfl rfl (Nat.le_of_ble_eq_true rfl) (hg) ?_
  show px_Go _ _ (24, [(0, .ref 8), (1, .int m)], [], hp') _
  refine px_a 1 (f' := (25, [(0, .ref 8), (1, .int m)], [.ref 8], hp')) rfl ?_
  refine px_gf 8 53 3 6 (.ref (34 + n)) rfl rfl hc' rfl ?_
  show px_Go _ _ (28, [(0, .ref 8), (1, .int m)], [.ref (34 + n)], hp') _
  refine px_a 1 (f' := (29, [(0, .ref 8), (1, .int m)], [.int m, .ref (34 + n)], hp')) rfl ?_
  refine px_cv (34 + n) (as := [.int m]) (rest := []) rfl rfl a2 rfl rfl rfl rfl (Nat.le_of_ble_eq_true rfl) (hg2) ?_
  show px_Go _ _ (32, [(0, .ref 8), (1, .int m)], [], hp3) _
  refine px_a 1 (f' := (33, [(0, .ref 8), (1, .int m)], [.ref 8], hp3)) rfl ?_
  refine px_gf 8 53 3 6 (.ref (34 + n)) rfl rfl hc3 rfl ?_
  show px_Go _ _ (36, [(0, .ref 8), (1, .int m)], [.ref (34 + n)], hp3) _
  refine px_gf (34 + n) 150 2 6 (.int rc3) rfl rfl ho3 rfl ?_
  show px_Go _ _ (39, [(0, .ref 8), (1, .int m)], [.int rc3], hp3) _
  exact px_ri rfl rfl rfl
set_option maxRecDepth 20000 in
theorem x_runR {n : Nat} (hN : pa_N n) {hp : px_H} (H : pa_Hi n hp) {W V : Nat} {fc fd : Int32} {sh : Int64} (w1 : 1 ≤ W) (hW : W ≤ 6) (hV : V ≤ 6) (q3 : ∀ c, x_bt sh c = true → c < W * V) (hc : hp[(8 : Nat)]? = some (3, [.int (nI W), .int (nI V), .ref 9, .ref 28, .ref 29, .ref 30, .ref (34 + n), .int fc, .long sh, .int fd])) (ol : r_ol n hp W V) {m k : Int32} : px_Gx 11 61 (0, [(0, .ref 8), (1, .int m), (2, .int k)], [], hp) (fun _ hp' => r_ol n hp' W V) := by
  by_cases h1 : k < 0
  · refine ⟨.inl (some (.int (-1))), hp, ?_, ol⟩
    refine px_a 1 (f' := (1, [(0, .ref 8), (1, .int m), (2, .int k)], [.int k], hp)) rfl ?_
    refine px_b1 true 13 rfl rfl (decide_eq_true h1) ?_
    show px_Go _ _ (13, [(0, .ref 8), (1, .int m), (2, .int k)], [], hp) _
    refine px_a 1 (f' := (14, [(0, .ref 8), (1, .int m), (2, .int k)], [.int (-1)], hp)) rfl ?_
    exact px_ri rfl rfl rfl
  obtain ⟨o, hp', hg, ⟨H', G', E'⟩, -⟩ := (ct_62 hN).deep (d' := 10) (by decide) [.ref 8, .int m] hp H ⟨l_ri rfl (by decide), pa_top_ok _, trivial⟩
  obtain ⟨o2, hp2, g2, R'⟩ := x_runsR hN H w1 hW hV q3 hc ol (m := m)
  have e := px_det hg g2
  cases e
  rcases E' with ⟨v, rfl, hv, -⟩ | ⟨ht, -⟩
  rotate_left
  · exact absurd ht (by decide)
  obtain ⟨z, rfl, z1, z2⟩ := pa_gri (lo := -1) (hi := 84) hv
  have hc' := l_fo G' hc (r := 8) rfl (by decide)
  by_cases h2 : k < z
  rotate_left
  · refine ⟨.inl (some (.int (-1))), hp', ?_, R'⟩
    refine px_a 1 (f' := (1, [(0, .ref 8), (1, .int m), (2, .int k)], [.int k], hp)) rfl ?_
    refine px_b1 false 13 rfl rfl (decide_eq_false h1) ?_
    show px_Go _ _ (4, [(0, .ref 8), (1, .int m), (2, .int k)], [], hp) _
    refine px_a 3 (f' := (7, [(0, .ref 8), (1, .int m), (2, .int k)], [.int m, .ref 8, .int k], hp)) rfl ?_
    refine px_cv 8 (as := [.int m]) (rest := [.int k]) rfl rfl hc rfl rfl rfl rfl (Nat.le_of_ble_eq_true rfl) (hg) ?_
    show px_Go _ _ (10, [(0, .ref 8), (1, .int m), (2, .int k)], [.int z, .int k], hp') _
    refine px_b2 false 15 rfl rfl (decide_eq_false h2) ?_
    show px_Go _ _ (13, [(0, .ref 8), (1, .int m), (2, .int k)], [], hp') _
    refine px_a 1 (f' := (14, [(0, .ref 8), (1, .int m), (2, .int k)], [.int (-1)], hp')) rfl ?_
    exact px_ri rfl rfl rfl
  · have R2 := R'
    obtain ⟨-, s2, ls2, K2, f2, rc2, ho2, -⟩ := R2
    obtain ⟨va, hva, hla, hga⟩ := pa_ara (a := 36 + n) (i := 4) (lo := -2147483648) (hi := 2147483647) H' (by omega) (by decide) (by decide) rfl
    obtain ⟨vb, hvb, hlb, hgb⟩ := pa_ara (a := 37 + n) (i := 5) (lo := -2147483648) (hi := 2147483647) H' (by omega) (by decide) (by decide) rfl
    have e0 : (0 : Int32).toInt = 0 := rfl
    have h1' := h1
    have h2' := h2
    rw [Int32.lt_iff_toInt_lt] at h1' h2'
    obtain ⟨xa, exa, -⟩ := hga k.toNatClampNeg (by show k.toInt.toNat < _; omega)
    obtain ⟨xb, exb, -⟩ := hgb k.toNatClampNeg (by show k.toInt.toNat < _; omega)
    refine ⟨.inl (some (.int (xa + 2 * xb))), hp', ?_, R'⟩
    refine px_a 1 (f' := (1, [(0, .ref 8), (1, .int m), (2, .int k)], [.int k], hp)) rfl ?_
    refine px_b1 false 13 rfl rfl (decide_eq_false h1) ?_
    show px_Go _ _ (4, [(0, .ref 8), (1, .int m), (2, .int k)], [], hp) _
    refine px_a 3 (f' := (7, [(0, .ref 8), (1, .int m), (2, .int k)], [.int m, .ref 8, .int k], hp)) rfl ?_
    refine px_cv 8 (as := [.int m]) (rest := [.int k]) rfl rfl hc rfl rfl rfl rfl (Nat.le_of_ble_eq_true rfl) (hg) ?_
    show px_Go _ _ (10, [(0, .ref 8), (1, .int m), (2, .int k)], [.int z, .int k], hp') _
    refine px_b2 true 15 rfl rfl (decide_eq_true h2) ?_
    show px_Go _ _ (15, [(0, .ref 8), (1, .int m), (2, .int k)], [], hp') _
    refine px_a 1 (f' := (16, [(0, .ref 8), (1, .int m), (2, .int k)], [.ref 8], hp')) rfl ?_
    refine px_gf 8 53 3 6 (.ref (34 + n)) rfl rfl hc' rfl ?_
    show px_Go _ _ (19, [(0, .ref 8), (1, .int m), (2, .int k)], [.ref (34 + n)], hp') _
    refine px_gf (34 + n) 156 2 3 (.ref (36 + n)) rfl rfl ho2 rfl ?_
    show px_Go _ _ (22, [(0, .ref 8), (1, .int m), (2, .int k)], [.ref (36 + n)], hp') _
    refine px_a 1 (f' := (23, [(0, .ref 8), (1, .int m), (2, .int k)], [.int k, .ref (36 + n)], hp')) rfl ?_
    refine px_al (36 + n) (.int xa) rfl hva (Or.inl ⟨rfl, Or.inl rfl⟩) (h1) (exa) ?_
    show px_Go _ _ (24, [(0, .ref 8), (1, .int m), (2, .int k)], [.int xa], hp') _
    refine px_a 2 (f' := (26, [(0, .ref 8), (1, .int m), (2, .int k)], [.ref 8, .int 2, .int xa], hp')) rfl ?_
    refine px_gf 8 53 3 6 (.ref (34 + n)) rfl rfl hc' rfl ?_
    show px_Go _ _ (29, [(0, .ref 8), (1, .int m), (2, .int k)], [.ref (34 + n), .int 2, .int xa], hp') _
    refine px_gf (34 + n) 159 2 4 (.ref (37 + n)) rfl rfl ho2 rfl ?_
    show px_Go _ _ (32, [(0, .ref 8), (1, .int m), (2, .int k)], [.ref (37 + n), .int 2, .int xa], hp') _
    refine px_a 1 (f' := (33, [(0, .ref 8), (1, .int m), (2, .int k)], [.int k, .ref (37 + n), .int 2, .int xa], hp')) rfl ?_
    refine px_al (37 + n) (.int xb) rfl hvb (Or.inl ⟨rfl, Or.inl rfl⟩) (h1) (exb) ?_
    show px_Go _ _ (34, [(0, .ref 8), (1, .int m), (2, .int k)], [.int xb, .int 2, .int xa], hp') _
    refine px_a 2 (f' := (36, [(0, .ref 8), (1, .int m), (2, .int k)], [.int (xa + (2 * xb))], hp')) rfl ?_
    exact px_ri rfl rfl rfl
set_option maxRecDepth 20000 in
set_option maxHeartbeats 4000000 in
theorem m_borderx {d n W V : Nat} (hN : pa_N n) {sh : Int64} {hp0 : px_H} {th w h pn pl fo le ru : Int32} {vsu : List Value} {i : Int32} (hW : W ≤ 6) (hV : V ≤ 6) (w1 : 1 ≤ W) (hw8 : w = nI W) (hh8 : h = nI V) (hnn : n = W * V) (q1 : ∀ c, c < n → vsu[c]? = some (.int (if x_bt sh c = true then 1 else 0))) (q3 : ∀ c, x_bt sh c = true → c < n) (hm : hp0[38 + n]? = some (4, m_O n th w h pn pl fo le ru)) (H : pa_Hi n hp0) (hvu : hp0[39 + n]? = some (12, vsu)) : px_Gx (d + 5) 70 (0, [(0, .ref (38 + n)), (1, .int i)], [], hp0) (fun o _ => ∃ (K : Nat) (f : Nat → Nat), x_Wd W V sh K f ∧ o = .inl (some (.int (x_lt K f i)))) := by
  have clm1 : Int32.toInt (-1) = -1 := rfl
  have cl0 : Int32.toInt 0 = 0 := rfl
  obtain ⟨bth1, bth2, bw1, bw2, bh1, bh2, bpn1, bpn2, bpl1, bpl2, bfo1, bfo2, ble1, ble2, bru1, bru2⟩ := pa_bnd H hm
  have F : pa_Fr n [(24, 0), (24, 15), (34, 0)] hp0 hp0 := pa_Fr.refl _
  have L : hp0.length = hp0.length := rfl
  refine px_gx (fun _ K => px_a 2 (f' := (2, [(0, .ref (38 + n)), (1, .int i)], [.int 0, .ref (38 + n)], hp0)) rfl K) ?_
  refine px_gx (fun _ K => px_pf (38 + n) 58 4 0 rfl rfl hm (by omega) (Nat.le_of_ble_eq_true rfl) (rfl) rfl (by decide) K) ?_
  show px_Gx _ _ (5, [(0, .ref (38 + n)), (1, .int i)], [], hp0.set (38 + n) (4, (m_O n 0 w h pn pl fo le ru))) _
  have hm602 : (hp0.set (38 + n) (4, (m_O n 0 w h pn pl fo le ru)))[38 + n]? = some (4, (m_O n 0 w h pn pl fo le ru)) := px_self hm
  have H602 : pa_Hi n (hp0.set (38 + n) (4, (m_O n 0 w h pn pl fo le ru))) := pa_ms (k := 0) (v := .int 0) H hm rfl (pa_in (by omega) (by omega))
  have F602 : pa_Fr n [(24, 0), (24, 15), (34, 0)] hp0 (hp0.set (38 + n) (4, (m_O n 0 w h pn pl fo le ru))) := F.trans (pa_mf (k := 0) (v := .int 0) hm (by decide) (by decide))
  have L602 : (hp0.set (38 + n) (4, (m_O n 0 w h pn pl fo le ru))).length = hp0.length := List.length_set.trans L
  have hvu_602 : (hp0.set (38 + n) (4, (m_O n 0 w h pn pl fo le ru)))[39 + n]? = some (12, vsu) := px_ne hvu (by omega)
  generalize hp0.set (38 + n) (4, (m_O n 0 w h pn pl fo le ru)) = hp602 at hm602 H602 F602 L602 hvu_602 ⊢
  refine px_gx (fun _ K => px_a 1 (f' := (6, [(0, .ref (38 + n)), (1, .int i)], [.ref (38 + n)], hp602)) rfl K) ?_
  obtain ⟨o603, hp603, g603, ⟨H603, G603, E603⟩, -⟩ := (ct_100 hN).deep (d' := d + 4) (by omega) [.ref (38 + n)] hp602 H602 ⟨pa_r24, trivial⟩
  obtain ⟨o2, hp2, g2, e2, K, f, vsw, a1, a2, a3, a4⟩ := m_walkx (d := d + 1) hW hV w1 hw8 hh8 hnn q1 q3 hm602 H602 hvu_602
  have e := px_det g603 g2
  cases e
  subst e2
  refine px_gx (fun _ K => px_cv (38 + n) (as := []) (rest := []) rfl rfl hm602 rfl rfl rfl rfl (Nat.le_of_ble_eq_true rfl) g603 K) ?_
  show px_Gx _ _ (9, [(0, .ref (38 + n)), (1, .int i)], [], hp603) _
  have F603 : pa_Fr n [(24, 0), (24, 15), (34, 0)] hp0 hp603 := F602.trans (G603.mono (by decide))
  have L603 : True := trivial
  obtain ⟨th603, w603, h603, pn603, pl603, fo603, le603, ru603, hm603, -, -, -, -, -, -, -, -, -, -, -, -, -, -, -, -⟩ := pa_mod H603
  obtain rfl : 0 = th603 := (pa_fk (k := 0) G603 hm602 hm603 (by decide) rfl rfl).symm
  obtain rfl : w = w603 := (pa_fk (k := 1) G603 hm602 hm603 (by decide) rfl rfl).symm
  obtain rfl : h = h603 := (pa_fk (k := 2) G603 hm602 hm603 (by decide) rfl rfl).symm
  obtain rfl : pn = pn603 := (pa_fk (k := 4) G603 hm602 hm603 (by decide) rfl rfl).symm
  obtain rfl : pl = pl603 := (pa_fk (k := 8) G603 hm602 hm603 (by decide) rfl rfl).symm
  obtain rfl : fo = fo603 := (pa_fk (k := 13) G603 hm602 hm603 (by decide) rfl rfl).symm
  obtain rfl : ru = ru603 := (pa_fk (k := 17) G603 hm602 hm603 (by decide) rfl rfl).symm
  change hp603[38 + n]? = some (4, (m_O n 0 w h pn pl fo le603 ru)) at hm603
  obtain ⟨lth603, uth603, lw603, uw603, lh603, uh603, lpn603, upn603, lpl603, upl603, lfo603, ufo603, lle603, ule603, lru603, uru603⟩ := pa_bnd H603 hm603
  have ele : le603 = nI K := by rw [pa_fd_get hm603] at a2; injection a2 with a2; injection a2
  have k84 := x_Wd84 a1
  refine px_gx (fun _ K => px_a 1 (f' := (10, [(0, .ref (38 + n)), (1, .int i)], [.int i], hp603)) rfl K) ?_
  by_cases h604 : i < 0
  · have h604' := h604
    rw [Int32.lt_iff_toInt_lt] at h604'
    refine px_gx (fun _ K => px_b1 true 21 rfl rfl (decide_eq_true h604) K) ?_
    show px_Gx _ _ (21, [(0, .ref (38 + n)), (1, .int i)], [], hp603) _
    refine px_gx (fun _ K => px_a 2 (f' := (31, [(0, .ref (38 + n)), (1, .int i)], [.int (-1)], hp603)) rfl K) ?_
    exact ⟨_, _, px_ri rfl rfl rfl, K, f, a1, by unfold x_lt; rw [if_pos (Or.inl h604)]⟩
  · have h604' := h604
    rw [Int32.lt_iff_toInt_lt] at h604'
    refine px_gx (fun _ K => px_b1 false 21 rfl rfl (decide_eq_false h604) K) ?_
    show px_Gx _ _ (13, [(0, .ref (38 + n)), (1, .int i)], [], hp603) _
    refine px_gx (fun _ K => px_a 2 (f' := (15, [(0, .ref (38 + n)), (1, .int i)], [.ref (38 + n), .int i], hp603)) rfl K) ?_
    refine px_gx (fun _ K => px_gf (38 + n) 122 4 15 (.int le603) rfl rfl hm603 rfl K) ?_
    show px_Gx _ _ (18, [(0, .ref (38 + n)), (1, .int i)], [.int le603, .int i], hp603) _
    by_cases h605 : i < le603
    · have h605' := h605
      rw [Int32.lt_iff_toInt_lt] at h605'
      refine px_gx (fun _ K => px_b2 true 25 rfl rfl (decide_eq_true h605) K) ?_
      show px_Gx _ _ (25, [(0, .ref (38 + n)), (1, .int i)], [], hp603) _
      refine px_gx (fun _ K => px_a 1 (f' := (26, [(0, .ref (38 + n)), (1, .int i)], [.ref (38 + n)], hp603)) rfl K) ?_
      refine px_gx (fun _ K => px_gf (38 + n) 39 4 16 (.ref (48 + n)) rfl rfl hm603 rfl K) ?_
      show px_Gx _ _ (29, [(0, .ref (38 + n)), (1, .int i)], [.ref (48 + n)], hp603) _
      refine px_gx (fun _ K => px_a 1 (f' := (30, [(0, .ref (38 + n)), (1, .int i)], [.int i, .ref (48 + n)], hp603)) rfl K) ?_
      obtain ⟨vs607, hv607, hl607, hg607⟩ := pa_ara (a := 48 + n) (i := 16) (lo := 0) (hi := 3) H603 (by omega) (by decide) (by decide) rfl
      have hi606 : i.toNatClampNeg < vs607.length := by show (Int32.toInt i).toNat < _; omega
      obtain ⟨z606, ez606, lz606, uz606⟩ := hg607 _ hi606
      refine px_gx (fun _ K => px_al (48 + n) (.int z606) rfl hv607 (Or.inl ⟨rfl, Or.inl rfl⟩) (i32_nn (by omega)) ez606 K) ?_
      show px_Gx _ _ (31, [(0, .ref (38 + n)), (1, .int i)], [.int z606], hp603) _
      obtain ⟨j, hj, rfl⟩ : ∃ j : Nat, j < K ∧ i = nI j := by
        rcases pk_ix i (n := K) (by omega) with q | q | q
        · exact absurd q h604
        · rw [← ele] at q; exact absurd q (Int32.not_le.mpr h605)
        · exact q
      have hz := a4 j hj
      have hv48 : vs607 = vsw := by have := hv607; rw [a3] at this; cases this; rfl
      have ez2 := ez606
      rw [nI_clamp (by omega), hv48, hz] at ez2
      injection ez2 with ez2
      injection ez2 with ez2
      exact ⟨_, _, px_ri rfl rfl rfl, K, f, a1, by unfold x_lt; rw [if_neg (fun z => z.elim (nI_pos (by omega)) (fun z => absurd z (nI_ge hj (by omega)))), nI_clamp (by omega), ez2]⟩
    · have h605' := h605
      rw [Int32.lt_iff_toInt_lt] at h605'
      refine px_gx (fun _ K => px_b2 false 25 rfl rfl (decide_eq_false h605) K) ?_
      show px_Gx _ _ (21, [(0, .ref (38 + n)), (1, .int i)], [], hp603) _
      refine px_gx (fun _ K => px_a 2 (f' := (31, [(0, .ref (38 + n)), (1, .int i)], [.int (-1)], hp603)) rfl K) ?_
      exact ⟨_, _, px_ri rfl rfl rfl, K, f, a1, by unfold x_lt; rw [if_pos (Or.inr (by rw [← ele]; exact Int32.not_lt.mp h605))]⟩
