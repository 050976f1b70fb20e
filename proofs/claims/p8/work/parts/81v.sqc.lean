theorem x_form {n k N : Nat} {hp : px_H} (H : pa_Hi n hp) (hk : k < 6) (h4 : pa_fd hp (10 + 3 * k) 4 = some (.int (nI N))) : ∃ (gw gh wc sc : Int32) (ss : Int64) (b1 b2 : Nat), hp[10 + 3 * k]? = some (1, [.int gw, .int gh, .ref b1, .ref b2, .int (nI N), .int wc, .int sc, .long ss]) := by
  obtain ⟨vs, h1, h2⟩ := pa_Hi_get H (r10 (n := n) hk) (by decide)
  obtain ⟨v0, vs0, rfl, ⟨x0, rfl, -⟩, q0⟩ := pa_as1 h2
  obtain ⟨v1, vs1, rfl, ⟨x1, rfl, -⟩, q1⟩ := pa_as1 q0
  obtain ⟨v2, vs2, rfl, ⟨x2, rfl, -⟩, q2⟩ := pa_as1 q1
  obtain ⟨v3, vs3, rfl, ⟨x3, rfl, -⟩, q3⟩ := pa_as1 q2
  obtain ⟨v4, vs4, rfl, ⟨x4, rfl, -⟩, q4⟩ := pa_as1 q3
  obtain ⟨v5, vs5, rfl, ⟨x5, rfl, -⟩, q5⟩ := pa_as1 q4
  obtain ⟨v6, vs6, rfl, ⟨x6, rfl, -⟩, q6⟩ := pa_as1 q5
  obtain ⟨v7, vs7, rfl, ⟨x7, rfl⟩, q7⟩ := pa_as1 q6
  obtain rfl : vs7 = [] := by
    cases vs7 with
    | nil => rfl
    | cons a l => exact q7.elim
  rw [pa_fd_get h1] at h4
  have h5 : x4 = nI N := by
    have h6 : some (Value.int x4) = some (Value.int (nI N)) := h4
    injection h6 with h6
    injection h6
  subst h5
  exact ⟨x0, x1, x5, x6, x7, x2, x3, h1⟩
set_option maxRecDepth 20000 in
theorem x_size {d a N : Nat} {hp : px_H} {gw gh wc sc : Int32} {ss : Int64} {b1 b2 : Nat} (h16 : N < 65536) (hf : hp[a]? = some (1, [.int gw, .int gh, .ref b1, .ref b2, .int (nI N), .int wc, .int sc, .long ss])) : px_Go (d + 1) 31 (0, [(0, .ref a)], [], hp) (.inl (some (.int (nI (pb_cnt 16 N)))), hp) := by
  refine px_a 1 (f' := (1, [(0, .ref a)], [.ref a], hp)) rfl ?_
  refine px_gf a 26 1 4 (.int (nI N)) rfl rfl hf rfl ?_
  show px_Go _ _ (4, [(0, .ref a)], [.int (nI N)], hp) _
  refine px_cl (as := [.int (nI N)]) (rest := []) rfl rfl (x_bc16 (d := d) h16) ?_
  show px_Go _ _ (7, [(0, .ref a)], [.int (nI (pb_cnt 16 N))], hp) _
  exact px_ri rfl rfl rfl
set_option maxRecDepth 20000 in
theorem x_take {d n : Nat} (hN : pa_N n) {hp : px_H} (H : pa_Hi n hp) {k N q : Nat} {gw gh wc sc : Int32} {ss : Int64} {b1 b2 : Nat} {x y : Int32} (hk : k < 6) (h16 : N < 65536) (hq : q < 16) (c6 : pb_cnt 16 N ≤ 6) (hb : (1 : Int32) <<< ((4 * y + x) &&& 31) = nI (2 ^ q)) (hf : hp[10 + 3 * k]? = some (1, [.int gw, .int gh, .ref b1, .ref b2, .int (nI N), .int wc, .int sc, .long ss])) : px_Gx (d + 3) 32 (0, [(0, .ref (10 + 3 * k)), (1, .int x), (2, .int y)], [], hp) (fun o hp' => ((N.testBit q = true ∨ 6 ≤ pb_cnt 16 N) ∧ o = .inl (some (.int 0)) ∧ hp' = hp) ∨ (N.testBit q = false ∧ pb_cnt 16 N < 6 ∧ o = .inl (some (.int 1)) ∧ ∀ j, j < 6 → pa_fd hp' (10 + 3 * j) 4 = if j = k then some (.int (nI (N ||| 2 ^ q))) else pa_fd hp (10 + 3 * j) 4)) := by
  have e6 : (6 : Int32).toInt = 6 := rfl
  have ec : (nI (pb_cnt 16 N)).toInt = pb_cnt 16 N := nI_toInt (by omega)
  by_cases h : N.testBit q = true
  · refine ⟨_, hp, ?_, Or.inl ⟨Or.inl h, rfl, rfl⟩⟩
    refine px_a 9 (f' := (9, [(3, .int (1 <<< (((4 * y) + x) &&& 31))), (0, .ref (10 + 3 * k)), (1, .int x), (2, .int y)], [.ref (10 + 3 * k)], hp)) rfl ?_
    refine px_gf (10 + 3 * k) 26 1 4 (.int (nI N)) rfl rfl hf rfl ?_
    show px_Go _ _ (12, [(3, .int (1 <<< (((4 * y) + x) &&& 31))), (0, .ref (10 + 3 * k)), (1, .int x), (2, .int y)], [.int (nI N)], hp) _
    refine px_a 2 (f' := (14, [(3, .int (1 <<< (((4 * y) + x) &&& 31))), (0, .ref (10 + 3 * k)), (1, .int x), (2, .int y)], [.int ((nI N) &&& (1 <<< (((4 * y) + x) &&& 31)))], hp)) rfl ?_
    refine px_b1 true 26 rfl rfl (decide_eq_true (fun z => by rw [hb] at z; rw [(q_and h16 hq).mp z] at h; cases h)) ?_
    show px_Go _ _ (26, [(3, .int (1 <<< (((4 * y) + x) &&& 31))), (0, .ref (10 + 3 * k)), (1, .int x), (2, .int y)], [], hp) _
    refine px_a 1 (f' := (27, [(3, .int (1 <<< (((4 * y) + x) &&& 31))), (0, .ref (10 + 3 * k)), (1, .int x), (2, .int y)], [.int 0], hp)) rfl ?_
    exact px_ri rfl rfl rfl
  · have h0 : N.testBit q = false := by simpa using h
    by_cases h2 : pb_cnt 16 N < 6
    · show px_Gx _ _ (0, [(0, .ref (10 + 3 * k)), (1, .int x), (2, .int y)], [], hp) _
      refine px_gx (fun _ K => px_a 9 (f' := (9, [(3, .int (1 <<< (((4 * y) + x) &&& 31))), (0, .ref (10 + 3 * k)), (1, .int x), (2, .int y)], [.ref (10 + 3 * k)], hp)) rfl K) ?_
      refine px_gx (fun _ K => px_gf (10 + 3 * k) 26 1 4 (.int (nI N)) rfl rfl hf rfl K) ?_
      show px_Gx _ _ (12, [(3, .int (1 <<< (((4 * y) + x) &&& 31))), (0, .ref (10 + 3 * k)), (1, .int x), (2, .int y)], [.int (nI N)], hp) _
      refine px_gx (fun _ K => px_a 2 (f' := (14, [(3, .int (1 <<< (((4 * y) + x) &&& 31))), (0, .ref (10 + 3 * k)), (1, .int x), (2, .int y)], [.int ((nI N) &&& (1 <<< (((4 * y) + x) &&& 31)))], hp)) rfl K) ?_
      refine px_gx (fun _ K => px_b1 false 26 rfl rfl (decide_eq_false (not_not_intro (by rw [hb]; exact (q_and h16 hq).mpr h0))) K) ?_
      show px_Gx _ _ (17, [(3, .int (1 <<< (((4 * y) + x) &&& 31))), (0, .ref (10 + 3 * k)), (1, .int x), (2, .int y)], [], hp) _
      refine px_gx (fun _ K => px_a 1 (f' := (18, [(3, .int (1 <<< (((4 * y) + x) &&& 31))), (0, .ref (10 + 3 * k)), (1, .int x), (2, .int y)], [.ref (10 + 3 * k)], hp)) rfl K) ?_
      refine px_gx (fun _ K => px_cv (10 + 3 * k) (as := []) (rest := []) rfl rfl hf rfl rfl rfl rfl (Nat.le_of_ble_eq_true rfl) (x_size (d := d + 1) h16 hf) K) ?_
      show px_Gx _ _ (21, [(3, .int (1 <<< (((4 * y) + x) &&& 31))), (0, .ref (10 + 3 * k)), (1, .int x), (2, .int y)], [.int (nI (pb_cnt 16 N))], hp) _
      refine px_gx (fun _ K => px_a 1 (f' := (23, [(3, .int (1 <<< (((4 * y) + x) &&& 31))), (0, .ref (10 + 3 * k)), (1, .int x), (2, .int y)], [.int 6, .int (nI (pb_cnt 16 N))], hp)) rfl K) ?_
      refine px_gx (fun _ K => px_b2 true 28 rfl rfl (decide_eq_true (show nI (pb_cnt 16 N) < 6 by rw [Int32.lt_iff_toInt_lt, ec, e6]; omega)) K) ?_
      show px_Gx _ _ (28, [(3, .int (1 <<< (((4 * y) + x) &&& 31))), (0, .ref (10 + 3 * k)), (1, .int x), (2, .int y)], [], hp) _
      refine px_gx (fun _ K => px_a 2 (f' := (30, [(3, .int (1 <<< (((4 * y) + x) &&& 31))), (0, .ref (10 + 3 * k)), (1, .int x), (2, .int y)], [.ref (10 + 3 * k), .ref (10 + 3 * k)], hp)) rfl K) ?_
      refine px_gx (fun _ K => px_gf (10 + 3 * k) 26 1 4 (.int (nI N)) rfl rfl hf rfl K) ?_
      show px_Gx _ _ (33, [(3, .int (1 <<< (((4 * y) + x) &&& 31))), (0, .ref (10 + 3 * k)), (1, .int x), (2, .int y)], [.int (nI N), .ref (10 + 3 * k)], hp) _
      refine px_gx (fun _ K => px_a 2 (f' := (35, [(3, .int (1 <<< (((4 * y) + x) &&& 31))), (0, .ref (10 + 3 * k)), (1, .int x), (2, .int y)], [.int ((nI N) ||| (1 <<< (((4 * y) + x) &&& 31))), .ref (10 + 3 * k)], hp)) rfl K) ?_
      refine px_gx (fun _ K => px_pf (10 + 3 * k) 26 1 4 rfl rfl hf (by omega) (by simp) rfl rfl (by decide) K) ?_
      have hf1__10___3___k_ : (hp.set (10 + 3 * k) (1, [.int gw, .int gh, .ref b1, .ref b2, .int ((nI N) ||| (1 <<< (((4 * y) + x) &&& 31))), .int wc, .int sc, .long ss]))[(10 + 3 * k)]? = some (1, [.int gw, .int gh, .ref b1, .ref b2, .int ((nI N) ||| (1 <<< (((4 * y) + x) &&& 31))), .int wc, .int sc, .long ss]) := px_self hf
      show px_Gx _ _ (38, [(3, .int (1 <<< (((4 * y) + x) &&& 31))), (0, .ref (10 + 3 * k)), (1, .int x), (2, .int y)], [], (hp.set (10 + 3 * k) (1, [.int gw, .int gh, .ref b1, .ref b2, .int ((nI N) ||| (1 <<< (((4 * y) + x) &&& 31))), .int wc, .int sc, .long ss]))) _
      refine px_gx (fun _ K => px_a 2 (f' := (40, [(3, .int (1 <<< (((4 * y) + x) &&& 31))), (0, .ref (10 + 3 * k)), (1, .int x), (2, .int y)], [.long 0, .ref (10 + 3 * k)], (hp.set (10 + 3 * k) (1, [.int gw, .int gh, .ref b1, .ref b2, .int ((nI N) ||| (1 <<< (((4 * y) + x) &&& 31))), .int wc, .int sc, .long ss])))) rfl K) ?_
      refine px_gx (fun _ K => px_pf (10 + 3 * k) 39 1 7 rfl rfl hf1__10___3___k_ (by omega) (by simp) rfl rfl (by decide) K) ?_
      have hf2__10___3___k_ : (((hp.set (10 + 3 * k) (1, [.int gw, .int gh, .ref b1, .ref b2, .int ((nI N) ||| (1 <<< (((4 * y) + x) &&& 31))), .int wc, .int sc, .long ss]))).set (10 + 3 * k) (1, [.int gw, .int gh, .ref b1, .ref b2, .int ((nI N) ||| (1 <<< (((4 * y) + x) &&& 31))), .int wc, .int sc, .long 0]))[(10 + 3 * k)]? = some (1, [.int gw, .int gh, .ref b1, .ref b2, .int ((nI N) ||| (1 <<< (((4 * y) + x) &&& 31))), .int wc, .int sc, .long 0]) := px_self hf1__10___3___k_
      show px_Gx _ _ (43, [(3, .int (1 <<< (((4 * y) + x) &&& 31))), (0, .ref (10 + 3 * k)), (1, .int x), (2, .int y)], [], (((hp.set (10 + 3 * k) (1, [.int gw, .int gh, .ref b1, .ref b2, .int ((nI N) ||| (1 <<< (((4 * y) + x) &&& 31))), .int wc, .int sc, .long ss]))).set (10 + 3 * k) (1, [.int gw, .int gh, .ref b1, .ref b2, .int ((nI N) ||| (1 <<< (((4 * y) + x) &&& 31))), .int wc, .int sc, .long 0]))) _
      refine px_gx (fun _ K => px_a 2 (f' := (45, [(3, .int (1 <<< (((4 * y) + x) &&& 31))), (0, .ref (10 + 3 * k)), (1, .int x), (2, .int y)], [.int 0, .ref (10 + 3 * k)], (((hp.set (10 + 3 * k) (1, [.int gw, .int gh, .ref b1, .ref b2, .int ((nI N) ||| (1 <<< (((4 * y) + x) &&& 31))), .int wc, .int sc, .long ss]))).set (10 + 3 * k) (1, [.int gw, .int gh, .ref b1, .ref b2, .int ((nI N) ||| (1 <<< (((4 * y) + x) &&& 31))), .int wc, .int sc, .long 0])))) rfl K) ?_
      refine px_gx (fun _ K => px_pf (10 + 3 * k) 43 1 6 rfl rfl hf2__10___3___k_ (by omega) (by simp) rfl rfl (by decide) K) ?_
      have hf3__10___3___k_ : (((((hp.set (10 + 3 * k) (1, [.int gw, .int gh, .ref b1, .ref b2, .int ((nI N) ||| (1 <<< (((4 * y) + x) &&& 31))), .int wc, .int sc, .long ss]))).set (10 + 3 * k) (1, [.int gw, .int gh, .ref b1, .ref b2, .int ((nI N) ||| (1 <<< (((4 * y) + x) &&& 31))), .int wc, .int sc, .long 0]))).set (10 + 3 * k) (1, [.int gw, .int gh, .ref b1, .ref b2, .int ((nI N) ||| (1 <<< (((4 * y) + x) &&& 31))), .int wc, .int 0, .long 0]))[(10 + 3 * k)]? = some (1, [.int gw, .int gh, .ref b1, .ref b2, .int ((nI N) ||| (1 <<< (((4 * y) + x) &&& 31))), .int wc, .int 0, .long 0]) := px_self hf2__10___3___k_
      show px_Gx _ _ (48, [(3, .int (1 <<< (((4 * y) + x) &&& 31))), (0, .ref (10 + 3 * k)), (1, .int x), (2, .int y)], [], (((((hp.set (10 + 3 * k) (1, [.int gw, .int gh, .ref b1, .ref b2, .int ((nI N) ||| (1 <<< (((4 * y) + x) &&& 31))), .int wc, .int sc, .long ss]))).set (10 + 3 * k) (1, [.int gw, .int gh, .ref b1, .ref b2, .int ((nI N) ||| (1 <<< (((4 * y) + x) &&& 31))), .int wc, .int sc, .long 0]))).set (10 + 3 * k) (1, [.int gw, .int gh, .ref b1, .ref b2, .int ((nI N) ||| (1 <<< (((4 * y) + x) &&& 31))), .int wc, .int 0, .long 0]))) _
      have H1 : pa_Hi n (hp.set (10 + 3 * k) (1, [.int gw, .int gh, .ref b1, .ref b2, .int ((nI N) ||| (1 <<< (((4 * y) + x) &&& 31))), .int wc, .int sc, .long ss])) := pa_Hi_set H (r := 10) (k := 4) (v := .int ((nI N) ||| (1 <<< (((4 * y) + x) &&& 31)))) (r10 hk) (by decide) hf ⟨pa_top, rfl, pa_top_ok _⟩ (by omega)
      have H2 : pa_Hi n (((hp.set (10 + 3 * k) (1, [.int gw, .int gh, .ref b1, .ref b2, .int ((nI N) ||| (1 <<< (((4 * y) + x) &&& 31))), .int wc, .int sc, .long ss]))).set (10 + 3 * k) (1, [.int gw, .int gh, .ref b1, .ref b2, .int ((nI N) ||| (1 <<< (((4 * y) + x) &&& 31))), .int wc, .int sc, .long 0])) := pa_Hi_set H1 (r := 10) (k := 7) (v := .long 0) (r10 hk) (by decide) hf1__10___3___k_ ⟨pa_lg, rfl, ⟨0, rfl⟩⟩ (by omega)
      have H3 : pa_Hi n (((((hp.set (10 + 3 * k) (1, [.int gw, .int gh, .ref b1, .ref b2, .int ((nI N) ||| (1 <<< (((4 * y) + x) &&& 31))), .int wc, .int sc, .long ss]))).set (10 + 3 * k) (1, [.int gw, .int gh, .ref b1, .ref b2, .int ((nI N) ||| (1 <<< (((4 * y) + x) &&& 31))), .int wc, .int sc, .long 0]))).set (10 + 3 * k) (1, [.int gw, .int gh, .ref b1, .ref b2, .int ((nI N) ||| (1 <<< (((4 * y) + x) &&& 31))), .int wc, .int 0, .long 0])) := pa_Hi_set H2 (r := 10) (k := 6) (v := .int 0) (r10 hk) (by decide) hf2__10___3___k_ ⟨pa_i 0 160, rfl, pa_in (by decide) (by decide)⟩ (by omega)
      obtain ⟨o, hp1, g, ⟨H4, G4, E4⟩, -⟩ := (ct_22 hN).deep (d' := d + 2) (by omega) [.ref (10 + 3 * k)] _ H3 ⟨⟨_, rfl, r10 hk, by decide⟩, trivial⟩
      obtain ⟨v, rfl, gr, -⟩ := E4.resolve_right (fun z => absurd z.1 (by decide))
      obtain rfl : v = none := by
        cases v with
        | none => rfl
        | some w => exact False.elim gr
      refine px_gx (fun _ K => px_a 1 (f' := (49, [(3, .int (1 <<< (((4 * y) + x) &&& 31))), (0, .ref (10 + 3 * k)), (1, .int x), (2, .int y)], [.ref (10 + 3 * k)], (((((hp.set (10 + 3 * k) (1, [.int gw, .int gh, .ref b1, .ref b2, .int ((nI N) ||| (1 <<< (((4 * y) + x) &&& 31))), .int wc, .int sc, .long ss]))).set (10 + 3 * k) (1, [.int gw, .int gh, .ref b1, .ref b2, .int ((nI N) ||| (1 <<< (((4 * y) + x) &&& 31))), .int wc, .int sc, .long 0]))).set (10 + 3 * k) (1, [.int gw, .int gh, .ref b1, .ref b2, .int ((nI N) ||| (1 <<< (((4 * y) + x) &&& 31))), .int wc, .int 0, .long 0])))) rfl K) ?_
      refine px_gx (fun _ K => px_cv (10 + 3 * k) (as := []) (rest := []) rfl rfl hf3__10___3___k_ rfl rfl rfl rfl (Nat.le_of_ble_eq_true rfl) (g) K) ?_
      show px_Gx _ _ (52, [(3, .int (1 <<< (((4 * y) + x) &&& 31))), (0, .ref (10 + 3 * k)), (1, .int x), (2, .int y)], [], hp1) _
      refine px_gx (fun _ K => px_a 1 (f' := (53, [(3, .int (1 <<< (((4 * y) + x) &&& 31))), (0, .ref (10 + 3 * k)), (1, .int x), (2, .int y)], [.int 1], hp1)) rfl K) ?_
      refine ⟨_, _, px_ri rfl rfl rfl, Or.inr ⟨h0, h2, rfl, ?_⟩⟩
      intro j hj
      rw [l_fd H3 G4 (r10 hj) (by decide) (by decide) (by decide)]
      by_cases e : j = k
      · rw [if_pos e, e, pa_fd_get hf3__10___3___k_]
        show some (Value.int (nI N ||| (1 : Int32) <<< ((4 * y + x) &&& 31))) = _
        rw [hb, nx_or]
      · rw [if_neg e]
        unfold pa_fd
        rw [List.getElem?_set_ne (by omega), List.getElem?_set_ne (by omega), List.getElem?_set_ne (by omega)]
    · refine ⟨_, hp, ?_, Or.inl ⟨Or.inr (by omega), rfl, rfl⟩⟩
      refine px_a 9 (f' := (9, [(3, .int (1 <<< (((4 * y) + x) &&& 31))), (0, .ref (10 + 3 * k)), (1, .int x), (2, .int y)], [.ref (10 + 3 * k)], hp)) rfl ?_
      refine px_gf (10 + 3 * k) 26 1 4 (.int (nI N)) rfl rfl hf rfl ?_
      show px_Go _ _ (12, [(3, .int (1 <<< (((4 * y) + x) &&& 31))), (0, .ref (10 + 3 * k)), (1, .int x), (2, .int y)], [.int (nI N)], hp) _
      refine px_a 2 (f' := (14, [(3, .int (1 <<< (((4 * y) + x) &&& 31))), (0, .ref (10 + 3 * k)), (1, .int x), (2, .int y)], [.int ((nI N) &&& (1 <<< (((4 * y) + x) &&& 31)))], hp)) rfl ?_
      refine px_b1 false 26 rfl rfl (decide_eq_false (not_not_intro (by rw [hb]; exact (q_and h16 hq).mpr h0))) ?_
      show px_Go _ _ (17, [(3, .int (1 <<< (((4 * y) + x) &&& 31))), (0, .ref (10 + 3 * k)), (1, .int x), (2, .int y)], [], hp) _
      refine px_a 1 (f' := (18, [(3, .int (1 <<< (((4 * y) + x) &&& 31))), (0, .ref (10 + 3 * k)), (1, .int x), (2, .int y)], [.ref (10 + 3 * k)], hp)) rfl ?_
      refine px_cv (10 + 3 * k) (as := []) (rest := []) rfl rfl hf rfl rfl rfl rfl (Nat.le_of_ble_eq_true rfl) (x_size (d := d + 1) h16 hf) ?_
      show px_Go _ _ (21, [(3, .int (1 <<< (((4 * y) + x) &&& 31))), (0, .ref (10 + 3 * k)), (1, .int x), (2, .int y)], [.int (nI (pb_cnt 16 N))], hp) _
      refine px_a 1 (f' := (23, [(3, .int (1 <<< (((4 * y) + x) &&& 31))), (0, .ref (10 + 3 * k)), (1, .int x), (2, .int y)], [.int 6, .int (nI (pb_cnt 16 N))], hp)) rfl ?_
      refine px_b2 false 28 rfl rfl (decide_eq_false (show ¬ nI (pb_cnt 16 N) < 6 by rw [Int32.lt_iff_toInt_lt, ec, e6]; omega)) ?_
      show px_Go _ _ (26, [(3, .int (1 <<< (((4 * y) + x) &&& 31))), (0, .ref (10 + 3 * k)), (1, .int x), (2, .int y)], [], hp) _
      refine px_a 1 (f' := (27, [(3, .int (1 <<< (((4 * y) + x) &&& 31))), (0, .ref (10 + 3 * k)), (1, .int x), (2, .int y)], [.int 0], hp)) rfl ?_
      exact px_ri rfl rfl rfl
theorem q_f : ∀ k, k < 6 → q_forms[(nI k).toNatClampNeg]? = some (.ref (10 + 3 * k)) := by
  intro k hk
  rcases (show k = 0 ∨ k = 1 ∨ k = 2 ∨ k = 3 ∨ k = 4 ∨ k = 5 by omega) with rfl | rfl | rfl | rfl | rfl | rfl <;> rfl
theorem x_form_o {d : Nat} {n : Nat} {hp : px_H} {W V : Nat} {fc fd : Int32} {sh : Int64} (hc : hp[(8 : Nat)]? = some (3, [.int (nI W), .int (nI V), .ref 9, .ref 28, .ref 29, .ref 30, .ref (34 + n), .int fc, .long sh, .int fd])) {p : Int32} (ho : p < 0 ∨ fc ≤ p) : px_Go d 49 (0, [(0, .ref 8), (1, .int p)], [], hp) (.inr "java/lang/ArrayIndexOutOfBoundsException", px_exc hp) := by
  by_cases h1 : p < 0
  ·
    refine px_a 1 (f' := (1, [(0, .ref 8), (1, .int p)], [.int p], hp)) rfl ?_
    refine px_b1 true 12 rfl rfl (decide_eq_true h1) ?_
    show px_Go _ _ (12, [(0, .ref 8), (1, .int p)], [], hp) _
    exact px_e rfl rfl
  · have h2 := ho.resolve_left h1
    refine px_a 1 (f' := (1, [(0, .ref 8), (1, .int p)], [.int p], hp)) rfl ?_
    refine px_b1 false 12 rfl rfl (decide_eq_false h1) ?_
    show px_Go _ _ (4, [(0, .ref 8), (1, .int p)], [], hp) _
    refine px_a 2 (f' := (6, [(0, .ref 8), (1, .int p)], [.ref 8, .int p], hp)) rfl ?_
    refine px_gf 8 72 3 7 (.int fc) rfl rfl hc rfl ?_
    show px_Go _ _ (9, [(0, .ref 8), (1, .int p)], [.int fc, .int p], hp) _
    refine px_b2 false 22 rfl rfl (decide_eq_false (Int32.not_lt.mpr h2)) ?_
    show px_Go _ _ (12, [(0, .ref 8), (1, .int p)], [], hp) _
    exact px_e rfl rfl
theorem x_form_i {d : Nat} {n : Nat} {hp : px_H} {W V : Nat} {fc fd : Int32} {sh : Int64} (hc : hp[(8 : Nat)]? = some (3, [.int (nI W), .int (nI V), .ref 9, .ref 28, .ref 29, .ref 30, .ref (34 + n), .int fc, .long sh, .int fd])) (h9 : hp[(9 : Nat)]? = some (13, q_forms)) {p : Int32} {k : Nat} (hk : k < 6) (ek : p = nI k) (ho : ¬ (p < 0 ∨ fc ≤ p)) : px_Go d 49 (0, [(0, .ref 8), (1, .int p)], [], hp) (.inl (some (.ref (10 + 3 * k))), hp) := by
  have h1 : ¬ p < 0 := fun z => ho (Or.inl z)
  have h2 : ¬ fc ≤ p := fun z => ho (Or.inr z)
  refine px_a 1 (f' := (1, [(0, .ref 8), (1, .int p)], [.int p], hp)) rfl ?_
  refine px_b1 false 12 rfl rfl (decide_eq_false h1) ?_
  show px_Go _ _ (4, [(0, .ref 8), (1, .int p)], [], hp) _
  refine px_a 2 (f' := (6, [(0, .ref 8), (1, .int p)], [.ref 8, .int p], hp)) rfl ?_
  refine px_gf 8 72 3 7 (.int fc) rfl rfl hc rfl ?_
  show px_Go _ _ (9, [(0, .ref 8), (1, .int p)], [.int fc, .int p], hp) _
  refine px_b2 true 22 rfl rfl (decide_eq_true (Int32.not_le.mp h2)) ?_
  show px_Go _ _ (22, [(0, .ref 8), (1, .int p)], [], hp) _
  refine px_a 1 (f' := (23, [(0, .ref 8), (1, .int p)], [.ref 8], hp)) rfl ?_
  refine px_gf 8 27 3 2 (.ref 9) rfl rfl hc rfl ?_
  show px_Go _ _ (26, [(0, .ref 8), (1, .int p)], [.ref 9], hp) _
  refine px_a 1 (f' := (27, [(0, .ref 8), (1, .int p)], [.int p, .ref 9], hp)) rfl ?_
  refine px_al 9 (.ref (10 + 3 * k)) rfl h9 (Or.inr (Or.inr (Or.inr ⟨rfl, Or.inl rfl⟩))) (h1) (by rw [ek]; exact q_f k hk) ?_
  show px_Go _ _ (28, [(0, .ref 8), (1, .int p)], [.ref (10 + 3 * k)], hp) _
  exact px_e rfl rfl
theorem q_xy : ∀ X, X < 4 → ∀ Y, Y < 4 → (1 : Int32) <<< ((4 * nI Y + nI X) &&& 31) = nI (2 ^ (4 * Y + X)) := by decide +kernel
theorem q_in {x : Int32} {m : Nat} (hm : m < 100) (h1 : ¬ x < 0) (h2 : ¬ nI m ≤ x) : ∃ X, X < m ∧ x = nI X := by
  have e0 : (0 : Int32).toInt = 0 := rfl
  have em : (nI m).toInt = m := nI_toInt (by omega)
  rw [Int32.lt_iff_toInt_lt] at h1
  rw [Int32.le_iff_toInt_le] at h2
  refine ⟨x.toInt.toNat, by omega, ?_⟩
  apply Int32.toInt_inj.mp
  rw [nI_toInt (by omega)]
  omega
set_option maxRecDepth 20000 in
theorem x_square {d n : Nat} (hN : pa_N n) {hp : px_H} (H : pa_Hi n hp) {W V : Nat} {fc fd : Int32} {sh : Int64} (hc : hp[(8 : Nat)]? = some (3, [.int (nI W), .int (nI V), .ref 9, .ref 28, .ref 29, .ref 30, .ref (34 + n), .int fc, .long sh, .int fd])) (h9 : hp[(9 : Nat)]? = some (13, q_forms)) (hF : fc.toInt ≤ 6) (P : ∀ k, k < 6 → ∃ N, N < 65536 ∧ pa_fd hp (10 + 3 * k) 4 = some (.int (nI N)) ∧ pb_cnt 16 N ≤ 6) {p x y : Int32} : px_Gx (d + 4) 64 (0, [(0, .ref 8), (1, .int p), (2, .int x), (3, .int y)], [], hp) (fun o hp' => ((p < 0 ∨ fc ≤ p) ∧ o = .inr "java/lang/ArrayIndexOutOfBoundsException" ∧ hp' = px_exc hp) ∨ (¬ (p < 0 ∨ fc ≤ p) ∧ (x < 0 ∨ 4 ≤ x ∨ y < 0 ∨ 4 ≤ y) ∧ o = .inr "java/lang/IllegalArgumentException" ∧ hp' = px_exc hp) ∨ (¬ (p < 0 ∨ fc ≤ p) ∧ ¬ (x < 0 ∨ 4 ≤ x ∨ y < 0 ∨ 4 ≤ y) ∧ ∃ k X Y N, k < 6 ∧ X < 4 ∧ Y < 4 ∧ p = nI k ∧ x = nI X ∧ y = nI Y ∧ N < 65536 ∧ pa_fd hp (10 + 3 * k) 4 = some (.int (nI N)) ∧ (((N.testBit (4 * Y + X) = true ∨ 6 ≤ pb_cnt 16 N) ∧ o = .inl (some (.int 0)) ∧ hp' = hp) ∨ (N.testBit (4 * Y + X) = false ∧ pb_cnt 16 N < 6 ∧ o = .inl (some (.int 1)) ∧ ∀ j, j < 6 → pa_fd hp' (10 + 3 * j) 4 = if j = k then some (.int (nI (N ||| 2 ^ (4 * Y + X)))) else pa_fd hp (10 + 3 * j) 4)))) := by
  by_cases ho : p < 0 ∨ fc ≤ p
  · refine ⟨_, px_exc hp, ?_, Or.inl ⟨ho, rfl, rfl⟩⟩
    refine px_a 2 (f' := (2, [(0, .ref 8), (1, .int p), (2, .int x), (3, .int y)], [.int p, .ref 8], hp)) rfl ?_
    exact px_cvt 8 (as := [.int p]) (rest := []) rfl rfl hc rfl rfl rfl rfl (Nat.le_of_ble_eq_true rfl) (x_form_o (d := d + 3) hc ho) (px_hdn (by decide)) rfl
  obtain ⟨k, hk, ek⟩ : ∃ k, k < 6 ∧ p = nI k := by
    refine q_in (m := 6) (by decide) (fun z => ho (Or.inl z)) (fun z => ho (Or.inr ?_))
    rw [Int32.le_iff_toInt_le] at z ⊢
    have : (nI 6).toInt = 6 := rfl
    omega
  by_cases hO : (x < 0 ∨ 4 ≤ x ∨ y < 0 ∨ 4 ≤ y)
  · refine ⟨.inr "java/lang/IllegalArgumentException", px_exc hp, ?_, Or.inr (Or.inl ⟨ho, hO, rfl, rfl⟩)⟩
    by_cases h1 : x < 0
    ·
      refine px_a 2 (f' := (2, [(0, .ref 8), (1, .int p), (2, .int x), (3, .int y)], [.int p, .ref 8], hp)) rfl ?_
      refine px_cv 8 (as := [.int p]) (rest := []) rfl rfl hc rfl rfl rfl rfl (Nat.le_of_ble_eq_true rfl) (x_form_i (d := d + 3) hc h9 hk ek ho) ?_
      show px_Go _ _ (5, [(0, .ref 8), (1, .int p), (2, .int x), (3, .int y)], [.ref (10 + 3 * k)], hp) _
      refine px_a 2 (f' := (8, [(4, .ref (10 + 3 * k)), (0, .ref 8), (1, .int p), (2, .int x), (3, .int y)], [.int x], hp)) rfl ?_
      refine px_b1 true 25 rfl rfl (decide_eq_true h1) ?_
      show px_Go _ _ (25, [(4, .ref (10 + 3 * k)), (0, .ref 8), (1, .int p), (2, .int x), (3, .int y)], [], hp) _
      exact px_e rfl rfl
    by_cases h2 : 4 ≤ x
    ·
      refine px_a 2 (f' := (2, [(0, .ref 8), (1, .int p), (2, .int x), (3, .int y)], [.int p, .ref 8], hp)) rfl ?_
      refine px_cv 8 (as := [.int p]) (rest := []) rfl rfl hc rfl rfl rfl rfl (Nat.le_of_ble_eq_true rfl) (x_form_i (d := d + 3) hc h9 hk ek ho) ?_
      show px_Go _ _ (5, [(0, .ref 8), (1, .int p), (2, .int x), (3, .int y)], [.ref (10 + 3 * k)], hp) _
      refine px_a 2 (f' := (8, [(4, .ref (10 + 3 * k)), (0, .ref 8), (1, .int p), (2, .int x), (3, .int y)], [.int x], hp)) rfl ?_
      refine px_b1 false 25 rfl rfl (decide_eq_false h1) ?_
      show px_Go _ _ (11, [(4, .ref (10 + 3 * k)), (0, .ref 8), (1, .int p), (2, .int x), (3, .int y)], [], hp) _
      refine px_a 2 (f' := (13, [(4, .ref (10 + 3 * k)), (0, .ref 8), (1, .int p), (2, .int x), (3, .int y)], [.int 4, .int x], hp)) rfl ?_
      refine px_b2 true 25 rfl rfl (decide_eq_true h2) ?_
      show px_Go _ _ (25, [(4, .ref (10 + 3 * k)), (0, .ref 8), (1, .int p), (2, .int x), (3, .int y)], [], hp) _
      exact px_e rfl rfl
    by_cases h3 : y < 0
    ·
      refine px_a 2 (f' := (2, [(0, .ref 8), (1, .int p), (2, .int x), (3, .int y)], [.int p, .ref 8], hp)) rfl ?_
      refine px_cv 8 (as := [.int p]) (rest := []) rfl rfl hc rfl rfl rfl rfl (Nat.le_of_ble_eq_true rfl) (x_form_i (d := d + 3) hc h9 hk ek ho) ?_
      show px_Go _ _ (5, [(0, .ref 8), (1, .int p), (2, .int x), (3, .int y)], [.ref (10 + 3 * k)], hp) _
      refine px_a 2 (f' := (8, [(4, .ref (10 + 3 * k)), (0, .ref 8), (1, .int p), (2, .int x), (3, .int y)], [.int x], hp)) rfl ?_
      refine px_b1 false 25 rfl rfl (decide_eq_false h1) ?_
      show px_Go _ _ (11, [(4, .ref (10 + 3 * k)), (0, .ref 8), (1, .int p), (2, .int x), (3, .int y)], [], hp) _
      refine px_a 2 (f' := (13, [(4, .ref (10 + 3 * k)), (0, .ref 8), (1, .int p), (2, .int x), (3, .int y)], [.int 4, .int x], hp)) rfl ?_
      refine px_b2 false 25 rfl rfl (decide_eq_false h2) ?_
      show px_Go _ _ (16, [(4, .ref (10 + 3 * k)), (0, .ref 8), (1, .int p), (2, .int x), (3, .int y)], [], hp) _
      refine px_a 1 (f' := (17, [(4, .ref (10 + 3 * k)), (0, .ref 8), (1, .int p), (2, .int x), (3, .int y)], [.int y], hp)) rfl ?_
      refine px_b1 true 25 rfl rfl (decide_eq_true h3) ?_
      show px_Go _ _ (25, [(4, .ref (10 + 3 * k)), (0, .ref 8), (1, .int p), (2, .int x), (3, .int y)], [], hp) _
      exact px_e rfl rfl
    by_cases h4 : 4 ≤ y
    ·
      refine px_a 2 (f' := (2, [(0, .ref 8), (1, .int p), (2, .int x), (3, .int y)], [.int p, .ref 8], hp)) rfl ?_
      refine px_cv 8 (as := [.int p]) (rest := []) rfl rfl hc rfl rfl rfl rfl (Nat.le_of_ble_eq_true rfl) (x_form_i (d := d + 3) hc h9 hk ek ho) ?_
      show px_Go _ _ (5, [(0, .ref 8), (1, .int p), (2, .int x), (3, .int y)], [.ref (10 + 3 * k)], hp) _
      refine px_a 2 (f' := (8, [(4, .ref (10 + 3 * k)), (0, .ref 8), (1, .int p), (2, .int x), (3, .int y)], [.int x], hp)) rfl ?_
      refine px_b1 false 25 rfl rfl (decide_eq_false h1) ?_
      show px_Go _ _ (11, [(4, .ref (10 + 3 * k)), (0, .ref 8), (1, .int p), (2, .int x), (3, .int y)], [], hp) _
      refine px_a 2 (f' := (13, [(4, .ref (10 + 3 * k)), (0, .ref 8), (1, .int p), (2, .int x), (3, .int y)], [.int 4, .int x], hp)) rfl ?_
      refine px_b2 false 25 rfl rfl (decide_eq_false h2) ?_
      show px_Go _ _ (16, [(4, .ref (10 + 3 * k)), (0, .ref 8), (1, .int p), (2, .int x), (3, .int y)], [], hp) _
      refine px_a 1 (f' := (17, [(4, .ref (10 + 3 * k)), (0, .ref 8), (1, .int p), (2, .int x), (3, .int y)], [.int y], hp)) rfl ?_
      refine px_b1 false 25 rfl rfl (decide_eq_false h3) ?_
      show px_Go _ _ (20, [(4, .ref (10 + 3 * k)), (0, .ref 8), (1, .int p), (2, .int x), (3, .int y)], [], hp) _
      refine px_a 2 (f' := (22, [(4, .ref (10 + 3 * k)), (0, .ref 8), (1, .int p), (2, .int x), (3, .int y)], [.int 4, .int y], hp)) rfl ?_
      refine px_b2 false 35 rfl rfl (decide_eq_false (Int32.not_lt.mpr h4)) ?_
      show px_Go _ _ (25, [(4, .ref (10 + 3 * k)), (0, .ref 8), (1, .int p), (2, .int x), (3, .int y)], [], hp) _
      exact px_e rfl rfl
    exact absurd hO (fun z => z.elim h1 (fun z => z.elim h2 (fun z => z.elim h3 h4)))
  have h1 : ¬ x < 0 := fun z => hO (Or.inl z)
  have h2 : ¬ 4 ≤ x := fun z => hO (Or.inr (Or.inl z))
  have h3 : ¬ y < 0 := fun z => hO (Or.inr (Or.inr (Or.inl z)))
  have h4 : ¬ 4 ≤ y := fun z => hO (Or.inr (Or.inr (Or.inr z)))
  obtain ⟨X, hX, eX⟩ := q_in (m := 4) (by decide) h1 h2
  obtain ⟨Y, hY, eY⟩ := q_in (m := 4) (by decide) h3 h4
  obtain ⟨N, h16, fN, c6⟩ := P k hk
  obtain ⟨gw, gh, wc, sc, ss, b1, b2, hf⟩ := x_form H hk fN
  obtain ⟨o, hp1, g, hx⟩ := x_take (d := d) hN H (x := x) (y := y) (q := 4 * Y + X) hk h16 (by omega) c6 (by rw [eX, eY]; exact q_xy X hX Y hY) hf
  rcases hx with ⟨t1, rfl, e1⟩ | ⟨t1, t2, rfl, t3⟩
  · rw [e1] at g
    refine ⟨_, hp, ?_, Or.inr (Or.inr ⟨ho, hO, k, X, Y, N, hk, hX, hY, ek, eX, eY, h16, fN, Or.inl ⟨t1, rfl, rfl⟩⟩)⟩
    refine px_a 2 (f' := (2, [(0, .ref 8), (1, .int p), (2, .int x), (3, .int y)], [.int p, .ref 8], hp)) rfl ?_
    refine px_cv 8 (as := [.int p]) (rest := []) rfl rfl hc rfl rfl rfl rfl (Nat.le_of_ble_eq_true rfl) (x_form_i (d := d + 3) hc h9 hk ek ho) ?_
    show px_Go _ _ (5, [(0, .ref 8), (1, .int p), (2, .int x), (3, .int y)], [.ref (10 + 3 * k)], hp) _
    refine px_a 2 (f' := (8, [(4, .ref (10 + 3 * k)), (0, .ref 8), (1, .int p), (2, .int x), (3, .int y)], [.int x], hp)) rfl ?_
    refine px_b1 false 25 rfl rfl (decide_eq_false h1) ?_
    show px_Go _ _ (11, [(4, .ref (10 + 3 * k)), (0, .ref 8), (1, .int p), (2, .int x), (3, .int y)], [], hp) _
    refine px_a 2 (f' := (13, [(4, .ref (10 + 3 * k)), (0, .ref 8), (1, .int p), (2, .int x), (3, .int y)], [.int 4, .int x], hp)) rfl ?_
    refine px_b2 false 25 rfl rfl (decide_eq_false h2) ?_
    show px_Go _ _ (16, [(4, .ref (10 + 3 * k)), (0, .ref 8), (1, .int p), (2, .int x), (3, .int y)], [], hp) _
    refine px_a 1 (f' := (17, [(4, .ref (10 + 3 * k)), (0, .ref 8), (1, .int p), (2, .int x), (3, .int y)], [.int y], hp)) rfl ?_
    refine px_b1 false 25 rfl rfl (decide_eq_false h3) ?_
    show px_Go _ _ (20, [(4, .ref (10 + 3 * k)), (0, .ref 8), (1, .int p), (2, .int x), (3, .int y)], [], hp) _
    refine px_a 2 (f' := (22, [(4, .ref (10 + 3 * k)), (0, .ref 8), (1, .int p), (2, .int x), (3, .int y)], [.int 4, .int y], hp)) rfl ?_
    refine px_b2 true 35 rfl rfl (decide_eq_true (Int32.not_le.mp h4)) ?_
    show px_Go _ _ (35, [(4, .ref (10 + 3 * k)), (0, .ref 8), (1, .int p), (2, .int x), (3, .int y)], [], hp) _
    refine px_a 3 (f' := (39, [(4, .ref (10 + 3 * k)), (0, .ref 8), (1, .int p), (2, .int x), (3, .int y)], [.int y, .int x, .ref (10 + 3 * k)], hp)) rfl ?_
    refine px_cv (10 + 3 * k) (as := [.int x, .int y]) (rest := []) rfl rfl hf rfl rfl rfl rfl (Nat.le_of_ble_eq_true rfl) (g) ?_
    show px_Go _ _ (42, [(4, .ref (10 + 3 * k)), (0, .ref 8), (1, .int p), (2, .int x), (3, .int y)], [.int 0], hp) _
    refine px_a 2 (f' := (46, [(4, .ref (10 + 3 * k)), (0, .ref 8), (1, .int p), (2, .int x), (3, .int y)], [.int 0], hp)) rfl ?_
    exact px_ri rfl rfl rfl
  · obtain ⟨o2, hp2, g2, ⟨H2, G2, -⟩, -⟩ := (ct_32 hN).deep (d' := d + 3) (by omega) [.ref (10 + 3 * k), .int x, .int y] hp H ⟨⟨_, rfl, r10 hk, by decide⟩, pa_top_ok _, pa_top_ok _, trivial⟩
    have e2 := px_det g g2
    cases e2
    have hc1 := l_fo G2 hc (r := 8) rfl (by decide)
    refine ⟨_, (hp1.set 8 (3, [.int (nI W), .int (nI V), .ref 9, .ref 28, .ref 29, .ref 30, .ref (34 + n), .int fc, .long sh, .int 0])), ?_, Or.inr (Or.inr ⟨ho, hO, k, X, Y, N, hk, hX, hY, ek, eX, eY, h16, fN, Or.inr ⟨t1, t2, rfl, fun j hj => ?_⟩⟩)⟩
    rotate_left
    · rw [← t3 j hj]
      unfold pa_fd
      rw [List.getElem?_set_ne (by omega)]
    refine px_a 2 (f' := (2, [(0, .ref 8), (1, .int p), (2, .int x), (3, .int y)], [.int p, .ref 8], hp)) rfl ?_
    refine px_cv 8 (as := [.int p]) (rest := []) rfl rfl hc rfl rfl rfl rfl (Nat.le_of_ble_eq_true rfl) (x_form_i (d := d + 3) hc h9 hk ek ho) ?_
    show px_Go _ _ (5, [(0, .ref 8), (1, .int p), (2, .int x), (3, .int y)], [.ref (10 + 3 * k)], hp) _
    refine px_a 2 (f' := (8, [(4, .ref (10 + 3 * k)), (0, .ref 8), (1, .int p), (2, .int x), (3, .int y)], [.int x], hp)) rfl ?_
    refine px_b1 false 25 rfl rfl (decide_eq_false h1) ?_
    show px_Go _ _ (11, [(4, .ref (10 + 3 * k)), (0, .ref 8), (1, .int p), (2, .int x), (3, .int y)], [], hp) _
    refine px_a 2 (f' := (13, [(4, .ref (10 + 3 * k)), (0, .ref 8), (1, .int p), (2, .int x), (3, .int y)], [.int 4, .int x], hp)) rfl ?_
    refine px_b2 false 25 rfl rfl (decide_eq_false h2) ?_
    show px_Go _ _ (16, [(4, .ref (10 + 3 * k)), (0, .ref 8), (1, .int p), (2, .int x), (3, .int y)], [], hp) _
    refine px_a 1 (f' := (17, [(4, .ref (10 + 3 * k)), (0, .ref 8), (1, .int p), (2, .int x), (3, .int y)], [.int y], hp)) rfl ?_
    refine px_b1 false 25 rfl rfl (decide_eq_false h3) ?_
    show px_Go _ _ (20, [(4, .ref (10 + 3 * k)), (0, .ref 8), (1, .int p), (2, .int x), (3, .int y)], [], hp) _
    refine px_a 2 (f' := (22, [(4, .ref (10 + 3 * k)), (0, .ref 8), (1, .int p), (2, .int x), (3, .int y)], [.int 4, .int y], hp)) rfl ?_
    refine px_b2 true 35 rfl rfl (decide_eq_true (Int32.not_le.mp h4)) ?_
    show px_Go _ _ (35, [(4, .ref (10 + 3 * k)), (0, .ref 8), (1, .int p), (2, .int x), (3, .int y)], [], hp) _
    refine px_a 3 (f' := (39, [(4, .ref (10 + 3 * k)), (0, .ref 8), (1, .int p), (2, .int x), (3, .int y)], [.int y, .int x, .ref (10 + 3 * k)], hp)) rfl ?_
    refine px_cv (10 + 3 * k) (as := [.int x, .int y]) (rest := []) rfl rfl hf rfl rfl rfl rfl (Nat.le_of_ble_eq_true rfl) (g) ?_
    show px_Go _ _ (42, [(4, .ref (10 + 3 * k)), (0, .ref 8), (1, .int p), (2, .int x), (3, .int y)], [.int 1], hp1) _
    refine px_a 3 (f' := (49, [(4, .ref (10 + 3 * k)), (0, .ref 8), (1, .int p), (2, .int x), (3, .int y)], [.int 0, .ref 8], hp1)) rfl ?_
    refine px_pf 8 68 3 9 rfl rfl hc1 (by omega) (by simp) rfl rfl (by decide) ?_
    have hf1_8 : (hp1.set 8 (3, [.int (nI W), .int (nI V), .ref 9, .ref 28, .ref 29, .ref 30, .ref (34 + n), .int fc, .long sh, .int 0]))[(8 : Nat)]? = some (3, [.int (nI W), .int (nI V), .ref 9, .ref 28, .ref 29, .ref 30, .ref (34 + n), .int fc, .long sh, .int 0]) := px_self hc1
    show px_Go _ _ (52, [(4, .ref (10 + 3 * k)), (0, .ref 8), (1, .int p), (2, .int x), (3, .int y)], [], (hp1.set 8 (3, [.int (nI W), .int (nI V), .ref 9, .ref 28, .ref 29, .ref 30, .ref (34 + n), .int fc, .long sh, .int 0]))) _
    refine px_a 1 (f' := (53, [(4, .ref (10 + 3 * k)), (0, .ref 8), (1, .int p), (2, .int x), (3, .int y)], [.int 1], (hp1.set 8 (3, [.int (nI W), .int (nI V), .ref 9, .ref 28, .ref 29, .ref 30, .ref (34 + n), .int fc, .long sh, .int 0])))) rfl ?_
    exact px_ri rfl rfl rfl
