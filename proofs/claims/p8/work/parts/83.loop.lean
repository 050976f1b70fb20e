theorem px_k6 (x : Int32) : ∃ W : Nat, 1 ≤ W ∧ W ≤ 6 ∧ (if 1 < (if x < 6 then x else 6) then (if x < 6 then x else 6) else 1) = nI W ∧ (if 1 ≤ x then (if x ≤ 6 then x else 6) else 1) = nI W := by
  rcases pk_ix x (n := 7) (by decide) with h | h | ⟨j, hj, rfl⟩
  · have h1 : x < 6 := by
      rw [Int32.lt_iff_toInt_lt] at h ⊢
      have e0 : (0 : Int32).toInt = 0 := rfl
      have e6 : (6 : Int32).toInt = 6 := rfl
      omega
    have h2 : ¬ 1 < x := by
      rw [Int32.lt_iff_toInt_lt] at h ⊢
      have e0 : (0 : Int32).toInt = 0 := rfl
      have e6 : (1 : Int32).toInt = 1 := rfl
      omega
    have h3 : ¬ 1 ≤ x := by
      rw [Int32.le_iff_toInt_le]
      rw [Int32.lt_iff_toInt_lt] at h
      have e0 : (0 : Int32).toInt = 0 := rfl
      have e6 : (1 : Int32).toInt = 1 := rfl
      omega
    refine ⟨1, by omega, by omega, ?_, ?_⟩
    · rw [if_pos h1, if_neg h2]; rfl
    · rw [if_neg h3]; rfl
  · have e7 : (nI 7).toInt = 7 := rfl
    have e6 : (6 : Int32).toInt = 6 := rfl
    have e1 : (1 : Int32).toInt = 1 := rfl
    rw [Int32.le_iff_toInt_le] at h
    have h1 : ¬ x < 6 := by rw [Int32.lt_iff_toInt_lt]; omega
    have h2 : 1 ≤ x := by rw [Int32.le_iff_toInt_le]; omega
    have h3 : ¬ x ≤ 6 := by rw [Int32.le_iff_toInt_le]; omega
    refine ⟨6, by omega, by omega, ?_, ?_⟩
    · rw [if_neg h1]; rfl
    · rw [if_pos h2, if_neg h3]; rfl
  · rcases (show j = 0 ∨ j = 1 ∨ j = 2 ∨ j = 3 ∨ j = 4 ∨ j = 5 ∨ j = 6 by omega) with rfl | rfl | rfl | rfl | rfl | rfl | rfl
    · exact ⟨1, by omega, by omega, rfl, rfl⟩
    · exact ⟨1, by omega, by omega, rfl, rfl⟩
    · exact ⟨2, by omega, by omega, rfl, rfl⟩
    · exact ⟨3, by omega, by omega, rfl, rfl⟩
    · exact ⟨4, by omega, by omega, rfl, rfl⟩
    · exact ⟨5, by omega, by omega, rfl, rfl⟩
    · exact ⟨6, by omega, by omega, rfl, rfl⟩
set_option maxRecDepth 20000 in
set_option maxHeartbeats 4000000 in
theorem l_loop {n : Nat} (hN : pa_N n) {L S0 : Nat} {xs : Nat → Int32} (hL : L ≤ 10000) : ∀ (m I : Nat) (hp : px_H), L + 4 ≤ I + 4 * m → I ≤ L + 4 → l_In n L xs S0 hp I → l_R n hp → px_Gx 12 6 (43, [(4, .int (nI I)), (3, .ref (52 + n)), (2, .ref (38 + n)), (1, .ref 8), (0, .ref 0)], [], hp) (fun o hp' => o = .inl (some (.int 1)) ∧ hp'.length ≤ 100 + (L + 4) ∧ px_sz hp' ≤ S0 + 6 * (L + 4)) := by
  intro m
  induction m with
  | zero =>
    intro I hp h1 h2 In R
    refine px_gx (fun _ K => px_a 2 (f' := (46, [(4, .int (nI I)), (3, .ref (52 + n)), (2, .ref (38 + n)), (1, .ref 8), (0, .ref 0)], [.ref 0, .int (nI I)], hp)) rfl K) ?_
    refine px_gx (fun _ K => px_len_ 0 rfl In.2.1 (by decide) (by decide) K) ?_
    rw [show (px_s0 L xs).length.toInt32 = nI L by rw [px_s0_len]; rfl]
    refine px_gx (fun _ K => px_a 2 (f' := (49, [(4, .int (nI I)), (3, .ref (52 + n)), (2, .ref (38 + n)), (1, .ref 8), (0, .ref 0)], [.int (nI L - 4), .int (nI I)], hp)) rfl K) ?_
    refine px_gx (fun _ K => px_b2 true 660 rfl rfl (decide_eq_true ((l_gt hL (by omega)).mpr (by omega))) K) ?_
    show px_Gx _ _ (660, [(4, .int (nI I)), (3, .ref (52 + n)), (2, .ref (38 + n)), (1, .ref 8), (0, .ref 0)], [], hp) _
    refine px_gx (fun _ K => px_a 1 (f' := (661, [(4, .int (nI I)), (3, .ref (52 + n)), (2, .ref (38 + n)), (1, .ref 8), (0, .ref 0)], [.int 1], hp)) rfl K) ?_
    obtain ⟨h5, h6, h7, h8⟩ := In
    exact ⟨_, _, px_ri rfl rfl rfl, rfl, by omega, by omega⟩
  | succ m ih =>
    intro I hp h1 h2 In R
    refine px_gx (fun _ K => px_a 2 (f' := (46, [(4, .int (nI I)), (3, .ref (52 + n)), (2, .ref (38 + n)), (1, .ref 8), (0, .ref 0)], [.ref 0, .int (nI I)], hp)) rfl K) ?_
    refine px_gx (fun _ K => px_len_ 0 rfl In.2.1 (by decide) (by decide) K) ?_
    rw [show (px_s0 L xs).length.toInt32 = nI L by rw [px_s0_len]; rfl]
    refine px_gx (fun _ K => px_a 2 (f' := (49, [(4, .int (nI I)), (3, .ref (52 + n)), (2, .ref (38 + n)), (1, .ref 8), (0, .ref 0)], [.int (nI L - 4), .int (nI I)], hp)) rfl K) ?_
    by_cases hg : L < I + 4
    · refine px_gx (fun _ K => px_b2 true 660 rfl rfl (decide_eq_true ((l_gt hL (by omega)).mpr hg)) K) ?_
      show px_Gx _ _ (660, [(4, .int (nI I)), (3, .ref (52 + n)), (2, .ref (38 + n)), (1, .ref 8), (0, .ref 0)], [], hp) _
      refine px_gx (fun _ K => px_a 1 (f' := (661, [(4, .int (nI I)), (3, .ref (52 + n)), (2, .ref (38 + n)), (1, .ref 8), (0, .ref 0)], [.int 1], hp)) rfl K) ?_
      obtain ⟨h5, h6, h7, h8⟩ := In
      exact ⟨_, _, px_ri rfl rfl rfl, rfl, by omega, by omega⟩
    · refine px_gx (fun _ K => px_b2 false 660 rfl rfl (decide_eq_false (fun z => hg ((l_gt hL (by omega)).mp z))) K) ?_
      show px_Gx _ _ (52, [(4, .int (nI I)), (3, .ref (52 + n)), (2, .ref (38 + n)), (1, .ref 8), (0, .ref 0)], [], hp) _
      refine px_gx (fun _ K => px_a 2 (f' := (55, [(4, .int (nI I)), (3, .ref (52 + n)), (2, .ref (38 + n)), (1, .ref 8), (0, .ref 0)], [.int (nI I), .ref 0], hp)) rfl K) ?_
      refine l_ld0 rfl In.2.1 (by omega) hL ?_
      show px_Gx _ _ (56, [(4, .int (nI I)), (3, .ref (52 + n)), (2, .ref (38 + n)), (1, .ref 8), (0, .ref 0)], [.int (xs I)], hp) _
      refine px_gx (fun _ K => px_a 2 (f' := (59, [(4, .int (nI I)), (3, .ref (52 + n)), (2, .ref (38 + n)), (1, .ref 8), (0, .ref 0)], [.int (xs I &&& 15)], hp)) rfl K) ?_
      obtain ⟨j, hj, hop⟩ := pk_andE (xs I) (m := 15) 4 rfl
      rw [hop]
      have KK : ∀ hp1, l_In n L xs S0 hp1 (I + 1) → l_R n hp1 → px_Gx 12 6 (43, [(4, .int (nI (I + 4))), (3, .ref (52 + n)), (2, .ref (38 + n)), (1, .ref 8), (0, .ref 0)], [], hp1) (fun o hp' => o = .inl (some (.int 1)) ∧ hp'.length ≤ 100 + (L + 4) ∧ px_sz hp' ≤ S0 + 6 * (L + 4)) := fun hp1 i1 r1 => ih (I + 4) hp1 (by omega) (by omega) (i1.up (by omega)) r1
      rcases (show j = 0 ∨ j = 1 ∨ j = 2 ∨ j = 3 ∨ j = 4 ∨ j = 5 ∨ j = 6 ∨ j = 7 ∨ j = 8 ∨ j = 9 ∨ j = 10 ∨ j = 11 ∨ j = 12 ∨ j = 13 ∨ j = 14 ∨ j = 15 by omega) with rfl | rfl | rfl | rfl | rfl | rfl | rfl | rfl | rfl | rfl | rfl | rfl | rfl | rfl | rfl | rfl
      · refine px_gx (fun _ K => px_a 1 (f' := (136, [(4, .int (nI I)), (3, .ref (52 + n)), (2, .ref (38 + n)), (1, .ref 8), (0, .ref 0)], [], hp)) rfl K) ?_
        exact l_case_0 hN hL (by omega) In R KK
      · refine px_gx (fun _ K => px_a 1 (f' := (204, [(4, .int (nI I)), (3, .ref (52 + n)), (2, .ref (38 + n)), (1, .ref 8), (0, .ref 0)], [], hp)) rfl K) ?_
        exact l_case_1 hN hL (by omega) In R KK
      · refine px_gx (fun _ K => px_a 1 (f' := (217, [(4, .int (nI I)), (3, .ref (52 + n)), (2, .ref (38 + n)), (1, .ref 8), (0, .ref 0)], [], hp)) rfl K) ?_
        exact l_case_2 hN hL (by omega) In R KK
      · refine px_gx (fun _ K => px_a 1 (f' := (269, [(4, .int (nI I)), (3, .ref (52 + n)), (2, .ref (38 + n)), (1, .ref 8), (0, .ref 0)], [], hp)) rfl K) ?_
        exact l_case_3 hN hL (by omega) In R KK
      · refine px_gx (fun _ K => px_a 1 (f' := (297, [(4, .int (nI I)), (3, .ref (52 + n)), (2, .ref (38 + n)), (1, .ref 8), (0, .ref 0)], [], hp)) rfl K) ?_
        exact l_case_4 hN hL (by omega) In R KK
      · refine px_gx (fun _ K => px_a 1 (f' := (349, [(4, .int (nI I)), (3, .ref (52 + n)), (2, .ref (38 + n)), (1, .ref 8), (0, .ref 0)], [], hp)) rfl K) ?_
        exact l_case_5 hN hL (by omega) In R KK
      · refine px_gx (fun _ K => px_a 1 (f' := (362, [(4, .int (nI I)), (3, .ref (52 + n)), (2, .ref (38 + n)), (1, .ref 8), (0, .ref 0)], [], hp)) rfl K) ?_
        exact l_case_6 hN hL (by omega) In R KK
      · refine px_gx (fun _ K => px_a 1 (f' := (387, [(4, .int (nI I)), (3, .ref (52 + n)), (2, .ref (38 + n)), (1, .ref 8), (0, .ref 0)], [], hp)) rfl K) ?_
        exact l_case_7 hN hL (by omega) In R KK
      · refine px_gx (fun _ K => px_a 1 (f' := (427, [(4, .int (nI I)), (3, .ref (52 + n)), (2, .ref (38 + n)), (1, .ref 8), (0, .ref 0)], [], hp)) rfl K) ?_
        exact l_case_8 hN hL (by omega) In R KK
      · refine px_gx (fun _ K => px_a 1 (f' := (452, [(4, .int (nI I)), (3, .ref (52 + n)), (2, .ref (38 + n)), (1, .ref 8), (0, .ref 0)], [], hp)) rfl K) ?_
        exact l_case_9 hN hL (by omega) In R KK
      · refine px_gx (fun _ K => px_a 1 (f' := (504, [(4, .int (nI I)), (3, .ref (52 + n)), (2, .ref (38 + n)), (1, .ref 8), (0, .ref 0)], [], hp)) rfl K) ?_
        exact l_case_10 hN hL (by omega) In R KK
      · refine px_gx (fun _ K => px_a 1 (f' := (517, [(4, .int (nI I)), (3, .ref (52 + n)), (2, .ref (38 + n)), (1, .ref 8), (0, .ref 0)], [], hp)) rfl K) ?_
        exact l_case_11 hN hL (by omega) In R KK
      · refine px_gx (fun _ K => px_a 1 (f' := (542, [(4, .int (nI I)), (3, .ref (52 + n)), (2, .ref (38 + n)), (1, .ref 8), (0, .ref 0)], [], hp)) rfl K) ?_
        exact l_case_12 hN hL (by omega) In R KK
      · refine px_gx (fun _ K => px_a 1 (f' := (567, [(4, .int (nI I)), (3, .ref (52 + n)), (2, .ref (38 + n)), (1, .ref 8), (0, .ref 0)], [], hp)) rfl K) ?_
        exact l_case_13 hN hL (by omega) In R KK
      · refine px_gx (fun _ K => px_a 1 (f' := (592, [(4, .int (nI I)), (3, .ref (52 + n)), (2, .ref (38 + n)), (1, .ref 8), (0, .ref 0)], [], hp)) rfl K) ?_
        exact l_case_14 hN hL (by omega) In R KK
      · refine px_gx (fun _ K => px_a 1 (f' := (617, [(4, .int (nI I)), (3, .ref (52 + n)), (2, .ref (38 + n)), (1, .ref 8), (0, .ref 0)], [], hp)) rfl K) ?_
        exact l_case_15 hN hL (by omega) In R KK
theorem px_claim (L : Nat) (xs : Nat → Int32) (hL : L ≤ 2050) : ∃ (n : Nat) (hp' : px_H), px_run 12 n 6 0 [(0, .ref 0)] [] (px_h0 L xs) = some (.inl (some (.int 1)), hp') ∧ hp'.length ≤ 8 + 603072 ∧ px_sz hp' ≤ px_sz (px_h0 L xs) + 7206600 := by
  obtain ⟨W, hW1, hW6, hw1, hw2⟩ := px_k6 (px_x L xs 0)
  obtain ⟨V, hV1, hV6, hv1, hv2⟩ := px_k6 (px_x L xs 1)
  have hn : nI W * nI V = nI (W * V) := pk_mul W V
  have hn36 : W * V ≤ 36 := Nat.mul_le_mul hW6 hV6
  have hn1 : 1 ≤ W * V := Nat.mul_le_mul hW1 hV1
  obtain ⟨n, hnn⟩ : ∃ n, n = W * V := ⟨_, rfl⟩
  rw [← hnn] at hn hn36 hn1
  have hsz := f_sz (c0 := (20, px_s0 L xs)) (c1 := px_sarr 1) (c2 := px_sarr 2) (c3 := px_sarr 3) (c4 := px_sarr 4) (c5 := px_sarr 5) (c6 := px_sarr 6) (c7 := (30, [])) (w := nI W) (h := nI V) hn36
  have hln := f_len (c0 := (20, px_s0 L xs)) (c1 := px_sarr 1) (c2 := px_sarr 2) (c3 := px_sarr 3) (c4 := px_sarr 4) (c5 := px_sarr 5) (c6 := px_sarr 6) (c7 := (30, [])) (w := nI W) (h := nI V) (n := n)
  have H0 := l_Hi0 (L := L) (xs := xs) hW1 hW6 hV1 hV6 hnn hn1 hn36
  obtain ⟨o, hp', hG, rfl, h1, h2⟩ := l_loop ⟨hn1, hn36⟩ (L := L) (S0 := px_sz (px_H2 (20, px_s0 L xs) (px_sarr 1) (px_sarr 2) (px_sarr 3) (px_sarr 4) (px_sarr 5) (px_sarr 6) (30, []) (nI W) (nI V) n)) (xs := xs) (by omega) (L + 4) 2 _ (by omega) (by omega) ⟨H0, f_0, by rw [hln]; omega, by omega⟩ (l_R0 hW1 hW6 hV1 hV6 hnn (hn36 := hn36))
  have hS := l_setup (d := 10) (c1 := px_sarr 1) (c2 := px_sarr 2) (c3 := px_sarr 3) (c4 := px_sarr 4) (c5 := px_sarr 5) (c6 := px_sarr 6) (c7 := (30, [])) (L := L) (xs := xs) (by omega) hw1 hv1 hw2 hv2 hn hn36 hG
  obtain ⟨k, hk⟩ := hS
  have e0 : px_sz (px_h0 L xs) = px_sz [(20, px_s0 L xs), px_sarr 1, px_sarr 2, px_sarr 3, px_sarr 4, px_sarr 5, px_sarr 6, (30, [])] := rfl
  refine ⟨k, hp', hk, ?_, ?_⟩
  · omega
  · omega
