theorem px_cix {W V : Nat} {x y : Int32} (hW : W ≤ 6) (hV : V ≤ 6) (hx : ¬ (x < 0 ∨ nI W ≤ x ∨ y < 0 ∨ nI V ≤ y)) : ¬ (nI W * y + x) < 0 ∧ (nI W * y + x).toNatClampNeg < W * V := by
  rcases pk_ix x (n := W) (by omega) with h | h | ⟨X, hX, rfl⟩
  · exact absurd (Or.inl h) hx
  · exact absurd (Or.inr (Or.inl h)) hx
  · rcases pk_ix y (n := V) (by omega) with h | h | ⟨Y, hY, rfl⟩
    · exact absurd (Or.inr (Or.inr (Or.inl h))) hx
    · exact absurd (Or.inr (Or.inr (Or.inr h))) hx
    · have h1 : W * (Y + 1) ≤ W * V := Nat.mul_le_mul_left W hY
      have h2 : W * V ≤ 6 * 6 := Nat.mul_le_mul hW hV
      rw [Nat.mul_succ] at h1
      rw [pk_mul, nI_add, nI_clamp (by omega)]
      exact ⟨nI_pos (by omega), by omega⟩
theorem px_k6 (x : Int32) : ∃ W : Nat, 1 ≤ W ∧ W ≤ 6 ∧ (if 1 < (if x < 6 then x else 6) then (if x < 6 then x else 6) else 1) = nI W ∧ (if 1 ≤ x then (if x ≤ 6 then x else 6) else 1) = nI W := by
  rcases pk_ix x (n := 7) (by decide) with h | h | ⟨j, hj, rfl⟩
  · have h1 : x < 6 := by
      rw [Int32.lt_iff_toInt_lt] at h ⊢
      have e0 : (0 : Int32).toInt = 0 := rfl
      have e6 : (6 : Int32).toInt = 6 := rfl
      omega
    have h2 : ¬ 1 < x := by
      rw [Int32.lt_iff_toInt_lt] at h ⊢
      have e0 : (0 : Int32).toInt = 0 := rfl
      have e6 : (1 : Int32).toInt = 1 := rfl
      omega
    have h3 : ¬ 1 ≤ x := by
      rw [Int32.le_iff_toInt_le]
      rw [Int32.lt_iff_toInt_lt] at h
      have e0 : (0 : Int32).toInt = 0 := rfl
      have e6 : (1 : Int32).toInt = 1 := rfl
      omega
    refine ⟨1, by omega, by omega, ?_, ?_⟩
    · rw [if_pos h1, if_neg h2]; rfl
    · rw [if_neg h3]; rfl
  · have e7 : (nI 7).toInt = 7 := rfl
    have e6 : (6 : Int32).toInt = 6 := rfl
    have e1 : (1 : Int32).toInt = 1 := rfl
    rw [Int32.le_iff_toInt_le] at h
    have h1 : ¬ x < 6 := by rw [Int32.lt_iff_toInt_lt]; omega
    have h2 : 1 ≤ x := by rw [Int32.le_iff_toInt_le]; omega
    have h3 : ¬ x ≤ 6 := by rw [Int32.le_iff_toInt_le]; omega
    refine ⟨6, by omega, by omega, ?_, ?_⟩
    · rw [if_neg h1]; rfl
    · rw [if_pos h2, if_neg h3]; rfl
  · rcases (show j = 0 ∨ j = 1 ∨ j = 2 ∨ j = 3 ∨ j = 4 ∨ j = 5 ∨ j = 6 by omega) with rfl | rfl | rfl | rfl | rfl | rfl | rfl
    · exact ⟨1, by omega, by omega, rfl, rfl⟩
    · exact ⟨1, by omega, by omega, rfl, rfl⟩
    · exact ⟨2, by omega, by omega, rfl, rfl⟩
    · exact ⟨3, by omega, by omega, rfl, rfl⟩
    · exact ⟨4, by omega, by omega, rfl, rfl⟩
    · exact ⟨5, by omega, by omega, rfl, rfl⟩
    · exact ⟨6, by omega, by omega, rfl, rfl⟩
set_option maxRecDepth 20000 in
theorem i_all {n : Nat} {w h : Int32} {hp : px_H} {a0 a1 a2 a3 a4 a5 : Int32} (h0 : hp[(0 : Nat)]? = some (20, [.int a0, .int a1, .int a2, .int a3, .int a4, .int a5])) (hc : hp[(8 : Nat)]? = some (3, [.int w, .int h, .ref 9, .ref 28, .ref 29, .ref 30, .ref (34 + n), .int 0, .long 0, .int 0])) (hown : hp[(28 : Nat)]? = some (10, List.replicate n (Value.int 0))) (he : hp[(30 : Nat)]? = some (0, [.int (nI n), .ref 31, .ref (32 + n), .ref (33 + n), .int 2])) (hq2 : hp[32 + n]? = some (12, List.replicate n (Value.int 0))) (hq3 : hp[33 + n]? = some (10, List.replicate (n + 1) (Value.int 0))) (hou : hp[34 + n]? = some (2, [.int w, .int h, .ref (35 + n), .ref (36 + n), .ref (37 + n), .int 0, .int 0, .long 0])) (hm : hp[38 + n]? = some (4, [.int 0, .int w, .int h, .ref (39 + n), .int 0, .ref (40 + n), .ref (41 + n), .ref (42 + n), .int 0, .ref (43 + n), .ref (44 + n), .ref (45 + n), .ref (46 + n), .int 0, .ref (47 + n), .int 0, .ref (48 + n), .int 0, .ref (49 + n), .ref (50 + n), .ref (51 + n)])) (k0 : hp[39 + n]? = some (12, List.replicate 36 (Value.int 0))) (k1 : hp[40 + n]? = some (10, List.replicate 6 (Value.int 0))) (k3 : hp[42 + n]? = some (10, List.replicate 36 (Value.int 0))) (k5 : hp[44 + n]? = some (12, List.replicate 36 (Value.int 0))) (k7 : hp[46 + n]? = some (10, List.replicate 37 (Value.int 0))) (k12 : hp[51 + n]? = some (12, List.replicate 37 (Value.int 0))) (ho : hp[52 + n]? = some (11, [.long 0])) (hlm : 52 + n < hp.length) (hn : w * h = nI n) (hn36 : n ≤ 36) {W V : Nat} (hw : w = nI W) (hh : h = nI V) (hW : W ≤ 6) (hV : V ≤ 6) (hnn : n = W * V) : ∃ hp' : px_H, px_Go 12 6 (43, [(4, .int 2), (3, .ref (52 + n)), (2, .ref (38 + n)), (1, .ref 8), (0, .ref 0)], [], hp) (.inl (some (.int 1)), hp') ∧ hp'.length ≤ hp.length + 1 ∧ px_sz hp' ≤ px_sz hp + 6 := by
  obtain ⟨j, hj, hop⟩ := pk_andE a2 (m := 15) 4 rfl
  have hq : a3 < 0 ∨ 0 ≤ a3 := by
    by_cases z : a3 < 0
    · exact Or.inl z
    · exact Or.inr (Int32.not_lt.mp z)
  have hk : ¬ (a3 < 0 ∨ w ≤ a3 ∨ a4 < 0 ∨ h ≤ a4) → ¬ (w * a4 + a3) < 0 ∧ (w * a4 + a3).toNatClampNeg < n := by
    intro hx
    subst hw
    subst hh
    subst hnn
    exact px_cix hW hV hx
  rcases (show j = 0 ∨ j = 1 ∨ j = 2 ∨ j = 3 ∨ j = 4 ∨ j = 5 ∨ j = 6 ∨ j = 7 ∨ j = 8 ∨ j = 9 ∨ j = 10 ∨ j = 11 ∨ j = 12 ∨ j = 13 ∨ j = 14 ∨ j = 15 by omega) with rfl | rfl | rfl | rfl | rfl | rfl | rfl | rfl | rfl | rfl | rfl | rfl | rfl | rfl | rfl | rfl
  · by_cases hx : (a3 < 0 ∨ w ≤ a3 ∨ a4 < 0 ∨ h ≤ a4)
    · by_cases h5 : a5 = 0
      · exact i_cell_o0 h0 hc hown he hq2 hq3 hou hm k0 k1 k3 k5 k7 k12 ho hlm hn hn36 hop hx h5
      · exact i_cell_o1 h0 hc hown he hq2 hq3 hou hm k0 k1 k3 k5 k7 k12 ho hlm hn hn36 hop hx h5
    · by_cases h5 : a5 = 0
      · exact i_cell_i0 h0 hc hown he hq2 hq3 hou hm k0 k1 k3 k5 k7 k12 ho hlm hn hn36 hop hx (hk hx).1 (hk hx).2 h5
      · exact i_cell_i1 h0 hc hown he hq2 hq3 hou hm k0 k1 k3 k5 k7 k12 ho hlm hn hn36 hop hx (hk hx).1 (hk hx).2 h5
  · exact i_piece h0 hc hown he hq2 hq3 hou hm k0 k1 k3 k5 k7 k12 ho hlm hn hn36 hop 
  · exact i_square h0 hc hown he hq2 hq3 hou hm k0 k1 k3 k5 k7 k12 ho hlm hn hn36 hop hq
  · exact i_placements h0 hc hown he hq2 hq3 hou hm k0 k1 k3 k5 k7 k12 ho hlm hn hn36 hop hq
  · exact i_placement h0 hc hown he hq2 hq3 hou hm k0 k1 k3 k5 k7 k12 ho hlm hn hn36 hop hq
  · exact i_sizes h0 hc hown he hq2 hq3 hou hm k0 k1 k3 k5 k7 k12 ho hlm hn hn36 hop 
  · by_cases z0 : a3 = 2
    · exact i_colour_2 h0 hc hown he hq2 hq3 hou hm k0 k1 k3 k5 k7 k12 ho hlm hn hn36 hop z0
    · by_cases z1 : a3 = 3
      · exact i_colour_3 h0 hc hown he hq2 hq3 hou hm k0 k1 k3 k5 k7 k12 ho hlm hn hn36 hop z1
      · by_cases z2 : a3 = 5
        · exact i_colour_5 h0 hc hown he hq2 hq3 hou hm k0 k1 k3 k5 k7 k12 ho hlm hn hn36 hop z2
        · by_cases z3 : a3 = 7
          · exact i_colour_7 h0 hc hown he hq2 hq3 hou hm k0 k1 k3 k5 k7 k12 ho hlm hn hn36 hop z3
          · by_cases z4 : a3 = 11
            · exact i_colour_11 h0 hc hown he hq2 hq3 hou hm k0 k1 k3 k5 k7 k12 ho hlm hn hn36 hop z4
            · by_cases z5 : a3 = 13
              · exact i_colour_13 h0 hc hown he hq2 hq3 hou hm k0 k1 k3 k5 k7 k12 ho hlm hn hn36 hop z5
              · exact i_colour_n h0 hc hown he hq2 hq3 hou hm k0 k1 k3 k5 k7 k12 ho hlm hn hn36 hop z0 z1 z2 z3 z4 z5
  · by_cases hx : (a3 < 0 ∨ w ≤ a3 ∨ a4 < 0 ∨ h ≤ a4)
    · exact i_weight_o h0 hc hown he hq2 hq3 hou hm k0 k1 k3 k5 k7 k12 ho hlm hn hn36 hop hx
    · exact i_weight_n h0 hc hown he hq2 hq3 hou hm k0 k1 k3 k5 k7 k12 ho hlm hn hn36 hop hx
  · exact i_text h0 hc hown he hq2 hq3 hou hm k0 k1 k3 k5 k7 k12 ho hlm hn hn36 hop 
  · by_cases hx : (a3 < 0 ∨ w ≤ a3 ∨ a4 < 0 ∨ h ≤ a4)
    · exact i_own_o h0 hc hown he hq2 hq3 hou hm k0 k1 k3 k5 k7 k12 ho hlm hn hn36 hop hx
    · by_cases z1 : a5 < -99
      · exact i_own_1 h0 hc hown he hq2 hq3 hou hm k0 k1 k3 k5 k7 k12 ho hlm hn hn36 hop hx z1
      · by_cases z2 : a5 ≤ 99
        · exact i_own_3 h0 hc hown he hq2 hq3 hou hm k0 k1 k3 k5 k7 k12 ho hlm hn hn36 hop hx (hk hx).1 (hk hx).2 z1 z2
        · exact i_own_2 h0 hc hown he hq2 hq3 hou hm k0 k1 k3 k5 k7 k12 ho hlm hn hn36 hop hx z1 z2
  · exact i_sum h0 hc hown he hq2 hq3 hou hm k0 k1 k3 k5 k7 k12 ho hlm hn hn36 hop 
  · by_cases z1 : 2 ≤ a3
    · exact i_bad_2 h0 hc hown he hq2 hq3 hou hm k0 k1 k3 k5 k7 k12 ho hlm hn hn36 hop z1
    · exact i_bad_1 h0 hc hown he hq2 hq3 hou hm k0 k1 k3 k5 k7 k12 ho hlm hn hn36 hop z1
  · have e2 : (2 : Int32).toInt = 2 := rfl
    have e1 : (1 : Int32).toInt = 1 := rfl
    have e0 : (0 : Int32).toInt = 0 := rfl
    by_cases z1 : 2 ≤ a3
    · have z1' := z1
      rw [Int32.le_iff_toInt_le] at z1'
      exact i_proves_2 h0 hc hown he hq2 hq3 hou hm k0 k1 k3 k5 k7 k12 ho hlm hn hn36 hop z1 (by rw [Int32.le_iff_toInt_le]; omega) (fun z => by rw [z] at z1'; omega)
    · have z1' := z1
      rw [Int32.le_iff_toInt_le] at z1'
      exact i_proves_1 h0 hc hown he hq2 hq3 hou hm k0 k1 k3 k5 k7 k12 ho hlm hn hn36 hop z1 (by rw [Int32.le_iff_toInt_le]; omega)
  · by_cases z1 : a3 < 0
    · exact i_border_1 h0 hc hown he hq2 hq3 hou hm k0 k1 k3 k5 k7 k12 ho hlm hn hn36 hop z1
    · exact i_border_2 h0 hc hown he hq2 hq3 hou hm k0 k1 k3 k5 k7 k12 ho hlm hn hn36 hop z1
  · by_cases z1 : a3 < 2
    · exact i_runs_1 h0 hc hown he hq2 hq3 hou hm k0 k1 k3 k5 k7 k12 ho hlm hn hn36 hop z1
    · by_cases z2 : a3 ≤ 9
      · exact i_runs_3 h0 hc hown he hq2 hq3 hou hm k0 k1 k3 k5 k7 k12 ho hlm hn hn36 hop z1 z2
      · exact i_runs_2 h0 hc hown he hq2 hq3 hou hm k0 k1 k3 k5 k7 k12 ho hlm hn hn36 hop z1 z2
  · by_cases z3 : a4 < 0
    · by_cases z1 : a3 < 2
      · exact i_run_n1 h0 hc hown he hq2 hq3 hou hm k0 k1 k3 k5 k7 k12 ho hlm hn hn36 hop z3 z1
      · by_cases z2 : a3 ≤ 9
        · exact i_run_n3 h0 hc hown he hq2 hq3 hou hm k0 k1 k3 k5 k7 k12 ho hlm hn hn36 hop z3 z1 z2
        · exact i_run_n2 h0 hc hown he hq2 hq3 hou hm k0 k1 k3 k5 k7 k12 ho hlm hn hn36 hop z3 z1 z2
    · by_cases z1 : a3 < 2
      · exact i_run_p1 h0 hc hown he hq2 hq3 hou hm k0 k1 k3 k5 k7 k12 ho hlm hn hn36 hop z3 z1
      · by_cases z2 : a3 ≤ 9
        · exact i_run_p3 h0 hc hown he hq2 hq3 hou hm k0 k1 k3 k5 k7 k12 ho hlm hn hn36 hop z3 z1 z2
        · exact i_run_p2 h0 hc hown he hq2 hq3 hou hm k0 k1 k3 k5 k7 k12 ho hlm hn hn36 hop z3 z1 z2
theorem px_claim (L : Nat) (xs : Nat → Int32) (hL : L ≤ 6) : ∃ (n : Nat) (hp' : px_H), px_run 12 n 6 0 [(0, .ref 0)] [] (px_h0 L xs) = some (.inl (some (.int 1)), hp') ∧ hp'.length ≤ 8 + 600006 ∧ px_sz hp' ≤ px_sz (px_h0 L xs) + 7301646 := by
  obtain ⟨W, hW1, hW6, hw1, hw2⟩ := px_k6 (px_x L xs 0)
  obtain ⟨V, hV1, hV6, hv1, hv2⟩ := px_k6 (px_x L xs 1)
  have hn : nI W * nI V = nI (W * V) := pk_mul W V
  have hn36 : W * V ≤ 36 := Nat.mul_le_mul hW6 hV6
  obtain ⟨n, hnn⟩ : ∃ n, n = W * V := ⟨_, rfl⟩
  rw [← hnn] at hn hn36
  have hsz := f_sz (c0 := (20, px_s0 L xs)) (c1 := px_sarr 1) (c2 := px_sarr 2) (c3 := px_sarr 3) (c4 := px_sarr 4) (c5 := px_sarr 5) (c6 := px_sarr 6) (c7 := (30, [])) (w := nI W) (h := nI V) hn36
  have hln := f_len (c0 := (20, px_s0 L xs)) (c1 := px_sarr 1) (c2 := px_sarr 2) (c3 := px_sarr 3) (c4 := px_sarr 4) (c5 := px_sarr 5) (c6 := px_sarr 6) (c7 := (30, [])) (w := nI W) (h := nI V) (n := n)
  have hfin : ∃ hp' : px_H, px_Go 12 6 (43, [(4, .int 2), (3, .ref (52 + n)), (2, .ref (38 + n)), (1, .ref 8), (0, .ref 0)], [], px_H2 (20, px_s0 L xs) (px_sarr 1) (px_sarr 2) (px_sarr 3) (px_sarr 4) (px_sarr 5) (px_sarr 6) (30, []) (nI W) (nI V) n) (.inl (some (.int 1)), hp') ∧ hp'.length ≤ (px_H2 (20, px_s0 L xs) (px_sarr 1) (px_sarr 2) (px_sarr 3) (px_sarr 4) (px_sarr 5) (px_sarr 6) (30, []) (nI W) (nI V) n).length + 1 ∧ px_sz hp' ≤ px_sz (px_H2 (20, px_s0 L xs) (px_sarr 1) (px_sarr 2) (px_sarr 3) (px_sarr 4) (px_sarr 5) (px_sarr 6) (30, []) (nI W) (nI V) n) + 6 := by
    by_cases h6 : L < 6
    · exact ⟨_, q_short f_0 h6, by omega, by omega⟩
    · have h6' : L = 6 := by omega
      subst h6'
      exact i_all (a0 := xs 0) (a1 := xs 1) (a2 := xs 2) (a3 := xs 3) (a4 := xs 4) (a5 := xs 5) f_0 f_8 f_28 f_30 f_n0 f_n1 f_n2 f_m0 f_m1 f_m2 f_m4 f_m6 f_m8 f_m13 f_m14 (by rw [hln]; omega) hn hn36 rfl rfl hW6 hV6 hnn
  obtain ⟨hp', hG, h1, h2⟩ := hfin
  have hS := l_setup (d := 10) (c1 := px_sarr 1) (c2 := px_sarr 2) (c3 := px_sarr 3) (c4 := px_sarr 4) (c5 := px_sarr 5) (c6 := px_sarr 6) (c7 := (30, [])) (L := L) (xs := xs) (by omega) hw1 hv1 hw2 hv2 hn hn36 hG
  obtain ⟨k, hk⟩ := hS
  have e0 : px_sz (px_h0 L xs) = px_sz [(20, px_s0 L xs), px_sarr 1, px_sarr 2, px_sarr 3, px_sarr 4, px_sarr 5, px_sarr 6, (30, [])] := rfl
  refine ⟨k, hp', hk, ?_, ?_⟩
  · omega
  · omega
