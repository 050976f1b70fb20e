theorem x_bit1 {k : Nat} (hk : k < 64) (s : Int64) : ((s >>> ((nI k).toInt64 &&& 63)) &&& 1) = 1 ↔ x_bt s k = true := by
  constructor
  · intro h
    cases e : x_bt s k
    · rw [(x_bit hk s).mpr e] at h
      exact absurd h (by decide)
    · rfl
  · intro h
    have hn : ((s >>> ((nI k).toInt64 &&& 63)) &&& 1) ≠ 0 := fun z => by
      rw [(x_bit hk s).mp z] at h
      cases h
    generalize (s >>> ((nI k).toInt64 &&& 63)) = t at hn ⊢
    apply Int64.toBitVec_inj.mp
    apply BitVec.eq_of_getLsbD_eq
    intro i hi
    have e1 : (1 : Int64).toBitVec.getLsbD i = decide (i = 0) := by
      show (1#64).getLsbD i = _
      rw [BitVec.getLsbD_one]
      simp
    rw [Int64.toBitVec_and, BitVec.getLsbD_and, e1]
    by_cases e : i = 0
    · subst e
      rw [decide_eq_true rfl, Bool.and_true]
      cases q : t.toBitVec.getLsbD 0
      · refine absurd ?_ hn
        apply Int64.toBitVec_inj.mp
        apply BitVec.eq_of_getLsbD_eq
        intro j hj
        have e2 : (1 : Int64).toBitVec.getLsbD j = decide (j = 0) := by
          show (1#64).getLsbD j = _
          rw [BitVec.getLsbD_one]
          simp
        rw [Int64.toBitVec_and, BitVec.getLsbD_and, e2]
        by_cases z : j = 0
        · subst z
          rw [q]
          rfl
        · rw [decide_eq_false z, Bool.and_false]
          exact (x_bt0 j).symm
      · rfl
    · rw [decide_eq_false e, Bool.and_false]
theorem x_sum_e {vo uo : List Value} {b : Nat → Bool} {n : Nat} (q : ∀ c, c < n → uo[c]? = vo[c]?) : ∀ c, c ≤ n → x_sum uo b c = x_sum vo b c
  | 0, _ => rfl
  | c + 1, h => by
    show x_sum uo b c + (if b c = true then x_val uo c else 0) = x_sum vo b c + (if b c = true then x_val vo c else 0)
    rw [x_sum_e q c (by omega)]
    unfold x_val
    rw [q c (by omega)]
set_option maxRecDepth 20000 in
theorem m_cbs {d n : Nat} {m : Int32} (n36 : n ≤ 36) {uo : List Value} (huz : ∀ c, c < n → ∃ z : Int32, uo[c]? = some (.int z)) {hp1 : px_H} {th w h fo le ru : Int32} {c pc p T : Nat} {f : Nat → Nat} {st1 : List Value} (hm : ¬ m < 2) (c512 : c ≤ 512) (p6 : p < 6) (hm1 : hp1[38 + n]? = some (4, m_O n th w h (nI pc) (nI c) fo le ru)) (hs1 : hp1[43 + n]? = some (11, st1)) (ho1 : hp1[42 + n]? = some (10, uo)) (hcl : px_Go (d + 2) 72 (0, [(0, .ref (38 + n))], [], hp1) (.inl (some (.int (nI n))), hp1)) {j : Nat} (hj : j < 512) (hst : st1[j]? = some (.long (lN (f j)))) {Q : px_O → px_H → Prop} (K : px_Gx (d + 3) 74 (83, [(6, .int (nI n)), (5, .int (x_sum uo (x_bt (lN (f j))) n)), (4, .int (nI j)), (3, .int (nI p)), (2, .int (nI (T + p_su (fun j => p_b uo n m (f j)) j))), (0, .ref (38 + n)), (1, .int m)], [], hp1) Q) : ∀ t e, e + t = n → px_Gx (d + 3) 74 (35, [(6, .int (nI e)), (5, .int (x_sum uo (x_bt (lN (f j))) e)), (4, .int (nI j)), (3, .int (nI p)), (2, .int (nI (T + p_su (fun j => p_b uo n m (f j)) j))), (0, .ref (38 + n)), (1, .int m)], [], hp1) Q := by
  intro t
  induction t with
  | zero =>
    intro e h
    rw [show e = n by omega]
    show px_Gx _ _ (35, [(6, .int (nI n)), (5, .int (x_sum uo (x_bt (lN (f j))) n)), (4, .int (nI j)), (3, .int (nI p)), (2, .int (nI (T + p_su (fun j => p_b uo n m (f j)) j))), (0, .ref (38 + n)), (1, .int m)], [], hp1) _
    refine px_gx (fun _ K9 => px_a 2 (f' := (38, [(6, .int (nI n)), (5, .int (x_sum uo (x_bt (lN (f j))) n)), (4, .int (nI j)), (3, .int (nI p)), (2, .int (nI (T + p_su (fun j => p_b uo n m (f j)) j))), (0, .ref (38 + n)), (1, .int m)], [.ref (38 + n), .int (nI n)], hp1)) rfl K9) ?_
    refine px_gx (fun _ K9 => px_cv (38 + n) (as := []) (rest := [.int (nI n)]) rfl rfl hm1 rfl rfl rfl rfl (Nat.le_of_ble_eq_true rfl) (hcl) K9) ?_
    show px_Gx _ _ (41, [(6, .int (nI n)), (5, .int (x_sum uo (x_bt (lN (f j))) n)), (4, .int (nI j)), (3, .int (nI p)), (2, .int (nI (T + p_su (fun j => p_b uo n m (f j)) j))), (0, .ref (38 + n)), (1, .int m)], [.int (nI n), .int (nI n)], hp1) _
    refine px_gx (fun _ K9 => px_b2 true 83 rfl rfl (decide_eq_true (Int32.le_refl _)) K9) ?_
    show px_Gx _ _ (83, [(6, .int (nI n)), (5, .int (x_sum uo (x_bt (lN (f j))) n)), (4, .int (nI j)), (3, .int (nI p)), (2, .int (nI (T + p_su (fun j => p_b uo n m (f j)) j))), (0, .ref (38 + n)), (1, .int m)], [], hp1) _
    exact K
  | succ t ih =>
    intro e h
    obtain ⟨z, hz⟩ := huz e (by omega)
    cases hb : x_bt (lN (f j)) e
    · have es : x_sum uo (x_bt (lN (f j))) (e + 1) = x_sum uo (x_bt (lN (f j))) e := x_sum_0 hb
      refine px_gx (fun _ K9 => px_a 2 (f' := (38, [(6, .int (nI e)), (5, .int (x_sum uo (x_bt (lN (f j))) e)), (4, .int (nI j)), (3, .int (nI p)), (2, .int (nI (T + p_su (fun j => p_b uo n m (f j)) j))), (0, .ref (38 + n)), (1, .int m)], [.ref (38 + n), .int (nI e)], hp1)) rfl K9) ?_
      refine px_gx (fun _ K9 => px_cv (38 + n) (as := []) (rest := [.int (nI e)]) rfl rfl hm1 rfl rfl rfl rfl (Nat.le_of_ble_eq_true rfl) (hcl) K9) ?_
      show px_Gx _ _ (41, [(6, .int (nI e)), (5, .int (x_sum uo (x_bt (lN (f j))) e)), (4, .int (nI j)), (3, .int (nI p)), (2, .int (nI (T + p_su (fun j => p_b uo n m (f j)) j))), (0, .ref (38 + n)), (1, .int m)], [.int (nI n), .int (nI e)], hp1) _
      refine px_gx (fun _ K9 => px_b2 false 83 rfl rfl (decide_eq_false (show ¬ nI n ≤ nI e by rw [Int32.le_iff_toInt_le, nI_toInt (by omega), nI_toInt (by omega)]; omega)) K9) ?_
      show px_Gx _ _ (44, [(6, .int (nI e)), (5, .int (x_sum uo (x_bt (lN (f j))) e)), (4, .int (nI j)), (3, .int (nI p)), (2, .int (nI (T + p_su (fun j => p_b uo n m (f j)) j))), (0, .ref (38 + n)), (1, .int m)], [], hp1) _
      refine px_gx (fun _ K9 => px_a 2 (f' := (47, [(6, .int (nI e)), (5, .int (x_sum uo (x_bt (lN (f j))) e)), (4, .int (nI j)), (3, .int (nI p)), (2, .int (nI (T + p_su (fun j => p_b uo n m (f j)) j))), (0, .ref (38 + n)), (1, .int m)], [.ref (38 + n), .int (x_sum uo (x_bt (lN (f j))) e)], hp1)) rfl K9) ?_
      refine px_gx (fun _ K9 => px_gf (38 + n) 23 4 9 (.ref (43 + n)) rfl rfl hm1 rfl K9) ?_
      show px_Gx _ _ (50, [(6, .int (nI e)), (5, .int (x_sum uo (x_bt (lN (f j))) e)), (4, .int (nI j)), (3, .int (nI p)), (2, .int (nI (T + p_su (fun j => p_b uo n m (f j)) j))), (0, .ref (38 + n)), (1, .int m)], [.ref (43 + n), .int (x_sum uo (x_bt (lN (f j))) e)], hp1) _
      refine px_gx (fun _ K9 => px_a 1 (f' := (52, [(6, .int (nI e)), (5, .int (x_sum uo (x_bt (lN (f j))) e)), (4, .int (nI j)), (3, .int (nI p)), (2, .int (nI (T + p_su (fun j => p_b uo n m (f j)) j))), (0, .ref (38 + n)), (1, .int m)], [.int (nI j), .ref (43 + n), .int (x_sum uo (x_bt (lN (f j))) e)], hp1)) rfl K9) ?_
      refine px_gx (fun _ K9 => px_al (43 + n) (.long (lN (f j))) rfl hs1 (Or.inr (Or.inl ⟨rfl, rfl⟩)) (nI_pos (by omega)) (by rw [nI_clamp (by omega)]; exact hst) K9) ?_
      show px_Gx _ _ (53, [(6, .int (nI e)), (5, .int (x_sum uo (x_bt (lN (f j))) e)), (4, .int (nI j)), (3, .int (nI p)), (2, .int (nI (T + p_su (fun j => p_b uo n m (f j)) j))), (0, .ref (38 + n)), (1, .int m)], [.long (lN (f j)), .int (x_sum uo (x_bt (lN (f j))) e)], hp1) _
      refine px_gx (fun _ K9 => px_a 6 (f' := (60, [(6, .int (nI e)), (5, .int (x_sum uo (x_bt (lN (f j))) e)), (4, .int (nI j)), (3, .int (nI p)), (2, .int (nI (T + p_su (fun j => p_b uo n m (f j)) j))), (0, .ref (38 + n)), (1, .int m)], [.int (lg_cmp (((lN (f j)) >>> (Int32.toInt64 (nI e) &&& 63)) &&& 1) 1), .int (x_sum uo (x_bt (lN (f j))) e)], hp1)) rfl K9) ?_
      refine px_gx (fun _ K9 => px_b1 true 73 rfl rfl (decide_eq_true (fun z => by rw [(x_bit1 (by omega) (lN (f j))).mp (x_cmp0.mp z)] at hb; cases hb)) K9) ?_
      show px_Gx _ _ (73, [(6, .int (nI e)), (5, .int (x_sum uo (x_bt (lN (f j))) e)), (4, .int (nI j)), (3, .int (nI p)), (2, .int (nI (T + p_su (fun j => p_b uo n m (f j)) j))), (0, .ref (38 + n)), (1, .int m)], [.int (x_sum uo (x_bt (lN (f j))) e)], hp1) _
      refine px_gx (fun _ K9 => px_a 5 (f' := (35, [(6, .int ((nI e) + 1)), (5, .int ((x_sum uo (x_bt (lN (f j))) e) + 0)), (4, .int (nI j)), (3, .int (nI p)), (2, .int (nI (T + p_su (fun j => p_b uo n m (f j)) j))), (0, .ref (38 + n)), (1, .int m)], [], hp1)) rfl K9) ?_
      rw [p_s16 e (by omega), Int32.add_zero, ← es]
      exact px_wk [(6, .int (nI (e + 1))), (5, .int (x_sum uo (x_bt (lN (f j))) (e + 1))), (4, .int (nI j)), (3, .int (nI p)), (2, .int (nI (T + p_su (fun j => p_b uo n m (f j)) j))), (0, .ref (38 + n)), (1, .int m)] ⟨rfl, rfl, rfl, rfl, rfl, rfl, rfl, trivial⟩ (ih (e + 1) (by omega))
    · have es : x_sum uo (x_bt (lN (f j))) e + z = x_sum uo (x_bt (lN (f j))) (e + 1) := x_sum_1 hb hz
      refine px_gx (fun _ K9 => px_a 2 (f' := (38, [(6, .int (nI e)), (5, .int (x_sum uo (x_bt (lN (f j))) e)), (4, .int (nI j)), (3, .int (nI p)), (2, .int (nI (T + p_su (fun j => p_b uo n m (f j)) j))), (0, .ref (38 + n)), (1, .int m)], [.ref (38 + n), .int (nI e)], hp1)) rfl K9) ?_
      refine px_gx (fun _ K9 => px_cv (38 + n) (as := []) (rest := [.int (nI e)]) rfl rfl hm1 rfl rfl rfl rfl (Nat.le_of_ble_eq_true rfl) (hcl) K9) ?_
      show px_Gx _ _ (41, [(6, .int (nI e)), (5, .int (x_sum uo (x_bt (lN (f j))) e)), (4, .int (nI j)), (3, .int (nI p)), (2, .int (nI (T + p_su (fun j => p_b uo n m (f j)) j))), (0, .ref (38 + n)), (1, .int m)], [.int (nI n), .int (nI e)], hp1) _
      refine px_gx (fun _ K9 => px_b2 false 83 rfl rfl (decide_eq_false (show ¬ nI n ≤ nI e by rw [Int32.le_iff_toInt_le, nI_toInt (by omega), nI_toInt (by omega)]; omega)) K9) ?_
      show px_Gx _ _ (44, [(6, .int (nI e)), (5, .int (x_sum uo (x_bt (lN (f j))) e)), (4, .int (nI j)), (3, .int (nI p)), (2, .int (nI (T + p_su (fun j => p_b uo n m (f j)) j))), (0, .ref (38 + n)), (1, .int m)], [], hp1) _
      refine px_gx (fun _ K9 => px_a 2 (f' := (47, [(6, .int (nI e)), (5, .int (x_sum uo (x_bt (lN (f j))) e)), (4, .int (nI j)), (3, .int (nI p)), (2, .int (nI (T + p_su (fun j => p_b uo n m (f j)) j))), (0, .ref (38 + n)), (1, .int m)], [.ref (38 + n), .int (x_sum uo (x_bt (lN (f j))) e)], hp1)) rfl K9) ?_
      refine px_gx (fun _ K9 => px_gf (38 + n) 23 4 9 (.ref (43 + n)) rfl rfl hm1 rfl K9) ?_
      show px_Gx _ _ (50, [(6, .int (nI e)), (5, .int (x_sum uo (x_bt (lN (f j))) e)), (4, .int (nI j)), (3, .int (nI p)), (2, .int (nI (T + p_su (fun j => p_b uo n m (f j)) j))), (0, .ref (38 + n)), (1, .int m)], [.ref (43 + n), .int (x_sum uo (x_bt (lN (f j))) e)], hp1) _
      refine px_gx (fun _ K9 => px_a 1 (f' := (52, [(6, .int (nI e)), (5, .int (x_sum uo (x_bt (lN (f j))) e)), (4, .int (nI j)), (3, .int (nI p)), (2, .int (nI (T + p_su (fun j => p_b uo n m (f j)) j))), (0, .ref (38 + n)), (1, .int m)], [.int (nI j), .ref (43 + n), .int (x_sum uo (x_bt (lN (f j))) e)], hp1)) rfl K9) ?_
      refine px_gx (fun _ K9 => px_al (43 + n) (.long (lN (f j))) rfl hs1 (Or.inr (Or.inl ⟨rfl, rfl⟩)) (nI_pos (by omega)) (by rw [nI_clamp (by omega)]; exact hst) K9) ?_
      show px_Gx _ _ (53, [(6, .int (nI e)), (5, .int (x_sum uo (x_bt (lN (f j))) e)), (4, .int (nI j)), (3, .int (nI p)), (2, .int (nI (T + p_su (fun j => p_b uo n m (f j)) j))), (0, .ref (38 + n)), (1, .int m)], [.long (lN (f j)), .int (x_sum uo (x_bt (lN (f j))) e)], hp1) _
      refine px_gx (fun _ K9 => px_a 6 (f' := (60, [(6, .int (nI e)), (5, .int (x_sum uo (x_bt (lN (f j))) e)), (4, .int (nI j)), (3, .int (nI p)), (2, .int (nI (T + p_su (fun j => p_b uo n m (f j)) j))), (0, .ref (38 + n)), (1, .int m)], [.int (lg_cmp (((lN (f j)) >>> (Int32.toInt64 (nI e) &&& 63)) &&& 1) 1), .int (x_sum uo (x_bt (lN (f j))) e)], hp1)) rfl K9) ?_
      refine px_gx (fun _ K9 => px_b1 false 73 rfl rfl (decide_eq_false (not_not_intro (x_cmp0.mpr ((x_bit1 (by omega) (lN (f j))).mpr hb)))) K9) ?_
      show px_Gx _ _ (63, [(6, .int (nI e)), (5, .int (x_sum uo (x_bt (lN (f j))) e)), (4, .int (nI j)), (3, .int (nI p)), (2, .int (nI (T + p_su (fun j => p_b uo n m (f j)) j))), (0, .ref (38 + n)), (1, .int m)], [.int (x_sum uo (x_bt (lN (f j))) e)], hp1) _
      refine px_gx (fun _ K9 => px_a 1 (f' := (64, [(6, .int (nI e)), (5, .int (x_sum uo (x_bt (lN (f j))) e)), (4, .int (nI j)), (3, .int (nI p)), (2, .int (nI (T + p_su (fun j => p_b uo n m (f j)) j))), (0, .ref (38 + n)), (1, .int m)], [.ref (38 + n), .int (x_sum uo (x_bt (lN (f j))) e)], hp1)) rfl K9) ?_
      refine px_gx (fun _ K9 => px_gf (38 + n) 20 4 7 (.ref (42 + n)) rfl rfl hm1 rfl K9) ?_
      show px_Gx _ _ (67, [(6, .int (nI e)), (5, .int (x_sum uo (x_bt (lN (f j))) e)), (4, .int (nI j)), (3, .int (nI p)), (2, .int (nI (T + p_su (fun j => p_b uo n m (f j)) j))), (0, .ref (38 + n)), (1, .int m)], [.ref (42 + n), .int (x_sum uo (x_bt (lN (f j))) e)], hp1) _
      refine px_gx (fun _ K9 => px_a 1 (f' := (69, [(6, .int (nI e)), (5, .int (x_sum uo (x_bt (lN (f j))) e)), (4, .int (nI j)), (3, .int (nI p)), (2, .int (nI (T + p_su (fun j => p_b uo n m (f j)) j))), (0, .ref (38 + n)), (1, .int m)], [.int (nI e), .ref (42 + n), .int (x_sum uo (x_bt (lN (f j))) e)], hp1)) rfl K9) ?_
      refine px_gx (fun _ K9 => px_al (42 + n) (.int z) rfl ho1 (Or.inl ⟨rfl, Or.inl rfl⟩) (nI_pos (by omega)) (by rw [nI_clamp (by omega)]; exact hz) K9) ?_
      show px_Gx _ _ (70, [(6, .int (nI e)), (5, .int (x_sum uo (x_bt (lN (f j))) e)), (4, .int (nI j)), (3, .int (nI p)), (2, .int (nI (T + p_su (fun j => p_b uo n m (f j)) j))), (0, .ref (38 + n)), (1, .int m)], [.int z, .int (x_sum uo (x_bt (lN (f j))) e)], hp1) _
      refine px_gx (fun _ K9 => px_a 5 (f' := (35, [(6, .int ((nI e) + 1)), (5, .int ((x_sum uo (x_bt (lN (f j))) e) + z)), (4, .int (nI j)), (3, .int (nI p)), (2, .int (nI (T + p_su (fun j => p_b uo n m (f j)) j))), (0, .ref (38 + n)), (1, .int m)], [], hp1)) rfl K9) ?_
      rw [p_s16 e (by omega), es]
      exact px_wk [(6, .int (nI (e + 1))), (5, .int (x_sum uo (x_bt (lN (f j))) (e + 1))), (4, .int (nI j)), (3, .int (nI p)), (2, .int (nI (T + p_su (fun j => p_b uo n m (f j)) j))), (0, .ref (38 + n)), (1, .int m)] ⟨rfl, rfl, rfl, rfl, rfl, rfl, rfl, trivial⟩ (ih (e + 1) (by omega))
set_option maxRecDepth 20000 in
theorem m_cbk {d n : Nat} {m : Int32} (n36 : n ≤ 36) {uo : List Value} (huz : ∀ c, c < n → ∃ z : Int32, uo[c]? = some (.int z)) {hp1 : px_H} {th w h fo le ru : Int32} {c pc p T : Nat} {f : Nat → Nat} {st1 : List Value} (hm : ¬ m < 2) (c512 : c ≤ 512) (p6 : p < 6) (hm1 : hp1[38 + n]? = some (4, m_O n th w h (nI pc) (nI c) fo le ru)) (hs1 : hp1[43 + n]? = some (11, st1)) (ho1 : hp1[42 + n]? = some (10, uo)) (hcl : px_Go (d + 2) 72 (0, [(0, .ref (38 + n))], [], hp1) (.inl (some (.int (nI n))), hp1)) (rst : ∀ j, j < c → st1[j]? = some (.long (lN (f j)))) {Q : px_O → px_H → Prop} (K : px_Gx (d + 3) 74 (4, [(3, .int (nI (p + 1))), (2, .int (nI (T + p_su (fun j => p_b uo n m (f j)) c))), (0, .ref (38 + n)), (1, .int m)], [], hp1) Q) : ∀ t j, j + t = c → px_Gx (d + 3) 74 (20, [(4, .int (nI j)), (3, .int (nI p)), (2, .int (nI (T + p_su (fun j => p_b uo n m (f j)) j))), (0, .ref (38 + n)), (1, .int m)], [], hp1) Q := by
  have m0 := p_m0 hm
  intro t
  induction t with
  | zero =>
    intro j h
    obtain rfl : j = c := by omega
    refine px_gx (fun _ K9 => px_a 2 (f' := (23, [(4, .int (nI j)), (3, .int (nI p)), (2, .int (nI (T + p_su (fun j => p_b uo n m (f j)) j))), (0, .ref (38 + n)), (1, .int m)], [.ref (38 + n), .int (nI j)], hp1)) rfl K9) ?_
    refine px_gx (fun _ K9 => px_gf (38 + n) 80 4 8 (.int (nI j)) rfl rfl hm1 rfl K9) ?_
    show px_Gx _ _ (26, [(4, .int (nI j)), (3, .int (nI p)), (2, .int (nI (T + p_su (fun j => p_b uo n m (f j)) j))), (0, .ref (38 + n)), (1, .int m)], [.int (nI j), .int (nI j)], hp1) _
    refine px_gx (fun _ K9 => px_b2 true 104 rfl rfl (decide_eq_true (Int32.le_refl _)) K9) ?_
    show px_Gx _ _ (104, [(4, .int (nI j)), (3, .int (nI p)), (2, .int (nI (T + p_su (fun j => p_b uo n m (f j)) j))), (0, .ref (38 + n)), (1, .int m)], [], hp1) _
    refine px_gx (fun _ K9 => px_a 2 (f' := (4, [(3, .int ((nI p) + 1)), (4, .int (nI j)), (2, .int (nI (T + p_su (fun j => p_b uo n m (f j)) j))), (0, .ref (38 + n)), (1, .int m)], [], hp1)) rfl K9) ?_
    rw [p_s16 p (by omega)]
    exact px_wk [(3, .int (nI (p + 1))), (2, .int (nI (T + p_su (fun j => p_b uo n m (f j)) j))), (0, .ref (38 + n)), (1, .int m)] ⟨rfl, rfl, rfl, rfl, trivial⟩ K
  | succ t ih =>
    intro j h
    have hj : j < c := by omega
    refine px_gx (fun _ K9 => px_a 2 (f' := (23, [(4, .int (nI j)), (3, .int (nI p)), (2, .int (nI (T + p_su (fun j => p_b uo n m (f j)) j))), (0, .ref (38 + n)), (1, .int m)], [.ref (38 + n), .int (nI j)], hp1)) rfl K9) ?_
    refine px_gx (fun _ K9 => px_gf (38 + n) 80 4 8 (.int (nI c)) rfl rfl hm1 rfl K9) ?_
    show px_Gx _ _ (26, [(4, .int (nI j)), (3, .int (nI p)), (2, .int (nI (T + p_su (fun j => p_b uo n m (f j)) j))), (0, .ref (38 + n)), (1, .int m)], [.int (nI c), .int (nI j)], hp1) _
    refine px_gx (fun _ K9 => px_b2 false 104 rfl rfl (decide_eq_false (show ¬ nI c ≤ nI j by rw [Int32.le_iff_toInt_le, nI_toInt (by omega), nI_toInt (by omega)]; omega)) K9) ?_
    show px_Gx _ _ (29, [(4, .int (nI j)), (3, .int (nI p)), (2, .int (nI (T + p_su (fun j => p_b uo n m (f j)) j))), (0, .ref (38 + n)), (1, .int m)], [], hp1) _
    refine px_gx (fun _ K9 => px_a 4 (f' := (35, [(6, .int 0), (5, .int 0), (4, .int (nI j)), (3, .int (nI p)), (2, .int (nI (T + p_su (fun j => p_b uo n m (f j)) j))), (0, .ref (38 + n)), (1, .int m)], [], hp1)) rfl K9) ?_
    refine px_wk [(6, .int (nI 0)), (5, .int (x_sum uo (x_bt (lN (f j))) 0)), (4, .int (nI j)), (3, .int (nI p)), (2, .int (nI (T + p_su (fun j => p_b uo n m (f j)) j))), (0, .ref (38 + n)), (1, .int m)] ⟨rfl, rfl, rfl, rfl, rfl, rfl, rfl, trivial⟩ ?_
    refine m_cbs n36 huz hm c512 p6 hm1 hs1 ho1 hcl (by omega) (rst j hj) ?_ n 0 (by omega)
    by_cases hz : x_sum uo (x_bt (lN (f j))) n - x_sum uo (x_bt (lN (f j))) n / m * m = 0
    · 
      refine px_gx (fun _ K9 => px_a 3 (f' := (87, [(6, .int (nI n)), (5, .int (x_sum uo (x_bt (lN (f j))) n)), (4, .int (nI j)), (3, .int (nI p)), (2, .int (nI (T + p_su (fun j => p_b uo n m (f j)) j))), (0, .ref (38 + n)), (1, .int m)], [.int m, .int (x_sum uo (x_bt (lN (f j))) n), .int (nI (T + p_su (fun j => p_b uo n m (f j)) j))], hp1)) rfl K9) ?_
      refine px_gx (fun _ K9 => px_irem rfl (m0) K9) ?_
      refine px_gx (fun _ K9 => px_b1 false 95 rfl rfl (decide_eq_false (not_not_intro hz)) K9) ?_
      show px_Gx _ _ (91, [(6, .int (nI n)), (5, .int (x_sum uo (x_bt (lN (f j))) n)), (4, .int (nI j)), (3, .int (nI p)), (2, .int (nI (T + p_su (fun j => p_b uo n m (f j)) j))), (0, .ref (38 + n)), (1, .int m)], [.int (nI (T + p_su (fun j => p_b uo n m (f j)) j))], hp1) _
      refine px_gx (fun _ K9 => px_a 6 (f' := (20, [(4, .int ((nI j) + 1)), (2, .int ((nI (T + p_su (fun j => p_b uo n m (f j)) j)) + 0)), (6, .int (nI n)), (5, .int (x_sum uo (x_bt (lN (f j))) n)), (3, .int (nI p)), (0, .ref (38 + n)), (1, .int m)], [], hp1)) rfl K9) ?_
      have eb : p_su (fun j => p_b uo n m (f j)) (j + 1) = p_su (fun j => p_b uo n m (f j)) j := by
        show _ + p_b uo n m (f j) = _
        unfold p_b
        rw [if_pos hz]
        rfl
      rw [p_s512 j (by omega), Int32.add_zero, ← eb]
      exact px_wk [(4, .int (nI (j + 1))), (3, .int (nI p)), (2, .int (nI (T + p_su (fun j => p_b uo n m (f j)) (j + 1)))), (0, .ref (38 + n)), (1, .int m)] ⟨rfl, rfl, rfl, rfl, rfl, trivial⟩ (ih (j + 1) (by omega))
    · 
      refine px_gx (fun _ K9 => px_a 3 (f' := (87, [(6, .int (nI n)), (5, .int (x_sum uo (x_bt (lN (f j))) n)), (4, .int (nI j)), (3, .int (nI p)), (2, .int (nI (T + p_su (fun j => p_b uo n m (f j)) j))), (0, .ref (38 + n)), (1, .int m)], [.int m, .int (x_sum uo (x_bt (lN (f j))) n), .int (nI (T + p_su (fun j => p_b uo n m (f j)) j))], hp1)) rfl K9) ?_
      refine px_gx (fun _ K9 => px_irem rfl (m0) K9) ?_
      refine px_gx (fun _ K9 => px_b1 true 95 rfl rfl (decide_eq_true hz) K9) ?_
      show px_Gx _ _ (95, [(6, .int (nI n)), (5, .int (x_sum uo (x_bt (lN (f j))) n)), (4, .int (nI j)), (3, .int (nI p)), (2, .int (nI (T + p_su (fun j => p_b uo n m (f j)) j))), (0, .ref (38 + n)), (1, .int m)], [.int (nI (T + p_su (fun j => p_b uo n m (f j)) j))], hp1) _
      refine px_gx (fun _ K9 => px_a 5 (f' := (20, [(4, .int ((nI j) + 1)), (2, .int ((nI (T + p_su (fun j => p_b uo n m (f j)) j)) + 1)), (6, .int (nI n)), (5, .int (x_sum uo (x_bt (lN (f j))) n)), (3, .int (nI p)), (0, .ref (38 + n)), (1, .int m)], [], hp1)) rfl K9) ?_
      have eb : p_su (fun j => p_b uo n m (f j)) (j + 1) = p_su (fun j => p_b uo n m (f j)) j + 1 := by
        show _ + p_b uo n m (f j) = _
        unfold p_b
        rw [if_neg hz]
      rw [p_s512 j (by omega), nI_1, Nat.add_assoc, ← eb]
      exact px_wk [(4, .int (nI (j + 1))), (3, .int (nI p)), (2, .int (nI (T + p_su (fun j => p_b uo n m (f j)) (j + 1)))), (0, .ref (38 + n)), (1, .int m)] ⟨rfl, rfl, rfl, rfl, rfl, trivial⟩ (ih (j + 1) (by omega))
set_option maxRecDepth 20000 in
theorem m_cbl {d n W V pc : Nat} (hN : pa_N n) {th w h fo le ru m : Int32} {sh : Int64} {vsu vsz vsq uo : List Value} {lq : Nat → List Nat} (hW : W ≤ 6) (hV : V ≤ 6) (hnn : n = W * V) (ew2 : w = nI W) (eh2 : h = nI V) (pc6 : pc ≤ 6) (hm2 : ¬ m < 2) (q1 : ∀ c, c < n → vsu[c]? = some (.int (if x_bt sh c = true then 1 else 0))) (huz : ∀ c, c < n → ∃ z : Int32, uo[c]? = some (.int z)) (hsq : ∀ k, k < pc → vsz[k]? = some (.int (nI (lq k).length)) ∧ (lq k).length ≤ 6 ∧ ∀ (j q : Nat), (lq k)[j]? = some q → vsq[6 * k + j]? = some (.int (nI q)) ∧ q < 16) : ∀ t p, p + t = pc → ∀ (hp : px_H) (pl : Int32) (T : Nat) (H : pa_Hi n hp) (hm : hp[38 + n]? = some (4, m_O n th w h (nI pc) pl fo le ru)) (hvu0 : hp[39 + n]? = some (12, vsu)) (hvz0 : hp[40 + n]? = some (10, vsz)) (hvq0 : hp[41 + n]? = some (10, vsq)) (ho : hp[42 + n]? = some (10, uo)) (hT : p_Tot uo n m (fun q => m_D W V sh (lq q) 8 (-3) (-3)) p T), px_Gx (d + 5) 74 (4, [(3, .int (nI p)), (2, .int (nI T)), (0, .ref (38 + n)), (1, .int m)], [], hp) (fun o hp' => ∃ T, p_Tot uo n m (fun q => m_D W V sh (lq q) 8 (-3) (-3)) pc T ∧ o = .inl (some (.int (nI T)))) := by
  have wv : W * V ≤ 6 * 6 := Nat.mul_le_mul hW hV
  intro t
  induction t with
  | zero =>
    intro p h' hp pl T H hm hvu0 hvz0 hvq0 ho hT
    obtain rfl : p = pc := by omega
    refine px_gx (fun _ K9 => px_a 2 (f' := (6, [(3, .int (nI p)), (2, .int (nI T)), (0, .ref (38 + n)), (1, .int m)], [.ref (38 + n), .int (nI p)], hp)) rfl K9) ?_
    refine px_gx (fun _ K9 => px_gf (38 + n) 61 4 4 (.int (nI p)) rfl rfl hm rfl K9) ?_
    show px_Gx _ _ (9, [(3, .int (nI p)), (2, .int (nI T)), (0, .ref (38 + n)), (1, .int m)], [.int (nI p), .int (nI p)], hp) _
    refine px_gx (fun _ K9 => px_b2 true 110 rfl rfl (decide_eq_true (Int32.le_refl _)) K9) ?_
    show px_Gx _ _ (110, [(3, .int (nI p)), (2, .int (nI T)), (0, .ref (38 + n)), (1, .int m)], [], hp) _
    refine px_gx (fun _ K9 => px_a 1 (f' := (111, [(3, .int (nI p)), (2, .int (nI T)), (0, .ref (38 + n)), (1, .int m)], [.int (nI T)], hp)) rfl K9) ?_
    exact ⟨_, _, px_ri rfl rfl rfl, T, hT, rfl⟩
  | succ t ih =>
    intro p h' hp pl T H hm hvu0 hvz0 hvq0 ho hT
    have hp6 : p < pc := by omega
    obtain ⟨k1, k2, k3⟩ := hsq p hp6
    have pt : (nI p).toInt = (p : Int) := nI_toInt (by omega)
    obtain ⟨oX, hp1, gX, eX, c, c512, st1, f1, hm1, hs1, l1, r1, b1, L1⟩ := m_placeX (d := d + 2) (p := nI p) (kk := p) hW hV hnn (by rw [ew2]; exact nI_toInt (by omega)) (by rw [eh2]; exact nI_toInt (by omega)) H hvu0 hvz0 hvq0 q1 k1 k2 k3 pt (by omega) (by omega) hm
    obtain ⟨o2, hp2, g, ⟨H1, G1, -⟩, -⟩ := (ct_85 hN).deep (d' := d + 4) (by omega) [.ref (38 + n), .int (nI p)] hp H ⟨pa_r24, pa_in (by omega) (by omega), trivial⟩
    have e2 := px_det g gX
    cases e2
    subst eX
    have hcl : px_Go (d + 4) 72 (0, [(0, .ref (38 + n))], [], hp1) (.inl (some (.int (nI n))), hp1) := by
      have := p_cells (d := d + 4) hm1
      rw [ew2, eh2, pk_mul, ← hnn] at this
      exact this
    have ho1 := l_fa G1 (r := 28) ho (rr 10 (by decide) (by decide) (by omega)) (by decide) (by decide)
    refine px_gx (fun _ K9 => px_a 2 (f' := (6, [(3, .int (nI p)), (2, .int (nI T)), (0, .ref (38 + n)), (1, .int m)], [.ref (38 + n), .int (nI p)], hp)) rfl K9) ?_
    refine px_gx (fun _ K9 => px_gf (38 + n) 61 4 4 (.int (nI pc)) rfl rfl hm rfl K9) ?_
    show px_Gx _ _ (9, [(3, .int (nI p)), (2, .int (nI T)), (0, .ref (38 + n)), (1, .int m)], [.int (nI pc), .int (nI p)], hp) _
    refine px_gx (fun _ K9 => px_b2 false 110 rfl rfl (decide_eq_false (show ¬ nI pc ≤ nI p by rw [Int32.le_iff_toInt_le, nI_toInt (by omega), nI_toInt (by omega)]; omega)) K9) ?_
    show px_Gx _ _ (12, [(3, .int (nI p)), (2, .int (nI T)), (0, .ref (38 + n)), (1, .int m)], [], hp) _
    refine px_gx (fun _ K9 => px_a 2 (f' := (14, [(3, .int (nI p)), (2, .int (nI T)), (0, .ref (38 + n)), (1, .int m)], [.int (nI p), .ref (38 + n)], hp)) rfl K9) ?_
    refine px_gx (fun _ K9 => px_cv (38 + n) (as := [.int (nI p)]) (rest := []) rfl rfl hm rfl rfl rfl rfl (Nat.le_of_ble_eq_true rfl) (g) K9) ?_
    show px_Gx _ _ (17, [(3, .int (nI p)), (2, .int (nI T)), (0, .ref (38 + n)), (1, .int m)], [], hp1) _
    refine px_gx (fun _ K9 => px_a 2 (f' := (20, [(4, .int 0), (3, .int (nI p)), (2, .int (nI T)), (0, .ref (38 + n)), (1, .int m)], [], hp1)) rfl K9) ?_
    refine px_wk [(4, .int (nI 0)), (3, .int (nI p)), (2, .int (nI (T + p_su (fun j => p_b uo n m (f1 j)) 0))), (0, .ref (38 + n)), (1, .int m)] ⟨rfl, rfl, rfl, rfl, rfl, trivial⟩ ?_
    refine m_cbk (d := d + 2) (by omega) huz hm2 c512 (by omega) hm1 hs1 ho1 hcl r1 ?_ c 0 (by omega)
    exact ih (p + 1) (by omega) hp1 (nI c) _ H1 hm1 (l_fa G1 hvu0 (rr 7 (by decide) (by decide) (by omega)) (by decide) (by decide)) (l_fa G1 hvz0 (rr 8 (by decide) (by decide) (by omega)) (by decide) (by decide)) (l_fa G1 hvq0 (rr 9 (by decide) (by decide) (by omega)) (by decide) (by decide)) ho1 (p_Tot1 hT L1)
set_option maxRecDepth 20000 in
theorem m_cbX {d n W V pc : Nat} (hN : pa_N n) {th w h fo le ru m : Int32} {sh : Int64} {vsu vsz vsq uo : List Value} {lq : Nat → List Nat} (hW : W ≤ 6) (hV : V ≤ 6) (hnn : n = W * V) (ew2 : w = nI W) (eh2 : h = nI V) (pc6 : pc ≤ 6) (hm2 : ¬ m < 2) (q1 : ∀ c, c < n → vsu[c]? = some (.int (if x_bt sh c = true then 1 else 0))) (huz : ∀ c, c < n → ∃ z : Int32, uo[c]? = some (.int z)) (hsq : ∀ k, k < pc → vsz[k]? = some (.int (nI (lq k).length)) ∧ (lq k).length ≤ 6 ∧ ∀ (j q : Nat), (lq k)[j]? = some q → vsq[6 * k + j]? = some (.int (nI q)) ∧ q < 16) {hp : px_H} {pl : Int32} (H : pa_Hi n hp) (hm : hp[38 + n]? = some (4, m_O n th w h (nI pc) pl fo le ru)) (hvu0 : hp[39 + n]? = some (12, vsu)) (hvz0 : hp[40 + n]? = some (10, vsz)) (hvq0 : hp[41 + n]? = some (10, vsq)) (ho : hp[42 + n]? = some (10, uo)) : px_Gx (d + 5) 74 (0, [(0, .ref (38 + n)), (1, .int m)], [], hp) (fun o hp' => ∃ T, p_Tot uo n m (fun q => m_D W V sh (lq q) 8 (-3) (-3)) pc T ∧ o = .inl (some (.int (nI T)))) := by
  refine px_gx (fun _ K9 => px_a 4 (f' := (4, [(3, .int 0), (2, .int 0), (0, .ref (38 + n)), (1, .int m)], [], hp)) rfl K9) ?_
  exact m_cbl hN hW hV hnn ew2 eh2 pc6 hm2 q1 huz hsq pc 0 (by omega) hp pl 0 H hm hvu0 hvz0 hvq0 ho p_Tot0
set_option maxRecDepth 20000 in
theorem m_badX {d n W V pc : Nat} (hN : pa_N n) {th w h fo le ru m : Int32} {sh : Int64} {vsu vsz vsq uo : List Value} {lq : Nat → List Nat} (hW : W ≤ 6) (hV : V ≤ 6) (hnn : n = W * V) (ew2 : w = nI W) (eh2 : h = nI V) (pc6 : pc ≤ 6) (hm2 : ¬ m < 2) (q1 : ∀ c, c < n → vsu[c]? = some (.int (if x_bt sh c = true then 1 else 0))) (huz : ∀ c, c < n → ∃ z : Int32, uo[c]? = some (.int z)) (hsq : ∀ k, k < pc → vsz[k]? = some (.int (nI (lq k).length)) ∧ (lq k).length ≤ 6 ∧ ∀ (j q : Nat), (lq k)[j]? = some q → vsq[6 * k + j]? = some (.int (nI q)) ∧ q < 16) {hp : px_H} {pl : Int32} (H : pa_Hi n hp) (hm : hp[38 + n]? = some (4, m_O n th w h (nI pc) pl fo le ru)) (hvu0 : hp[39 + n]? = some (12, vsu)) (hvz0 : hp[40 + n]? = some (10, vsz)) (hvq0 : hp[41 + n]? = some (10, vsq)) (ho : hp[42 + n]? = some (10, uo)) : px_Gx (d + 6) 69 (0, [(0, .ref (38 + n)), (1, .int m)], [], hp) (fun o hp' => ∃ T, p_Tot uo n m (fun q => m_D W V sh (lq q) 8 (-3) (-3)) pc T ∧ o = .inl (some (.int (nI T)))) := by
  have hm0 : (hp.set (38 + n) (4, [.int 0, .int w, .int h, .ref (39 + n), .int (nI pc), .ref (40 + n), .ref (41 + n), .ref (42 + n), .int pl, .ref (43 + n), .ref (44 + n), .ref (45 + n), .ref (46 + n), .int fo, .ref (47 + n), .int le, .ref (48 + n), .int ru, .ref (49 + n), .ref (50 + n), .ref (51 + n)]))[38 + n]? = some (4, m_O n 0 w h (nI pc) pl fo le ru) := px_self hm
  have Hs : pa_Hi n (hp.set (38 + n) (4, [.int 0, .int w, .int h, .ref (39 + n), .int (nI pc), .ref (40 + n), .ref (41 + n), .ref (42 + n), .int pl, .ref (43 + n), .ref (44 + n), .ref (45 + n), .ref (46 + n), .int fo, .ref (47 + n), .int le, .ref (48 + n), .int ru, .ref (49 + n), .ref (50 + n), .ref (51 + n)])) := pa_ms (k := 0) (v := .int 0) H hm rfl (pa_in (by decide) (by decide))
  obtain ⟨o, hp1, g, T, hT, e⟩ := m_cbX (d := d) hN hW hV hnn ew2 eh2 pc6 hm2 q1 huz hsq Hs hm0 (px_ne hvu0 (by omega)) (px_ne hvz0 (by omega)) (px_ne hvq0 (by omega)) (px_ne ho (by omega))
  subst e
  refine px_gx (fun _ K9 => px_a 2 (f' := (2, [(0, .ref (38 + n)), (1, .int m)], [.int 0, .ref (38 + n)], hp)) rfl K9) ?_
  refine px_gx (fun _ K9 => px_pf (38 + n) 58 4 0 rfl rfl hm (by omega) (Nat.le_of_ble_eq_true rfl) rfl rfl (by decide) K9) ?_
  have hf1__38___n_ : (hp.set (38 + n) (4, [.int 0, .int w, .int h, .ref (39 + n), .int (nI pc), .ref (40 + n), .ref (41 + n), .ref (42 + n), .int pl, .ref (43 + n), .ref (44 + n), .ref (45 + n), .ref (46 + n), .int fo, .ref (47 + n), .int le, .ref (48 + n), .int ru, .ref (49 + n), .ref (50 + n), .ref (51 + n)]))[(38 + n)]? = some (4, [.int 0, .int w, .int h, .ref (39 + n), .int (nI pc), .ref (40 + n), .ref (41 + n), .ref (42 + n), .int pl, .ref (43 + n), .ref (44 + n), .ref (45 + n), .ref (46 + n), .int fo, .ref (47 + n), .int le, .ref (48 + n), .int ru, .ref (49 + n), .ref (50 + n), .ref (51 + n)]) := px_self hm
  show px_Gx _ _ (5, [(0, .ref (38 + n)), (1, .int m)], [], (hp.set (38 + n) (4, [.int 0, .int w, .int h, .ref (39 + n), .int (nI pc), .ref (40 + n), .ref (41 + n), .ref (42 + n), .int pl, .ref (43 + n), .ref (44 + n), .ref (45 + n), .ref (46 + n), .int fo, .ref (47 + n), .int le, .ref (48 + n), .int ru, .ref (49 + n), .ref (50 + n), .ref (51 + n)]))) _
  refine px_gx (fun _ K9 => px_a 2 (f' := (7, [(0, .ref (38 + n)), (1, .int m)], [.int 2, .int m], (hp.set (38 + n) (4, [.int 0, .int w, .int h, .ref (39 + n), .int (nI pc), .ref (40 + n), .ref (41 + n), .ref (42 + n), .int pl, .ref (43 + n), .ref (44 + n), .ref (45 + n), .ref (46 + n), .int fo, .ref (47 + n), .int le, .ref (48 + n), .int ru, .ref (49 + n), .ref (50 + n), .ref (51 + n)])))) rfl K9) ?_
  refine px_gx (fun _ K9 => px_b2 true 14 rfl rfl (decide_eq_true (Int32.not_lt.mp hm2)) K9) ?_
  show px_Gx _ _ (14, [(0, .ref (38 + n)), (1, .int m)], [], (hp.set (38 + n) (4, [.int 0, .int w, .int h, .ref (39 + n), .int (nI pc), .ref (40 + n), .ref (41 + n), .ref (42 + n), .int pl, .ref (43 + n), .ref (44 + n), .ref (45 + n), .ref (46 + n), .int fo, .ref (47 + n), .int le, .ref (48 + n), .int ru, .ref (49 + n), .ref (50 + n), .ref (51 + n)]))) _
  refine px_gx (fun _ K9 => px_a 2 (f' := (16, [(0, .ref (38 + n)), (1, .int m)], [.int m, .ref (38 + n)], (hp.set (38 + n) (4, [.int 0, .int w, .int h, .ref (39 + n), .int (nI pc), .ref (40 + n), .ref (41 + n), .ref (42 + n), .int pl, .ref (43 + n), .ref (44 + n), .ref (45 + n), .ref (46 + n), .int fo, .ref (47 + n), .int le, .ref (48 + n), .int ru, .ref (49 + n), .ref (50 + n), .ref (51 + n)])))) rfl K9) ?_
  refine px_gx (fun _ K9 => px_cv (38 + n) (as := [.int m]) (rest := []) rfl rfl hf1__38___n_ rfl rfl rfl rfl (Nat.le_of_ble_eq_true rfl) (g) K9) ?_
  show px_Gx _ _ (19, [(0, .ref (38 + n)), (1, .int m)], [.int (nI T)], hp1) _
  exact ⟨_, _, px_ri rfl rfl rfl, T, hT, rfl⟩
theorem m_badI {d n : Nat} {hp : px_H} {th w h pn pl fo le ru m : Int32} (hm : hp[38 + n]? = some (4, m_O n th w h pn pl fo le ru)) (hm2 : m < 2) : px_Gx d 69 (0, [(0, .ref (38 + n)), (1, .int m)], [], hp) (fun o _ => o = .inl (some (.int (-1)))) := by
  refine px_gx (fun _ K9 => px_a 2 (f' := (2, [(0, .ref (38 + n)), (1, .int m)], [.int 0, .ref (38 + n)], hp)) rfl K9) ?_
  refine px_gx (fun _ K9 => px_pf (38 + n) 58 4 0 rfl rfl hm (by omega) (Nat.le_of_ble_eq_true rfl) rfl rfl (by decide) K9) ?_
  have hf1__38___n_ : (hp.set (38 + n) (4, [.int 0, .int w, .int h, .ref (39 + n), .int pn, .ref (40 + n), .ref (41 + n), .ref (42 + n), .int pl, .ref (43 + n), .ref (44 + n), .ref (45 + n), .ref (46 + n), .int fo, .ref (47 + n), .int le, .ref (48 + n), .int ru, .ref (49 + n), .ref (50 + n), .ref (51 + n)]))[(38 + n)]? = some (4, [.int 0, .int w, .int h, .ref (39 + n), .int pn, .ref (40 + n), .ref (41 + n), .ref (42 + n), .int pl, .ref (43 + n), .ref (44 + n), .ref (45 + n), .ref (46 + n), .int fo, .ref (47 + n), .int le, .ref (48 + n), .int ru, .ref (49 + n), .ref (50 + n), .ref (51 + n)]) := px_self hm
  show px_Gx _ _ (5, [(0, .ref (38 + n)), (1, .int m)], [], (hp.set (38 + n) (4, [.int 0, .int w, .int h, .ref (39 + n), .int pn, .ref (40 + n), .ref (41 + n), .ref (42 + n), .int pl, .ref (43 + n), .ref (44 + n), .ref (45 + n), .ref (46 + n), .int fo, .ref (47 + n), .int le, .ref (48 + n), .int ru, .ref (49 + n), .ref (50 + n), .ref (51 + n)]))) _
  refine px_gx (fun _ K9 => px_a 2 (f' := (7, [(0, .ref (38 + n)), (1, .int m)], [.int 2, .int m], (hp.set (38 + n) (4, [.int 0, .int w, .int h, .ref (39 + n), .int pn, .ref (40 + n), .ref (41 + n), .ref (42 + n), .int pl, .ref (43 + n), .ref (44 + n), .ref (45 + n), .ref (46 + n), .int fo, .ref (47 + n), .int le, .ref (48 + n), .int ru, .ref (49 + n), .ref (50 + n), .ref (51 + n)])))) rfl K9) ?_
  refine px_gx (fun _ K9 => px_b2 false 14 rfl rfl (decide_eq_false (Int32.not_le.mpr hm2)) K9) ?_
  show px_Gx _ _ (10, [(0, .ref (38 + n)), (1, .int m)], [], (hp.set (38 + n) (4, [.int 0, .int w, .int h, .ref (39 + n), .int pn, .ref (40 + n), .ref (41 + n), .ref (42 + n), .int pl, .ref (43 + n), .ref (44 + n), .ref (45 + n), .ref (46 + n), .int fo, .ref (47 + n), .int le, .ref (48 + n), .int ru, .ref (49 + n), .ref (50 + n), .ref (51 + n)]))) _
  refine px_gx (fun _ K9 => px_a 2 (f' := (19, [(0, .ref (38 + n)), (1, .int m)], [.int (-1)], (hp.set (38 + n) (4, [.int 0, .int w, .int h, .ref (39 + n), .int pn, .ref (40 + n), .ref (41 + n), .ref (42 + n), .int pl, .ref (43 + n), .ref (44 + n), .ref (45 + n), .ref (46 + n), .int fo, .ref (47 + n), .int le, .ref (48 + n), .int ru, .ref (49 + n), .ref (50 + n), .ref (51 + n)])))) rfl K9) ?_
  exact ⟨_, _, px_ri rfl rfl rfl, rfl⟩
