theorem p_sm : ∀ s, s < 16 → ((nI s &&& 31).toBitVec.smod 32).toNat = s := by decide +kernel
theorem p_bit {N s : Nat} (hN : N < 65536) (hs : s < 16) : ((nI N >>> (nI s &&& 31)) &&& 1) = 0 ↔ N.testBit s = false := by
  rw [pk_shrN (by omega) _ s (p_sm s hs), pk_andN (n := N / 2 ^ s) (Nat.lt_of_le_of_lt (Nat.div_le_self _ _) (by omega)) (m := 1) 1 rfl, show (0 : Int32) = nI 0 from rfl, nI_eq (by omega) (by decide), Nat.testBit_eq_decide_div_mod_eq, decide_eq_false_iff_not]
  omega
theorem p_an {Q m : Nat} (hQ : Q < 65536) : nI Q &&& nI m = 0 ↔ Q &&& m = 0 := by
  have : Q &&& m ≤ Q := Nat.and_le_left
  rw [nx_and, show (0 : Int32) = nI 0 from rfl, nI_eq (by omega) (by decide)]
theorem p_s4 {Q : Nat} (hQ : Q < 65536) : nI Q >>> ((4 : Int32) &&& 31) = nI (Q / 16) := pk_shrN (by omega) _ 4 (by decide)
theorem p_s1 {Q : Nat} (hQ : Q < 65536) : nI Q >>> ((1 : Int32) &&& 31) = nI (Q / 2) := pk_shrN (by omega) _ 1 (by decide)
def f_gq (s : Nat) : Nat := 4 * (s % 4) + (3 - s / 4)
def f_go (s : Nat) : Nat := 4 * (s / 4) + (3 - s % 4)
def f_gc (W s : Nat) : Nat := W * (s / 4) + s % 4
theorem f_or_s {g : Nat → Nat} {N s : Nat} (h : N.testBit s = true) : f_or g N (s + 1) = f_or g N s ||| 2 ^ g s := if_pos h
theorem f_or_n {g : Nat → Nat} {N s : Nat} (h : N.testBit s = false) : f_or g N (s + 1) = f_or g N s := if_neg (by rw [h]; decide)
theorem p_s16 : ∀ i, i < 161 → nI i + 1 = nI (i + 1) := by decide +kernel
theorem p_vqt : ∀ s, s < 16 → ((1 <<< (((4 * ((nI s) - (nI s) / 4 * 4)) + (3 - ((nI s) / 4))) &&& 31)) : Int32) = nI (2 ^ f_gq s) := by decide +kernel
set_option maxRecDepth 20000 in
theorem c_qtl {d : Nat} {hp : px_H} {N : Nat} (hN : N < 65536) : ∀ m s, s + m = 16 → px_Gx d 29 (4, [(2, .int (nI s)), (1, .int (nI (f_or f_gq N s))), (0, .int (nI N))], [], hp) (fun o hp' => hp' = hp ∧ o = .inl (some (.int (nI (f_qt N))))) := by
  intro m
  induction m with
  | zero =>
    intro s h
    obtain rfl : s = 16 := by omega
    refine px_gx (fun _ K9 => px_a 2 (f' := (7, [(2, .int (nI 16)), (1, .int (nI (f_or f_gq N 16))), (0, .int (nI N))], [.int 16, .int (nI 16)], hp)) rfl K9) ?_
    refine px_gx (fun _ K9 => px_b2 true 46 rfl rfl (decide_eq_true (show (16 : Int32) ≤ nI 16 from by decide)) K9) ?_
    show px_Gx _ _ (46, [(2, .int (nI 16)), (1, .int (nI (f_or f_gq N 16))), (0, .int (nI N))], [], hp) _
    refine px_gx (fun _ K9 => px_a 1 (f' := (47, [(2, .int (nI 16)), (1, .int (nI (f_or f_gq N 16))), (0, .int (nI N))], [.int (nI (f_or f_gq N 16))], hp)) rfl K9) ?_
    exact ⟨_, _, px_ri rfl rfl rfl, rfl, rfl⟩
  | succ m ih =>
    intro s h
    have hs : s < 16 := by omega
    cases hb : N.testBit s
    · 
      refine px_gx (fun _ K9 => px_a 2 (f' := (7, [(2, .int (nI s)), (1, .int (nI (f_or f_gq N s))), (0, .int (nI N))], [.int 16, .int (nI s)], hp)) rfl K9) ?_
      refine px_gx (fun _ K9 => px_b2 false 46 rfl rfl (decide_eq_false (show ¬ nI 16 ≤ nI s by rw [Int32.le_iff_toInt_le, nI_toInt (by omega), nI_toInt (by omega)]; omega)) K9) ?_
      show px_Gx _ _ (10, [(2, .int (nI s)), (1, .int (nI (f_or f_gq N s))), (0, .int (nI N))], [], hp) _
      refine px_gx (fun _ K9 => px_a 5 (f' := (15, [(2, .int (nI s)), (1, .int (nI (f_or f_gq N s))), (0, .int (nI N))], [.int (((nI N) >>> ((nI s) &&& 31)) &&& 1)], hp)) rfl K9) ?_
      refine px_gx (fun _ K9 => px_b1 true 40 rfl rfl (decide_eq_true ((p_bit hN hs).mpr hb)) K9) ?_
      show px_Gx _ _ (40, [(2, .int (nI s)), (1, .int (nI (f_or f_gq N s))), (0, .int (nI N))], [], hp) _
      refine px_gx (fun _ K9 => px_a 2 (f' := (4, [(2, .int ((nI s) + 1)), (1, .int (nI (f_or f_gq N s))), (0, .int (nI N))], [], hp)) rfl K9) ?_
      rw [p_s16 s (by omega), ← f_or_n hb]
      exact ih (s + 1) (by omega)
    · 
      refine px_gx (fun _ K9 => px_a 2 (f' := (7, [(2, .int (nI s)), (1, .int (nI (f_or f_gq N s))), (0, .int (nI N))], [.int 16, .int (nI s)], hp)) rfl K9) ?_
      refine px_gx (fun _ K9 => px_b2 false 46 rfl rfl (decide_eq_false (show ¬ nI 16 ≤ nI s by rw [Int32.le_iff_toInt_le, nI_toInt (by omega), nI_toInt (by omega)]; omega)) K9) ?_
      show px_Gx _ _ (10, [(2, .int (nI s)), (1, .int (nI (f_or f_gq N s))), (0, .int (nI N))], [], hp) _
      refine px_gx (fun _ K9 => px_a 5 (f' := (15, [(2, .int (nI s)), (1, .int (nI (f_or f_gq N s))), (0, .int (nI N))], [.int (((nI N) >>> ((nI s) &&& 31)) &&& 1)], hp)) rfl K9) ?_
      refine px_gx (fun _ K9 => px_b1 false 40 rfl rfl (decide_eq_false (fun z => by rw [(p_bit hN hs).mp z] at hb; cases hb)) K9) ?_
      show px_Gx _ _ (18, [(2, .int (nI s)), (1, .int (nI (f_or f_gq N s))), (0, .int (nI N))], [], hp) _
      refine px_gx (fun _ K9 => px_a 3 (f' := (21, [(2, .int (nI s)), (1, .int (nI (f_or f_gq N s))), (0, .int (nI N))], [.int 4, .int (nI s), .int 3], hp)) rfl K9) ?_
      refine px_gx (fun _ K9 => px_idiv rfl (by decide) K9) ?_
      refine px_gx (fun _ K9 => px_a 4 (f' := (26, [(3, .int (3 - ((nI s) / 4))), (2, .int (nI s)), (1, .int (nI (f_or f_gq N s))), (0, .int (nI N))], [.int 4, .int (nI s)], hp)) rfl K9) ?_
      refine px_gx (fun _ K9 => px_irem rfl (by decide) K9) ?_
      refine px_gx (fun _ K9 => px_a 13 (f' := (4, [(2, .int ((nI s) + 1)), (1, .int ((nI (f_or f_gq N s)) ||| (1 <<< (((4 * ((nI s) - (nI s) / 4 * 4)) + (3 - ((nI s) / 4))) &&& 31)))), (4, .int ((nI s) - (nI s) / 4 * 4)), (3, .int (3 - ((nI s) / 4))), (0, .int (nI N))], [], hp)) rfl K9) ?_
      rw [p_s16 s (by omega), p_vqt s hs, nx_or, ← f_or_s hb]
      refine px_wk [(2, .int (nI (s + 1))), (1, .int (nI (f_or f_gq N (s + 1)))), (0, .int (nI N))] ⟨rfl, rfl, rfl, trivial⟩ ?_
      exact ih (s + 1) (by omega)
theorem c_qt {d : Nat} {hp : px_H} {N : Nat} (hN : N < 65536) : px_Go d 29 (0, [(0, .int (nI N))], [], hp) (.inl (some (.int (nI (f_qt N)))), hp) := by
  obtain ⟨o, hp', g, rfl, rfl⟩ := c_qtl (d := d) (hp := hp) hN 16 0 (by omega)
  exact px_a 4 (f' := (4, [(2, .int (nI 0)), (1, .int (nI (f_or f_gq N 0))), (0, .int (nI N))], [], hp')) rfl g
theorem p_vov : ∀ s, s < 16 → ((1 <<< (((4 * ((nI s) / 4)) + (3 - ((nI s) - (nI s) / 4 * 4))) &&& 31)) : Int32) = nI (2 ^ f_go s) := by decide +kernel
set_option maxRecDepth 20000 in
theorem c_ovl {d : Nat} {hp : px_H} {N : Nat} (hN : N < 65536) : ∀ m s, s + m = 16 → px_Gx d 33 (4, [(2, .int (nI s)), (1, .int (nI (f_or f_go N s))), (0, .int (nI N))], [], hp) (fun o hp' => hp' = hp ∧ o = .inl (some (.int (nI (f_ov N))))) := by
  intro m
  induction m with
  | zero =>
    intro s h
    obtain rfl : s = 16 := by omega
    refine px_gx (fun _ K9 => px_a 2 (f' := (7, [(2, .int (nI 16)), (1, .int (nI (f_or f_go N 16))), (0, .int (nI N))], [.int 16, .int (nI 16)], hp)) rfl K9) ?_
    refine px_gx (fun _ K9 => px_b2 true 42 rfl rfl (decide_eq_true (show (16 : Int32) ≤ nI 16 from by decide)) K9) ?_
    show px_Gx _ _ (42, [(2, .int (nI 16)), (1, .int (nI (f_or f_go N 16))), (0, .int (nI N))], [], hp) _
    refine px_gx (fun _ K9 => px_a 1 (f' := (43, [(2, .int (nI 16)), (1, .int (nI (f_or f_go N 16))), (0, .int (nI N))], [.int (nI (f_or f_go N 16))], hp)) rfl K9) ?_
    exact ⟨_, _, px_ri rfl rfl rfl, rfl, rfl⟩
  | succ m ih =>
    intro s h
    have hs : s < 16 := by omega
    cases hb : N.testBit s
    · 
      refine px_gx (fun _ K9 => px_a 2 (f' := (7, [(2, .int (nI s)), (1, .int (nI (f_or f_go N s))), (0, .int (nI N))], [.int 16, .int (nI s)], hp)) rfl K9) ?_
      refine px_gx (fun _ K9 => px_b2 false 42 rfl rfl (decide_eq_false (show ¬ nI 16 ≤ nI s by rw [Int32.le_iff_toInt_le, nI_toInt (by omega), nI_toInt (by omega)]; omega)) K9) ?_
      show px_Gx _ _ (10, [(2, .int (nI s)), (1, .int (nI (f_or f_go N s))), (0, .int (nI N))], [], hp) _
      refine px_gx (fun _ K9 => px_a 5 (f' := (15, [(2, .int (nI s)), (1, .int (nI (f_or f_go N s))), (0, .int (nI N))], [.int (((nI N) >>> ((nI s) &&& 31)) &&& 1)], hp)) rfl K9) ?_
      refine px_gx (fun _ K9 => px_b1 true 36 rfl rfl (decide_eq_true ((p_bit hN hs).mpr hb)) K9) ?_
      show px_Gx _ _ (36, [(2, .int (nI s)), (1, .int (nI (f_or f_go N s))), (0, .int (nI N))], [], hp) _
      refine px_gx (fun _ K9 => px_a 2 (f' := (4, [(2, .int ((nI s) + 1)), (1, .int (nI (f_or f_go N s))), (0, .int (nI N))], [], hp)) rfl K9) ?_
      rw [p_s16 s (by omega), ← f_or_n hb]
      exact ih (s + 1) (by omega)
    · 
      refine px_gx (fun _ K9 => px_a 2 (f' := (7, [(2, .int (nI s)), (1, .int (nI (f_or f_go N s))), (0, .int (nI N))], [.int 16, .int (nI s)], hp)) rfl K9) ?_
      refine px_gx (fun _ K9 => px_b2 false 42 rfl rfl (decide_eq_false (show ¬ nI 16 ≤ nI s by rw [Int32.le_iff_toInt_le, nI_toInt (by omega), nI_toInt (by omega)]; omega)) K9) ?_
      show px_Gx _ _ (10, [(2, .int (nI s)), (1, .int (nI (f_or f_go N s))), (0, .int (nI N))], [], hp) _
      refine px_gx (fun _ K9 => px_a 5 (f' := (15, [(2, .int (nI s)), (1, .int (nI (f_or f_go N s))), (0, .int (nI N))], [.int (((nI N) >>> ((nI s) &&& 31)) &&& 1)], hp)) rfl K9) ?_
      refine px_gx (fun _ K9 => px_b1 false 36 rfl rfl (decide_eq_false (fun z => by rw [(p_bit hN hs).mp z] at hb; cases hb)) K9) ?_
      show px_Gx _ _ (18, [(2, .int (nI s)), (1, .int (nI (f_or f_go N s))), (0, .int (nI N))], [], hp) _
      refine px_gx (fun _ K9 => px_a 3 (f' := (21, [(2, .int (nI s)), (1, .int (nI (f_or f_go N s))), (0, .int (nI N))], [.int 4, .int (nI s), .int 3], hp)) rfl K9) ?_
      refine px_gx (fun _ K9 => px_irem rfl (by decide) K9) ?_
      refine px_gx (fun _ K9 => px_a 7 (f' := (29, [(3, .int (3 - ((nI s) - (nI s) / 4 * 4))), (2, .int (nI s)), (1, .int (nI (f_or f_go N s))), (0, .int (nI N))], [.int 4, .int (nI s), .int 4, .int 1, .int (nI (f_or f_go N s))], hp)) rfl K9) ?_
      refine px_gx (fun _ K9 => px_idiv rfl (by decide) K9) ?_
      refine px_gx (fun _ K9 => px_a 8 (f' := (4, [(2, .int ((nI s) + 1)), (1, .int ((nI (f_or f_go N s)) ||| (1 <<< (((4 * ((nI s) / 4)) + (3 - ((nI s) - (nI s) / 4 * 4))) &&& 31)))), (3, .int (3 - ((nI s) - (nI s) / 4 * 4))), (0, .int (nI N))], [], hp)) rfl K9) ?_
      rw [p_s16 s (by omega), p_vov s hs, nx_or, ← f_or_s hb]
      refine px_wk [(2, .int (nI (s + 1))), (1, .int (nI (f_or f_go N (s + 1)))), (0, .int (nI N))] ⟨rfl, rfl, rfl, trivial⟩ ?_
      exact ih (s + 1) (by omega)
theorem c_ov {d : Nat} {hp : px_H} {N : Nat} (hN : N < 65536) : px_Go d 33 (0, [(0, .int (nI N))], [], hp) (.inl (some (.int (nI (f_ov N)))), hp) := by
  obtain ⟨o, hp', g, rfl, rfl⟩ := c_ovl (d := d) (hp := hp) hN 16 0 (by omega)
  exact px_a 4 (f' := (4, [(2, .int (nI 0)), (1, .int (nI (f_or f_go N 0))), (0, .int (nI N))], [], hp')) rfl g
theorem p_vcc : ∀ W, W < 7 → ∀ s, s < 16 → ((1 <<< (Int32.toInt64 (((nI W) * ((nI s) / 4)) + ((nI s) - (nI s) / 4 * 4)) &&& 63)) : Int64) = lN (2 ^ f_gc W s) := by decide +kernel
theorem f_gc_lt {W s : Nat} (hW : W ≤ 6) (hs : s < 16) : f_gc W s < 22 := by
  unfold f_gc
  have : W * (s / 4) ≤ 6 * 3 := Nat.mul_le_mul hW (by omega)
  omega
set_option maxRecDepth 20000 in
theorem c_ccl {d k : Nat} {hp : px_H} {W V N P : Nat} {wc sc : Int32} {ss : Int64} (hW : W ≤ 6) (hN : P < 65536) (hf : hp[10 + 3 * k]? = some (1, [.int (nI W), .int (nI V), .ref (11 + 3 * k), .ref (12 + 3 * k), .int (nI N), .int wc, .int sc, .long ss])) : ∀ m s, s + m = 16 → px_Gx d 20 (5, [(4, .int (nI s)), (2, .long (lN (f_or (f_gc W) P s))), (0, .ref (10 + 3 * k)), (1, .int (nI P))], [], hp) (fun o hp' => hp' = hp ∧ o = .inl (some (.long (lN (f_cc W P))))) := by
  intro m
  induction m with
  | zero =>
    intro s h
    obtain rfl : s = 16 := by omega
    refine px_gx (fun _ K9 => px_a 2 (f' := (9, [(4, .int (nI 16)), (2, .long (lN (f_or (f_gc W) P 16))), (0, .ref (10 + 3 * k)), (1, .int (nI P))], [.int 16, .int (nI 16)], hp)) rfl K9) ?_
    refine px_gx (fun _ K9 => px_b2 true 46 rfl rfl (decide_eq_true (show (16 : Int32) ≤ nI 16 from by decide)) K9) ?_
    show px_Gx _ _ (46, [(4, .int (nI 16)), (2, .long (lN (f_or (f_gc W) P 16))), (0, .ref (10 + 3 * k)), (1, .int (nI P))], [], hp) _
    refine px_gx (fun _ K9 => px_a 1 (f' := (47, [(4, .int (nI 16)), (2, .long (lN (f_or (f_gc W) P 16))), (0, .ref (10 + 3 * k)), (1, .int (nI P))], [.long (lN (f_or (f_gc W) P 16))], hp)) rfl K9) ?_
    exact ⟨_, _, px_e rfl rfl, rfl, rfl⟩
  | succ m ih =>
    intro s h
    have hs : s < 16 := by omega
    cases hb : P.testBit s
    · 
      refine px_gx (fun _ K9 => px_a 2 (f' := (9, [(4, .int (nI s)), (2, .long (lN (f_or (f_gc W) P s))), (0, .ref (10 + 3 * k)), (1, .int (nI P))], [.int 16, .int (nI s)], hp)) rfl K9) ?_
      refine px_gx (fun _ K9 => px_b2 false 46 rfl rfl (decide_eq_false (show ¬ nI 16 ≤ nI s by rw [Int32.le_iff_toInt_le, nI_toInt (by omega), nI_toInt (by omega)]; omega)) K9) ?_
      show px_Gx _ _ (12, [(4, .int (nI s)), (2, .long (lN (f_or (f_gc W) P s))), (0, .ref (10 + 3 * k)), (1, .int (nI P))], [], hp) _
      refine px_gx (fun _ K9 => px_a 5 (f' := (18, [(4, .int (nI s)), (2, .long (lN (f_or (f_gc W) P s))), (0, .ref (10 + 3 * k)), (1, .int (nI P))], [.int (((nI P) >>> ((nI s) &&& 31)) &&& 1)], hp)) rfl K9) ?_
      refine px_gx (fun _ K9 => px_b1 true 40 rfl rfl (decide_eq_true ((p_bit hN hs).mpr hb)) K9) ?_
      show px_Gx _ _ (40, [(4, .int (nI s)), (2, .long (lN (f_or (f_gc W) P s))), (0, .ref (10 + 3 * k)), (1, .int (nI P))], [], hp) _
      refine px_gx (fun _ K9 => px_a 2 (f' := (5, [(4, .int ((nI s) + 1)), (2, .long (lN (f_or (f_gc W) P s))), (0, .ref (10 + 3 * k)), (1, .int (nI P))], [], hp)) rfl K9) ?_
      rw [p_s16 s (by omega), ← f_or_n (g := f_gc W) hb]
      exact ih (s + 1) (by omega)
    · 
      refine px_gx (fun _ K9 => px_a 2 (f' := (9, [(4, .int (nI s)), (2, .long (lN (f_or (f_gc W) P s))), (0, .ref (10 + 3 * k)), (1, .int (nI P))], [.int 16, .int (nI s)], hp)) rfl K9) ?_
      refine px_gx (fun _ K9 => px_b2 false 46 rfl rfl (decide_eq_false (show ¬ nI 16 ≤ nI s by rw [Int32.le_iff_toInt_le, nI_toInt (by omega), nI_toInt (by omega)]; omega)) K9) ?_
      show px_Gx _ _ (12, [(4, .int (nI s)), (2, .long (lN (f_or (f_gc W) P s))), (0, .ref (10 + 3 * k)), (1, .int (nI P))], [], hp) _
      refine px_gx (fun _ K9 => px_a 5 (f' := (18, [(4, .int (nI s)), (2, .long (lN (f_or (f_gc W) P s))), (0, .ref (10 + 3 * k)), (1, .int (nI P))], [.int (((nI P) >>> ((nI s) &&& 31)) &&& 1)], hp)) rfl K9) ?_
      refine px_gx (fun _ K9 => px_b1 false 40 rfl rfl (decide_eq_false (fun z => by rw [(p_bit hN hs).mp z] at hb; cases hb)) K9) ?_
      show px_Gx _ _ (21, [(4, .int (nI s)), (2, .long (lN (f_or (f_gc W) P s))), (0, .ref (10 + 3 * k)), (1, .int (nI P))], [], hp) _
      refine px_gx (fun _ K9 => px_a 3 (f' := (24, [(4, .int (nI s)), (2, .long (lN (f_or (f_gc W) P s))), (0, .ref (10 + 3 * k)), (1, .int (nI P))], [.ref (10 + 3 * k), .long 1, .long (lN (f_or (f_gc W) P s))], hp)) rfl K9) ?_
      refine px_gx (fun _ K9 => px_gf (10 + 3 * k) 9 1 0 (.int (nI W)) rfl rfl hf rfl K9) ?_
      show px_Gx _ _ (27, [(4, .int (nI s)), (2, .long (lN (f_or (f_gc W) P s))), (0, .ref (10 + 3 * k)), (1, .int (nI P))], [.int (nI W), .long 1, .long (lN (f_or (f_gc W) P s))], hp) _
      refine px_gx (fun _ K9 => px_a 2 (f' := (30, [(4, .int (nI s)), (2, .long (lN (f_or (f_gc W) P s))), (0, .ref (10 + 3 * k)), (1, .int (nI P))], [.int 4, .int (nI s), .int (nI W), .long 1, .long (lN (f_or (f_gc W) P s))], hp)) rfl K9) ?_
      refine px_gx (fun _ K9 => px_idiv rfl (by decide) K9) ?_
      refine px_gx (fun _ K9 => px_a 3 (f' := (35, [(4, .int (nI s)), (2, .long (lN (f_or (f_gc W) P s))), (0, .ref (10 + 3 * k)), (1, .int (nI P))], [.int 4, .int (nI s), .int ((nI W) * ((nI s) / 4)), .long 1, .long (lN (f_or (f_gc W) P s))], hp)) rfl K9) ?_
      refine px_gx (fun _ K9 => px_irem rfl (by decide) K9) ?_
      refine px_gx (fun _ K9 => px_a 6 (f' := (5, [(4, .int ((nI s) + 1)), (2, .long ((lN (f_or (f_gc W) P s)) ||| (1 <<< (Int32.toInt64 (((nI W) * ((nI s) / 4)) + ((nI s) - (nI s) / 4 * 4)) &&& 63)))), (0, .ref (10 + 3 * k)), (1, .int (nI P))], [], hp)) rfl K9) ?_
      have b22 : f_or (f_gc W) P s < 2 ^ 22 := f_or_lt s (fun t ht => f_gc_lt hW (by omega))
      have b23 : 2 ^ f_gc W s < 2 ^ 22 := Nat.pow_lt_pow_right (by decide) (f_gc_lt hW hs)
      rw [p_s16 s (by omega), p_vcc W (by omega) s hs, wb_or (Nat.lt_trans b22 (by decide)) (Nat.lt_trans b23 (by decide)), ← f_or_s hb]
      exact ih (s + 1) (by omega)
theorem c_cc {d k : Nat} {hp : px_H} {W V N P : Nat} {wc sc : Int32} {ss : Int64} (hW : W ≤ 6) (hN : P < 65536) (hf : hp[10 + 3 * k]? = some (1, [.int (nI W), .int (nI V), .ref (11 + 3 * k), .ref (12 + 3 * k), .int (nI N), .int wc, .int sc, .long ss])) : px_Go d 20 (0, [(0, .ref (10 + 3 * k)), (1, .int (nI P))], [], hp) (.inl (some (.long (lN (f_cc W P)))), hp) := by
  obtain ⟨o, hp', g, rfl, rfl⟩ := c_ccl (d := d) hW hN hf 16 0 (by omega)
  exact px_a 4 (f' := (5, [(4, .int (nI 0)), (2, .long (lN (f_or (f_gc W) P 0))), (0, .ref (10 + 3 * k)), (1, .int (nI P))], [], hp')) rfl g
theorem f_p1_lt {Q : Nat} (h : Q < 65536) : f_p1 Q < 65536 := by
  have h1 : f_pr Q ≤ Q := by
    unfold f_pr
    split
    · exact Nat.div_le_self _ _
    · exact Nat.le_refl _
  have h2 : f_pc (f_pr Q) ≤ f_pr Q := by
    unfold f_pc
    split
    · exact Nat.div_le_self _ _
    · exact Nat.le_refl _
  unfold f_p1
  omega
set_option maxRecDepth 20000 in
theorem c_pu1 {d : Nat} {hp : px_H} {N Q t : Nat} {P : px_O → px_H → Prop} (hQ : Q < 65536) (ht : t < 4) (K : px_Gx d 28 (4, [(2, .int (nI (t + 1))), (1, .int (nI (f_p1 Q))), (0, .int (nI N))], [], hp) P) : px_Gx d 28 (4, [(2, .int (nI t)), (1, .int (nI Q)), (0, .int (nI N))], [], hp) P := by
  by_cases h1 : Q &&& 15 = 0
  · have e1 : f_pr Q = Q / 16 := if_pos h1
    refine px_gx (fun _ K9 => px_a 2 (f' := (6, [(2, .int (nI t)), (1, .int (nI Q)), (0, .int (nI N))], [.int 4, .int (nI t)], hp)) rfl K9) ?_
    refine px_gx (fun _ K9 => px_b2 false 38 rfl rfl (decide_eq_false (show ¬ nI 4 ≤ nI t by rw [Int32.le_iff_toInt_le, nI_toInt (by omega), nI_toInt (by omega)]; omega)) K9) ?_
    show px_Gx _ _ (9, [(2, .int (nI t)), (1, .int (nI Q)), (0, .int (nI N))], [], hp) _
    refine px_gx (fun _ K9 => px_a 3 (f' := (13, [(2, .int (nI t)), (1, .int (nI Q)), (0, .int (nI N))], [.int ((nI Q) &&& 15)], hp)) rfl K9) ?_
    refine px_gx (fun _ K9 => px_b1 false 20 rfl rfl (decide_eq_false (not_not_intro ((p_an (m := 15) hQ).mpr h1))) K9) ?_
    show px_Gx _ _ (16, [(2, .int (nI t)), (1, .int (nI Q)), (0, .int (nI N))], [], hp) _
    refine px_gx (fun _ K9 => px_a 4 (f' := (20, [(1, .int ((nI Q) >>> (4 &&& 31))), (2, .int (nI t)), (0, .int (nI N))], [], hp)) rfl K9) ?_
    rw [p_s4 hQ]
    have hQ2 : Q / 16 < 65536 := by omega
    show px_Gx _ _ (20, [(1, .int (nI (Q / 16))), (2, .int (nI t)), (0, .int (nI N))], [], hp) _
    refine px_wk [(2, .int (nI t)), (1, .int (nI (Q / 16))), (0, .int (nI N))] ⟨rfl, rfl, rfl, trivial⟩ ?_
    by_cases h2 : (Q / 16) &&& 4369 = 0
    · have e2 : f_p1 Q = (Q / 16) / 2 := by unfold f_p1; rw [e1]; exact if_pos h2
      refine px_gx (fun _ K9 => px_a 3 (f' := (25, [(2, .int (nI t)), (1, .int (nI (Q / 16))), (0, .int (nI N))], [.int ((nI (Q / 16)) &&& 4369)], hp)) rfl K9) ?_
      refine px_gx (fun _ K9 => px_b1 false 32 rfl rfl (decide_eq_false (not_not_intro ((p_an (m := 4369) hQ2).mpr h2))) K9) ?_
      show px_Gx _ _ (28, [(2, .int (nI t)), (1, .int (nI (Q / 16))), (0, .int (nI N))], [], hp) _
      refine px_gx (fun _ K9 => px_a 6 (f' := (4, [(2, .int ((nI t) + 1)), (1, .int ((nI (Q / 16)) >>> (1 &&& 31))), (0, .int (nI N))], [], hp)) rfl K9) ?_
      rw [p_s1 hQ2]
      rw [p_s16 t (by omega), ← e2]
      exact px_wk [(2, .int (nI (t + 1))), (1, .int (nI (f_p1 Q))), (0, .int (nI N))] ⟨rfl, rfl, rfl, trivial⟩ K
    · have e2 : f_p1 Q = (Q / 16) := by unfold f_p1; rw [e1]; exact if_neg h2
      refine px_gx (fun _ K9 => px_a 3 (f' := (25, [(2, .int (nI t)), (1, .int (nI (Q / 16))), (0, .int (nI N))], [.int ((nI (Q / 16)) &&& 4369)], hp)) rfl K9) ?_
      refine px_gx (fun _ K9 => px_b1 true 32 rfl rfl (decide_eq_true (fun z => h2 ((p_an (m := 4369) hQ2).mp z))) K9) ?_
      show px_Gx _ _ (32, [(2, .int (nI t)), (1, .int (nI (Q / 16))), (0, .int (nI N))], [], hp) _
      refine px_gx (fun _ K9 => px_a 2 (f' := (4, [(2, .int ((nI t) + 1)), (1, .int (nI (Q / 16))), (0, .int (nI N))], [], hp)) rfl K9) ?_
      rw [p_s16 t (by omega), ← e2]
      exact px_wk [(2, .int (nI (t + 1))), (1, .int (nI (f_p1 Q))), (0, .int (nI N))] ⟨rfl, rfl, rfl, trivial⟩ K
  · have e1 : f_pr Q = Q := if_neg h1
    refine px_gx (fun _ K9 => px_a 2 (f' := (6, [(2, .int (nI t)), (1, .int (nI Q)), (0, .int (nI N))], [.int 4, .int (nI t)], hp)) rfl K9) ?_
    refine px_gx (fun _ K9 => px_b2 false 38 rfl rfl (decide_eq_false (show ¬ nI 4 ≤ nI t by rw [Int32.le_iff_toInt_le, nI_toInt (by omega), nI_toInt (by omega)]; omega)) K9) ?_
    show px_Gx _ _ (9, [(2, .int (nI t)), (1, .int (nI Q)), (0, .int (nI N))], [], hp) _
    refine px_gx (fun _ K9 => px_a 3 (f' := (13, [(2, .int (nI t)), (1, .int (nI Q)), (0, .int (nI N))], [.int ((nI Q) &&& 15)], hp)) rfl K9) ?_
    refine px_gx (fun _ K9 => px_b1 true 20 rfl rfl (decide_eq_true (fun z => h1 ((p_an (m := 15) hQ).mp z))) K9) ?_
    show px_Gx _ _ (20, [(2, .int (nI t)), (1, .int (nI Q)), (0, .int (nI N))], [], hp) _
    by_cases h2 : Q &&& 4369 = 0
    · have e2 : f_p1 Q = Q / 2 := by unfold f_p1; rw [e1]; exact if_pos h2
      refine px_gx (fun _ K9 => px_a 3 (f' := (25, [(2, .int (nI t)), (1, .int (nI Q)), (0, .int (nI N))], [.int ((nI Q) &&& 4369)], hp)) rfl K9) ?_
      refine px_gx (fun _ K9 => px_b1 false 32 rfl rfl (decide_eq_false (not_not_intro ((p_an (m := 4369) hQ).mpr h2))) K9) ?_
      show px_Gx _ _ (28, [(2, .int (nI t)), (1, .int (nI Q)), (0, .int (nI N))], [], hp) _
      refine px_gx (fun _ K9 => px_a 6 (f' := (4, [(2, .int ((nI t) + 1)), (1, .int ((nI Q) >>> (1 &&& 31))), (0, .int (nI N))], [], hp)) rfl K9) ?_
      rw [p_s1 hQ]
      rw [p_s16 t (by omega), ← e2]
      exact px_wk [(2, .int (nI (t + 1))), (1, .int (nI (f_p1 Q))), (0, .int (nI N))] ⟨rfl, rfl, rfl, trivial⟩ K
    · have e2 : f_p1 Q = Q := by unfold f_p1; rw [e1]; exact if_neg h2
      refine px_gx (fun _ K9 => px_a 3 (f' := (25, [(2, .int (nI t)), (1, .int (nI Q)), (0, .int (nI N))], [.int ((nI Q) &&& 4369)], hp)) rfl K9) ?_
      refine px_gx (fun _ K9 => px_b1 true 32 rfl rfl (decide_eq_true (fun z => h2 ((p_an (m := 4369) hQ).mp z))) K9) ?_
      show px_Gx _ _ (32, [(2, .int (nI t)), (1, .int (nI Q)), (0, .int (nI N))], [], hp) _
      refine px_gx (fun _ K9 => px_a 2 (f' := (4, [(2, .int ((nI t) + 1)), (1, .int (nI Q)), (0, .int (nI N))], [], hp)) rfl K9) ?_
      rw [p_s16 t (by omega), ← e2]
      exact px_wk [(2, .int (nI (t + 1))), (1, .int (nI (f_p1 Q))), (0, .int (nI N))] ⟨rfl, rfl, rfl, trivial⟩ K
theorem c_pu {d : Nat} {hp : px_H} {N : Nat} (hN : N < 65536) : px_Go d 28 (0, [(0, .int (nI N))], [], hp) (.inl (some (.int (nI (f_pu N)))), hp) := by
  have key : px_Gx d 28 (4, [(2, .int (nI 1)), (1, .int (nI N)), (0, .int (nI N))], [], hp) (fun o hp' => hp' = hp ∧ o = .inl (some (.int (nI (f_pu N))))) := by
    refine c_pu1 hN (by decide) (c_pu1 (f_p1_lt hN) (by decide) (c_pu1 (f_p1_lt (f_p1_lt hN)) (by decide) ?_))
    show px_Gx _ _ (4, [(2, .int (nI 4)), (1, .int (nI (f_pu N))), (0, .int (nI N))], [], hp) _
    refine px_gx (fun _ K9 => px_a 2 (f' := (6, [(2, .int (nI 4)), (1, .int (nI (f_pu N))), (0, .int (nI N))], [.int 4, .int (nI 4)], hp)) rfl K9) ?_
    refine px_gx (fun _ K9 => px_b2 true 38 rfl rfl (decide_eq_true (show (4 : Int32) ≤ nI 4 from by decide)) K9) ?_
    show px_Gx _ _ (38, [(2, .int (nI 4)), (1, .int (nI (f_pu N))), (0, .int (nI N))], [], hp) _
    refine px_gx (fun _ K9 => px_a 1 (f' := (39, [(2, .int (nI 4)), (1, .int (nI (f_pu N))), (0, .int (nI N))], [.int (nI (f_pu N))], hp)) rfl K9) ?_
    exact ⟨_, _, px_ri rfl rfl rfl, rfl, rfl⟩
  obtain ⟨o, hp', g, rfl, rfl⟩ := key
  exact px_a 4 (f' := (4, [(2, .int (nI 1)), (1, .int (nI N)), (0, .int (nI N))], [], hp')) rfl g
theorem p_mco : ∀ x, x < 4 → ((4369 <<< ((nI x) &&& 31) : Int32)) = nI (4369 * 2 ^ x) := by decide +kernel
set_option maxRecDepth 20000 in
theorem c_col {d : Nat} {hp : px_H} {P : Nat} (hP : P < 65536) : ∀ m x, x + m = 4 → px_Gx d 21 (4, [(2, .int (nI x)), (1, .int (nI (f_co P x))), (0, .int (nI P))], [], hp) (fun o hp' => hp' = hp ∧ o = .inl (some (.int (nI (f_co P 4))))) := by
  intro m
  induction m with
  | zero =>
    intro x h
    obtain rfl : x = 4 := by omega
    refine px_gx (fun _ K9 => px_a 2 (f' := (6, [(2, .int (nI 4)), (1, .int (nI (f_co P 4))), (0, .int (nI P))], [.int 4, .int (nI 4)], hp)) rfl K9) ?_
    refine px_gx (fun _ K9 => px_b2 true 29 rfl rfl (decide_eq_true (show (4 : Int32) ≤ nI 4 from by decide)) K9) ?_
    show px_Gx _ _ (29, [(2, .int (nI 4)), (1, .int (nI (f_co P 4))), (0, .int (nI P))], [], hp) _
    refine px_gx (fun _ K9 => px_a 1 (f' := (30, [(2, .int (nI 4)), (1, .int (nI (f_co P 4))), (0, .int (nI P))], [.int (nI (f_co P 4))], hp)) rfl K9) ?_
    exact ⟨_, _, px_ri rfl rfl rfl, rfl, rfl⟩
  | succ m ih =>
    intro x h
    by_cases h1 : P &&& (4369 * 2 ^ x) = 0
    · 
      refine px_gx (fun _ K9 => px_a 2 (f' := (6, [(2, .int (nI x)), (1, .int (nI (f_co P x))), (0, .int (nI P))], [.int 4, .int (nI x)], hp)) rfl K9) ?_
      refine px_gx (fun _ K9 => px_b2 false 29 rfl rfl (decide_eq_false (show ¬ nI 4 ≤ nI x by rw [Int32.le_iff_toInt_le, nI_toInt (by omega), nI_toInt (by omega)]; omega)) K9) ?_
      show px_Gx _ _ (9, [(2, .int (nI x)), (1, .int (nI (f_co P x))), (0, .int (nI P))], [], hp) _
      refine px_gx (fun _ K9 => px_a 5 (f' := (16, [(2, .int (nI x)), (1, .int (nI (f_co P x))), (0, .int (nI P))], [.int ((nI P) &&& (4369 <<< ((nI x) &&& 31)))], hp)) rfl K9) ?_
      refine px_gx (fun _ K9 => px_b1 true 23 rfl rfl (decide_eq_true (by rw [p_mco x (by omega)]; exact (p_an hP).mpr h1)) K9) ?_
      show px_Gx _ _ (23, [(2, .int (nI x)), (1, .int (nI (f_co P x))), (0, .int (nI P))], [], hp) _
      refine px_gx (fun _ K9 => px_a 2 (f' := (4, [(2, .int ((nI x) + 1)), (1, .int (nI (f_co P x))), (0, .int (nI P))], [], hp)) rfl K9) ?_
      have e : f_co P (x + 1) = f_co P x := if_pos h1
      rw [p_s16 x (by omega), ← e]
      exact ih (x + 1) (by omega)
    · 
      refine px_gx (fun _ K9 => px_a 2 (f' := (6, [(2, .int (nI x)), (1, .int (nI (f_co P x))), (0, .int (nI P))], [.int 4, .int (nI x)], hp)) rfl K9) ?_
      refine px_gx (fun _ K9 => px_b2 false 29 rfl rfl (decide_eq_false (show ¬ nI 4 ≤ nI x by rw [Int32.le_iff_toInt_le, nI_toInt (by omega), nI_toInt (by omega)]; omega)) K9) ?_
      show px_Gx _ _ (9, [(2, .int (nI x)), (1, .int (nI (f_co P x))), (0, .int (nI P))], [], hp) _
      refine px_gx (fun _ K9 => px_a 5 (f' := (16, [(2, .int (nI x)), (1, .int (nI (f_co P x))), (0, .int (nI P))], [.int ((nI P) &&& (4369 <<< ((nI x) &&& 31)))], hp)) rfl K9) ?_
      refine px_gx (fun _ K9 => px_b1 false 23 rfl rfl (decide_eq_false (fun z => h1 (by rw [p_mco x (by omega)] at z; exact (p_an hP).mp z))) K9) ?_
      show px_Gx _ _ (19, [(2, .int (nI x)), (1, .int (nI (f_co P x))), (0, .int (nI P))], [], hp) _
      refine px_gx (fun _ K9 => px_a 6 (f' := (4, [(2, .int ((nI x) + 1)), (1, .int ((nI x) + 1)), (0, .int (nI P))], [], hp)) rfl K9) ?_
      have e : f_co P (x + 1) = x + 1 := if_neg h1
      rw [p_s16 x (by omega)]
      refine px_wk [(2, .int (nI (x + 1))), (1, .int (nI (x + 1))), (0, .int (nI P))] ⟨rfl, rfl, rfl, trivial⟩ ?_
      have := ih (x + 1) (by omega)
      rw [e] at this
      exact this
theorem c_co {d : Nat} {hp : px_H} {P : Nat} (hP : P < 65536) : px_Go d 21 (0, [(0, .int (nI P))], [], hp) (.inl (some (.int (nI (f_co P 4)))), hp) := by
  obtain ⟨o, hp', g, rfl, rfl⟩ := c_col (d := d) (hp := hp) hP 4 0 (by omega)
  exact px_a 4 (f' := (4, [(2, .int (nI 0)), (1, .int (nI (f_co P 0))), (0, .int (nI P))], [], hp')) rfl g
theorem p_mro : ∀ x, x < 4 → ((15 <<< ((4 * (nI x)) &&& 31) : Int32)) = nI (15 * 2 ^ (4 * x)) := by decide +kernel
set_option maxRecDepth 20000 in
theorem c_rol {d : Nat} {hp : px_H} {P : Nat} (hP : P < 65536) : ∀ m x, x + m = 4 → px_Gx d 30 (4, [(2, .int (nI x)), (1, .int (nI (f_ro P x))), (0, .int (nI P))], [], hp) (fun o hp' => hp' = hp ∧ o = .inl (some (.int (nI (f_ro P 4))))) := by
  intro m
  induction m with
  | zero =>
    intro x h
    obtain rfl : x = 4 := by omega
    refine px_gx (fun _ K9 => px_a 2 (f' := (6, [(2, .int (nI 4)), (1, .int (nI (f_ro P 4))), (0, .int (nI P))], [.int 4, .int (nI 4)], hp)) rfl K9) ?_
    refine px_gx (fun _ K9 => px_b2 true 30 rfl rfl (decide_eq_true (show (4 : Int32) ≤ nI 4 from by decide)) K9) ?_
    show px_Gx _ _ (30, [(2, .int (nI 4)), (1, .int (nI (f_ro P 4))), (0, .int (nI P))], [], hp) _
    refine px_gx (fun _ K9 => px_a 1 (f' := (31, [(2, .int (nI 4)), (1, .int (nI (f_ro P 4))), (0, .int (nI P))], [.int (nI (f_ro P 4))], hp)) rfl K9) ?_
    exact ⟨_, _, px_ri rfl rfl rfl, rfl, rfl⟩
  | succ m ih =>
    intro x h
    by_cases h1 : P &&& (15 * 2 ^ (4 * x)) = 0
    · 
      refine px_gx (fun _ K9 => px_a 2 (f' := (6, [(2, .int (nI x)), (1, .int (nI (f_ro P x))), (0, .int (nI P))], [.int 4, .int (nI x)], hp)) rfl K9) ?_
      refine px_gx (fun _ K9 => px_b2 false 30 rfl rfl (decide_eq_false (show ¬ nI 4 ≤ nI x by rw [Int32.le_iff_toInt_le, nI_toInt (by omega), nI_toInt (by omega)]; omega)) K9) ?_
      show px_Gx _ _ (9, [(2, .int (nI x)), (1, .int (nI (f_ro P x))), (0, .int (nI P))], [], hp) _
      refine px_gx (fun _ K9 => px_a 7 (f' := (17, [(2, .int (nI x)), (1, .int (nI (f_ro P x))), (0, .int (nI P))], [.int ((nI P) &&& (15 <<< ((4 * (nI x)) &&& 31)))], hp)) rfl K9) ?_
      refine px_gx (fun _ K9 => px_b1 true 24 rfl rfl (decide_eq_true (by rw [p_mro x (by omega)]; exact (p_an hP).mpr h1)) K9) ?_
      show px_Gx _ _ (24, [(2, .int (nI x)), (1, .int (nI (f_ro P x))), (0, .int (nI P))], [], hp) _
      refine px_gx (fun _ K9 => px_a 2 (f' := (4, [(2, .int ((nI x) + 1)), (1, .int (nI (f_ro P x))), (0, .int (nI P))], [], hp)) rfl K9) ?_
      have e : f_ro P (x + 1) = f_ro P x := if_pos h1
      rw [p_s16 x (by omega), ← e]
      exact ih (x + 1) (by omega)
    · 
      refine px_gx (fun _ K9 => px_a 2 (f' := (6, [(2, .int (nI x)), (1, .int (nI (f_ro P x))), (0, .int (nI P))], [.int 4, .int (nI x)], hp)) rfl K9) ?_
      refine px_gx (fun _ K9 => px_b2 false 30 rfl rfl (decide_eq_false (show ¬ nI 4 ≤ nI x by rw [Int32.le_iff_toInt_le, nI_toInt (by omega), nI_toInt (by omega)]; omega)) K9) ?_
      show px_Gx _ _ (9, [(2, .int (nI x)), (1, .int (nI (f_ro P x))), (0, .int (nI P))], [], hp) _
      refine px_gx (fun _ K9 => px_a 7 (f' := (17, [(2, .int (nI x)), (1, .int (nI (f_ro P x))), (0, .int (nI P))], [.int ((nI P) &&& (15 <<< ((4 * (nI x)) &&& 31)))], hp)) rfl K9) ?_
      refine px_gx (fun _ K9 => px_b1 false 24 rfl rfl (decide_eq_false (fun z => h1 (by rw [p_mro x (by omega)] at z; exact (p_an hP).mp z))) K9) ?_
      show px_Gx _ _ (20, [(2, .int (nI x)), (1, .int (nI (f_ro P x))), (0, .int (nI P))], [], hp) _
      refine px_gx (fun _ K9 => px_a 6 (f' := (4, [(2, .int ((nI x) + 1)), (1, .int ((nI x) + 1)), (0, .int (nI P))], [], hp)) rfl K9) ?_
      have e : f_ro P (x + 1) = x + 1 := if_neg h1
      rw [p_s16 x (by omega)]
      refine px_wk [(2, .int (nI (x + 1))), (1, .int (nI (x + 1))), (0, .int (nI P))] ⟨rfl, rfl, rfl, trivial⟩ ?_
      have := ih (x + 1) (by omega)
      rw [e] at this
      exact this
theorem c_ro {d : Nat} {hp : px_H} {P : Nat} (hP : P < 65536) : px_Go d 30 (0, [(0, .int (nI P))], [], hp) (.inl (some (.int (nI (f_ro P 4)))), hp) := by
  obtain ⟨o, hp', g, rfl, rfl⟩ := c_rol (d := d) (hp := hp) hP 4 0 (by omega)
  exact px_a 4 (f' := (4, [(2, .int (nI 0)), (1, .int (nI (f_ro P 0))), (0, .int (nI P))], [], hp')) rfl g
