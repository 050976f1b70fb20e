/-! bits of a long -/
def x_bt (s : Int64) (c : Nat) : Bool := s.toBitVec.getLsbD c
theorem x_sl : ∀ k, k < 64 → (((nI k).toInt64 &&& 63).toBitVec.smod 64).toNat = k := by decide +kernel
theorem x_shr {k : Nat} (hk : k < 64) (s : Int64) {i : Nat} (hi : i < 64) : (s >>> ((nI k).toInt64 &&& 63)).toBitVec.getLsbD i = if k + i < 64 then x_bt s (k + i) else x_bt s 63 := by
  unfold x_bt
  rw [Int64.toBitVec_shiftRight]
  show (s.toBitVec.sshiftRight (((nI k).toInt64 &&& 63).toBitVec.smod 64).toNat).getLsbD i = _
  rw [x_sl k hk, BitVec.getLsbD_sshiftRight, BitVec.msb_eq_getLsbD_last]
  simp [hi]
theorem x_bit {k : Nat} (hk : k < 64) (s : Int64) : ((s >>> ((nI k).toInt64 &&& 63)) &&& 1) = 0 ↔ x_bt s k = false := by
  rw [← Int64.toBitVec_inj, Int64.toBitVec_and]
  constructor
  · intro h
    have t := congrArg (fun x => x.getLsbD 0) h
    simp only [BitVec.getLsbD_and] at t
    rw [x_shr hk s (by decide), Nat.add_zero, if_pos hk] at t
    have e1 : (Int64.toBitVec 1).getLsbD 0 = true := by decide
    have e0 : (Int64.toBitVec 0).getLsbD 0 = false := by decide
    rw [e1, e0, Bool.and_true] at t
    exact t
  · intro h
    apply BitVec.eq_of_getLsbD_eq
    intro i hi
    rw [BitVec.getLsbD_and]
    cases i with
    | zero =>
      rw [x_shr hk s (by decide), Nat.add_zero, if_pos hk, h, Bool.false_and]
      decide
    | succ i =>
      have e1 : (Int64.toBitVec 1).getLsbD (i + 1) = false := by
        show (1#64).getLsbD (i + 1) = false
        simp
      have e0 : (Int64.toBitVec 0).getLsbD (i + 1) = false := by
        show (0#64).getLsbD (i + 1) = false
        simp
      rw [e1, e0, Bool.and_false]
theorem x_one {k : Nat} (hk : k < 64) {i : Nat} (hi : i < 64) : x_bt ((1 : Int64) <<< ((nI k).toInt64 &&& 63)) i = decide (k = i) := by
  unfold x_bt
  rw [Int64.toBitVec_shiftLeft]
  show ((Int64.toBitVec 1) <<< (((nI k).toInt64 &&& 63).toBitVec.smod 64).toNat).getLsbD i = _
  rw [x_sl k hk, BitVec.getLsbD_shiftLeft]
  show (decide (i < 64) && !decide (i < k) && (1#64).getLsbD (i - k)) = _
  rcases Nat.lt_trichotomy k i with h | h | h
  · have : i - k ≠ 0 := by omega
    simp [hi, this, show ¬ i < k by omega, show ¬ k = i by omega]
  · subst h
    simp [hi]
  · simp [h, show ¬ k = i by omega]
theorem x_xor (s t : Int64) (i : Nat) : x_bt (s ^^^ t) i = (x_bt s i ^^ x_bt t i) := by
  unfold x_bt
  rw [Int64.toBitVec_xor, BitVec.getLsbD_xor]
theorem x_cmp0 {x y : Int64} : lg_cmp x y = 0 ↔ x = y := by
  unfold lg_cmp
  constructor
  · intro h
    split at h
    · exact absurd h (by decide)
    · split at h
      · assumption
      · exact absurd h (by decide)
  · intro h
    subst h
    rw [if_neg (Int64.lt_irrefl), if_pos rfl]
/-- the class's object with its addresses -/
theorem pa_cls2 {n : Nat} {hp : px_H} (H : pa_Hi n hp) : ∃ (W V : Nat) (fc fd : Int32) (sh : Int64), W ≤ 6 ∧ V ≤ 6 ∧ n = W * V ∧ hp[(8 : Nat)]? = some (3, [.int (nI W), .int (nI V), .ref 9, .ref 28, .ref 29, .ref 30, .ref (34 + n), .int fc, .long sh, .int fd]) ∧ 0 ≤ fc.toInt ∧ fc.toInt ≤ 6 ∧ 0 ≤ fd.toInt ∧ fd.toInt ≤ 1 := by
  obtain ⟨W, V, b2, b3, b4, b5, b6, fc, fd, sh, hW, hV, hn, hc, g2, g3, g4, g5, g6, fc1, fc2, fd1, fd2⟩ := pa_cls H
  have q2 : b2 = 9 := by unfold pa_rg at g2; repeat (split at g2 <;> try omega)
  have q3 : b3 = 28 := by unfold pa_rg at g3; repeat (split at g3 <;> try omega)
  have q4 : b4 = 29 := by unfold pa_rg at g4; repeat (split at g4 <;> try omega)
  have q5 : b5 = 30 := by unfold pa_rg at g5; repeat (split at g5 <;> try omega)
  have q6 : b6 = 34 + n := by have := pa_rgm (i := 2) g6 (by decide); omega
  subst q2 q3 q4 q5 q6
  exact ⟨W, V, fc, fd, sh, hW, hV, hn, hc, fc1, fc2, fd1, fd2⟩
set_option maxRecDepth 20000 in
theorem x_ish {d : Nat} {n : Nat} {hp : px_H} {W V : Nat} {fc fd : Int32} {sh : Int64} {c : Nat} (hk : c < 64) (hc : hp[(8 : Nat)]? = some (3, [.int (nI W), .int (nI V), .ref 9, .ref 28, .ref 29, .ref 30, .ref (34 + n), .int fc, .long sh, .int fd])) {b : Bool} (hb : x_bt sh c = b) : px_Go d 50 (0, [(0, .ref 8), (1, .int (nI c))], [], hp) (.inl (some (.int (if b = true then 1 else 0))), hp) := by
  cases b
  · show px_Go d 50 (0, [(0, .ref 8), (1, .int (nI c))], [], hp) (.inl (some (.int 0)), hp)
    refine px_a 1 (f' := (1, [(0, .ref 8), (1, .int (nI c))], [.ref 8], hp)) rfl ?_
    refine px_gf 8 64 3 8 (.long sh) rfl rfl hc rfl ?_
    show px_Go _ _ (4, [(0, .ref 8), (1, .int (nI c))], [.long sh], hp) _
    refine px_a 6 (f' := (10, [(0, .ref 8), (1, .int (nI c))], [.int (lg_cmp ((sh >>> (Int32.toInt64 (nI c) &&& 63)) &&& 1) 0)], hp)) rfl ?_
    refine px_b1 true 17 rfl rfl (decide_eq_true (x_cmp0.mpr ((x_bit hk sh).mpr (by rw [hb])))) ?_
    show px_Go _ _ (17, [(0, .ref 8), (1, .int (nI c))], [], hp) _
    refine px_a 1 (f' := (18, [(0, .ref 8), (1, .int (nI c))], [.int 0], hp)) rfl ?_
    exact px_ri rfl rfl rfl
  · show px_Go d 50 (0, [(0, .ref 8), (1, .int (nI c))], [], hp) (.inl (some (.int 1)), hp)
    refine px_a 1 (f' := (1, [(0, .ref 8), (1, .int (nI c))], [.ref 8], hp)) rfl ?_
    refine px_gf 8 64 3 8 (.long sh) rfl rfl hc rfl ?_
    show px_Go _ _ (4, [(0, .ref 8), (1, .int (nI c))], [.long sh], hp) _
    refine px_a 6 (f' := (10, [(0, .ref 8), (1, .int (nI c))], [.int (lg_cmp ((sh >>> (Int32.toInt64 (nI c) &&& 63)) &&& 1) 0)], hp)) rfl ?_
    refine px_b1 false 17 rfl rfl (decide_eq_false (fun z => by have := (x_bit hk sh).mp (x_cmp0.mp z); rw [hb] at this; cases this)) ?_
    show px_Go _ _ (13, [(0, .ref 8), (1, .int (nI c))], [], hp) _
    refine px_a 2 (f' := (18, [(0, .ref 8), (1, .int (nI c))], [.int 1], hp)) rfl ?_
    exact px_ri rfl rfl rfl
theorem px_cixd {W V : Nat} {x y : Int32} (hW : W ≤ 6) (hV : V ≤ 6) (hx : ¬ (x < 0 ∨ nI W ≤ x ∨ y < 0 ∨ nI V ≤ y)) : ∃ c : Nat, c < W * V ∧ W * V ≤ 36 ∧ nI W * y + x = nI c ∧ (nI W * y + x).toNatClampNeg = c := by
  obtain ⟨X, Y, h1, h2, rfl, rfl, h3, h4, h5⟩ := px_cixc hW hV hx
  exact ⟨W * Y + X, h3, h5, h4, by rw [h4, nI_clamp (by omega)]⟩
set_option maxRecDepth 20000 in
theorem x_cell {d : Nat} {n : Nat} {hp : px_H} {W V : Nat} {fc fd : Int32} {sh : Int64} (hW : W ≤ 6) (hV : V ≤ 6) (hc : hp[(8 : Nat)]? = some (3, [.int (nI W), .int (nI V), .ref 9, .ref 28, .ref 29, .ref 30, .ref (34 + n), .int fc, .long sh, .int fd])) {x y v : Int32} : px_Gx (d + 1) 46 (0, [(0, .ref 8), (1, .int x), (2, .int y), (3, .int v)], [], hp) (fun o hp' => ((x < 0 ∨ nI W ≤ x ∨ y < 0 ∨ nI V ≤ y) ∧ (∃ E, o = .inr E) ∧ pa_fd hp' 8 8 = some (.long sh)) ∨ (¬ (x < 0 ∨ nI W ≤ x ∨ y < 0 ∨ nI V ≤ y) ∧ ∃ c : Nat, c < W * V ∧ (nI W * y + x).toNatClampNeg = c ∧ ∃ (r : Int32) (sh' : Int64), o = .inl (some (.int r)) ∧ pa_fd hp' 8 8 = some (.long sh') ∧ (((if x_bt sh c = true then (1 : Int32) else 0) = v ∧ r = 0 ∧ sh' = sh) ∨ (¬ (if x_bt sh c = true then (1 : Int32) else 0) = v ∧ r = 1 ∧ sh' = sh ^^^ ((1 : Int64) <<< (Int32.toInt64 (nI c) &&& 63)))))) := by
  by_cases ho : (x < 0 ∨ nI W ≤ x ∨ y < 0 ∨ nI V ≤ y)
  · refine ⟨.inr "java/lang/ArrayIndexOutOfBoundsException", px_exc hp, ?_, Or.inl ⟨ho, ⟨_, rfl⟩, by unfold px_exc; rw [pa_fd_get (px_apl hc)]; rfl⟩⟩
    refine px_a 3 (f' := (3, [(0, .ref 8), (1, .int x), (2, .int y), (3, .int v)], [.int y, .int x, .ref 8], hp)) rfl ?_
    exact px_cvt 8 (as := [.int x, .int y]) (rest := []) rfl rfl hc rfl rfl rfl rfl (Nat.le_of_ble_eq_true rfl) (c_num_o (d := d) hc ho) (px_hdn (by decide)) rfl
  · have hx := ho
    obtain ⟨c, c1, c2, ec, ec2⟩ := px_cixd hW hV hx
    have hc64 : c < 64 := by omega
    by_cases h2 : (if x_bt sh c = true then (1 : Int32) else 0) = v
    · refine ⟨_, hp, ?_, Or.inr ⟨ho, c, c1, ec2, 0, sh, rfl, by rw [pa_fd_get hc]; rfl, Or.inl ⟨h2, rfl, rfl⟩⟩⟩
      refine px_a 3 (f' := (3, [(0, .ref 8), (1, .int x), (2, .int y), (3, .int v)], [.int y, .int x, .ref 8], hp)) rfl ?_
      refine px_cv 8 (as := [.int x, .int y]) (rest := []) rfl rfl hc rfl rfl rfl rfl (Nat.le_of_ble_eq_true rfl) (by have := c_num_i (d := d) hc hx; rw [ec] at this; exact this) ?_
      show px_Go _ _ (6, [(0, .ref 8), (1, .int x), (2, .int y), (3, .int v)], [.int (nI c)], hp) _
      refine px_a 3 (f' := (11, [(4, .int (nI c)), (0, .ref 8), (1, .int x), (2, .int y), (3, .int v)], [.int (nI c), .ref 8], hp)) rfl ?_
      refine px_cv 8 (as := [.int (nI c)]) (rest := []) rfl rfl hc rfl rfl rfl rfl (Nat.le_of_ble_eq_true rfl) (x_ish (d := d) hc64 hc rfl) ?_
      show px_Go _ _ (14, [(4, .int (nI c)), (0, .ref 8), (1, .int x), (2, .int y), (3, .int v)], [.int (if x_bt sh c = true then 1 else 0)], hp) _
      refine px_a 1 (f' := (15, [(4, .int (nI c)), (0, .ref 8), (1, .int x), (2, .int y), (3, .int v)], [.int v, .int (if x_bt sh c = true then 1 else 0)], hp)) rfl ?_
      refine px_b2 false 20 rfl rfl (decide_eq_false (not_not_intro h2)) ?_
      show px_Go _ _ (18, [(4, .int (nI c)), (0, .ref 8), (1, .int x), (2, .int y), (3, .int v)], [], hp) _
      refine px_a 1 (f' := (19, [(4, .int (nI c)), (0, .ref 8), (1, .int x), (2, .int y), (3, .int v)], [.int 0], hp)) rfl ?_
      exact px_ri rfl rfl rfl
    · refine ⟨_, (((hp.set 8 (3, [.int (nI W), .int (nI V), .ref 9, .ref 28, .ref 29, .ref 30, .ref (34 + n), .int fc, .long (sh ^^^ (1 <<< (Int32.toInt64 (nI c) &&& 63))), .int fd]))).set 8 (3, [.int (nI W), .int (nI V), .ref 9, .ref 28, .ref 29, .ref 30, .ref (34 + n), .int fc, .long (sh ^^^ (1 <<< (Int32.toInt64 (nI c) &&& 63))), .int 0])), ?_, Or.inr ⟨ho, c, c1, ec2, 1, _, rfl, by rw [pa_fd_get (px_self (px_self hc))]; rfl, Or.inr ⟨h2, rfl, rfl⟩⟩⟩
      refine px_a 3 (f' := (3, [(0, .ref 8), (1, .int x), (2, .int y), (3, .int v)], [.int y, .int x, .ref 8], hp)) rfl ?_
      refine px_cv 8 (as := [.int x, .int y]) (rest := []) rfl rfl hc rfl rfl rfl rfl (Nat.le_of_ble_eq_true rfl) (by have := c_num_i (d := d) hc hx; rw [ec] at this; exact this) ?_
      show px_Go _ _ (6, [(0, .ref 8), (1, .int x), (2, .int y), (3, .int v)], [.int (nI c)], hp) _
      refine px_a 3 (f' := (11, [(4, .int (nI c)), (0, .ref 8), (1, .int x), (2, .int y), (3, .int v)], [.int (nI c), .ref 8], hp)) rfl ?_
      refine px_cv 8 (as := [.int (nI c)]) (rest := []) rfl rfl hc rfl rfl rfl rfl (Nat.le_of_ble_eq_true rfl) (x_ish (d := d) hc64 hc rfl) ?_
      show px_Go _ _ (14, [(4, .int (nI c)), (0, .ref 8), (1, .int x), (2, .int y), (3, .int v)], [.int (if x_bt sh c = true then 1 else 0)], hp) _
      refine px_a 1 (f' := (15, [(4, .int (nI c)), (0, .ref 8), (1, .int x), (2, .int y), (3, .int v)], [.int v, .int (if x_bt sh c = true then 1 else 0)], hp)) rfl ?_
      refine px_b2 true 20 rfl rfl (decide_eq_true h2) ?_
      show px_Go _ _ (20, [(4, .int (nI c)), (0, .ref 8), (1, .int x), (2, .int y), (3, .int v)], [], hp) _
      refine px_a 2 (f' := (22, [(4, .int (nI c)), (0, .ref 8), (1, .int x), (2, .int y), (3, .int v)], [.ref 8, .ref 8], hp)) rfl ?_
      refine px_gf 8 64 3 8 (.long sh) rfl rfl hc rfl ?_
      show px_Go _ _ (25, [(4, .int (nI c)), (0, .ref 8), (1, .int x), (2, .int y), (3, .int v)], [.long sh, .ref 8], hp) _
      refine px_a 4 (f' := (30, [(4, .int (nI c)), (0, .ref 8), (1, .int x), (2, .int y), (3, .int v)], [.long (sh ^^^ (1 <<< (Int32.toInt64 (nI c) &&& 63))), .ref 8], hp)) rfl ?_
      refine px_pf 8 64 3 8 rfl rfl hc (by omega) (by simp) rfl rfl (by decide) ?_
      have hf1_8 : (hp.set 8 (3, [.int (nI W), .int (nI V), .ref 9, .ref 28, .ref 29, .ref 30, .ref (34 + n), .int fc, .long (sh ^^^ (1 <<< (Int32.toInt64 (nI c) &&& 63))), .int fd]))[(8 : Nat)]? = some (3, [.int (nI W), .int (nI V), .ref 9, .ref 28, .ref 29, .ref 30, .ref (34 + n), .int fc, .long (sh ^^^ (1 <<< (Int32.toInt64 (nI c) &&& 63))), .int fd]) := px_self hc
      show px_Go _ _ (33, [(4, .int (nI c)), (0, .ref 8), (1, .int x), (2, .int y), (3, .int v)], [], (hp.set 8 (3, [.int (nI W), .int (nI V), .ref 9, .ref 28, .ref 29, .ref 30, .ref (34 + n), .int fc, .long (sh ^^^ (1 <<< (Int32.toInt64 (nI c) &&& 63))), .int fd]))) _
      refine px_a 2 (f' := (35, [(4, .int (nI c)), (0, .ref 8), (1, .int x), (2, .int y), (3, .int v)], [.int 0, .ref 8], (hp.set 8 (3, [.int (nI W), .int (nI V), .ref 9, .ref 28, .ref 29, .ref 30, .ref (34 + n), .int fc, .long (sh ^^^ (1 <<< (Int32.toInt64 (nI c) &&& 63))), .int fd])))) rfl ?_
      refine px_pf 8 68 3 9 rfl rfl hf1_8 (by omega) (by simp) rfl rfl (by decide) ?_
      have hf2_8 : (((hp.set 8 (3, [.int (nI W), .int (nI V), .ref 9, .ref 28, .ref 29, .ref 30, .ref (34 + n), .int fc, .long (sh ^^^ (1 <<< (Int32.toInt64 (nI c) &&& 63))), .int fd]))).set 8 (3, [.int (nI W), .int (nI V), .ref 9, .ref 28, .ref 29, .ref 30, .ref (34 + n), .int fc, .long (sh ^^^ (1 <<< (Int32.toInt64 (nI c) &&& 63))), .int 0]))[(8 : Nat)]? = some (3, [.int (nI W), .int (nI V), .ref 9, .ref 28, .ref 29, .ref 30, .ref (34 + n), .int fc, .long (sh ^^^ (1 <<< (Int32.toInt64 (nI c) &&& 63))), .int 0]) := px_self hf1_8
      show px_Go _ _ (38, [(4, .int (nI c)), (0, .ref 8), (1, .int x), (2, .int y), (3, .int v)], [], (((hp.set 8 (3, [.int (nI W), .int (nI V), .ref 9, .ref 28, .ref 29, .ref 30, .ref (34 + n), .int fc, .long (sh ^^^ (1 <<< (Int32.toInt64 (nI c) &&& 63))), .int fd]))).set 8 (3, [.int (nI W), .int (nI V), .ref 9, .ref 28, .ref 29, .ref 30, .ref (34 + n), .int fc, .long (sh ^^^ (1 <<< (Int32.toInt64 (nI c) &&& 63))), .int 0]))) _
      refine px_a 1 (f' := (39, [(4, .int (nI c)), (0, .ref 8), (1, .int x), (2, .int y), (3, .int v)], [.int 1], (((hp.set 8 (3, [.int (nI W), .int (nI V), .ref 9, .ref 28, .ref 29, .ref 30, .ref (34 + n), .int fc, .long (sh ^^^ (1 <<< (Int32.toInt64 (nI c) &&& 63))), .int fd]))).set 8 (3, [.int (nI W), .int (nI V), .ref 9, .ref 28, .ref 29, .ref 30, .ref (34 + n), .int fc, .long (sh ^^^ (1 <<< (Int32.toInt64 (nI c) &&& 63))), .int 0])))) rfl ?_
      exact px_ri rfl rfl rfl
set_option maxRecDepth 20000 in
theorem x_own {d : Nat} {n : Nat} {hp : px_H} {W V : Nat} {fc fd : Int32} {sh : Int64} (hW : W ≤ 6) (hV : V ≤ 6) (hc : hp[(8 : Nat)]? = some (3, [.int (nI W), .int (nI V), .ref 9, .ref 28, .ref 29, .ref 30, .ref (34 + n), .int fc, .long sh, .int fd])) {vo : List Value} (ha : hp[(28 : Nat)]? = some (10, vo)) (hlo : vo.length = W * V) {x y v : Int32} : px_Gx (d + 1) 54 (0, [(0, .ref 8), (1, .int x), (2, .int y), (3, .int v)], [], hp) (fun o hp' => ((x < 0 ∨ nI W ≤ x ∨ y < 0 ∨ nI V ≤ y) ∧ (∃ E, o = .inr E) ∧ hp'[(28 : Nat)]? = some (10, vo)) ∨ (¬ (x < 0 ∨ nI W ≤ x ∨ y < 0 ∨ nI V ≤ y) ∧ ∃ c : Nat, c < W * V ∧ (nI W * y + x).toNatClampNeg = c ∧ ∃ (r : Int32) (vo' : List Value), o = .inl (some (.int r)) ∧ hp'[(28 : Nat)]? = some (10, vo') ∧ (((v < -99 ∨ ¬ v ≤ 99) ∧ r = 0 ∧ vo' = vo) ∨ (¬ (v < -99 ∨ ¬ v ≤ 99) ∧ r = 1 ∧ vo' = vo.set c (.int v))))) := by
  by_cases ho : (x < 0 ∨ nI W ≤ x ∨ y < 0 ∨ nI V ≤ y)
  · refine ⟨.inr "java/lang/ArrayIndexOutOfBoundsException", px_exc hp, ?_, Or.inl ⟨ho, ⟨_, rfl⟩, px_apl ha⟩⟩
    refine px_a 3 (f' := (3, [(0, .ref 8), (1, .int x), (2, .int y), (3, .int v)], [.int y, .int x, .ref 8], hp)) rfl ?_
    exact px_cvt 8 (as := [.int x, .int y]) (rest := []) rfl rfl hc rfl rfl rfl rfl (Nat.le_of_ble_eq_true rfl) (c_num_o (d := d) hc ho) (px_hdn (by decide)) rfl
  · have hx := ho
    obtain ⟨c, c1, c2, ec, ec2⟩ := px_cixd hW hV hx
    by_cases h1 : v < -99
    · refine ⟨_, hp, ?_, Or.inr ⟨ho, c, c1, ec2, 0, vo, rfl, ha, Or.inl ⟨Or.inl h1, rfl, rfl⟩⟩⟩
      refine px_a 3 (f' := (3, [(0, .ref 8), (1, .int x), (2, .int y), (3, .int v)], [.int y, .int x, .ref 8], hp)) rfl ?_
      refine px_cv 8 (as := [.int x, .int y]) (rest := []) rfl rfl hc rfl rfl rfl rfl (Nat.le_of_ble_eq_true rfl) (by have := c_num_i (d := d) hc hx; rw [ec] at this; exact this) ?_
      show px_Go _ _ (6, [(0, .ref 8), (1, .int x), (2, .int y), (3, .int v)], [.int (nI c)], hp) _
      refine px_a 3 (f' := (11, [(4, .int (nI c)), (0, .ref 8), (1, .int x), (2, .int y), (3, .int v)], [.int (-99), .int v], hp)) rfl ?_
      refine px_b2 true 20 rfl rfl (decide_eq_true h1) ?_
      show px_Go _ _ (20, [(4, .int (nI c)), (0, .ref 8), (1, .int x), (2, .int y), (3, .int v)], [], hp) _
      refine px_a 1 (f' := (21, [(4, .int (nI c)), (0, .ref 8), (1, .int x), (2, .int y), (3, .int v)], [.int 0], hp)) rfl ?_
      exact px_ri rfl rfl rfl
    · by_cases h2 : v ≤ 99
      rotate_left
      · refine ⟨_, hp, ?_, Or.inr ⟨ho, c, c1, ec2, 0, vo, rfl, ha, Or.inl ⟨Or.inr h2, rfl, rfl⟩⟩⟩
        refine px_a 3 (f' := (3, [(0, .ref 8), (1, .int x), (2, .int y), (3, .int v)], [.int y, .int x, .ref 8], hp)) rfl ?_
        refine px_cv 8 (as := [.int x, .int y]) (rest := []) rfl rfl hc rfl rfl rfl rfl (Nat.le_of_ble_eq_true rfl) (by have := c_num_i (d := d) hc hx; rw [ec] at this; exact this) ?_
        show px_Go _ _ (6, [(0, .ref 8), (1, .int x), (2, .int y), (3, .int v)], [.int (nI c)], hp) _
        refine px_a 3 (f' := (11, [(4, .int (nI c)), (0, .ref 8), (1, .int x), (2, .int y), (3, .int v)], [.int (-99), .int v], hp)) rfl ?_
        refine px_b2 false 20 rfl rfl (decide_eq_false h1) ?_
        show px_Go _ _ (14, [(4, .int (nI c)), (0, .ref 8), (1, .int x), (2, .int y), (3, .int v)], [], hp) _
        refine px_a 2 (f' := (17, [(4, .int (nI c)), (0, .ref 8), (1, .int x), (2, .int y), (3, .int v)], [.int 99, .int v], hp)) rfl ?_
        refine px_b2 false 22 rfl rfl (decide_eq_false h2) ?_
        show px_Go _ _ (20, [(4, .int (nI c)), (0, .ref 8), (1, .int x), (2, .int y), (3, .int v)], [], hp) _
        refine px_a 1 (f' := (21, [(4, .int (nI c)), (0, .ref 8), (1, .int x), (2, .int y), (3, .int v)], [.int 0], hp)) rfl ?_
        exact px_ri rfl rfl rfl
      · refine ⟨_, (hp.set 28 (10, vo.set (nI c).toNatClampNeg (.int v))), ?_, Or.inr ⟨ho, c, c1, ec2, 1, _, rfl, px_self ha, Or.inr ⟨fun z => z.elim h1 (fun z => z h2), rfl, by rw [nI_clamp (by omega)]⟩⟩⟩
        refine px_a 3 (f' := (3, [(0, .ref 8), (1, .int x), (2, .int y), (3, .int v)], [.int y, .int x, .ref 8], hp)) rfl ?_
        refine px_cv 8 (as := [.int x, .int y]) (rest := []) rfl rfl hc rfl rfl rfl rfl (Nat.le_of_ble_eq_true rfl) (by have := c_num_i (d := d) hc hx; rw [ec] at this; exact this) ?_
        show px_Go _ _ (6, [(0, .ref 8), (1, .int x), (2, .int y), (3, .int v)], [.int (nI c)], hp) _
        refine px_a 3 (f' := (11, [(4, .int (nI c)), (0, .ref 8), (1, .int x), (2, .int y), (3, .int v)], [.int (-99), .int v], hp)) rfl ?_
        refine px_b2 false 20 rfl rfl (decide_eq_false h1) ?_
        show px_Go _ _ (14, [(4, .int (nI c)), (0, .ref 8), (1, .int x), (2, .int y), (3, .int v)], [], hp) _
        refine px_a 2 (f' := (17, [(4, .int (nI c)), (0, .ref 8), (1, .int x), (2, .int y), (3, .int v)], [.int 99, .int v], hp)) rfl ?_
        refine px_b2 true 22 rfl rfl (decide_eq_true h2) ?_
        show px_Go _ _ (22, [(4, .int (nI c)), (0, .ref 8), (1, .int x), (2, .int y), (3, .int v)], [], hp) _
        refine px_a 1 (f' := (23, [(4, .int (nI c)), (0, .ref 8), (1, .int x), (2, .int y), (3, .int v)], [.ref 8], hp)) rfl ?_
        refine px_gf 8 34 3 3 (.ref 28) rfl rfl hc rfl ?_
        show px_Go _ _ (26, [(4, .int (nI c)), (0, .ref 8), (1, .int x), (2, .int y), (3, .int v)], [.ref 28], hp) _
        refine px_a 2 (f' := (29, [(4, .int (nI c)), (0, .ref 8), (1, .int x), (2, .int y), (3, .int v)], [.int v, .int (nI c), .ref 28], hp)) rfl ?_
        refine px_ias 28 rfl ha (by omega) (nI_pos (by omega)) (by rw [nI_clamp (by omega)]; omega) ?_
        have hf1_8 : (hp.set 28 (10, vo.set (nI c).toNatClampNeg (.int v)))[(8 : Nat)]? = some (3, [.int (nI W), .int (nI V), .ref 9, .ref 28, .ref 29, .ref 30, .ref (34 + n), .int fc, .long sh, .int fd]) := px_ne hc (by omega)
        have hf1_28 : (hp.set 28 (10, vo.set (nI c).toNatClampNeg (.int v)))[(28 : Nat)]? = some (10, vo.set (nI c).toNatClampNeg (.int v)) := px_self ha
        show px_Go _ _ (30, [(4, .int (nI c)), (0, .ref 8), (1, .int x), (2, .int y), (3, .int v)], [], (hp.set 28 (10, vo.set (nI c).toNatClampNeg (.int v)))) _
        refine px_a 1 (f' := (31, [(4, .int (nI c)), (0, .ref 8), (1, .int x), (2, .int y), (3, .int v)], [.int 1], (hp.set 28 (10, vo.set (nI c).toNatClampNeg (.int v))))) rfl ?_
        exact px_ri rfl rfl rfl
