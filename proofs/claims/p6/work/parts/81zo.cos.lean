def z_c (x : Nat) : Nat → Nat
  | 0 => 0
  | c + 1 => z_c x c + (if x.testBit c = true then 1 else 0)
theorem z_c_m {x k : Nat} : ∀ c, c ≤ k → z_c (x % 2 ^ k) c = z_c x c
  | 0, _ => rfl
  | c + 1, h => by
    show z_c (x % 2 ^ k) c + _ = z_c x c + _
    rw [z_c_m c (by omega), Nat.testBit_mod_two_pow, decide_eq_true (show c < k by omega), Bool.true_and]
theorem z_cnt : ∀ (k x : Nat), pb_cnt k x = z_c x k
  | 0, _ => rfl
  | k + 1, x => by
    rw [pb_cnt_add k 1 x, z_cnt k (x % 2 ^ k), z_c_m k (Nat.le_refl k)]
    show z_c x k + ((x / 2 ^ k) % 2 + 0) = z_c x k + _
    rw [Nat.testBit_eq_decide_div_mod_eq]
    have := Nat.mod_two_eq_zero_or_one (x / 2 ^ k)
    by_cases h : x / 2 ^ k % 2 = 1
    · rw [if_pos (decide_eq_true h), h]
    · rw [if_neg (fun z => h (of_decide_eq_true z))]
      omega
theorem z_lN (s : Int64) : s = lN s.toBitVec.toNat := by
  apply Int64.toBitVec_inj.mp
  show s.toBitVec = BitVec.ofNat 64 s.toBitVec.toNat
  rw [BitVec.ofNat_toNat, BitVec.setWidth_eq]
theorem z_tb (s : Int64) (c : Nat) : s.toBitVec.toNat.testBit c = x_bt s c := rfl
theorem z_c_le (N : Nat) : ∀ c, z_c N c ≤ c
  | 0 => Nat.le_refl 0
  | c + 1 => by
    show z_c N c + (if N.testBit c = true then 1 else 0) ≤ c + 1
    have := z_c_le N c
    split <;> omega
theorem z_c_hi {N n : Nat} (h : ∀ c, n ≤ c → N.testBit c = false) : ∀ m, z_c N (n + m) = z_c N n
  | 0 => rfl
  | m + 1 => by
    show z_c N (n + m) + (if N.testBit (n + m) = true then 1 else 0) = z_c N n
    rw [h (n + m) (by omega), if_neg (by decide), z_c_hi h m]
    rfl
theorem x_low {s : Int64} {c0 : Nat} (hc : c0 < 64) (h1 : x_bt s c0 = true) (h2 : ∀ c, c < c0 → x_bt s c = false) : (s &&& -s) - 1 = lN (2 ^ c0 - 1) := by
  have e : s &&& -s = lN (2 ^ c0) := by
    apply Int64.toBitVec_inj.mp
    apply BitVec.eq_of_getLsbD_eq
    intro i hi
    rw [Int64.toBitVec_and, BitVec.getLsbD_and, Int64.toBitVec_neg, BitVec.getLsbD_neg]
    show (x_bt s i && (x_bt s i ^^ (decide (i < 64) && decide (∃ j, j < i ∧ x_bt s j = true)))) = (BitVec.ofNat 64 (2 ^ c0)).getLsbD i
    have ep : (BitVec.ofNat 64 (2 ^ c0)).getLsbD i = decide (c0 = i) := by
      rw [BitVec.getLsbD_ofNat, Nat.testBit_two_pow]
      simp [hi]
    rw [ep]
    rcases Nat.lt_trichotomy i c0 with q | q | q
    · rw [h2 i q, Bool.false_and, decide_eq_false (by omega)]
    · subst q
      rw [h1, Bool.true_and, decide_eq_true rfl, show decide (∃ j, j < i ∧ x_bt s j = true) = false from decide_eq_false (by
        rintro ⟨j, a, b⟩
        rw [h2 j a] at b
        cases b), Bool.and_false]
      rfl
    · rw [show decide (∃ j, j < i ∧ x_bt s j = true) = true from decide_eq_true ⟨c0, q, h1⟩, decide_eq_true hi, decide_eq_false (by omega)]
      cases x_bt s i <;> rfl
  rw [e]
  exact lN_sub (b := 1) Nat.one_le_two_pow
theorem z_c_1 {S b : Nat} (h : S.testBit b = true) : z_c S (b + 1) = z_c S b + 1 := by
  show z_c S b + (if S.testBit b = true then 1 else 0) = _
  rw [if_pos h]
theorem z_c_0 {S b : Nat} (h : S.testBit b = false) : z_c S (b + 1) = z_c S b := by
  show z_c S b + (if S.testBit b = true then 1 else 0) = _
  rw [if_neg (by rw [h]; decide)]
  rfl
theorem z_c_mono {S : Nat} {a : Nat} : ∀ m, z_c S a ≤ z_c S (a + m)
  | 0 => Nat.le_refl _
  | m + 1 => Nat.le_trans (z_c_mono m) (by show z_c S (a + m) ≤ z_c S (a + m) + _; exact Nat.le_add_right _ _)
theorem z_c_lt {S a b : Nat} (h : S.testBit a = true) (hab : a < b) : z_c S a < z_c S b := by
  have := z_c_mono (S := S) (a := a + 1) (b - (a + 1))
  rw [z_c_1 h, show a + 1 + (b - (a + 1)) = b by omega] at this
  omega
theorem z_ex {S d : Nat} : ∀ i, d < z_c S i ↔ ∃ j, j < i ∧ S.testBit j = true ∧ d ≤ z_c S j
  | 0 => ⟨fun h => absurd h (Nat.not_lt_zero _), fun ⟨_, h, _⟩ => absurd h (Nat.not_lt_zero _)⟩
  | i + 1 => by
    constructor
    · intro h
      cases e : S.testBit i
      · rw [z_c_0 e] at h
        obtain ⟨j, a, b, c⟩ := (z_ex i).mp h
        exact ⟨j, by omega, b, c⟩
      · rw [z_c_1 e] at h
        by_cases q : d < z_c S i
        · obtain ⟨j, a, b, c⟩ := (z_ex i).mp q
          exact ⟨j, by omega, b, c⟩
        · exact ⟨i, by omega, e, by omega⟩
    · rintro ⟨j, a, b, c⟩
      have := z_c_lt b a
      omega
theorem z_rank {S d : Nat} : ∀ i, d < z_c S i → ∃ b, b < i ∧ S.testBit b = true ∧ z_c S b = d
  | 0, h => absurd h (Nat.not_lt_zero _)
  | i + 1, h => by
    cases e : S.testBit i
    · rw [z_c_0 e] at h
      obtain ⟨b, x, y, z⟩ := z_rank i h
      exact ⟨b, by omega, y, z⟩
    · rw [z_c_1 e] at h
      by_cases q : d < z_c S i
      · obtain ⟨b, x, y, z⟩ := z_rank i q
        exact ⟨b, by omega, y, z⟩
      · exact ⟨i, by omega, e, by omega⟩
def p_Ans (S : Nat) (i z : Int32) : Prop := (∃ b, b < 36 ∧ S.testBit b = true ∧ nI (z_c S b) = i ∧ z = nI b) ∨ ((∀ b, b < 36 → S.testBit b = true → nI (z_c S b) ≠ i) ∧ z = -1)
theorem p_Ans_u {S : Nat} {i z z' : Int32} (h : p_Ans S i z) (h' : p_Ans S i z') : z = z' := by
  rcases h with ⟨b, b1, b2, b3, rfl⟩ | ⟨h, rfl⟩
  · rcases h' with ⟨c, c1, c2, c3, rfl⟩ | ⟨h', -⟩
    · have e : z_c S b = z_c S c := by
        have hb := z_c_le S b
        have hc := z_c_le S c
        exact (nI_eq (by omega) (by omega)).mp (b3.trans c3.symm)
      rcases Nat.lt_trichotomy b c with q | q | q
      · have := z_c_lt b2 q
        omega
      · rw [q]
      · have := z_c_lt c2 q
        omega
    · exact absurd b3 (h' b b1 b2)
  · rcases h' with ⟨c, c1, c2, c3, -⟩ | ⟨-, rfl⟩
    · exact absurd c3 (h c c1 c2)
    · rfl
theorem p_not {x : Int64} : x - 1 = Int64.ofBitVec (~~~ (-x).toBitVec) := by
  apply Int64.toBitVec_inj.mp
  show x.toBitVec - 1#64 = ~~~ (-x.toBitVec)
  rw [BitVec.not_neg]
theorem p_clr (s : Int64) {i : Nat} (hi : i < 64) : x_bt (s &&& (s - 1)) i = (x_bt s i && decide (∃ j, j < i ∧ x_bt s j = true)) := by
  have e : x_bt (s - 1) i = !(x_bt s i ^^ (decide (i < 64) && decide (∃ j, j < i ∧ x_bt s j = true))) := by
    rw [p_not]
    show (~~~ (-s).toBitVec).getLsbD i = _
    rw [BitVec.getLsbD_not, Int64.toBitVec_neg, BitVec.getLsbD_neg, decide_eq_true hi, Bool.true_and]
    rfl
  show (s &&& (s - 1)).toBitVec.getLsbD i = _
  rw [Int64.toBitVec_and, BitVec.getLsbD_and]
  show (x_bt s i && x_bt (s - 1) i) = _
  rw [e, decide_eq_true hi, Bool.true_and]
  cases x_bt s i <;> simp
theorem p_pm : ∀ k, k < 64 → pb_cnt 64 (2 ^ k - 1) = k := by decide +kernel
def p_Dr (S : Nat) (d : Nat) (r : Int64) : Prop := ∀ i, i < 64 → (x_bt r i = true ↔ S.testBit i = true ∧ d ≤ z_c S i)
theorem p_Dr_s {S d : Nat} {r : Int64} (h : p_Dr S d r) : p_Dr S (d + 1) (r &&& (r - 1)) := by
  intro i hi
  rw [p_clr r hi, Bool.and_eq_true, decide_eq_true_eq, h i hi]
  constructor
  · rintro ⟨⟨a, b⟩, j, c, e⟩
    have := (h j (by omega)).mp e
    exact ⟨a, (z_ex i).mpr ⟨j, c, this.1, this.2⟩⟩
  · rintro ⟨a, b⟩
    obtain ⟨j, c, e, f⟩ := (z_ex (d := d) i).mp b
    exact ⟨⟨a, by omega⟩, j, c, (h j (by omega)).mpr ⟨e, f⟩⟩
set_option maxRecDepth 20000 in
theorem x_cosl {d : Nat} {hp : px_H} {S m : Nat} (hS : S < 2 ^ 36) (hm : m < z_c S 64) (m36 : m ≤ 64) : ∀ t e, e + t = m → ∀ r, p_Dr S e r → px_Gx (d + 1) 47 (19, [(5, .int (nI e)), (3, .long r), (0, .long (lN S)), (2, .int (nI m))], [], hp) (fun o hp' => hp' = hp ∧ ∃ z, o = .inl (some (.int z)) ∧ p_Ans S (nI m) z) := by
  intro t
  induction t with
  | zero =>
    intro e h r hr
    obtain ⟨b, b1, b2, b3⟩ := z_rank 64 hm
    have hb36 : b < 36 := by
      apply Nat.lt_of_not_le
      intro z
      rw [Nat.testBit_lt_two_pow (Nat.lt_of_lt_of_le hS (Nat.pow_le_pow_right (n := 2) (by decide) z))] at b2
      cases b2
    have k1 : x_bt r b = true := (hr b b1).mpr ⟨b2, by omega⟩
    have k2 : ∀ c, c < b → x_bt r c = false := fun c hc => by
      cases q : x_bt r c
      · rfl
      · have q2 := (hr c (by omega)).mp q
        have := z_c_lt q2.1 hc
        omega
    have gb := x_bc64 (d := d) (hp := hp) (N := 2 ^ b - 1) (Nat.lt_of_le_of_lt (Nat.sub_le _ _) (Nat.pow_lt_pow_right (by decide) b1))
    rw [p_pm b b1, ← x_low b1 k1 k2] at gb
    refine px_gx (fun _ K9 => px_a 2 (f' := (22, [(5, .int (nI e)), (3, .long r), (0, .long (lN S)), (2, .int (nI m))], [.int (nI m), .int (nI e)], hp)) rfl K9) ?_
    refine px_gx (fun _ K9 => px_b2 true 37 rfl rfl (decide_eq_true (show nI m ≤ nI e by rw [Int32.le_iff_toInt_le, nI_toInt (by omega), nI_toInt (by omega)]; omega)) K9) ?_
    show px_Gx _ _ (37, [(5, .int (nI e)), (3, .long r), (0, .long (lN S)), (2, .int (nI m))], [], hp) _
    refine px_gx (fun _ K9 => px_a 6 (f' := (43, [(5, .int (nI e)), (3, .long r), (0, .long (lN S)), (2, .int (nI m))], [.long ((r &&& (-r)) - 1)], hp)) rfl K9) ?_
    show px_Gx _ _ (43, [(5, .int (nI e)), (3, .long r), (0, .long (lN S)), (2, .int (nI m))], [.long ((r &&& -r) - 1)], hp) _
    refine px_gx (fun _ K9 => px_cl (as := [.long ((r &&& (-r)) - 1)]) (rest := []) rfl rfl (gb) K9) ?_
    show px_Gx _ _ (46, [(5, .int (nI e)), (3, .long r), (0, .long (lN S)), (2, .int (nI m))], [.int (nI b)], hp) _
    exact ⟨_, _, px_ri rfl rfl rfl, rfl, _, rfl, Or.inl ⟨b, hb36, b2, by rw [b3], rfl⟩⟩
  | succ t ih =>
    intro e h r hr
    refine px_gx (fun _ K9 => px_a 2 (f' := (22, [(5, .int (nI e)), (3, .long r), (0, .long (lN S)), (2, .int (nI m))], [.int (nI m), .int (nI e)], hp)) rfl K9) ?_
    refine px_gx (fun _ K9 => px_b2 false 37 rfl rfl (decide_eq_false (show ¬ nI m ≤ nI e by rw [Int32.le_iff_toInt_le, nI_toInt (by omega), nI_toInt (by omega)]; omega)) K9) ?_
    show px_Gx _ _ (25, [(5, .int (nI e)), (3, .long r), (0, .long (lN S)), (2, .int (nI m))], [], hp) _
    refine px_gx (fun _ K9 => px_a 8 (f' := (19, [(5, .int ((nI e) + 1)), (3, .long (r &&& (r - 1))), (0, .long (lN S)), (2, .int (nI m))], [], hp)) rfl K9) ?_
    rw [p_s16 e (by omega)]
    refine px_wk [(5, .int (nI (e + 1))), (3, .long (r &&& (r - 1))), (0, .long (lN S)), (2, .int (nI m))] ⟨rfl, rfl, rfl, rfl, trivial⟩ ?_
    exact ih (e + 1) (by omega) _ (p_Dr_s hr)
set_option maxRecDepth 20000 in
theorem x_cos {d : Nat} {hp : px_H} {S : Nat} {i : Int32} (hS : S < 2 ^ 36) : px_Gx (d + 1) 47 (0, [(0, .long (lN S)), (2, .int i)], [], hp) (fun o hp' => hp' = hp ∧ ∃ z, o = .inl (some (.int z)) ∧ p_Ans S i z) := by
  have kc := z_c_le S 64
  have hbc : px_Go d 0 (0, [(0, .long (lN S))], [], hp) (.inl (some (.int (nI (z_c S 64)))), hp) := by
    have := x_bc64 (d := d) (hp := hp) (N := S) (Nat.lt_trans hS (by decide))
    rw [z_cnt] at this
    exact this
  by_cases h1 : i < 0
  · 
    refine px_gx (fun _ K9 => px_a 1 (f' := (1, [(0, .long (lN S)), (2, .int i)], [.int i], hp)) rfl K9) ?_
    refine px_gx (fun _ K9 => px_b1 true 12 rfl rfl (decide_eq_true h1) K9) ?_
    show px_Gx _ _ (12, [(0, .long (lN S)), (2, .int i)], [], hp) _
    refine px_gx (fun _ K9 => px_a 1 (f' := (13, [(0, .long (lN S)), (2, .int i)], [.int (-1)], hp)) rfl K9) ?_
    refine ⟨_, _, px_ri rfl rfl rfl, rfl, _, rfl, Or.inr ⟨fun b b36 b2 z => ?_, rfl⟩⟩
    rw [← z, Int32.lt_iff_toInt_lt, nI_toInt (by have := z_c_le S b; omega)] at h1
    have e0 : (0 : Int32).toInt = 0 := rfl
    omega
  by_cases h2 : i < nI (z_c S 64)
  rotate_left
  · 
    refine px_gx (fun _ K9 => px_a 1 (f' := (1, [(0, .long (lN S)), (2, .int i)], [.int i], hp)) rfl K9) ?_
    refine px_gx (fun _ K9 => px_b1 false 12 rfl rfl (decide_eq_false h1) K9) ?_
    show px_Gx _ _ (4, [(0, .long (lN S)), (2, .int i)], [], hp) _
    refine px_gx (fun _ K9 => px_a 2 (f' := (6, [(0, .long (lN S)), (2, .int i)], [.long (lN S), .int i], hp)) rfl K9) ?_
    refine px_gx (fun _ K9 => px_cl (as := [.long (lN S)]) (rest := [.int i]) rfl rfl (hbc) K9) ?_
    show px_Gx _ _ (9, [(0, .long (lN S)), (2, .int i)], [.int (nI (z_c S 64)), .int i], hp) _
    refine px_gx (fun _ K9 => px_b2 false 14 rfl rfl (decide_eq_false h2) K9) ?_
    show px_Gx _ _ (12, [(0, .long (lN S)), (2, .int i)], [], hp) _
    refine px_gx (fun _ K9 => px_a 1 (f' := (13, [(0, .long (lN S)), (2, .int i)], [.int (-1)], hp)) rfl K9) ?_
    refine ⟨_, _, px_ri rfl rfl rfl, rfl, _, rfl, Or.inr ⟨fun b b36 b2 z => h2 ?_, rfl⟩⟩
    have := z_c_lt b2 (show b < 64 by omega)
    rw [← z]
    exact nI_lt this (by omega)
  obtain ⟨m, hm, rfl⟩ : ∃ m : Nat, m < z_c S 64 ∧ i = nI m := by
    rcases pk_ix i (n := z_c S 64) (by omega) with q | q | q
    · exact absurd q h1
    · exact absurd h2 (Int32.not_lt.mpr q)
    · exact q
  refine px_gx (fun _ K9 => px_a 1 (f' := (1, [(0, .long (lN S)), (2, .int (nI m))], [.int (nI m)], hp)) rfl K9) ?_
  refine px_gx (fun _ K9 => px_b1 false 12 rfl rfl (decide_eq_false h1) K9) ?_
  show px_Gx _ _ (4, [(0, .long (lN S)), (2, .int (nI m))], [], hp) _
  refine px_gx (fun _ K9 => px_a 2 (f' := (6, [(0, .long (lN S)), (2, .int (nI m))], [.long (lN S), .int (nI m)], hp)) rfl K9) ?_
  refine px_gx (fun _ K9 => px_cl (as := [.long (lN S)]) (rest := [.int (nI m)]) rfl rfl (hbc) K9) ?_
  show px_Gx _ _ (9, [(0, .long (lN S)), (2, .int (nI m))], [.int (nI (z_c S 64)), .int (nI m)], hp) _
  refine px_gx (fun _ K9 => px_b2 true 14 rfl rfl (decide_eq_true h2) K9) ?_
  show px_Gx _ _ (14, [(0, .long (lN S)), (2, .int (nI m))], [], hp) _
  refine px_gx (fun _ K9 => px_a 4 (f' := (19, [(5, .int 0), (3, .long (lN S)), (0, .long (lN S)), (2, .int (nI m))], [], hp)) rfl K9) ?_
  refine px_wk [(5, .int (nI 0)), (3, .long (lN S)), (0, .long (lN S)), (2, .int (nI m))] ⟨rfl, rfl, rfl, rfl, trivial⟩ ?_
  exact x_cosl hS hm (by omega) m 0 (by omega) (lN S) (fun i _ => by rw [p_bt hS]; exact ⟨fun z => ⟨z, Nat.zero_le _⟩, fun z => z.1⟩)
