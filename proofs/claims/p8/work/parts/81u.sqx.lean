/-! pieces and their squares -/
theorem pb_cnt_or : ∀ (k q x : Nat), q < k → x.testBit q = false → pb_cnt k (x ||| 2 ^ q) = pb_cnt k x + 1
  | 0, q, _, h, _ => absurd h (Nat.not_lt_zero q)
  | k + 1, 0, x, _, hb => by
    have h0 : x % 2 = 0 := by
      rw [Nat.testBit_zero] at hb
      have := Nat.mod_two_eq_zero_or_one x
      simp at hb
      omega
    have e1 : (x ||| 2 ^ 0) % 2 = 1 := by rw [Nat.pow_zero, Nat.or_mod_two_eq_one]; right; rfl
    have e2 : (x ||| 2 ^ 0) / 2 = x / 2 := by rw [Nat.pow_zero, Nat.or_div_two]; simp
    show (x ||| 2 ^ 0) % 2 + pb_cnt k ((x ||| 2 ^ 0) / 2) = x % 2 + pb_cnt k (x / 2) + 1
    rw [e1, e2]
    omega
  | k + 1, q + 1, x, h, hb => by
    have e1 : (x ||| 2 ^ (q + 1)) % 2 = x % 2 := by
      have t := Nat.testBit_or x (2 ^ (q + 1)) 0
      rw [Nat.testBit_two_pow, decide_eq_false (by omega), Bool.or_false, Nat.testBit_zero, Nat.testBit_zero] at t
      have t2 := decide_eq_decide.mp t
      have t3 := Nat.mod_two_eq_zero_or_one x
      have t4 := Nat.mod_two_eq_zero_or_one (x ||| 2 ^ (q + 1))
      rcases t3 with t3 | t3
      · rcases t4 with t4 | t4
        · rw [t3, t4]
        · rw [t2.mp t4] at t3
          cases t3
      · rw [t2.mpr t3, t3]
    have e2 : (x ||| 2 ^ (q + 1)) / 2 = x / 2 ||| 2 ^ q := by rw [Nat.or_div_two, Nat.pow_succ, Nat.mul_div_cancel _ (by decide)]
    have hb2 : (x / 2).testBit q = false := by rw [Nat.testBit_div_two]; exact hb
    show (x ||| 2 ^ (q + 1)) % 2 + pb_cnt k ((x ||| 2 ^ (q + 1)) / 2) = x % 2 + pb_cnt k (x / 2) + 1
    rw [e1, e2, pb_cnt_or k q (x / 2) (by omega) hb2]
    omega
def q_P (zs us : List Value) (v : Option Value) (k : Nat) : Prop := ∃ (N : Nat) (l : List Nat), N < 65536 ∧ v = some (.int (nI N)) ∧ zs[k]? = some (.int (nI l.length)) ∧ l.length ≤ 6 ∧ pb_cnt 16 N = l.length ∧ (∀ q, q ∈ l ↔ N.testBit q = true) ∧ (∀ (i : Nat) (h : i < l.length), us[6 * k + i]? = some (.int (nI l[i])))
def q_forms : List Value := [.ref 10, .ref 13, .ref 16, .ref 19, .ref 22, .ref 25]
def r_sq (n : Nat) (hp : px_H) : Prop := hp[(9 : Nat)]? = some (13, q_forms) ∧ ∃ (zs us : List Value) (pc : Nat), hp[40 + n]? = some (10, zs) ∧ hp[41 + n]? = some (10, us) ∧ pa_fd hp 8 7 = some (.int (nI pc)) ∧ pa_fd hp (38 + n) 4 = some (.int (nI pc)) ∧ pc ≤ 6 ∧ ∀ k, k < 6 → q_P zs us (pa_fd hp (10 + 3 * k) 4) k ∧ (pc ≤ k → zs[k]? = some (.int 0))
theorem r10 {n k : Nat} (hk : k < 6) : pa_rg n (10 + 3 * k) = 10 := by
  rcases (show k = 0 ∨ k = 1 ∨ k = 2 ∨ k = 3 ∨ k = 4 ∨ k = 5 by omega) with rfl | rfl | rfl | rfl | rfl | rfl <;> rfl
theorem r_sq_fr {n : Nat} {M : pa_M} {hp hp1 : px_H} (H : pa_Hi n hp) (G : pa_Fr n M hp hp1) (h1 : (M.all (fun q => q.1 != 9)) = true) (h2 : ¬ (10, 4) ∈ M) (h3 : ¬ (26, 0) ∈ M) (h4 : ¬ (27, 0) ∈ M) (h5 : ¬ (8, 7) ∈ M) (h6 : ¬ (24, 4) ∈ M) (R : r_sq n hp) : r_sq n hp1 := by
  obtain ⟨a, zs, us, pc, b1, b2, b3, b4, b5, b6⟩ := R
  refine ⟨l_fo G a (r := 9) rfl h1, zs, us, pc, l_fa G b1 (rr 8 (by decide) (by decide) (by omega)) (by decide) h3, l_fa G b2 (rr 9 (by decide) (by decide) (by omega)) (by decide) h4, ?_, ?_, b5, ?_⟩
  · rw [l_fd H G (r := 8) rfl (by decide) (by decide) h5]; exact b3
  · rw [l_fd H G (r24 n) (by decide) (by decide) h6]; exact b4
  · intro k hk
    rw [l_fd H G (r10 hk) (by decide) (by decide) h2]
    exact b6 k hk
theorem q_sh : ∀ q, q < 16 → (1 : Int32) <<< (nI q &&& 31) = nI (2 ^ q) := by decide +kernel
theorem nx_or (a b : Nat) : nI a ||| nI b = nI (a ||| b) := by
  apply Int32.toBitVec_inj.mp
  rw [Int32.toBitVec_or]
  show BitVec.ofNat 32 a ||| BitVec.ofNat 32 b = BitVec.ofNat 32 (a ||| b)
  apply BitVec.eq_of_getLsbD_eq
  intro i hi
  rw [BitVec.getLsbD_or, BitVec.getLsbD_ofNat, BitVec.getLsbD_ofNat, BitVec.getLsbD_ofNat, Nat.testBit_or]
  simp [hi]
theorem q_a2 (N q : Nat) : N &&& 2 ^ q = if N.testBit q = true then 2 ^ q else 0 := by
  apply Nat.eq_of_testBit_eq
  intro i
  rw [Nat.testBit_and, Nat.testBit_two_pow]
  by_cases e : q = i
  · subst e
    cases h : N.testBit q
    · rw [if_neg (by decide), Nat.zero_testBit, Bool.false_and]
    · rw [if_pos rfl, Nat.testBit_two_pow, Bool.true_and]
  · rw [decide_eq_false e, Bool.and_false]
    split
    · rw [Nat.testBit_two_pow, decide_eq_false e]
    · rw [Nat.zero_testBit]
theorem q_and {N q : Nat} (hN : N < 65536) (hq : q < 16) : (nI N &&& nI (2 ^ q) = 0) ↔ N.testBit q = false := by
  rw [nx_and, q_a2]
  have h2 : 2 ^ q < 65536 := Nat.lt_of_lt_of_le (Nat.pow_lt_pow_right (by decide) hq) (by decide)
  have h0 : 0 < 2 ^ q := Nat.two_pow_pos q
  cases h : N.testBit q
  · rw [if_neg (by decide)]
    exact ⟨fun _ => rfl, fun _ => rfl⟩
  · rw [if_pos rfl]
    exact ⟨fun z => absurd z (nI_ne0 h0 (by omega)), fun z => by cases z⟩
theorem q_or {N q : Nat} (hN : N < 65536) (hq : q < 16) : N ||| 2 ^ q < 65536 := Nat.or_lt_two_pow (n := 16) hN (Nat.pow_lt_pow_right (by decide) hq)
