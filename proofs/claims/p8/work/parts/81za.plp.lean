/-! frames of four by four -/
def f_or (g : Nat → Nat) (N : Nat) : Nat → Nat
  | 0 => 0
  | s + 1 => if N.testBit s = true then f_or g N s ||| 2 ^ g s else f_or g N s
theorem f_or_b {g : Nat → Nat} {N t : Nat} : ∀ k, (f_or g N k).testBit t = true ↔ ∃ s, s < k ∧ N.testBit s = true ∧ g s = t
  | 0 => by
    show (0 : Nat).testBit t = true ↔ _
    rw [Nat.zero_testBit]
    constructor
    · intro h
      cases h
    · rintro ⟨s, h, -⟩
      exact absurd h (Nat.not_lt_zero s)
  | k + 1 => by
    show (if N.testBit k = true then f_or g N k ||| 2 ^ g k else f_or g N k).testBit t = true ↔ _
    by_cases h : N.testBit k = true
    · rw [if_pos h, Nat.testBit_or, Bool.or_eq_true, f_or_b k, Nat.testBit_two_pow, decide_eq_true_eq]
      constructor
      · rintro (⟨s, a, b, c⟩ | e)
        · exact ⟨s, Nat.lt_succ_of_lt a, b, c⟩
        · exact ⟨k, Nat.lt_succ_self k, h, e⟩
      · rintro ⟨s, a, b, c⟩
        by_cases e : s = k
        · subst e
          exact Or.inr c
        · exact Or.inl ⟨s, by omega, b, c⟩
    · rw [if_neg h, f_or_b k]
      constructor
      · rintro ⟨s, a, b, c⟩
        exact ⟨s, Nat.lt_succ_of_lt a, b, c⟩
      · rintro ⟨s, a, b, c⟩
        have : s ≠ k := fun e => h (e ▸ b)
        exact ⟨s, by omega, b, c⟩
theorem f_or_lt {g : Nat → Nat} {N m : Nat} : ∀ k, (∀ s, s < k → g s < m) → f_or g N k < 2 ^ m
  | 0, _ => Nat.two_pow_pos m
  | k + 1, h => by
    have ih := f_or_lt (N := N) k (fun s hs => h s (Nat.lt_succ_of_lt hs))
    unfold f_or
    split
    · exact Nat.or_lt_two_pow ih (Nat.pow_lt_pow_right (by decide) (h k (Nat.lt_succ_self k)))
    · exact ih
def f_F (N i j : Nat) : Prop := i < 4 ∧ j < 4 ∧ N.testBit (4 * j + i) = true
def f_qt (N : Nat) : Nat := f_or (fun s => 4 * (s % 4) + (3 - s / 4)) N 16
def f_ov (N : Nat) : Nat := f_or (fun s => 4 * (s / 4) + (3 - s % 4)) N 16
def f_cc (W N : Nat) : Nat := f_or (fun s => W * (s / 4) + s % 4) N 16
theorem f_qt_lt (N : Nat) : f_qt N < 65536 := f_or_lt (m := 16) 16 (fun s hs => by omega)
theorem f_ov_lt (N : Nat) : f_ov N < 65536 := f_or_lt (m := 16) 16 (fun s hs => by omega)
theorem f_qt_F {N i j : Nat} (hi : i < 4) (hj : j < 4) : (f_qt N).testBit (4 * j + i) = true ↔ N.testBit (4 * (3 - i) + j) = true := by
  unfold f_qt
  rw [f_or_b]
  constructor
  · rintro ⟨s, a, b, c⟩
    have c' : 4 * (s % 4) + (3 - s / 4) = 4 * j + i := c
    have : s = 4 * (3 - i) + j := by omega
    rw [← this]
    exact b
  · intro h
    exact ⟨4 * (3 - i) + j, by omega, h, show 4 * ((4 * (3 - i) + j) % 4) + (3 - (4 * (3 - i) + j) / 4) = 4 * j + i by omega⟩
theorem f_ov_F {N i j : Nat} (hi : i < 4) (hj : j < 4) : (f_ov N).testBit (4 * j + i) = true ↔ N.testBit (4 * j + (3 - i)) = true := by
  unfold f_ov
  rw [f_or_b]
  constructor
  · rintro ⟨s, a, b, c⟩
    have c' : 4 * (s / 4) + (3 - s % 4) = 4 * j + i := c
    have : s = 4 * j + (3 - i) := by omega
    rw [← this]
    exact b
  · intro h
    exact ⟨4 * j + (3 - i), by omega, h, show 4 * ((4 * j + (3 - i)) / 4) + (3 - (4 * j + (3 - i)) % 4) = 4 * j + i by omega⟩
def f_T : Nat → Nat → Nat
  | 0, N => N
  | k + 1, N => if k = 3 then f_ov (f_qt (f_T k N)) else f_qt (f_T k N)
def f_iv : Nat → Nat → Nat → Nat
  | 0, i, j => 4 * j + i
  | 1, i, j => 4 * (3 - i) + j
  | 2, i, j => 4 * (3 - j) + (3 - i)
  | 3, i, j => 4 * i + (3 - j)
  | 4, i, j => 4 * j + (3 - i)
  | 5, i, j => 4 * (3 - i) + (3 - j)
  | 6, i, j => 4 * (3 - j) + i
  | _, i, j => 4 * i + j
theorem f_T_b {N i j : Nat} (hi : i < 4) (hj : j < 4) : ∀ k, k < 8 → ((f_T k N).testBit (4 * j + i) = true ↔ N.testBit (f_iv k i j) = true) := by
  have q : ∀ {M N : Nat} {g : Nat → Nat → Nat}, (∀ i j, i < 4 → j < 4 → (M.testBit (4 * j + i) = true ↔ N.testBit (g i j) = true)) → ∀ i j, i < 4 → j < 4 → ((f_qt M).testBit (4 * j + i) = true ↔ N.testBit (g j (3 - i)) = true) := fun h i j hi hj => (f_qt_F hi hj).trans (h j (3 - i) hj (by omega))
  have h0 : ∀ i j, i < 4 → j < 4 → ((f_T 0 N).testBit (4 * j + i) = true ↔ N.testBit (f_iv 0 i j) = true) := fun i j _ _ => Iff.rfl
  have h1 : ∀ i j, i < 4 → j < 4 → ((f_T 1 N).testBit (4 * j + i) = true ↔ N.testBit (f_iv 1 i j) = true) := q h0
  have h2 : ∀ i j, i < 4 → j < 4 → ((f_T 2 N).testBit (4 * j + i) = true ↔ N.testBit (f_iv 2 i j) = true) := q h1
  have h3 : ∀ i j, i < 4 → j < 4 → ((f_T 3 N).testBit (4 * j + i) = true ↔ N.testBit (f_iv 3 i j) = true) := fun i j hi hj => by
    rw [show f_T 3 N = f_qt (f_T 2 N) from rfl, q h2 i j hi hj]
    show N.testBit (4 * (3 - (3 - i)) + (3 - j)) = true ↔ N.testBit (4 * i + (3 - j)) = true
    rw [show 3 - (3 - i) = i by omega]
  have h4 : ∀ i j, i < 4 → j < 4 → ((f_T 4 N).testBit (4 * j + i) = true ↔ N.testBit (f_iv 4 i j) = true) := fun i j hi hj => by
    show (f_ov (f_qt (f_T 3 N))).testBit (4 * j + i) = true ↔ _
    rw [f_ov_F hi hj, q h3 (3 - i) j (by omega) hj]
    show N.testBit (4 * j + (3 - (3 - (3 - i)))) = true ↔ N.testBit (4 * j + (3 - i)) = true
    rw [show 3 - (3 - (3 - i)) = 3 - i by omega]
  have h5 : ∀ i j, i < 4 → j < 4 → ((f_T 5 N).testBit (4 * j + i) = true ↔ N.testBit (f_iv 5 i j) = true) := q h4
  have h6 : ∀ i j, i < 4 → j < 4 → ((f_T 6 N).testBit (4 * j + i) = true ↔ N.testBit (f_iv 6 i j) = true) := fun i j hi hj => by
    rw [show f_T 6 N = f_qt (f_T 5 N) from rfl, q h5 i j hi hj]
    show N.testBit (4 * (3 - j) + (3 - (3 - i))) = true ↔ N.testBit (4 * (3 - j) + i) = true
    rw [show 3 - (3 - i) = i by omega]
  have h7 : ∀ i j, i < 4 → j < 4 → ((f_T 7 N).testBit (4 * j + i) = true ↔ N.testBit (f_iv 7 i j) = true) := fun i j hi hj => by
    rw [show f_T 7 N = f_qt (f_T 6 N) from rfl, q h6 i j hi hj]
    show N.testBit (4 * (3 - (3 - i)) + j) = true ↔ N.testBit (4 * i + j) = true
    rw [show 3 - (3 - i) = i by omega]
  intro k hk
  rcases (show k = 0 ∨ k = 1 ∨ k = 2 ∨ k = 3 ∨ k = 4 ∨ k = 5 ∨ k = 6 ∨ k = 7 by omega) with rfl | rfl | rfl | rfl | rfl | rfl | rfl | rfl
  · exact h0 i j hi hj
  · exact h1 i j hi hj
  · exact h2 i j hi hj
  · exact h3 i j hi hj
  · exact h4 i j hi hj
  · exact h5 i j hi hj
  · exact h6 i j hi hj
  · exact h7 i j hi hj
theorem f_iv_s : ∀ k, k < 8 → ∀ q, q < 16 → ∃ i, i < 4 ∧ ∃ j, j < 4 ∧ f_iv k i j = q := by decide +kernel
theorem f_iv_lt : ∀ k, k < 8 → ∀ i, i < 4 → ∀ j, j < 4 → f_iv k i j < 16 := by decide +kernel
theorem f_T_lt {N : Nat} (h : N < 65536) : ∀ k, f_T k N < 65536
  | 0 => h
  | k + 1 => by
    unfold f_T
    split
    · exact f_ov_lt _
    · exact f_qt_lt _
/-! masks -/
theorem f_mask {N m : Nat} (hm : m < 65536) : N &&& m = 0 ↔ ∀ t, t < 16 → m.testBit t = true → N.testBit t = false := by
  constructor
  · intro h t _ b
    have := congrArg (fun z => z.testBit t) h
    simp only [Nat.testBit_and, b, Bool.and_true, Nat.zero_testBit] at this
    exact this
  · intro h
    apply Nat.eq_of_testBit_eq
    intro t
    rw [Nat.testBit_and, Nat.zero_testBit]
    by_cases ht : t < 16
    · cases e : m.testBit t
      · rw [Bool.and_false]
      · rw [h t ht e, Bool.false_and]
    · rw [show m.testBit t = false from Nat.testBit_lt_two_pow (Nat.lt_of_lt_of_le hm (Nat.pow_le_pow_right (n := 2) (by decide) (show 16 ≤ t by omega))), Bool.and_false]
theorem f_mr : ∀ y, y < 4 → (15 * 2 ^ (4 * y) < 65536) ∧ ∀ t, t < 16 → ((15 * 2 ^ (4 * y)).testBit t = true ↔ t / 4 = y) := by decide +kernel
theorem f_mc : ∀ x, x < 4 → (4369 * 2 ^ x < 65536) ∧ ∀ t, t < 16 → ((4369 * 2 ^ x).testBit t = true ↔ t % 4 = x) := by decide +kernel
theorem f_rowE {N y : Nat} (hy : y < 4) : N &&& (15 * 2 ^ (4 * y)) = 0 ↔ ∀ i, ¬ f_F N i y := by
  rw [f_mask (f_mr y hy).1]
  constructor
  · rintro h i ⟨h1, h2, h3⟩
    rw [h _ (by omega) (((f_mr y hy).2 _ (by omega)).mpr (by omega))] at h3
    cases h3
  · intro h t ht b
    have e := ((f_mr y hy).2 t ht).mp b
    cases c : N.testBit t
    · rfl
    · exact absurd (⟨by omega, hy, by rw [show 4 * y + t % 4 = t by omega]; exact c⟩ : f_F N (t % 4) y) (h (t % 4))
theorem f_colE {N x : Nat} (hx : x < 4) : N &&& (4369 * 2 ^ x) = 0 ↔ ∀ j, ¬ f_F N x j := by
  rw [f_mask (f_mc x hx).1]
  constructor
  · rintro h j ⟨h1, h2, h3⟩
    rw [h _ (by omega) (((f_mc x hx).2 _ (by omega)).mpr (by omega))] at h3
    cases h3
  · intro h t ht b
    have e := ((f_mc x hx).2 t ht).mp b
    cases c : N.testBit t
    · rfl
    · exact absurd (⟨hx, by omega, by rw [show 4 * (t / 4) + x = t by omega]; exact c⟩ : f_F N x (t / 4)) (h (t / 4))
/-! pushed to the corner -/
def f_pr (P : Nat) : Nat := if P &&& 15 = 0 then P / 16 else P
def f_pc (P : Nat) : Nat := if P &&& 4369 = 0 then P / 2 else P
def f_p1 (P : Nat) : Nat := f_pc (f_pr P)
def f_pu (P : Nat) : Nat := f_p1 (f_p1 (f_p1 P))
theorem f_hi {P t : Nat} (h : P < 65536) (ht : 16 ≤ t) : P.testBit t = false := Nat.testBit_lt_two_pow (Nat.lt_of_lt_of_le h (Nat.pow_le_pow_right (n := 2) (by decide) ht))
theorem f_d16 {P i j : Nat} (h : P < 65536) (hj : j < 4) (hi : i < 4) : f_F (P / 16) i j ↔ f_F P i (j + 1) := by
  unfold f_F
  rw [show (16 : Nat) = 2 ^ 4 from rfl, Nat.testBit_div_two_pow, show 4 * j + i + 4 = 4 * (j + 1) + i by omega]
  constructor
  · rintro ⟨a, b, c⟩
    refine ⟨a, ?_, c⟩
    apply Nat.lt_of_not_le
    intro z
    rw [f_hi h (by omega)] at c
    cases c
  · rintro ⟨a, b, c⟩
    exact ⟨a, hj, c⟩
theorem f_d2 {P i j : Nat} (h : P < 65536) (hj : j < 4) (hi : i < 4) (hc : ∀ j, ¬ f_F P 0 j) : f_F (P / 2) i j ↔ f_F P (i + 1) j := by
  have e : (P / 2).testBit (4 * j + i) = P.testBit (4 * j + i + 1) := by rw [Nat.testBit_succ]
  unfold f_F
  rw [e, show 4 * j + i + 1 = 4 * j + (i + 1) by omega]
  constructor
  · rintro ⟨a, b, c⟩
    refine ⟨?_, b, c⟩
    apply Nat.lt_of_not_le
    intro z
    have ei : i = 3 := by omega
    subst ei
    by_cases j3 : j < 3
    · exact hc (j + 1) ⟨by decide, by omega, by rw [show 4 * (j + 1) + 0 = 4 * j + (3 + 1) by omega]; exact c⟩
    · rw [f_hi h (by omega)] at c
      cases c
  · rintro ⟨a, b, c⟩
    exact ⟨hi, b, c⟩
def f_Sh (P Q a b : Nat) : Prop := Q < 65536 ∧ (∀ i j, f_F Q i j ↔ f_F P (i + a) (j + b)) ∧ ∀ i j, f_F P i j → a ≤ i ∧ b ≤ j
def f_St (P Q t : Nat) : Prop := ∃ a b, a ≤ t ∧ b ≤ t ∧ f_Sh P Q a b ∧ (a = t ∨ ∃ j, f_F Q 0 j) ∧ (b = t ∨ ∃ i, f_F Q i 0)
theorem f_row0 {P : Nat} : P &&& 15 = 0 ↔ ∀ i, ¬ f_F P i 0 := f_rowE (y := 0) (by decide)
theorem f_col0 {P : Nat} : P &&& 4369 = 0 ↔ ∀ j, ¬ f_F P 0 j := f_colE (x := 0) (by decide)
theorem f_ne {p : Nat → Prop} (h : ¬ ∀ i, ¬ p i) : ∃ i, p i := Classical.byContradiction (fun z => h (fun i hi => z ⟨i, hi⟩))
theorem f_pr_s {P Q a b : Nat} (h : f_Sh P Q a b) : ∃ b', f_Sh P (f_pr Q) a b' ∧ ((b' = b + 1 ∧ (∀ i, ¬ f_F Q i 0)) ∨ (b' = b ∧ ∃ i, f_F Q i 0)) ∧ ((∃ j, f_F Q 0 j) → ∃ j, f_F (f_pr Q) 0 j) := by
  obtain ⟨h1, h2, h3⟩ := h
  unfold f_pr
  by_cases e : Q &&& 15 = 0
  · rw [if_pos e]
    have e0 := f_row0.mp e
    have key : ∀ i j, f_F (Q / 16) i j ↔ f_F Q i (j + 1) := fun i j => by
      by_cases hi : i < 4
      · by_cases hj : j < 4
        · exact f_d16 h1 hj hi
        · exact ⟨fun z => absurd z.2.1 hj, fun z => absurd (show j < 4 by have := z.2.1; omega) hj⟩
      · exact ⟨fun z => absurd z.1 hi, fun z => absurd z.1 hi⟩
    refine ⟨b + 1, ⟨by omega, fun i j => ?_, fun i j z => ?_⟩, Or.inl ⟨rfl, e0⟩, ?_⟩
    · rw [key, h2, show j + 1 + b = j + (b + 1) by omega]
    · obtain ⟨z1, z2⟩ := h3 i j z
      refine ⟨z1, ?_⟩
      apply Nat.lt_of_le_of_ne z2
      intro q
      subst q
      exact e0 (i - a) ((h2 _ _).mpr (by rw [Nat.sub_add_cancel z1, Nat.zero_add]; exact z))
    · rintro ⟨j, hj⟩
      cases j with
      | zero => exact absurd hj (e0 0)
      | succ j => exact ⟨j, (key 0 j).mpr hj⟩
  · rw [if_neg e]
    exact ⟨b, ⟨h1, h2, h3⟩, Or.inr ⟨rfl, f_ne (fun z => e (f_row0.mpr z))⟩, fun z => z⟩
theorem f_pc_s {P Q a b : Nat} (h : f_Sh P Q a b) : ∃ a', f_Sh P (f_pc Q) a' b ∧ ((a' = a + 1 ∧ (∀ j, ¬ f_F Q 0 j)) ∨ (a' = a ∧ (∃ j, f_F Q 0 j) ∧ f_pc Q = Q)) ∧ ((∃ i, f_F Q i 0) → ∃ i, f_F (f_pc Q) i 0) := by
  obtain ⟨h1, h2, h3⟩ := h
  unfold f_pc
  by_cases e : Q &&& 4369 = 0
  · rw [if_pos e]
    have e0 := f_col0.mp e
    have key : ∀ i j, f_F (Q / 2) i j ↔ f_F Q (i + 1) j := fun i j => by
      by_cases hi : i < 4
      · by_cases hj : j < 4
        · exact f_d2 h1 hj hi e0
        · exact ⟨fun z => absurd z.2.1 hj, fun z => absurd z.2.1 hj⟩
      · exact ⟨fun z => absurd z.1 hi, fun z => absurd (show i < 4 by have := z.1; omega) hi⟩
    refine ⟨a + 1, ⟨by omega, fun i j => ?_, fun i j z => ?_⟩, Or.inl ⟨rfl, e0⟩, ?_⟩
    · rw [key, h2, show i + 1 + a = i + (a + 1) by omega]
    · obtain ⟨z1, z2⟩ := h3 i j z
      refine ⟨?_, z2⟩
      apply Nat.lt_of_le_of_ne z1
      intro q
      subst q
      exact e0 (j - b) ((h2 _ _).mpr (by rw [Nat.sub_add_cancel z2, Nat.zero_add]; exact z))
    · rintro ⟨i, hi⟩
      cases i with
      | zero => exact absurd hi (e0 0)
      | succ i => exact ⟨i, (key i 0).mpr hi⟩
  · rw [if_neg e]
    exact ⟨a, ⟨h1, h2, h3⟩, Or.inr ⟨rfl, f_ne (fun z => e (f_col0.mpr z)), rfl⟩, fun z => z⟩
theorem f_p1_s {P Q t : Nat} (h : f_St P Q t) : f_St P (f_p1 Q) (t + 1) := by
  obtain ⟨a, b, ha, hb, hs, ca, cb⟩ := h
  obtain ⟨b', s1, d1, k1⟩ := f_pr_s hs
  obtain ⟨a', s2, d2, k2⟩ := f_pc_s s1
  unfold f_p1
  refine ⟨a', b', ?_, ?_, s2, ?_, ?_⟩
  · rcases d2 with ⟨rfl, -⟩ | ⟨rfl, -⟩ <;> omega
  · rcases d1 with ⟨rfl, -⟩ | ⟨rfl, -⟩ <;> omega
  · rcases d2 with ⟨rfl, z⟩ | ⟨rfl, z, e⟩
    · rcases ca with rfl | ca
      · exact Or.inl rfl
      · obtain ⟨j, hj⟩ := k1 ca
        exact absurd hj (z j)
    · rw [e]
      exact Or.inr z
  · rcases d1 with ⟨rfl, z⟩ | ⟨rfl, z⟩
    · rcases cb with rfl | ⟨i, hi⟩
      · exact Or.inl rfl
      · exact absurd hi (z i)
    · refine Or.inr (k2 ?_)
      have : f_pr Q = Q := by
        unfold f_pr
        rw [if_neg]
        intro e
        obtain ⟨i, hi⟩ := z
        exact f_row0.mp e i hi
      rw [this]
      exact z
/-- a frame in the corner -/
def f_C (Q : Nat) : Prop := Q < 65536 ∧ (∃ j, f_F Q 0 j) ∧ ∃ i, f_F Q i 0
theorem f_pu_s {P : Nat} (h : P < 65536) (hn : ∃ i j, f_F P i j) : ∃ a b, a ≤ 3 ∧ b ≤ 3 ∧ f_Sh P (f_pu P) a b ∧ f_C (f_pu P) := by
  have s0 : f_St P P 0 := ⟨0, 0, Nat.le_refl 0, Nat.le_refl 0, ⟨h, fun i j => Iff.rfl, fun i j _ => ⟨Nat.zero_le i, Nat.zero_le j⟩⟩, Or.inl rfl, Or.inl rfl⟩
  obtain ⟨a, b, ha, hb, hs, ca, cb⟩ := f_p1_s (f_p1_s (f_p1_s s0))
  obtain ⟨i, j, hij⟩ := hn
  have hs' : f_Sh P (f_pu P) a b := hs
  obtain ⟨h1, h2, h3⟩ := hs'
  obtain ⟨z1, z2⟩ := h3 i j hij
  have hq : f_F (f_pu P) (i - a) (j - b) := (h2 _ _).mpr (by rw [Nat.sub_add_cancel z1, Nat.sub_add_cancel z2]; exact hij)
  refine ⟨a, b, ha, hb, hs, h1, ?_, ?_⟩
  · rcases ca with rfl | ca
    · have := hij.1
      rw [show i - (0 + 1 + 1 + 1) = 0 by omega] at hq
      exact ⟨_, hq⟩
    · exact ca
  · rcases cb with rfl | cb
    · have := hij.2.1
      rw [show j - (0 + 1 + 1 + 1) = 0 by omega] at hq
      exact ⟨_, hq⟩
    · exact cb
/-! columns and rows -/
def f_co (P : Nat) : Nat → Nat
  | 0 => 0
  | x + 1 => if P &&& (4369 * 2 ^ x) = 0 then f_co P x else x + 1
def f_ro (P : Nat) : Nat → Nat
  | 0 => 0
  | x + 1 => if P &&& (15 * 2 ^ (4 * x)) = 0 then f_ro P x else x + 1
theorem f_co_s {P : Nat} : ∀ k, k ≤ 4 → f_co P k ≤ k ∧ (∀ i j, i < k → f_F P i j → i < f_co P k) ∧ (∀ c, f_co P k = c + 1 → ∃ j, f_F P c j)
  | 0, _ => ⟨Nat.le_refl 0, fun i j h => absurd h (Nat.not_lt_zero i), fun c h => by cases h⟩
  | k + 1, hk => by
    obtain ⟨a, b, c⟩ := f_co_s (P := P) k (by omega)
    unfold f_co
    by_cases e : P &&& (4369 * 2 ^ k) = 0
    · rw [if_pos e]
      have e0 := (f_colE (by omega)).mp e
      refine ⟨by omega, fun i j hi hf => ?_, c⟩
      by_cases ei : i = k
      · subst ei
        exact absurd hf (e0 j)
      · exact b i j (by omega) hf
    · rw [if_neg e]
      refine ⟨Nat.le_refl _, fun i j hi _ => hi, fun d hd => ?_⟩
      obtain rfl : k = d := by omega
      exact f_ne (fun z => e ((f_colE (by omega)).mpr z))
theorem f_ro_s {P : Nat} : ∀ k, k ≤ 4 → f_ro P k ≤ k ∧ (∀ i j, j < k → f_F P i j → j < f_ro P k) ∧ (∀ c, f_ro P k = c + 1 → ∃ i, f_F P i c)
  | 0, _ => ⟨Nat.le_refl 0, fun i j h => absurd h (Nat.not_lt_zero j), fun c h => by cases h⟩
  | k + 1, hk => by
    obtain ⟨a, b, c⟩ := f_ro_s (P := P) k (by omega)
    unfold f_ro
    by_cases e : P &&& (15 * 2 ^ (4 * k)) = 0
    · rw [if_pos e]
      have e0 := (f_rowE (by omega)).mp e
      refine ⟨by omega, fun i j hi hf => ?_, c⟩
      by_cases ei : j = k
      · subst ei
        exact absurd hf (e0 i)
      · exact b i j (by omega) hf
    · rw [if_neg e]
      refine ⟨Nat.le_refl _, fun i j hi _ => hi, fun d hd => ?_⟩
      obtain rfl : k = d := by omega
      exact f_ne (fun z => e ((f_rowE (by omega)).mpr z))
/-! where a frame lies -/
def f_w (k N : Nat) : Nat := f_pu (f_T k N)
def f_cS (W P x y : Nat) : Nat := f_cc W P * 2 ^ (W * y + x)
theorem f_cc_b {W P t : Nat} : (f_cc W P).testBit t = true ↔ ∃ i j, f_F P i j ∧ W * j + i = t := by
  unfold f_cc
  rw [f_or_b]
  constructor
  · rintro ⟨s, a, b, c⟩
    exact ⟨s % 4, s / 4, ⟨by omega, by omega, by rw [show 4 * (s / 4) + s % 4 = s by omega]; exact b⟩, c⟩
  · rintro ⟨i, j, ⟨a, b, c⟩, e⟩
    refine ⟨4 * j + i, by omega, c, ?_⟩
    show W * ((4 * j + i) / 4) + (4 * j + i) % 4 = t
    rw [show (4 * j + i) / 4 = j by omega, show (4 * j + i) % 4 = i by omega]
    exact e
theorem f_cS_b {W P x y t : Nat} : (f_cS W P x y).testBit t = true ↔ ∃ i j, f_F P i j ∧ W * (j + y) + (i + x) = t := by
  unfold f_cS
  rw [Nat.testBit_mul_two_pow, Bool.and_eq_true, decide_eq_true_eq, f_cc_b]
  constructor
  · rintro ⟨h, i, j, hf, e⟩
    exact ⟨i, j, hf, by rw [Nat.mul_add]; omega⟩
  · rintro ⟨i, j, hf, e⟩
    rw [Nat.mul_add] at e
    exact ⟨by omega, i, j, hf, by omega⟩
theorem f_dm {W a b c d : Nat} (hb : b < W) (hd : d < W) (h : W * a + b = W * c + d) : a = c ∧ b = d := by
  have h1 : (W * a + b) / W = a := by rw [Nat.mul_add_div (by omega), Nat.div_eq_of_lt hb, Nat.add_zero]
  have h2 : (W * c + d) / W = c := by rw [Nat.mul_add_div (by omega), Nat.div_eq_of_lt hd, Nat.add_zero]
  have e : a = c := by rw [← h1, h, h2]
  subst e
  exact ⟨rfl, by omega⟩
theorem f_ext {P Q : Nat} (hP : P < 65536) (hQ : Q < 65536) (h : ∀ i j, f_F P i j → f_F Q i j) (h' : ∀ i j, f_F Q i j → f_F P i j) : P = Q := by
  apply Nat.eq_of_testBit_eq
  intro t
  by_cases ht : t < 16
  · have e : 4 * (t / 4) + t % 4 = t := by omega
    have k1 : P.testBit t = true → Q.testBit t = true := fun z => by have := (h (t % 4) (t / 4) ⟨by omega, by omega, by rw [e]; exact z⟩).2.2; rw [e] at this; exact this
    have k2 : Q.testBit t = true → P.testBit t = true := fun z => by have := (h' (t % 4) (t / 4) ⟨by omega, by omega, by rw [e]; exact z⟩).2.2; rw [e] at this; exact this
    cases hp : P.testBit t
    · cases hq : Q.testBit t
      · rfl
      · rw [k2 hq] at hp; cases hp
    · rw [k1 hp]
  · rw [f_hi hP (by omega), f_hi hQ (by omega)]
theorem f_ic {P i j : Nat} (h : f_F P i j) : i < f_co P 4 := (f_co_s 4 (Nat.le_refl 4)).2.1 i j h.1 h
theorem f_ir {P i j : Nat} (h : f_F P i j) : j < f_ro P 4 := (f_ro_s 4 (Nat.le_refl 4)).2.1 i j h.2.1 h
theorem f_inj1 {W P Q x y x' y' i j : Nat} (hx : x + f_co P 4 ≤ W) (hx' : x' + f_co Q 4 ≤ W) (h : f_cS W P x y = f_cS W Q x' y') (hf : f_F P i j) : ∃ i' j', f_F Q i' j' ∧ j + y = j' + y' ∧ i + x = i' + x' := by
  have b : (f_cS W P x y).testBit (W * (j + y) + (i + x)) = true := f_cS_b.mpr ⟨i, j, hf, rfl⟩
  rw [h] at b
  obtain ⟨i', j', hf', e⟩ := f_cS_b.mp b
  have c := f_ic hf
  have c' := f_ic hf'
  obtain ⟨e1, e2⟩ := f_dm (W := W) (a := j' + y') (b := i' + x') (c := j + y) (d := i + x) (by omega) (by omega) e
  exact ⟨i', j', hf', e1.symm, e2.symm⟩
theorem f_inj {W P Q x y x' y' : Nat} (hP : f_C P) (hQ : f_C Q) (hx : x + f_co P 4 ≤ W) (hx' : x' + f_co Q 4 ≤ W) (h : f_cS W P x y = f_cS W Q x' y') : P = Q ∧ x = x' ∧ y = y' := by
  obtain ⟨p0, ⟨j1, hj1⟩, ⟨i1, hi1⟩⟩ := hP
  obtain ⟨q0, ⟨j2, hj2⟩, ⟨i2, hi2⟩⟩ := hQ
  have e1 : x = x' := by
    obtain ⟨i', j', -, -, a⟩ := f_inj1 hx hx' h hj1
    obtain ⟨i'', j'', -, -, b⟩ := f_inj1 hx' hx h.symm hj2
    omega
  have e2 : y = y' := by
    obtain ⟨i', j', -, a, -⟩ := f_inj1 hx hx' h hi1
    obtain ⟨i'', j'', -, b, -⟩ := f_inj1 hx' hx h.symm hi2
    omega
  subst e1 e2
  refine ⟨f_ext p0 q0 (fun i j hf => ?_) (fun i j hf => ?_), rfl, rfl⟩
  · obtain ⟨i', j', hf', a, b⟩ := f_inj1 hx hx' h hf
    obtain rfl : i = i' := by omega
    obtain rfl : j = j' := by omega
    exact hf'
  · obtain ⟨i', j', hf', a, b⟩ := f_inj1 hx' hx h.symm hf
    obtain rfl : i = i' := by omega
    obtain rfl : j = j' := by omega
    exact hf'
/-! class's and model's placements are the same -/
def f_ox : Nat → Int
  | 1 => 3
  | 2 => 3
  | 4 => 3
  | 5 => 3
  | _ => 0
def f_oy : Nat → Int
  | 2 => 3
  | 3 => 3
  | 5 => 3
  | 6 => 3
  | _ => 0
theorem f_oxy : ∀ k, k < 8 → 0 ≤ f_ox k ∧ f_ox k ≤ 3 ∧ 0 ≤ f_oy k ∧ f_oy k ≤ 3 := by decide +kernel
def pl_in (W V T : Nat) (ex ey : Int) : Prop := ∀ i j, f_F T i j → 0 ≤ (i : Int) + ex ∧ (i : Int) + ex < W ∧ 0 ≤ (j : Int) + ey ∧ (j : Int) + ey < V
def pl_bt (W T : Nat) (ex ey : Int) (S : Nat) : Prop := ∀ t : Nat, S.testBit t = true ↔ ∃ i j, f_F T i j ∧ (t : Int) = W * ((j : Int) + ey) + ((i : Int) + ex)
def pl_C (W V N : Nat) (sh : Nat → Prop) (S : Nat) : Prop := ∃ k x y, k < 8 ∧ x + f_co (f_w k N) 4 ≤ W ∧ y + f_ro (f_w k N) 4 ≤ V ∧ S = f_cS W (f_w k N) x y ∧ ∀ t, S.testBit t = true → sh t
def pl_M (W V N : Nat) (sh : Nat → Prop) (S : Nat) : Prop := ∃ (k : Nat) (dx dy : Int), k < 8 ∧ -3 ≤ dx ∧ dx ≤ 9 ∧ -3 ≤ dy ∧ dy ≤ 9 ∧ pl_in W V (f_T k N) (dx - f_ox k) (dy - f_oy k) ∧ pl_bt W (f_T k N) (dx - f_ox k) (dy - f_oy k) S ∧ ∀ t, S.testBit t = true → sh t
theorem f_T_ne {N k : Nat} (hk : k < 8) (hn : ∃ i j, f_F N i j) : ∃ i j, f_F (f_T k N) i j := by
  obtain ⟨i, j, h1, h2, h3⟩ := hn
  obtain ⟨i', a, j', b, e⟩ := f_iv_s k hk (4 * j + i) (by omega)
  exact ⟨i', j', a, b, (f_T_b a b k hk).mpr (by rw [e]; exact h3)⟩
theorem f_T_sp {N k : Nat} (hN : N < 65536) (hk : k < 8) (hn : ∃ i j, f_F N i j) : ∃ a b, a ≤ 3 ∧ b ≤ 3 ∧ f_Sh (f_T k N) (f_w k N) a b ∧ f_C (f_w k N) := f_pu_s (f_T_lt hN k) (f_T_ne hk hn)
theorem pl_sh {W a b x y S T P : Nat} (hs : f_Sh T P a b) : pl_bt W T ((x : Int) - a) ((y : Int) - b) S ↔ ∀ t, S.testBit t = true ↔ ∃ i j, f_F P i j ∧ W * (j + y) + (i + x) = t := by
  obtain ⟨-, h2, h3⟩ := hs
  have key : ∀ t : Nat, (∃ i j, f_F T i j ∧ (t : Int) = W * ((j : Int) + ((y : Int) - b)) + ((i : Int) + ((x : Int) - a))) ↔ ∃ i j, f_F P i j ∧ W * (j + y) + (i + x) = t := by
    intro t
    constructor
    · rintro ⟨i, j, hf, e⟩
      obtain ⟨z1, z2⟩ := h3 i j hf
      refine ⟨i - a, j - b, (h2 _ _).mpr (by rw [Nat.sub_add_cancel z1, Nat.sub_add_cancel z2]; exact hf), ?_⟩
      rw [show (j : Int) + ((y : Int) - b) = ((j - b + y : Nat) : Int) by omega, ← Int.natCast_mul] at e
      omega
    · rintro ⟨i, j, hf, e⟩
      refine ⟨i + a, j + b, (h2 _ _).mp hf, ?_⟩
      rw [show ((j + b : Nat) : Int) + ((y : Int) - b) = ((j + y : Nat) : Int) by omega, ← Int.natCast_mul]
      omega
  unfold pl_bt
  exact ⟨fun h t => (h t).trans (key t), fun h t => (h t).trans (key t).symm⟩
theorem pl_eq {W V N S : Nat} {sh : Nat → Prop} (hN : N < 65536) (hn : ∃ i j, f_F N i j) (hW : W ≤ 6) (hV : V ≤ 6) : pl_C W V N sh S ↔ pl_M W V N sh S := by
  constructor
  · rintro ⟨k, x, y, hk, hx, hy, rfl, hs⟩
    obtain ⟨a, b, ha, hb, hsh, hC, ⟨j1, hj1⟩, ⟨i1, hi1⟩⟩ := f_T_sp hN hk hn
    have ho := f_oxy k hk
    have c1 := f_ic hj1
    have r1 := f_ir hi1
    refine ⟨k, f_ox k + ((x : Int) - a), f_oy k + ((y : Int) - b), hk, by omega, by omega, by omega, by omega, ?_, ?_, hs⟩
    · intro i j hf
      obtain ⟨z1, z2⟩ := hsh.2.2 i j hf
      have hp : f_F (f_w k N) (i - a) (j - b) := (hsh.2.1 _ _).mpr (by rw [Nat.sub_add_cancel z1, Nat.sub_add_cancel z2]; exact hf)
      have c2 := f_ic hp
      have r2 := f_ir hp
      omega
    · rw [show f_ox k + ((x : Int) - a) - f_ox k = (x : Int) - a by omega, show f_oy k + ((y : Int) - b) - f_oy k = (y : Int) - b by omega, pl_sh hsh]
      exact fun t => f_cS_b
  · rintro ⟨k, dx, dy, hk, d1, d2, d3, d4, hin, hbt, hs⟩
    obtain ⟨a, b, ha, hb, hsh, hC, ⟨j1, hj1⟩, ⟨i1, hi1⟩⟩ := f_T_sp hN hk hn
    have t1 := hin _ _ ((hsh.2.1 _ _).mp hj1)
    have t2 := hin _ _ ((hsh.2.1 _ _).mp hi1)
    obtain ⟨x, ex⟩ : ∃ x : Nat, (x : Int) - a = dx - f_ox k := ⟨((a : Int) + (dx - f_ox k)).toNat, by omega⟩
    obtain ⟨y, ey⟩ : ∃ y : Nat, (y : Int) - b = dy - f_oy k := ⟨((b : Int) + (dy - f_oy k)).toNat, by omega⟩
    rw [← ex, ← ey] at hbt hin
    rw [pl_sh hsh] at hbt
    have sc := f_co_s (P := f_w k N) 4 (Nat.le_refl 4)
    have sr := f_ro_s (P := f_w k N) 4 (Nat.le_refl 4)
    have c1 := f_ic hj1
    have r1 := f_ir hi1
    refine ⟨k, x, y, hk, ?_, ?_, ?_, hs⟩
    · obtain ⟨c, hc⟩ : ∃ c, f_co (f_w k N) 4 = c + 1 := ⟨f_co (f_w k N) 4 - 1, by omega⟩
      obtain ⟨j, hj⟩ := sc.2.2 c hc
      have := hin _ _ ((hsh.2.1 _ _).mp hj)
      omega
    · obtain ⟨c, hc⟩ : ∃ c, f_ro (f_w k N) 4 = c + 1 := ⟨f_ro (f_w k N) 4 - 1, by omega⟩
      obtain ⟨i, hi⟩ := sr.2.2 c hc
      have := hin _ _ ((hsh.2.1 _ _).mp hi)
      omega
    · apply Nat.eq_of_testBit_eq
      intro t
      have e := (hbt t).trans (f_cS_b (W := W) (P := f_w k N) (x := x) (y := y) (t := t)).symm
      cases h1 : S.testBit t
      · cases h2 : (f_cS W (f_w k N) x y).testBit t
        · rfl
        · rw [e.mpr h2] at h1; cases h1
      · rw [e.mp h1]
theorem pl_lt {W V P x y : Nat} (hW : W ≤ 6) (hV : V ≤ 6) (hx : x + f_co P 4 ≤ W) (hy : y + f_ro P 4 ≤ V) : f_cS W P x y < 2 ^ 36 := by
  apply Nat.lt_pow_two_of_testBit
  intro t ht
  cases h : (f_cS W P x y).testBit t
  · rfl
  · obtain ⟨i, j, hf, e⟩ := f_cS_b.mp h
    have c := f_ic hf
    have r := f_ir hf
    have h1 : W * (j + y) ≤ 6 * 5 := Nat.mul_le_mul hW (by omega)
    omega
theorem pl_ne {W P x y : Nat} (hC : f_C P) : f_cS W P x y ≠ 0 := by
  obtain ⟨-, ⟨j, hj⟩, -⟩ := hC
  intro h
  have := (f_cS_b (W := W) (P := P) (x := x) (y := y)).mpr ⟨0, j, hj, rfl⟩
  rw [h, Nat.zero_testBit] at this
  cases this
/-! the ways, and how many placements there can be -/
def f_X (T a c : Nat) : Prop := (∀ i j, f_F T i j → a ≤ i ∧ i ≤ a + c) ∧ (∃ j, f_F T a j) ∧ ∃ j, f_F T (a + c) j
def f_Y (T b r : Nat) : Prop := (∀ i j, f_F T i j → b ≤ j ∧ j ≤ b + r) ∧ (∃ i, f_F T i b) ∧ ∃ i, f_F T i (b + r)
theorem f_X_u {T a c a' c' : Nat} (h : f_X T a c) (h' : f_X T a' c') : c = c' := by
  obtain ⟨h1, ⟨j1, h2⟩, ⟨j2, h3⟩⟩ := h
  obtain ⟨g1, ⟨l1, g2⟩, ⟨l2, g3⟩⟩ := h'
  have q1 := h1 _ _ g2
  have q2 := h1 _ _ g3
  have q3 := g1 _ _ h2
  have q4 := g1 _ _ h3
  omega
theorem f_Y_u {T a c a' c' : Nat} (h : f_Y T a c) (h' : f_Y T a' c') : c = c' := by
  obtain ⟨h1, ⟨j1, h2⟩, ⟨j2, h3⟩⟩ := h
  obtain ⟨g1, ⟨l1, g2⟩, ⟨l2, g3⟩⟩ := h'
  have q1 := h1 _ _ g2
  have q2 := h1 _ _ g3
  have q3 := g1 _ _ h2
  have q4 := g1 _ _ h3
  omega
theorem f_qtF {T i j : Nat} : f_F (f_qt T) i j ↔ i < 4 ∧ j < 4 ∧ f_F T j (3 - i) := by
  constructor
  · rintro ⟨a, b, c⟩
    exact ⟨a, b, b, by omega, (f_qt_F a b).mp c⟩
  · rintro ⟨a, b, -, -, c⟩
    exact ⟨a, b, (f_qt_F a b).mpr c⟩
theorem f_ovF {T i j : Nat} : f_F (f_ov T) i j ↔ i < 4 ∧ j < 4 ∧ f_F T (3 - i) j := by
  constructor
  · rintro ⟨a, b, c⟩
    exact ⟨a, b, by omega, b, (f_ov_F a b).mp c⟩
  · rintro ⟨a, b, -, -, c⟩
    exact ⟨a, b, (f_ov_F a b).mpr c⟩
theorem f_X_qt {T b r : Nat} (h : f_Y T b r) : f_X (f_qt T) (3 - b - r) r := by
  obtain ⟨h1, ⟨i1, h2⟩, ⟨i2, h3⟩⟩ := h
  have k := h3.2.1
  refine ⟨fun i j hf => ?_, ⟨i2, ?_⟩, ⟨i1, ?_⟩⟩
  · obtain ⟨a, b', c⟩ := f_qtF.mp hf
    have := h1 _ _ c
    omega
  · exact f_qtF.mpr ⟨by omega, h3.1, by rw [show 3 - (3 - b - r) = b + r by omega]; exact h3⟩
  · exact f_qtF.mpr ⟨by omega, h2.1, by rw [show 3 - (3 - b - r + r) = b by omega]; exact h2⟩
theorem f_Y_qt {T a c : Nat} (h : f_X T a c) : f_Y (f_qt T) a c := by
  obtain ⟨h1, ⟨j1, h2⟩, ⟨j2, h3⟩⟩ := h
  have k1 := h2.2.1
  have k2 := h3.2.1
  refine ⟨fun i j hf => ?_, ⟨3 - j1, ?_⟩, ⟨3 - j2, ?_⟩⟩
  · obtain ⟨a', b', c'⟩ := f_qtF.mp hf
    exact h1 _ _ c'
  · exact f_qtF.mpr ⟨by omega, h2.1, by rw [show 3 - (3 - j1) = j1 by omega]; exact h2⟩
  · exact f_qtF.mpr ⟨by omega, h3.1, by rw [show 3 - (3 - j2) = j2 by omega]; exact h3⟩
theorem f_X_ov {T a c : Nat} (h : f_X T a c) : f_X (f_ov T) (3 - a - c) c := by
  obtain ⟨h1, ⟨j1, h2⟩, ⟨j2, h3⟩⟩ := h
  have k := h3.1
  refine ⟨fun i j hf => ?_, ⟨j2, ?_⟩, ⟨j1, ?_⟩⟩
  · obtain ⟨a', b', c'⟩ := f_ovF.mp hf
    have := h1 _ _ c'
    omega
  · exact f_ovF.mpr ⟨by omega, h3.2.1, by rw [show 3 - (3 - a - c) = a + c by omega]; exact h3⟩
  · exact f_ovF.mpr ⟨by omega, h2.2.1, by rw [show 3 - (3 - a - c + c) = a by omega]; exact h2⟩
theorem f_Y_ov {T b r : Nat} (h : f_Y T b r) : f_Y (f_ov T) b r := by
  obtain ⟨h1, ⟨i1, h2⟩, ⟨i2, h3⟩⟩ := h
  have k1 := h2.1
  have k2 := h3.1
  refine ⟨fun i j hf => ?_, ⟨3 - i1, ?_⟩, ⟨3 - i2, ?_⟩⟩
  · obtain ⟨a', b', c'⟩ := f_ovF.mp hf
    exact h1 _ _ c'
  · exact f_ovF.mpr ⟨by omega, h2.2.1, by rw [show 3 - (3 - i1) = i1 by omega]; exact h2⟩
  · exact f_ovF.mpr ⟨by omega, h3.2.1, by rw [show 3 - (3 - i2) = i2 by omega]; exact h3⟩
/-- width c + 1 and height r + 1 of a turned frame -/
def f_B (T c r : Nat) : Prop := (∃ a, f_X T a c) ∧ ∃ b, f_Y T b r
theorem f_B_T {N c r : Nat} (h : f_B N c r) : ∀ k, f_B (f_T k N) c r ∨ f_B (f_T k N) r c
  | 0 => Or.inl h
  | k + 1 => by
    have q : ∀ {T c r : Nat}, f_B T c r → f_B (f_qt T) r c := fun ⟨⟨a, h1⟩, ⟨b, h2⟩⟩ => ⟨⟨_, f_X_qt h2⟩, ⟨_, f_Y_qt h1⟩⟩
    have o : ∀ {T c r : Nat}, f_B T c r → f_B (f_ov T) c r := fun ⟨⟨a, h1⟩, ⟨b, h2⟩⟩ => ⟨⟨_, f_X_ov h1⟩, ⟨_, f_Y_ov h2⟩⟩
    unfold f_T
    split
    · rcases f_B_T h k with z | z
      · exact Or.inr (o (q z))
      · exact Or.inl (o (q z))
    · rcases f_B_T h k with z | z
      · exact Or.inr (q z)
      · exact Or.inl (q z)
theorem f_B_sh {T P a b : Nat} (hs : f_Sh T P a b) (hC : f_C P) : ∃ c r, f_co P 4 = c + 1 ∧ f_ro P 4 = r + 1 ∧ f_B T c r := by
  obtain ⟨-, ⟨j1, hj1⟩, ⟨i1, hi1⟩⟩ := hC
  have c1 := f_ic hj1
  have r1 := f_ir hi1
  obtain ⟨c, hc⟩ : ∃ c, f_co P 4 = c + 1 := ⟨f_co P 4 - 1, by omega⟩
  obtain ⟨r, hr⟩ : ∃ r, f_ro P 4 = r + 1 := ⟨f_ro P 4 - 1, by omega⟩
  obtain ⟨j2, hj2⟩ := (f_co_s (P := P) 4 (Nat.le_refl 4)).2.2 c hc
  obtain ⟨i2, hi2⟩ := (f_ro_s (P := P) 4 (Nat.le_refl 4)).2.2 r hr
  have k1 := (hs.2.1 _ _).mp hj1
  have k2 := (hs.2.1 _ _).mp hj2
  have k3 := (hs.2.1 _ _).mp hi1
  have k4 := (hs.2.1 _ _).mp hi2
  have back : ∀ i j, f_F T i j → a ≤ i ∧ b ≤ j ∧ i - a < f_co P 4 ∧ j - b < f_ro P 4 := fun i j hf => by
    obtain ⟨z1, z2⟩ := hs.2.2 i j hf
    have hp : f_F P (i - a) (j - b) := (hs.2.1 _ _).mpr (by rw [Nat.sub_add_cancel z1, Nat.sub_add_cancel z2]; exact hf)
    exact ⟨z1, z2, f_ic hp, f_ir hp⟩
  refine ⟨c, r, hc, hr, ⟨a, fun i j hf => ?_, ⟨_, by rw [Nat.zero_add] at k1; exact k1⟩, ⟨_, by rw [Nat.add_comm c a] at k2; exact k2⟩⟩, ⟨b, fun i j hf => ?_, ⟨_, by rw [Nat.zero_add] at k3; exact k3⟩, ⟨_, by rw [Nat.add_comm r b] at k4; exact k4⟩⟩⟩
  · have := back i j hf
    omega
  · have := back i j hf
    omega
theorem f_B_all {N : Nat} (hN : N < 65536) (hn : ∃ i j, f_F N i j) : ∃ c r, f_B N c r ∧ ∀ k, k < 8 → (f_co (f_w k N) 4 = c + 1 ∧ f_ro (f_w k N) 4 = r + 1) ∨ (f_co (f_w k N) 4 = r + 1 ∧ f_ro (f_w k N) 4 = c + 1) := by
  obtain ⟨a, b, -, -, hs, hC⟩ := f_T_sp hN (k := 0) (by decide) hn
  obtain ⟨c, r, -, -, hB⟩ := f_B_sh hs hC
  have hB : f_B N c r := hB
  refine ⟨c, r, hB, fun k hk => ?_⟩
  obtain ⟨a', b', -, -, hs', hC'⟩ := f_T_sp hN hk hn
  obtain ⟨c', r', e1, e2, ⟨⟨x1, x2⟩, ⟨y1, y2⟩⟩⟩ := f_B_sh hs' hC'
  rcases f_B_T hB k with ⟨⟨x3, x4⟩, ⟨y3, y4⟩⟩ | ⟨⟨x3, x4⟩, ⟨y3, y4⟩⟩
  · left
    rw [e1, e2, f_X_u x2 x4, f_Y_u y2 y4]
    exact ⟨rfl, rfl⟩
  · right
    rw [e1, e2, f_X_u x2 x4, f_Y_u y2 y4]
    exact ⟨rfl, rfl⟩
/-- frames of four places: one row, one column, or a square of two by two -/
def f_g (b : Bool) (p : Nat) : Nat := if b = true then 2 ^ p else 0
def f_o4 (b0 b1 b2 b3 : Bool) (p0 p1 p2 p3 : Nat) : Nat := f_g b0 p0 ||| f_g b1 p1 ||| f_g b2 p2 ||| f_g b3 p3
theorem f_g_b {b : Bool} {p t : Nat} : (f_g b p).testBit t = true ↔ b = true ∧ p = t := by
  unfold f_g
  cases b
  · rw [if_neg (by decide), Nat.zero_testBit]
    exact ⟨fun h => Bool.noConfusion h, fun h => Bool.noConfusion h.1⟩
  · rw [if_pos rfl, Nat.testBit_two_pow, decide_eq_true_eq]
    exact ⟨fun h => ⟨rfl, h⟩, fun h => h.2⟩
def f_in4 (N k : Nat) : Bool := f_w k N == f_w 0 N || f_w k N == f_w 1 N || f_w k N == f_w 2 N || f_w k N == f_w 3 N
def f_ck (N : Nat) : Bool := f_in4 N 4 && f_in4 N 5 && f_in4 N 6 && f_in4 N 7
theorem f_ckc : ∀ a, a < 4 → ∀ b0 b1 b2 b3 : Bool, f_ck (f_o4 b0 b1 b2 b3 a (4 + a) (8 + a) (12 + a)) = true := by decide +kernel
theorem f_ckr : ∀ b, b < 4 → ∀ b0 b1 b2 b3 : Bool, f_ck (f_o4 b0 b1 b2 b3 (4 * b) (4 * b + 1) (4 * b + 2) (4 * b + 3)) = true := by decide +kernel
theorem f_cks : ∀ a, a < 3 → ∀ b, b < 3 → ∀ b0 b1 b2 b3 : Bool, f_ck (f_o4 b0 b1 b2 b3 (4 * b + a) (4 * b + (a + 1)) (4 * (b + 1) + a) (4 * (b + 1) + (a + 1))) = true := by decide +kernel
theorem f_4 {N p0 p1 p2 p3 : Nat} (hN : N < 65536) (h : ∀ i j, f_F N i j → 4 * j + i = p0 ∨ 4 * j + i = p1 ∨ 4 * j + i = p2 ∨ 4 * j + i = p3) : N = f_o4 (N.testBit p0) (N.testBit p1) (N.testBit p2) (N.testBit p3) p0 p1 p2 p3 := by
  apply Nat.eq_of_testBit_eq
  intro t
  have key : N.testBit t = true ↔ (f_o4 (N.testBit p0) (N.testBit p1) (N.testBit p2) (N.testBit p3) p0 p1 p2 p3).testBit t = true := by
    unfold f_o4
    simp only [Nat.testBit_or, Bool.or_eq_true, f_g_b]
    constructor
    · intro e
      by_cases ht : t < 16
      · have e4 : 4 * (t / 4) + t % 4 = t := by omega
        have := h (t % 4) (t / 4) ⟨by omega, by omega, by rw [e4]; exact e⟩
        rw [e4] at this
        rcases this with rfl | rfl | rfl | rfl
        · exact Or.inl (Or.inl (Or.inl ⟨e, rfl⟩))
        · exact Or.inl (Or.inl (Or.inr ⟨e, rfl⟩))
        · exact Or.inl (Or.inr ⟨e, rfl⟩)
        · exact Or.inr ⟨e, rfl⟩
      · rw [f_hi hN (by omega)] at e
        cases e
    · rintro (((⟨e, rfl⟩ | ⟨e, rfl⟩) | ⟨e, rfl⟩) | ⟨e, rfl⟩) <;> exact e
  cases h1 : N.testBit t
  · cases h2 : (f_o4 (N.testBit p0) (N.testBit p1) (N.testBit p2) (N.testBit p3) p0 p1 p2 p3).testBit t
    · rfl
    · rw [key.mpr h2] at h1; cases h1
  · rw [key.mp h1]
theorem f_smT {N : Nat} (hN : N < 65536) {c r : Nat} (hB : f_B N c r) (h : c = 0 ∨ r = 0 ∨ (c = 1 ∧ r = 1)) : f_ck N = true := by
  obtain ⟨⟨a, hX, ⟨j0, hX2⟩, ⟨j1, hX3⟩⟩, ⟨b, hY, ⟨i0, hY2⟩, ⟨i1, hY3⟩⟩⟩ := hB
  have a4 := hX3.1
  have b4 := hY3.2.1
  rcases h with rfl | rfl | ⟨rfl, rfl⟩
  · rw [f_4 (p0 := a) (p1 := 4 + a) (p2 := 8 + a) (p3 := 12 + a) hN (fun i j hf => by have := hX i j hf; have := hf.2.1; omega)]
    exact f_ckc a (by omega) _ _ _ _
  · rw [f_4 (p0 := 4 * b) (p1 := 4 * b + 1) (p2 := 4 * b + 2) (p3 := 4 * b + 3) hN (fun i j hf => by have := hY i j hf; have := hf.1; omega)]
    exact f_ckr b (by omega) _ _ _ _
  · rw [f_4 (p0 := 4 * b + a) (p1 := 4 * b + (a + 1)) (p2 := 4 * (b + 1) + a) (p3 := 4 * (b + 1) + (a + 1)) hN (fun i j hf => by have := hX i j hf; have := hY i j hf; omega)]
    exact f_cks a (by omega) b (by omega) _ _ _ _
def f_kw (l : List Nat) (f : Nat) : List Nat := if f ∈ l then l else l ++ [f]
def f_ws (N : Nat) : Nat → List Nat
  | 0 => []
  | k + 1 => f_kw (f_ws N k) (f_w k N)
theorem f_kw_len (l : List Nat) (f : Nat) : (f_kw l f).length ≤ l.length + 1 := by
  unfold f_kw
  split
  · omega
  · rw [List.length_append]; exact Nat.le_refl _
theorem f_ws_len (N : Nat) : ∀ k, (f_ws N k).length ≤ k
  | 0 => Nat.le_refl 0
  | k + 1 => Nat.le_trans (f_kw_len _ _) (Nat.succ_le_succ (f_ws_len N k))
theorem f_kw_mem {l : List Nat} {f P : Nat} : P ∈ f_kw l f ↔ P ∈ l ∨ P = f := by
  unfold f_kw
  split
  · rename_i h
    exact ⟨Or.inl, fun z => z.elim id (fun e => e ▸ h)⟩
  · rw [List.mem_append, List.mem_singleton]
theorem f_ws_mem {N P : Nat} : ∀ k, P ∈ f_ws N k ↔ ∃ k', k' < k ∧ P = f_w k' N
  | 0 => ⟨fun h => (List.not_mem_nil h).elim, fun ⟨_, h, _⟩ => absurd h (Nat.not_lt_zero _)⟩
  | k + 1 => by
    show P ∈ f_kw (f_ws N k) (f_w k N) ↔ _
    rw [f_kw_mem, f_ws_mem k]
    constructor
    · rintro (⟨k', a, b⟩ | e)
      · exact ⟨k', Nat.lt_succ_of_lt a, b⟩
      · exact ⟨k, Nat.lt_succ_self k, e⟩
    · rintro ⟨k', a, b⟩
      by_cases e : k' = k
      · subst e
        exact Or.inr b
      · exact Or.inl ⟨k', by omega, b⟩
theorem f_ws_nd (N : Nat) : ∀ k, (f_ws N k).Pairwise (· ≠ ·)
  | 0 => List.Pairwise.nil
  | k + 1 => by
    show (f_kw (f_ws N k) (f_w k N)).Pairwise (· ≠ ·)
    unfold f_kw
    split
    · exact f_ws_nd N k
    · rename_i h
      rw [List.pairwise_append]
      refine ⟨f_ws_nd N k, List.pairwise_singleton _ _, fun a ha b hb => ?_⟩
      rw [List.mem_singleton] at hb
      intro e
      exact h (by rw [← hb, ← e]; exact ha)
theorem f_ml {a b m n : Nat} (h : a ≤ m) (g : b ≤ n) : a * b ≤ m * n := Nat.mul_le_mul h g
def f_A (P : Nat) : Nat := (7 - f_co P 4) * (7 - f_ro P 4)
theorem f_sum_le {g : Nat → Nat} {m : Nat} : ∀ {l : List Nat}, (∀ P ∈ l, g P ≤ m) → (l.map g).sum ≤ l.length * m
  | [], _ => Nat.zero_le _
  | P :: l, h => by
    rw [List.map_cons, List.sum_cons, List.length_cons, Nat.succ_mul]
    have h1 := h P List.mem_cons_self
    have h2 := f_sum_le (l := l) (g := g) (m := m) (fun Q hQ => h Q (List.mem_cons_of_mem P hQ))
    omega
theorem f_ws4 {N k : Nat} (h : f_in4 N k = true) {l : List Nat} (hl : l = f_ws N 4) : f_kw l (f_w k N) = l := by
  unfold f_kw
  rw [if_pos]
  subst hl
  rw [f_ws_mem]
  unfold f_in4 at h
  simp only [Bool.or_eq_true, beq_iff_eq] at h
  rcases h with ((h | h) | h) | h
  · exact ⟨0, by decide, h⟩
  · exact ⟨1, by decide, h⟩
  · exact ⟨2, by decide, h⟩
  · exact ⟨3, by decide, h⟩
theorem f_tot {N : Nat} (hN : N < 65536) (hn : ∃ i j, f_F N i j) : ((f_ws N 8).map f_A).sum ≤ 160 := by
  obtain ⟨c, r, hB, hk⟩ := f_B_all hN hn
  by_cases h : c = 0 ∨ r = 0 ∨ (c = 1 ∧ r = 1)
  · have q := f_smT hN hB h
    unfold f_ck at q
    simp only [Bool.and_eq_true] at q
    obtain ⟨⟨⟨q4, q5⟩, q6⟩, q7⟩ := q
    have e4 : f_ws N 5 = f_ws N 4 := f_ws4 q4 rfl
    have e5 : f_ws N 6 = f_ws N 4 := by
      show f_kw (f_ws N 5) (f_w 5 N) = _
      rw [f_ws4 q5 e4, e4]
    have e6 : f_ws N 7 = f_ws N 4 := by
      show f_kw (f_ws N 6) (f_w 6 N) = _
      rw [f_ws4 q6 e5, e5]
    have e7 : f_ws N 8 = f_ws N 4 := by
      show f_kw (f_ws N 7) (f_w 7 N) = _
      rw [f_ws4 q7 e6, e6]
    rw [e7]
    have l4 := f_ws_len N 4
    have := f_sum_le (g := f_A) (m := 36) (l := f_ws N 4) (fun P hP => by
      obtain ⟨k, h1, rfl⟩ := (f_ws_mem 4).mp hP
      unfold f_A
      have hh := hk k (by omega)
      exact f_ml (m := 6) (n := 6) (by omega) (by omega))
    omega
  · have l8 := f_ws_len N 8
    have := f_sum_le (g := f_A) (m := 20) (l := f_ws N 8) (fun P hP => by
      obtain ⟨k, h1, rfl⟩ := (f_ws_mem 8).mp hP
      have hh := hk k h1
      have hc := (f_co_s (P := f_w k N) 4 (Nat.le_refl 4)).1
      have hr := (f_ro_s (P := f_w k N) 4 (Nat.le_refl 4)).1
      unfold f_A
      by_cases z : 2 < f_co (f_w k N) 4
      · exact f_ml (m := 4) (n := 5) (by omega) (by omega)
      · exact f_ml (m := 5) (n := 4) (by omega) (by omega))
    omega

