/-! the border's word of a shape -/
def m_ed (s : m_P) : Nat := match s.2.2 with
  | 0 => (s.1 + 6 * s.2.1).toNat
  | 2 => (s.1 - 1 + 6 * s.2.1).toNat
  | 1 => 42 + (s.1 + 7 * s.2.1).toNat
  | _ => 42 + (s.1 + 7 * (s.2.1 - 1)).toNat
theorem m_ed_r {T : Int → Int → Bool} (hT : ∀ x y, T x y = true → 0 ≤ x ∧ x < 6 ∧ 0 ≤ y ∧ y < 6) {s : m_P} (h : m_ok T s) : (s.2.2 = 0 ∧ T s.1 s.2.1 = true ∧ T s.1 (s.2.1 - 1) = false ∧ 0 ≤ s.1 ∧ s.1 < 6 ∧ 0 ≤ s.2.1 ∧ s.2.1 < 6 ∧ m_ed s = (s.1 + 6 * s.2.1).toNat) ∨ (s.2.2 = 2 ∧ T (s.1 - 1) (s.2.1 - 1) = true ∧ T (s.1 - 1) s.2.1 = false ∧ 1 ≤ s.1 ∧ s.1 ≤ 6 ∧ 1 ≤ s.2.1 ∧ s.2.1 ≤ 6 ∧ m_ed s = (s.1 - 1 + 6 * s.2.1).toNat) ∨ (s.2.2 = 1 ∧ T (s.1 - 1) s.2.1 = true ∧ T s.1 s.2.1 = false ∧ 1 ≤ s.1 ∧ s.1 ≤ 6 ∧ 0 ≤ s.2.1 ∧ s.2.1 < 6 ∧ m_ed s = 42 + (s.1 + 7 * s.2.1).toNat) ∨ (s.2.2 = 3 ∧ T s.1 (s.2.1 - 1) = true ∧ T (s.1 - 1) (s.2.1 - 1) = false ∧ 0 ≤ s.1 ∧ s.1 < 6 ∧ 1 ≤ s.2.1 ∧ s.2.1 ≤ 6 ∧ m_ed s = 42 + (s.1 + 7 * (s.2.1 - 1)).toNat) := by
  obtain ⟨x, y, w⟩ := s
  obtain ⟨h1, h2⟩ := h
  dsimp only at h1 h2 ⊢
  rcases (show w = 0 ∨ w = 1 ∨ w = 2 ∨ w = 3 by omega) with rfl | rfl | rfl | rfl
  · left
    have h3 : (T x y && !T x (y - 1)) = true := h2
    rw [Bool.and_eq_true, Bool.not_eq_true'] at h3
    have := hT _ _ h3.1
    exact ⟨rfl, h3.1, h3.2, by omega, by omega, by omega, by omega, rfl⟩
  · right; right; left
    have h3 : (T (x - 1) y && !T x y) = true := h2
    rw [Bool.and_eq_true, Bool.not_eq_true'] at h3
    have := hT _ _ h3.1
    exact ⟨rfl, h3.1, h3.2, by omega, by omega, by omega, by omega, rfl⟩
  · right; left
    have h3 : (T (x - 1) (y - 1) && !T (x - 1) y) = true := h2
    rw [Bool.and_eq_true, Bool.not_eq_true'] at h3
    have := hT _ _ h3.1
    exact ⟨rfl, h3.1, h3.2, by omega, by omega, by omega, by omega, rfl⟩
  · right; right; right
    have h3 : (T x (y - 1) && !T (x - 1) (y - 1)) = true := h2
    rw [Bool.and_eq_true, Bool.not_eq_true'] at h3
    have := hT _ _ h3.1
    exact ⟨rfl, h3.1, h3.2, by omega, by omega, by omega, by omega, rfl⟩
theorem m_ed_lt {T : Int → Int → Bool} (hT : ∀ x y, T x y = true → 0 ≤ x ∧ x < 6 ∧ 0 ≤ y ∧ y < 6) {s : m_P} (h : m_ok T s) : m_ed s < 84 := by
  rcases m_ed_r hT h with ⟨-, -, -, a, b, c, d, e⟩ | ⟨-, -, -, a, b, c, d, e⟩ | ⟨-, -, -, a, b, c, d, e⟩ | ⟨-, -, -, a, b, c, d, e⟩ <;> (rw [e]; omega)
theorem m_ed_inj {T : Int → Int → Bool} (hT : ∀ x y, T x y = true → 0 ≤ x ∧ x < 6 ∧ 0 ≤ y ∧ y < 6) {s t : m_P} (h : m_ok T s) (h' : m_ok T t) (e : m_ed s = m_ed t) : s = t := by
  have hs := m_ed_r hT h
  have ht := m_ed_r hT h'
  obtain ⟨x, y, w⟩ := s
  obtain ⟨x', y', w'⟩ := t
  dsimp only at hs ht
  rcases hs with ⟨w1, p1, p2, a, b, c, d, e1⟩ | ⟨w1, p1, p2, a, b, c, d, e1⟩ | ⟨w1, p1, p2, a, b, c, d, e1⟩ | ⟨w1, p1, p2, a, b, c, d, e1⟩ <;> rcases ht with ⟨w2, q1, q2, a', b', c', d', e2⟩ | ⟨w2, q1, q2, a', b', c', d', e2⟩ | ⟨w2, q1, q2, a', b', c', d', e2⟩ | ⟨w2, q1, q2, a', b', c', d', e2⟩ <;> rw [e1, e2] at e <;> first
    | omega
    | (have ex : x = x' := by omega
       have ey : y = y' := by omega
       rw [ex, ey, w1, w2])
    | (exfalso
       have ex : x = x' - 1 := by omega
       have ey : y = y' := by omega
       rw [ex, ey] at p1
       rw [p1] at q2
       cases q2)
    | (exfalso
       have ex : x' = x - 1 := by omega
       have ey : y' = y := by omega
       rw [ex, ey] at q1
       rw [q1] at p2
       cases p2)
    | (exfalso
       have ex : x = x' := by omega
       have ey : y = y' - 1 := by omega
       rw [ex, ey] at p2
       rw [p2] at q1
       cases q1)
    | (exfalso
       have ex : x' = x := by omega
       have ey : y' = y - 1 := by omega
       rw [ex, ey] at q2
       rw [q2] at p1
       cases p1)
theorem m_least {P : Nat → Prop} : ∀ (N : Nat), (∃ k, k ≤ N ∧ P k) → ∃ k, k ≤ N ∧ P k ∧ ∀ j, j < k → ¬ P j
  | 0, ⟨k, h1, h2⟩ => ⟨k, h1, h2, fun j hj => absurd hj (by omega)⟩
  | N + 1, ⟨k, h1, h2⟩ => by
    by_cases h : ∃ j, j ≤ N ∧ P j
    · obtain ⟨j, a, b, c⟩ := m_least N h
      exact ⟨j, by omega, b, c⟩
    · have e : k = N + 1 := by
        rcases Nat.lt_or_ge k (N + 1) with q | q
        · exact absurd ⟨k, by omega, h2⟩ h
        · omega
      exact ⟨k, h1, h2, fun j hj q => h ⟨j, by omega, q⟩⟩
theorem m_ret84 {T : Int → Int → Bool} (hT : ∀ x y, T x y = true → 0 ≤ x ∧ x < 6 ∧ 0 ≤ y ∧ y < 6) {s0 : m_P} (h : m_ok T s0) : ∃ K, 1 ≤ K ∧ K ≤ 84 ∧ m_st T s0 K = s0 ∧ ∀ k, 1 ≤ k → k < K → m_st T s0 k ≠ s0 := by
  obtain ⟨i, j, h1, h2, h3⟩ := m_php 84 (fun k => m_ed (m_st T s0 k)) (fun k _ => m_ed_lt hT (m_st_ok h k))
  have e := m_ed_inj hT (m_st_ok h i) (m_st_ok h j) h3
  have hx : ∃ k, k ≤ 84 ∧ (1 ≤ k ∧ m_st T s0 k = s0) := by
    refine ⟨j - i, by omega, by omega, m_st_back h i (j - i) ?_⟩
    rw [show i + (j - i) = j by omega]
    exact e
  obtain ⟨K, a, ⟨b1, b2⟩, c⟩ := m_least 84 hx
  exact ⟨K, b1, a, b2, fun k k1 k2 q => c k k2 ⟨k1, q⟩⟩
def x_T (W V : Nat) (s : Int64) (x y : Int) : Bool := decide (0 ≤ x ∧ x < W ∧ 0 ≤ y ∧ y < V) && x_bt s ((W : Int) * y + x).toNat
theorem x_T_r {W V : Nat} {s : Int64} {x y : Int} (e : x_T W V s x y = true) : 0 ≤ x ∧ x < W ∧ 0 ≤ y ∧ y < V := by
  unfold x_T at e
  rw [Bool.and_eq_true] at e
  exact of_decide_eq_true e.1
theorem x_T_o {W V : Nat} {s : Int64} {x y : Int} (e : ¬ (0 ≤ x ∧ x < W ∧ 0 ≤ y ∧ y < V)) : x_T W V s x y = false := by
  unfold x_T
  rw [decide_eq_false e, Bool.false_and]
theorem x_T_i {W V : Nat} {s : Int64} {x y : Int} {c : Nat} (r : 0 ≤ x ∧ x < W ∧ 0 ≤ y ∧ y < V) (hc : c = ((W : Int) * y + x).toNat) : x_T W V s x y = x_bt s c := by
  unfold x_T
  rw [decide_eq_true r, Bool.true_and, hc]
theorem x_T6 {W V : Nat} {s : Int64} (hW : W ≤ 6) (hV : V ≤ 6) : ∀ x y, x_T W V s x y = true → 0 ≤ x ∧ x < 6 ∧ 0 ≤ y ∧ y < 6 := by
  intro x y e
  have := x_T_r e
  omega
def x_ft (W c : Nat) : m_P := (((c % W : Nat) : Int), ((c / W : Nat) : Int), 0)
def x_Wd (W V : Nat) (s : Int64) (K : Nat) (f : Nat → Nat) : Prop := (s = 0 ∧ K = 0) ∨ (∃ c0, x_bt s c0 = true ∧ (∀ c, c < c0 → x_bt s c = false) ∧ 1 ≤ K ∧ K ≤ 84 ∧ m_st (x_T W V s) (x_ft W c0) K = x_ft W c0 ∧ (∀ k, 1 ≤ k → k < K → m_st (x_T W V s) (x_ft W c0) k ≠ x_ft W c0) ∧ ∀ i, i < K → f i = (m_st (x_T W V s) (x_ft W c0) i).2.2)
theorem x_bt0 (c : Nat) : x_bt 0 c = false := by unfold x_bt; show (0#64).getLsbD c = false; simp
theorem x_Wd_u {W V : Nat} {s : Int64} {K K' : Nat} {f f' : Nat → Nat} (h : x_Wd W V s K f) (h' : x_Wd W V s K' f') : K = K' ∧ ∀ i, i < K → f i = f' i := by
  rcases h with ⟨a, b⟩ | ⟨c0, a1, a2, a3, a4, a5, a6, a7⟩
  · rcases h' with ⟨a', b'⟩ | ⟨c0, a1, -⟩
    · exact ⟨by omega, fun i hi => by omega⟩
    · rw [a, x_bt0] at a1
      cases a1
  · rcases h' with ⟨a', b'⟩ | ⟨c1, b1, b2, b3, b4, b5, b6, b7⟩
    · rw [a', x_bt0] at a1
      cases a1
    · have e : c0 = c1 := by
        rcases Nat.lt_trichotomy c0 c1 with q | q | q
        · rw [b2 c0 q] at a1; cases a1
        · exact q
        · rw [a2 c1 q] at b1; cases b1
      subst e
      have e2 : K = K' := by
        rcases Nat.lt_trichotomy K K' with q | q | q
        · exact absurd a5 (b6 K a3 q)
        · exact q
        · exact absurd b5 (a6 K' b3 q)
      subst e2
      exact ⟨rfl, fun i hi => (a7 i hi).trans (b7 i hi).symm⟩
theorem x_nz {s : Int64} (h : s ≠ 0) : ∃ c0, c0 < 64 ∧ x_bt s c0 = true ∧ ∀ c, c < c0 → x_bt s c = false := by
  have hx : ∃ k, k ≤ 63 ∧ x_bt s k = true := by
    by_cases q : ∃ k, k ≤ 63 ∧ x_bt s k = true
    · exact q
    · exfalso
      apply h
      apply Int64.toBitVec_inj.mp
      apply BitVec.eq_of_getLsbD_eq
      intro i hi
      have e0 : (Int64.toBitVec 0).getLsbD i = false := x_bt0 i
      rw [e0]
      cases hb : s.toBitVec.getLsbD i
      · rfl
      · exact absurd ⟨i, by omega, hb⟩ q
  obtain ⟨k, a, b, c⟩ := m_least 63 hx
  refine ⟨k, by omega, b, fun j hj => ?_⟩
  cases hb : x_bt s j
  · rfl
  · exact absurd hb (c j hj)
/-- the least cell is a start -/
theorem x_start {W V : Nat} {s : Int64} {c0 : Nat} (w1 : 1 ≤ W) (hc : c0 < W * V) (h1 : x_bt s c0 = true) (h2 : ∀ c, c < c0 → x_bt s c = false) : m_ok (x_T W V s) (x_ft W c0) := by
  have em := Nat.div_add_mod c0 W
  have ml := Nat.mod_lt c0 (show 0 < W by omega)
  have dl : c0 / W < V := Nat.div_lt_of_lt_mul hc
  unfold x_ft
  generalize c0 / W = q at em dl ⊢
  generalize c0 % W = r at em ml ⊢
  have e1 : x_T W V s (r : Int) (q : Int) = true := by
    rw [x_T_i (c := c0) ⟨by omega, by omega, by omega, by omega⟩ (by rw [← Int.natCast_mul, ← Int.natCast_add, em]; rfl)]
    exact h1
  have e2 : x_T W V s (r : Int) ((q : Int) - 1) = false := by
    by_cases z : q = 0
    · exact x_T_o (by omega)
    · obtain ⟨p, rfl⟩ : ∃ p, q = p + 1 := ⟨q - 1, by omega⟩
      rw [Nat.mul_succ] at em
      rw [x_T_i (c := W * p + r) ⟨by omega, by omega, by omega, by omega⟩ (by rw [show ((p + 1 : Nat) : Int) - 1 = (p : Int) by omega, ← Int.natCast_mul, ← Int.natCast_add]; rfl)]
      exact h2 _ (by omega)
  refine ⟨by show (0 : Nat) < 4; decide, ?_⟩
  show (x_T W V s (r : Int) (q : Int) && !x_T W V s (r : Int) ((q : Int) - 1)) = true
  rw [e1, e2]
  rfl
