/-! the border: corners, steps, and why the walk comes back -/
def m_co (a b c d : Bool) (w : Nat) : Bool := match w with
  | 0 => d && !b
  | 1 => c && !d
  | 2 => a && !c
  | _ => b && !a
def m_ci (a b c d : Bool) (w : Nat) : Bool := match w with
  | 0 => c && !a
  | 1 => a && !b
  | 2 => b && !d
  | _ => d && !c
def m_cn (a b c d : Bool) (w : Nat) : Nat := if m_co a b c d ((w + 1) % 4) = true then (w + 1) % 4 else if m_co a b c d w = true then w else (w + 3) % 4
theorem m_cn_ok : ∀ (a b c d : Bool), ∀ w, w < 4 → m_ci a b c d w = true → m_co a b c d (m_cn a b c d w) = true := by decide
theorem m_cn_lt (a b c d : Bool) {w : Nat} (h : w < 4) : m_cn a b c d w < 4 := by
  unfold m_cn
  split
  · omega
  · split <;> omega
theorem m_cn_inj : ∀ (a b c d : Bool), ∀ w, w < 4 → ∀ w', w' < 4 → m_ci a b c d w = true → m_ci a b c d w' = true → m_cn a b c d w = m_cn a b c d w' → w = w' := by decide
def m_sd (T : Int → Int → Bool) (x y : Int) (w : Nat) : Bool := m_co (T (x - 1) (y - 1)) (T x (y - 1)) (T (x - 1) y) (T x y) w
def m_dx (w : Nat) : Int := match w with
  | 0 => 1
  | 2 => -1
  | _ => 0
def m_dy (w : Nat) : Int := match w with
  | 1 => 1
  | 3 => -1
  | _ => 0
abbrev m_P : Type := Int × Int × Nat
def m_nx (T : Int → Int → Bool) (s : m_P) : m_P := (s.1 + m_dx s.2.2, s.2.1 + m_dy s.2.2, if m_sd T (s.1 + m_dx s.2.2) (s.2.1 + m_dy s.2.2) ((s.2.2 + 1) % 4) = true then (s.2.2 + 1) % 4 else if m_sd T (s.1 + m_dx s.2.2) (s.2.1 + m_dy s.2.2) s.2.2 = true then s.2.2 else (s.2.2 + 3) % 4)
def m_st (T : Int → Int → Bool) (s0 : m_P) : Nat → m_P
  | 0 => s0
  | k + 1 => m_nx T (m_st T s0 k)
theorem m_nx_r {T : Int → Int → Bool} {x y x' y' : Int} {w : Nat} (hx : x' = x + m_dx w) (hy : y' = y + m_dy w) (h : m_sd T x' y' ((w + 1) % 4) = true) : m_nx T (x, y, w) = (x', y', (w + 1) % 4) := by
  subst hx hy
  unfold m_nx
  dsimp only
  rw [if_pos h]
theorem m_nx_s {T : Int → Int → Bool} {x y x' y' : Int} {w : Nat} (hx : x' = x + m_dx w) (hy : y' = y + m_dy w) (h : m_sd T x' y' ((w + 1) % 4) = false) (h2 : m_sd T x' y' w = true) : m_nx T (x, y, w) = (x', y', w) := by
  subst hx hy
  unfold m_nx
  dsimp only
  rw [if_neg (by rw [h]; decide), if_pos h2]
theorem m_nx_l {T : Int → Int → Bool} {x y x' y' : Int} {w : Nat} (hx : x' = x + m_dx w) (hy : y' = y + m_dy w) (h : m_sd T x' y' ((w + 1) % 4) = false) (h2 : m_sd T x' y' w = false) : m_nx T (x, y, w) = (x', y', (w + 3) % 4) := by
  subst hx hy
  unfold m_nx
  dsimp only
  rw [if_neg (by rw [h]; decide), if_neg (by rw [h2]; decide)]
def m_ok (T : Int → Int → Bool) (s : m_P) : Prop := s.2.2 < 4 ∧ m_sd T s.1 s.2.1 s.2.2 = true
theorem m_in (T : Int → Int → Bool) (x y : Int) {w : Nat} (hw : w < 4) : m_sd T x y w = m_ci (T (x + m_dx w - 1) (y + m_dy w - 1)) (T (x + m_dx w) (y + m_dy w - 1)) (T (x + m_dx w - 1) (y + m_dy w)) (T (x + m_dx w) (y + m_dy w)) w := by
  rcases (show w = 0 ∨ w = 1 ∨ w = 2 ∨ w = 3 by omega) with rfl | rfl | rfl | rfl
  · show (T x y && !T x (y - 1)) = (T (x + 1 - 1) (y + 0) && !T (x + 1 - 1) (y + 0 - 1))
    rw [Int.add_zero, show x + 1 - 1 = x by omega]
  · show (T (x - 1) y && !T x y) = (T (x + 0 - 1) (y + 1 - 1) && !T (x + 0) (y + 1 - 1))
    rw [Int.add_zero, show y + 1 - 1 = y by omega]
  · show (T (x - 1) (y - 1) && !T (x - 1) y) = (T (x + -1) (y + 0 - 1) && !T (x + -1) (y + 0))
    rw [Int.add_zero, show x + -1 = x - 1 by omega]
  · show (T x (y - 1) && !T (x - 1) (y - 1)) = (T (x + 0) (y + -1) && !T (x + 0 - 1) (y + -1))
    rw [Int.add_zero, show y + -1 = y - 1 by omega]
theorem m_nx_e (T : Int → Int → Bool) (s : m_P) : (m_nx T s).2.2 = m_cn (T (s.1 + m_dx s.2.2 - 1) (s.2.1 + m_dy s.2.2 - 1)) (T (s.1 + m_dx s.2.2) (s.2.1 + m_dy s.2.2 - 1)) (T (s.1 + m_dx s.2.2 - 1) (s.2.1 + m_dy s.2.2)) (T (s.1 + m_dx s.2.2) (s.2.1 + m_dy s.2.2)) s.2.2 := rfl
theorem m_nx_ok {T : Int → Int → Bool} {s : m_P} (h : m_ok T s) : m_ok T (m_nx T s) := by
  obtain ⟨h1, h2⟩ := h
  rw [m_in T _ _ h1] at h2
  refine ⟨?_, ?_⟩
  · rw [m_nx_e]
    exact m_cn_lt _ _ _ _ h1
  · have := m_cn_ok _ _ _ _ _ h1 h2
    rw [← m_nx_e T s] at this
    exact this
theorem m_nx_inj {T : Int → Int → Bool} {s t : m_P} (hs : m_ok T s) (ht : m_ok T t) (h : m_nx T s = m_nx T t) : s = t := by
  obtain ⟨h1, h2⟩ := hs
  obtain ⟨h3, h4⟩ := ht
  rw [m_in T _ _ h1] at h2
  rw [m_in T _ _ h3] at h4
  have ex : s.1 + m_dx s.2.2 = t.1 + m_dx t.2.2 := congrArg (fun q : m_P => q.1) h
  have ey : s.2.1 + m_dy s.2.2 = t.2.1 + m_dy t.2.2 := congrArg (fun q : m_P => q.2.1) h
  have ew : (m_nx T s).2.2 = (m_nx T t).2.2 := by rw [h]
  rw [m_nx_e, m_nx_e, ex, ey] at ew
  rw [ex, ey] at h2
  have e := m_cn_inj _ _ _ _ _ h1 _ h3 h2 h4 ew
  rw [e] at ex ey
  obtain ⟨a, b, c⟩ := s
  obtain ⟨a', b', c'⟩ := t
  dsimp only at e ex ey
  subst e
  rw [show a = a' by omega, show b = b' by omega]
theorem m_st_ok {T : Int → Int → Bool} {s0 : m_P} (h : m_ok T s0) : ∀ k, m_ok T (m_st T s0 k)
  | 0 => h
  | k + 1 => m_nx_ok (m_st_ok h k)
theorem m_st_back {T : Int → Int → Bool} {s0 : m_P} (h : m_ok T s0) : ∀ i j, m_st T s0 i = m_st T s0 (i + j) → m_st T s0 j = s0
  | 0, j, e => by rw [Nat.zero_add] at e; exact e.symm
  | i + 1, j, e => by
    rw [show i + 1 + j = (i + j) + 1 by omega] at e
    exact m_st_back h i j (m_nx_inj (m_st_ok h i) (m_st_ok h (i + j)) e)
/-- pigeons -/
theorem m_php : ∀ (N : Nat) (f : Nat → Nat), (∀ i, i ≤ N → f i < N) → ∃ i j, i < j ∧ j ≤ N ∧ f i = f j
  | 0, f, h => absurd (h 0 (Nat.le_refl _)) (Nat.not_lt_zero _)
  | N + 1, f, h => by
    by_cases hx : ∃ i, i ≤ N ∧ f i = f (N + 1)
    · obtain ⟨i, h1, h2⟩ := hx
      exact ⟨i, N + 1, by omega, Nat.le_refl _, h2⟩
    · have hne : ∀ i, i ≤ N → f i ≠ f (N + 1) := fun i hi e => hx ⟨i, hi, e⟩
      obtain ⟨i, j, h1, h2, h3⟩ := m_php N (fun i => if f (N + 1) < f i then f i - 1 else f i) (by
        intro i hi
        have := h i (by omega)
        have := h (N + 1) (Nat.le_refl _)
        have := hne i hi
        show (if f (N + 1) < f i then f i - 1 else f i) < N
        split <;> omega)
      refine ⟨i, j, h1, by omega, ?_⟩
      have e1 := hne i (by omega)
      have e2 := hne j h2
      change (if f (N + 1) < f i then f i - 1 else f i) = (if f (N + 1) < f j then f j - 1 else f j) at h3
      split at h3 <;> split at h3 <;> omega
theorem m_sd_r {T : Int → Int → Bool} (hT : ∀ x y, T x y = true → 0 ≤ x ∧ x < 6 ∧ 0 ≤ y ∧ y < 6) {x y : Int} {w : Nat} (h : m_sd T x y w = true) : 0 ≤ x ∧ x ≤ 6 ∧ 0 ≤ y ∧ y ≤ 6 := by
  have hany : T (x - 1) (y - 1) = true ∨ T x (y - 1) = true ∨ T (x - 1) y = true ∨ T x y = true := by
    unfold m_sd m_co at h
    split at h <;> (rw [Bool.and_eq_true] at h; simp [h.1])
  rcases hany with h | h | h | h <;> (have := hT _ _ h; omega)
theorem m_ret {T : Int → Int → Bool} (hT : ∀ x y, T x y = true → 0 ≤ x ∧ x < 6 ∧ 0 ≤ y ∧ y < 6) {s0 : m_P} (h : m_ok T s0) : ∃ K, 1 ≤ K ∧ K ≤ 196 ∧ m_st T s0 K = s0 := by
  have hr : ∀ k, 0 ≤ (m_st T s0 k).1 ∧ (m_st T s0 k).1 ≤ 6 ∧ 0 ≤ (m_st T s0 k).2.1 ∧ (m_st T s0 k).2.1 ≤ 6 := fun k => m_sd_r hT (m_st_ok h k).2
  obtain ⟨i, j, h1, h2, h3⟩ := m_php 196 (fun k => ((m_st T s0 k).1 + 7 * (m_st T s0 k).2.1).toNat + 49 * (m_st T s0 k).2.2) (by
    intro k _
    have h1 := hr k
    have h2 := (m_st_ok h k).1
    show ((m_st T s0 k).1 + 7 * (m_st T s0 k).2.1).toNat + 49 * (m_st T s0 k).2.2 < 196
    omega)
  refine ⟨j - i, by omega, by omega, m_st_back h i (j - i) ?_⟩
  rw [show i + (j - i) = j by omega]
  have a1 := hr i
  have a2 := hr j
  have b1 := (m_st_ok h i).1
  have b2 := (m_st_ok h j).1
  generalize m_st T s0 i = s at *
  generalize m_st T s0 j = t at *
  obtain ⟨a, b, c⟩ := s
  obtain ⟨a', b', c'⟩ := t
  dsimp only at *
  have e1 : c = c' := by omega
  have e2 : b = b' := by omega
  have e3 : a = a' := by omega
  rw [e1, e2, e3]
/-- a cell is of the shape -/
def m_T (n : Nat) (hp : px_H) (w h x y : Int) : Bool := decide (0 ≤ x ∧ x < w ∧ 0 ≤ y ∧ y < h) && (match hp[39 + n]? with
  | some c => (match c.2[(w * y + x).toNat]? with
    | some (.int z) => decide (z ≠ 0)
    | _ => false)
  | none => false)
theorem m_T_r {n : Nat} {hp : px_H} {w h x y : Int} (e : m_T n hp w h x y = true) : 0 ≤ x ∧ x < w ∧ 0 ≤ y ∧ y < h := by
  unfold m_T at e
  rw [Bool.and_eq_true] at e
  exact of_decide_eq_true e.1
theorem m_T_o {n : Nat} {hp : px_H} {w h x y : Int} (e : ¬ (0 ≤ x ∧ x < w ∧ 0 ≤ y ∧ y < h)) : m_T n hp w h x y = false := by
  unfold m_T
  rw [decide_eq_false e, Bool.false_and]
theorem m_T_i {n : Nat} {hp : px_H} {w h x y : Int} {t i : Nat} {vs : List Value} {z : Int32} (r : 0 ≤ x ∧ x < w ∧ 0 ≤ y ∧ y < h) (hv : hp[39 + n]? = some (t, vs)) (ez : vs[i]? = some (.int z)) (hi : i = (w * y + x).toNat) : m_T n hp w h x y = decide (z ≠ 0) := by
  unfold m_T
  rw [decide_eq_true r, Bool.true_and, hv]
  dsimp only
  rw [← hi, ez]
theorem m_T_f {n : Nat} {M : pa_M} {hp hp' : px_H} (H : pa_Hi n hp) (G : pa_Fr n M hp hp') (hM : ¬ (25, 0) ∈ M) (w h : Int) : m_T n hp' w h = m_T n hp w h := by
  obtain ⟨vs, hv, -⟩ := pa_ara (a := 39 + n) (i := 7) (lo := 0) (hi := 1) H (by omega) (by decide) (by decide) rfl
  have := pa_fa (i := 7) G hv (by omega) (by decide) (by decide) (by decide) hM
  funext x y
  unfold m_T
  rw [hv, this]
theorem m_first {n : Nat} {hp : px_H} {w h f : Int} {t : Nat} {vs : List Value} {z : Int32} (w1 : 1 ≤ w) (f1 : 0 ≤ f) (f2 : f < w * h) (hv : hp[39 + n]? = some (t, vs)) (ez : vs[f.toNat]? = some (.int z)) (hz : z ≠ 0) (Z : ∀ i, i < f.toNat → vs[i]? = some (.int 0)) : m_T n hp w h (f % w) (f / w) = true ∧ m_T n hp w h (f % w) (f / w - 1) = false := by
  have e := Int.emod_def f w
  have m1 := Int.emod_nonneg f (show w ≠ 0 by omega)
  have m2 := Int.emod_lt_of_pos f (show 0 < w by omega)
  have d1 := Int.ediv_nonneg f1 (show 0 ≤ w by omega)
  have d2 : f / w < h := Int.ediv_lt_of_lt_mul (by omega) (by rw [Int.mul_comm]; exact f2)
  constructor
  · rw [m_T_i ⟨m1, m2, d1, d2⟩ hv ez (by congr 1; omega)]
    exact decide_eq_true hz
  · by_cases h0 : f / w = 0
    · exact m_T_o (by omega)
    · have e2 : w * (f / w - 1) = w * (f / w) - w := by rw [Int.mul_sub, Int.mul_one]
      have g1 : 0 ≤ w * (f / w - 1) := Int.mul_nonneg (by omega) (by omega)
      have := Z (f - w).toNat (by omega)
      rw [m_T_i ⟨m1, m2, by omega, by omega⟩ hv this (by congr 1; omega)]
      rfl
