/-! linear equations modulo a number -/
theorem e_dl {a b : Int} (h : a ∣ b) (c : Int) : a ∣ b * c := Int.dvd_mul_of_dvd_left h
theorem e_dr {a b : Int} (h : a ∣ b) (c : Int) : a ∣ c * b := Int.dvd_mul_of_dvd_right h
def e_d (a w : Nat → Int) : Nat → Int
  | 0 => 0
  | c + 1 => e_d a w c + a c * w c
def e_S (m : Int) (C : Nat) (a : Nat → Int) (b : Int) (w : Nat → Int) : Prop := m ∣ e_d a w C - b
theorem e_d_lin {m t : Int} {x' x r w : Nat → Int} : ∀ C, (∀ c, c < C → m ∣ x' c - (x c - t * r c)) → m ∣ e_d x' w C - (e_d x w C - t * e_d r w C)
  | 0, _ => by
    show m ∣ 0 - (0 - t * 0)
    rw [Int.mul_zero, Int.sub_zero, Int.sub_zero]
    exact Int.dvd_zero m
  | C + 1, h => by
    have h1 := e_d_lin (w := w) C (fun c hc => h c (Nat.lt_succ_of_lt hc))
    have h2 := e_dl (h C (Nat.lt_succ_self C)) (w C)
    have h3 := Int.dvd_add h1 h2
    show m ∣ (e_d x' w C + x' C * w C) - ((e_d x w C + x C * w C) - t * (e_d r w C + r C * w C))
    have e : (e_d x' w C + x' C * w C) - ((e_d x w C + x C * w C) - t * (e_d r w C + r C * w C)) = e_d x' w C - (e_d x w C - t * e_d r w C) + (x' C - (x C - t * r C)) * w C := by
      rw [Int.sub_mul, Int.sub_mul, Int.mul_add, Int.mul_assoc]
      omega
    rw [e]
    exact h3
theorem e_sub {m t b' b br : Int} {C : Nat} {x' x r w : Nat → Int} (h : ∀ c, c < C → m ∣ x' c - (x c - t * r c)) (hb : m ∣ b' - (b - t * br)) (hr : e_S m C r br w) : e_S m C x' b' w ↔ e_S m C x b w := by
  have h1 := e_d_lin (w := w) C h
  have h2 : m ∣ t * (e_d r w C - br) := e_dr hr t
  unfold e_S at *
  have k1 : e_d x' w C - b' = (e_d x w C - b) + ((e_d x' w C - (e_d x w C - t * e_d r w C)) - (b' - (b - t * br)) - t * (e_d r w C - br)) := by
    rw [Int.mul_sub]
    omega
  have k2 : m ∣ (e_d x' w C - (e_d x w C - t * e_d r w C)) - (b' - (b - t * br)) - t * (e_d r w C - br) := Int.dvd_sub (Int.dvd_sub h1 hb) h2
  constructor
  · intro z
    rw [k1] at z
    have := Int.dvd_sub z k2
    rw [Int.add_sub_cancel] at this
    exact this
  · intro z
    rw [k1]
    exact Int.dvd_add z k2
theorem e_d_mul {m k : Int} {x' x w : Nat → Int} : ∀ C, (∀ c, c < C → m ∣ x' c - k * x c) → m ∣ e_d x' w C - k * e_d x w C
  | 0, _ => by
    show m ∣ 0 - k * 0
    rw [Int.mul_zero, Int.sub_zero]
    exact Int.dvd_zero m
  | C + 1, h => by
    have h1 := e_d_mul (w := w) C (fun c hc => h c (Nat.lt_succ_of_lt hc))
    have h2 := e_dl (h C (Nat.lt_succ_self C)) (w C)
    have h3 := Int.dvd_add h1 h2
    show m ∣ (e_d x' w C + x' C * w C) - k * (e_d x w C + x C * w C)
    have e : (e_d x' w C + x' C * w C) - k * (e_d x w C + x C * w C) = e_d x' w C - k * e_d x w C + (x' C - k * x C) * w C := by
      rw [Int.sub_mul, Int.mul_add, Int.mul_assoc]
      omega
    rw [e]
    exact h3
theorem e_mul {m k k' b' b : Int} {C : Nat} {x' x w : Nat → Int} (hk : m ∣ k * k' - 1) (h : ∀ c, c < C → m ∣ x' c - k * x c) (hb : m ∣ b' - k * b) : e_S m C x' b' w ↔ e_S m C x b w := by
  have h1 := e_d_mul (w := w) C h
  unfold e_S
  have k1 : e_d x' w C - b' = k * (e_d x w C - b) + ((e_d x' w C - k * e_d x w C) - (b' - k * b)) := by
    rw [Int.mul_sub]
    omega
  have k2 := Int.dvd_sub h1 hb
  constructor
  · intro z
    rw [k1] at z
    have z1 := Int.dvd_sub z k2
    rw [Int.add_sub_cancel] at z1
    have z2 := e_dr z1 k'
    have z3 := e_dl hk (e_d x w C - b)
    have e : e_d x w C - b = k' * (k * (e_d x w C - b)) - (k * k' - 1) * (e_d x w C - b) := by
      rw [Int.sub_mul, Int.one_mul, ← Int.mul_assoc, Int.mul_comm k' k]
      omega
    rw [e]
    exact Int.dvd_sub z2 z3
  · intro z
    rw [k1]
    exact Int.dvd_add (e_dr z k) k2
theorem e_d_c {a a' w w' : Nat → Int} : ∀ C, (∀ c, c < C → a c * w c = a' c * w' c) → e_d a w C = e_d a' w' C
  | 0, _ => rfl
  | C + 1, h => by
    show e_d a w C + a C * w C = e_d a' w' C + a' C * w' C
    rw [e_d_c C (fun c hc => h c (Nat.lt_succ_of_lt hc)), h C (Nat.lt_succ_self C)]
theorem e_d_z {a w : Nat → Int} {L : Nat} : ∀ C, (∀ d, L < d → d < L + 1 + C → a d = 0) → e_d a w (L + 1 + C) = e_d a w (L + 1)
  | 0, _ => rfl
  | C + 1, h => by
    show e_d a w (L + 1 + C) + a (L + 1 + C) * w (L + 1 + C) = _
    rw [h (L + 1 + C) (by omega) (by omega), Int.zero_mul, Int.add_zero]
    exact e_d_z C (fun d h1 h2 => h d h1 (by omega))
theorem e_d_0 {a w : Nat → Int} : ∀ C, (∀ c, c < C → a c = 0) → e_d a w C = 0
  | 0, _ => rfl
  | C + 1, h => by
    show e_d a w C + a C * w C = 0
    rw [e_d_0 C (fun c hc => h c (Nat.lt_succ_of_lt hc)), h C (Nat.lt_succ_self C), Int.zero_mul]
    rfl
/-- rows that lead by their last cell have a solution -/
theorem e_tri {m : Int} {C : Nat} {ld : Nat → Prop} {r : Nat → Nat → Int} {rb : Nat → Int} (h0 : ∀ c, c < C → ld c → ∀ d, c < d → d < C → r c d = 0) (hi : ∀ c, c < C → ld c → ∃ k, m ∣ r c c * k - 1) : ∃ w, ∀ c, c < C → ld c → e_S m C (r c) (rb c) w := by
  have key : ∀ B, B ≤ C → ∃ w : Nat → Int, ∀ c, c < B → ld c → m ∣ e_d (r c) w (c + 1) - rb c := by
    intro B
    induction B with
    | zero => exact fun _ => ⟨fun _ => 0, fun c h => absurd h (Nat.not_lt_zero c)⟩
    | succ B ih =>
      intro hB
      obtain ⟨w, hw⟩ := ih (by omega)
      by_cases hl : ld B
      · obtain ⟨k, hk⟩ := hi B (by omega) hl
        refine ⟨fun c => if c = B then k * (rb B - e_d (r B) w B) else w c, fun c hc hlc => ?_⟩
        have same : ∀ D, D ≤ B → e_d (r c) (fun c => if c = B then k * (rb B - e_d (r B) w B) else w c) D = e_d (r c) w D := fun D hD => e_d_c D (fun d hd => by
          show r c d * (if d = B then _ else w d) = _
          rw [if_neg (show d ≠ B by omega)])
        by_cases e : c = B
        · subst e
          show m ∣ (e_d (r c) _ c + r c c * (if c = c then k * (rb c - e_d (r c) w c) else w c)) - rb c
          rw [same c (Nat.le_refl c), if_pos rfl]
          have h2 := e_dl hk (rb c - e_d (r c) w c)
          have e2 : e_d (r c) w c + r c c * (k * (rb c - e_d (r c) w c)) - rb c = (r c c * k - 1) * (rb c - e_d (r c) w c) := by
            rw [Int.sub_mul, Int.one_mul, Int.mul_assoc]
            omega
          rw [e2]
          exact h2
        · rw [same (c + 1) (by omega)]
          exact hw c (by omega) hlc
      · refine ⟨w, fun c hc hlc => ?_⟩
        by_cases e : c = B
        · subst e
          exact absurd hlc hl
        · exact hw c (by omega) hlc
  obtain ⟨w, hw⟩ := key C (Nat.le_refl C)
  refine ⟨w, fun c hc hl => ?_⟩
  unfold e_S
  have : e_d (r c) w C = e_d (r c) w (c + 1) := by
    have := e_d_z (a := r c) (w := w) (L := c) (C - (c + 1)) (fun d h1 h2 => h0 c hc hl d h1 (by omega))
    rw [show c + 1 + (C - (c + 1)) = C by omega] at this
    exact this
  rw [this]
  exact hw c hc hl
theorem e_md {m x y : Nat} (h : x = y % m) : (m : Int) ∣ (x : Int) - y := by
  have : (m : Int) ∣ (y : Int) - x := by
    rw [h, Int.natCast_emod]
    exact Int.dvd_self_sub_emod
  have := Int.dvd_neg.mpr this
  rw [Int.neg_sub] at this
  exact this
/-- what subtractRow does, in whole numbers -/
theorem e_sr {m x r t : Nat} (ht : t ≤ m) : (m : Int) ∣ (((x + (m - t) * r) % m : Nat) : Int) - ((x : Int) - t * r) := by
  have h1 := e_md (m := m) (x := (x + (m - t) * r) % m) (y := x + (m - t) * r) rfl
  have e : ((x + (m - t) * r : Nat) : Int) = ((x : Int) - t * r) + m * r := by
    rw [Int.natCast_add, Int.natCast_mul, Int.natCast_sub ht, Int.sub_mul]
    omega
  rw [e] at h1
  have h2 : (m : Int) ∣ (m : Int) * r := Int.dvd_mul_right _ _
  have h3 := Int.dvd_add h1 h2
  have e2 : (((x + (m - t) * r) % m : Nat) : Int) - ((x : Int) - t * r + m * r) + m * r = (((x + (m - t) * r) % m : Nat) : Int) - ((x : Int) - t * r) := by omega
  rw [e2] at h3
  exact h3
theorem e_p : ∀ m, m < 14 → (m = 2 ∨ m = 3 ∨ m = 5 ∨ m = 7 ∨ m = 11 ∨ m = 13) → ∀ v, v < m → 0 < v → ∃ k, k < m ∧ k * v % m = 1 := by decide +kernel
theorem e_inv {m v k : Nat} (h : k * v % m = 1) : (m : Int) ∣ (k : Int) * v - 1 := by
  have := e_md (m := m) (x := 1) (y := k * v) h.symm
  have := Int.dvd_neg.mpr this
  rw [Int.neg_sub, Int.natCast_mul] at this
  exact this
/-! reduced rows -/
def g_R (m n : Nat) (ld : Nat → Bool) (r : Nat → Nat → Nat) (rb : Nat → Nat) : Prop := ∀ c, c < n → ld c = true → r c c = 1 ∧ (∀ d, c < d → d < n → r c d = 0) ∧ (∀ d, d < n → ld d = true → d ≠ c → r c d = 0) ∧ (∀ d, d < n → r c d < m) ∧ rb c < m
def g_S (m n : Nat) (ld : Nat → Bool) (r : Nat → Nat → Nat) (rb : Nat → Nat) (w : Nat → Int) : Prop := ∀ c, c < n → ld c = true → e_S m n (fun d => (r c d : Int)) (rb c) w
def g_x (m : Nat) (x : Nat → Nat) (t : Nat) (L : Nat) (r : Nat → Nat) (d : Nat) : Nat := if d ≤ L then (x d + (m - t) * r d) % m else x d
theorem g_x_S {m n t L xb rb : Nat} {x r : Nat → Nat} {w : Nat → Int} (tm : t ≤ m) (hz : ∀ d, L < d → d < n → r d = 0) (hr : e_S m n (fun d => (r d : Int)) rb w) : e_S m n (fun d => (g_x m x t L r d : Int)) ((xb + (m - t) * rb) % m : Nat) w ↔ e_S m n (fun d => (x d : Int)) xb w := by
  refine e_sub (t := (t : Int)) (r := fun d => (r d : Int)) (br := rb) (fun d hd => ?_) (e_sr tm) hr
  show (m : Int) ∣ (g_x m x t L r d : Int) - ((x d : Int) - t * (r d : Int))
  unfold g_x
  by_cases e : d ≤ L
  · rw [if_pos e]
    exact e_sr tm
  · rw [if_neg e, hz d (by omega) hd]
    show (m : Int) ∣ (x d : Int) - ((x d : Int) - t * ((0 : Nat) : Int))
    rw [Int.natCast_zero, Int.mul_zero, Int.sub_zero, Int.sub_self]
    exact Int.dvd_zero _
theorem g_x_lt {m n t L : Nat} {x r : Nat → Nat} (m2 : 2 ≤ m) (xm : ∀ d, d < n → x d < m) : ∀ d, d < n → g_x m x t L r d < m := by
  intro d hd
  unfold g_x
  split
  · exact Nat.mod_lt _ (by omega)
  · exact xm d hd
theorem g_x_0 {m t L d : Nat} {x r : Nat → Nat} (h1 : x d = 0) (h2 : r d = 0) : g_x m x t L r d = 0 := by
  unfold g_x
  rw [h1, h2, Nat.mul_zero]
  split
  · exact Nat.zero_mod m
  · rfl
theorem g_x_L {m t L : Nat} {x r : Nat → Nat} (ht : x L = t) (tm : t ≤ m) (h : r L = 1) : g_x m x t L r L = 0 := by
  unfold g_x
  rw [if_pos (Nat.le_refl L), h, Nat.mul_one, ht, show t + (m - t) = m by omega, Nat.mod_self]
theorem g_x_n {m L d : Nat} {x r : Nat → Nat} (xm : x d < m) : g_x m x 0 L r d = x d := by
  unfold g_x
  split
  · rw [Nat.sub_zero, Nat.add_mul_mod_self_left, Nat.mod_eq_of_lt xm]
  · rfl
theorem g_b_n {m xb rb : Nat} (xm : xb < m) : (xb + (m - 0) * rb) % m = xb := by
  rw [Nat.sub_zero, Nat.add_mul_mod_self_left, Nat.mod_eq_of_lt xm]
/-- a new row, made 1 at its lead -/
def g_n (m k : Nat) (x : Nat → Nat) (d : Nat) : Nat := x d * k % m
def g_r (m L k : Nat) (x : Nat → Nat) (r : Nat → Nat → Nat) (c d : Nat) : Nat := if c = L then g_n m k x d else g_x m (r c) (r c L) L (g_n m k x) d
def g_rb (m L k xb : Nat) (r : Nat → Nat → Nat) (rb : Nat → Nat) (c : Nat) : Nat := if c = L then xb * k % m else (rb c + (m - r c L) * (xb * k % m)) % m
def g_l (ld : Nat → Bool) (L c : Nat) : Bool := ld c || decide (c = L)
theorem g_n_S {m n k xb L : Nat} {x : Nat → Nat} {w : Nat → Int} (hk : k * x L % m = 1) : e_S m n (fun d => (g_n m k x d : Int)) (xb * k % m : Nat) w ↔ e_S m n (fun d => (x d : Int)) xb w := by
  refine e_mul (k := (k : Int)) (k' := (x L : Int)) (e_inv hk) (fun d hd => ?_) ?_
  · show (m : Int) ∣ (g_n m k x d : Int) - k * (x d : Int)
    have := e_md (m := m) (x := g_n m k x d) (y := x d * k) rfl
    rw [Int.natCast_mul, Int.mul_comm] at this
    exact this
  · have := e_md (m := m) (x := xb * k % m) (y := xb * k) rfl
    rw [Int.natCast_mul, Int.mul_comm (xb : Int)] at this
    exact this
theorem g_keep {m n L k xb : Nat} {ld : Nat → Bool} {x : Nat → Nat} {r : Nat → Nat → Nat} {rb : Nat → Nat} (m2 : 2 ≤ m) (G : g_R m n ld r rb) (hL : L < n) (hk : k * x L % m = 1) (hz : ∀ d, L < d → d < n → x d = 0) (hl : ∀ d, d < n → ld d = true → x d = 0) (xL : x L ≠ 0) : g_R m n (g_l ld L) (g_r m L k x r) (g_rb m L k xb r rb) ∧ ∀ w, g_S m n (g_l ld L) (g_r m L k x r) (g_rb m L k xb r rb) w ↔ g_S m n ld r rb w ∧ e_S m n (fun d => (x d : Int)) xb w := by
  have nL : ld L = false := by
    cases e : ld L
    · rfl
    · exact absurd (hl L hL e) xL
  have gn0 : ∀ d, x d = 0 → g_n m k x d = 0 := fun d h => by
    unfold g_n
    rw [h, Nat.zero_mul, Nat.zero_mod]
  have gnL : g_n m k x L = 1 := by
    unfold g_n
    rw [Nat.mul_comm]
    exact hk
  have ldc : ∀ c, g_l ld L c = true → c = L ∨ (c ≠ L ∧ ld c = true) := fun c h => by
    unfold g_l at h
    rw [Bool.or_eq_true, decide_eq_true_eq] at h
    by_cases e : c = L
    · exact Or.inl e
    · exact Or.inr ⟨e, h.resolve_right e⟩
  refine ⟨fun c hc hlc => ?_, fun w => ?_⟩
  · rcases ldc c hlc with rfl | ⟨e, hlc2⟩
    · have er : ∀ d, g_r m c k x r c d = g_n m k x d := fun d => by
        unfold g_r
        rw [if_pos rfl]
      have eb : g_rb m c k xb r rb c = xb * k % m := by
        unfold g_rb
        rw [if_pos rfl]
      rw [eb]
      refine ⟨by rw [er]; exact gnL, fun d h1 h2 => by rw [er]; exact gn0 d (hz d h1 h2), fun d h1 h2 h3 => ?_, fun d h1 => by rw [er]; exact Nat.mod_lt _ (by omega), Nat.mod_lt _ (by omega)⟩
      rw [er]
      rcases ldc d h2 with rfl | ⟨-, h4⟩
      · exact absurd rfl h3
      · exact gn0 d (hl d h1 h4)
    · obtain ⟨r1, r2, r3, r4, r5⟩ := G c hc hlc2
      have cL : r c L < m := r4 L hL
      unfold g_r g_rb
      simp only [if_neg e]
      refine ⟨?_, fun d h1 h2 => ?_, fun d h1 h2 h3 => ?_, g_x_lt m2 r4, Nat.mod_lt _ (by omega)⟩
      · by_cases q : c ≤ L
        · have z : r c L = 0 := r2 L (by omega) hL
          rw [z, g_x_n (r4 c hc)]
          exact r1
        · unfold g_x
          rw [if_neg q]
          exact r1
      · by_cases q : c ≤ L
        · have z : r c L = 0 := r2 L (by omega) hL
          rw [z, g_x_n (r4 d h2)]
          exact r2 d h1 h2
        · unfold g_x
          rw [if_neg (by omega)]
          exact r2 d h1 h2
      · rcases ldc d h2 with rfl | ⟨-, h4⟩
        · exact g_x_L rfl (Nat.le_of_lt cL) gnL
        · exact g_x_0 (r3 d h1 h4 h3) (gn0 d (hl d h1 h4))
  · have key : e_S m n (fun d => (x d : Int)) xb w → ∀ c, c < n → ld c = true → (e_S m n (fun d => (g_r m L k x r c d : Int)) (g_rb m L k xb r rb c : Nat) w ↔ e_S m n (fun d => (r c d : Int)) (rb c : Nat) w) := fun hx c hc hlc => by
      have e : c ≠ L := fun z => by
        rw [z, nL] at hlc
        cases hlc
      have e1 : (fun d => (g_r m L k x r c d : Int)) = fun d => (g_x m (r c) (r c L) L (g_n m k x) d : Int) := by
        funext d
        unfold g_r
        rw [if_neg e]
      have e2 : g_rb m L k xb r rb c = (rb c + (m - r c L) * (xb * k % m)) % m := by
        unfold g_rb
        rw [if_neg e]
      rw [e1, e2]
      exact g_x_S (Nat.le_of_lt ((G c hc hlc).2.2.2.1 L hL)) (fun d h1 h2 => gn0 d (hz d h1 h2)) ((g_n_S hk).mpr hx)
    have lead : e_S m n (fun d => (g_r m L k x r L d : Int)) (g_rb m L k xb r rb L : Nat) w ↔ e_S m n (fun d => (x d : Int)) xb w := by
      have e1 : (fun d => (g_r m L k x r L d : Int)) = fun d => (g_n m k x d : Int) := by
        funext d
        unfold g_r
        rw [if_pos rfl]
      have e2 : g_rb m L k xb r rb L = xb * k % m := by
        unfold g_rb
        rw [if_pos rfl]
      rw [e1, e2]
      exact g_n_S hk
    constructor
    · intro h
      have hx := lead.mp (h L hL (by unfold g_l; rw [decide_eq_true rfl, Bool.or_true]))
      exact ⟨fun c hc hlc => (key hx c hc hlc).mp (h c hc (by unfold g_l; rw [hlc, Bool.true_or])), hx⟩
    · rintro ⟨h, hx⟩ c hc hlc
      rcases ldc c hlc with rfl | ⟨-, h2⟩
      · exact lead.mpr hx
      · exact (key hx c hc h2).mpr (h c hc h2)
theorem g_sat {m n : Nat} {ld : Nat → Bool} {r : Nat → Nat → Nat} {rb : Nat → Nat} (G : g_R m n ld r rb) : ∃ w, g_S m n ld r rb w := by
  obtain ⟨w, hw⟩ := e_tri (m := (m : Int)) (C := n) (ld := fun c => ld c = true) (r := fun c d => (r c d : Int)) (rb := fun c => (rb c : Int)) (fun c hc hl d h1 h2 => by
    show ((r c d : Nat) : Int) = 0
    rw [(G c hc hl).2.1 d h1 h2]
    rfl) (fun c hc hl => ⟨1, by
    show (m : Int) ∣ ((r c c : Nat) : Int) * 1 - 1
    rw [(G c hc hl).1]
    exact Int.dvd_zero _⟩)
  exact ⟨w, hw⟩
