/-! the equations' rows -/
def m_pr (p : Int) : Prop := p = 2 ∨ p = 3 ∨ p = 5 ∨ p = 7 ∨ p = 11 ∨ p = 13
theorem m_inv_n : ∀ p ∈ [2, 3, 5, 7, 11, 13], ∀ v, v < p → 1 ≤ v → (List.range p).any (fun k => v * k % p == 1) = true := by decide
theorem m_inv_x {p v : Int} (hp : m_pr p) (v1 : 1 ≤ v) (v2 : v < p) : ∃ k : Int, 1 ≤ k ∧ k < p ∧ v * k % p = 1 := by
  obtain ⟨P, rfl⟩ : ∃ P : Nat, p = P := ⟨p.toNat, by unfold m_pr at hp; omega⟩
  obtain ⟨V, rfl⟩ : ∃ V : Nat, v = V := ⟨v.toNat, by omega⟩
  have h1 : P ∈ [2, 3, 5, 7, 11, 13] := by
    have : P = 2 ∨ P = 3 ∨ P = 5 ∨ P = 7 ∨ P = 11 ∨ P = 13 := by unfold m_pr at hp; omega
    rcases this with rfl | rfl | rfl | rfl | rfl | rfl <;> decide
  obtain ⟨k, hk, he⟩ := List.any_eq_true.mp (m_inv_n P h1 V (by omega) (by omega))
  have hk' := List.mem_range.mp hk
  have he' : V * k % P = 1 := by simpa using he
  refine ⟨k, ?_, by omega, by exact_mod_cast he'⟩
  rcases Nat.eq_zero_or_pos k with h0 | h0
  · rw [h0, Nat.mul_zero, Nat.zero_mod] at he'
    cases he'
  · omega
theorem m_mulb {x y : Int32} {A B : Int} (x1 : 0 ≤ x.toInt) (x2 : x.toInt ≤ A) (y1 : 0 ≤ y.toInt) (y2 : y.toInt ≤ B) (hB : A * B ≤ 2147483647) (hA : 0 ≤ B) : (x * y).toInt = x.toInt * y.toInt ∧ 0 ≤ x.toInt * y.toInt ∧ x.toInt * y.toInt ≤ A * B := by
  have p1 : x.toInt * y.toInt ≤ A * B := Int.mul_le_mul x2 y2 y1 (by omega)
  have p0 : 0 ≤ x.toInt * y.toInt := Int.mul_nonneg x1 y1
  exact ⟨i32_mul (by omega) (by omega), p0, p1⟩
theorem m_modb {a p : Int} (h : 1 ≤ p) : 0 ≤ a % p ∧ a % p < p := ⟨Int.emod_nonneg _ (by omega), Int.emod_lt_of_pos _ (by omega)⟩
set_option maxRecDepth 20000 in
set_option maxHeartbeats 4000000 in
theorem m_inverse_l {d : Nat} {hp : px_H} {v p : Int32} (v1 : 1 ≤ v.toInt) (v2 : v.toInt < p.toInt) (p2 : p.toInt ≤ 13) {w0 : Int} (w1 : w0 < p.toInt) (hw : v.toInt * w0 % p.toInt = 1) : ∀ (m : Nat) (k : Int32), k.toInt + m = w0 + 1 → 1 ≤ k.toInt → k.toInt ≤ w0 → px_Gx d 77 (2, [(2, .int k), (0, .int v), (1, .int p)], [], hp) (fun o hp' => ∃ k : Int32, o = .inl (some (.int k)) ∧ hp' = hp ∧ 1 ≤ k.toInt ∧ k.toInt < p.toInt ∧ v.toInt * k.toInt % p.toInt = 1) := by
  have cl1 : Int32.toInt 1 = 1 := rfl
  intro m
  induction m with
  | zero =>
    intro k g1 g2 g3
    omega
  | succ m ih =>
    intro k g1 g2 g3
    refine px_gx (fun _ K => px_a 3 (f' := (5, [(2, .int k), (0, .int v), (1, .int p)], [.int (v * k)], hp)) rfl K) ?_
    obtain ⟨z164, ez164, fz164⟩ : ∃ qz : Int32, qz = v * k ∧ qz.toInt = Int32.toInt v * Int32.toInt k ∧ 0 ≤ Int32.toInt v * Int32.toInt k ∧ Int32.toInt v * Int32.toInt k ≤ 13 * 13 := ⟨_, rfl, m_mulb (A := 13) (B := 13) (by omega) (by omega) (by omega) (by omega) (by decide) (by decide)⟩
    rw [← ez164]
    refine px_gx (fun _ K => px_a 1 (f' := (6, [(2, .int k), (0, .int v), (1, .int p)], [.int p, .int z164], hp)) rfl K) ?_
    refine px_gx (fun _ K => px_irem rfl (pa_ne0 (by omega)) K) ?_
    show px_Gx _ _ (7, [(2, .int k), (0, .int v), (1, .int p)], [.int (z164 - z164 / p * p)], hp) _
    obtain ⟨z165, ez165, fz165⟩ : ∃ qz : Int32, qz = (z164 - z164 / p * p) ∧ qz.toInt = Int32.toInt z164 % Int32.toInt p := ⟨_, rfl, i32_remE (by omega) (by omega)⟩
    rw [← ez165]
    refine px_gx (fun _ K => px_a 1 (f' := (8, [(2, .int k), (0, .int v), (1, .int p)], [.int 1, .int z165], hp)) rfl K) ?_
    by_cases h166 : z165 = 1
    · have h166' := h166
      replace h166' := congrArg Int32.toInt h166
      refine px_gx (fun _ K => px_b2 true 17 rfl rfl (decide_eq_true h166) K) ?_
      show px_Gx _ _ (17, [(2, .int k), (0, .int v), (1, .int p)], [], hp) _
      refine px_gx (fun _ K => px_a 1 (f' := (18, [(2, .int k), (0, .int v), (1, .int p)], [.int k], hp)) rfl K) ?_
      have hq := h166'
      rw [fz165, fz164.1] at hq
      exact ⟨_, _, px_ri rfl rfl rfl, k, rfl, rfl, by omega, by omega, hq⟩
    · have h166' := h166
      have h166'' : Int32.toInt z165 ≠ Int32.toInt 1 := fun z => h166 (Int32.toInt_inj.mp z)
      refine px_gx (fun _ K => px_b2 false 17 rfl rfl (decide_eq_false h166) K) ?_
      show px_Gx _ _ (11, [(2, .int k), (0, .int v), (1, .int p)], [], hp) _
      refine px_gx (fun _ K => px_a 1 (f' := (14, [(2, .int (k + 1)), (0, .int v), (1, .int p)], [], hp)) rfl K) ?_
      obtain ⟨z167, ez167, fz167⟩ : ∃ qz : Int32, qz = k + 1 ∧ qz.toInt = Int32.toInt k + Int32.toInt 1 := ⟨_, rfl, i32_add (by omega) (by omega)⟩
      rw [← ez167]
      refine px_gx (fun _ K => px_a 1 (f' := (2, [(2, .int z167), (0, .int v), (1, .int p)], [], hp)) rfl K) ?_
      have hne : Int32.toInt k ≠ w0 := by
        intro e
        apply h166''
        rw [fz165, fz164.1, e]
        exact hw
      exact ih z167 (by omega) (by omega) (by omega)
theorem m_inverse {d : Nat} {hp : px_H} {v p : Int32} (hpr : m_pr p.toInt) (v1 : 1 ≤ v.toInt) (v2 : v.toInt < p.toInt) : px_Gx d 77 (0, [(0, .int v), (1, .int p)], [], hp) (fun o hp' => ∃ k : Int32, o = .inl (some (.int k)) ∧ hp' = hp ∧ 1 ≤ k.toInt ∧ k.toInt < p.toInt ∧ v.toInt * k.toInt % p.toInt = 1) := by
  obtain ⟨w0, h1, h2, h3⟩ := m_inv_x hpr v1 v2
  have p2 : p.toInt ≤ 13 := by unfold m_pr at hpr; omega
  have cl1 : Int32.toInt 1 = 1 := rfl
  refine px_gx (fun _ K => px_a 2 (f' := (2, [(2, .int 1), (0, .int v), (1, .int p)], [], hp)) rfl K) ?_
  exact m_inverse_l v1 v2 p2 h2 h3 w0.toNat 1 (by omega) (by omega) (by omega)
def m_row (n : Nat) (p : Int) (hp : px_H) (j : Nat) : Prop := ∀ vs, hp[46 + n]? = some (10, vs) → ∀ k, k < j → ∃ x : Int32, vs[k]? = some (.int x) ∧ 0 ≤ x.toInt ∧ x.toInt < p
def m_rc (n : Nat) (hp : px_H) (c : Nat) : Prop := ∀ vs, hp[46 + n]? = some (10, vs) → ∃ x : Int32, vs[c]? = some (.int x) ∧ 1 ≤ x.toInt
def m_ik (n : Nat) (hp : px_H) (c : Nat) : Prop := ∀ us, hp[44 + n]? = some (12, us) → us[c]? = some (.int 1)
def m_zk (n : Nat) (hp : px_H) (j : Nat) : Prop := ∀ us, hp[44 + n]? = some (12, us) → ∀ c, c < j → us[c]? = some (.int 0)
def m_kr (p : Int) (vs : List Value) (c j : Nat) : Prop := ∀ k, k < j → ∃ x : Int32, vs[37 * c + k]? = some (.int x) ∧ 0 ≤ x.toInt ∧ x.toInt < p ∧ (k = c → 1 ≤ x.toInt)
def m_kq (n : Nat) (p : Int) (hp : px_H) (c j : Nat) : Prop := ∀ us vs, hp[44 + n]? = some (12, us) → hp[45 + n]? = some (10, vs) → ∀ c', c' < 36 → us[c']? = some (.int 1) → m_kr p vs c' (if c' = c then j else 37)
theorem m_bk {hp : px_H} {a b : Nat} {c d : px_C} (h : (hp.set a c)[b]? = some d) (hne : a ≠ b) : hp[b]? = some d := by rw [List.getElem?_set_ne hne] at h; exact h
theorem m_row_ne {n a : Nat} {p : Int} {hp : px_H} {j : Nat} {c : px_C} (R : m_row n p hp j) (h : a ≠ 46 + n) : m_row n p (hp.set a c) j := fun vs hv => R vs (m_bk hv h)
theorem m_rc_ne {n a : Nat} {hp : px_H} {j : Nat} {c : px_C} (R : m_rc n hp j) (h : a ≠ 46 + n) : m_rc n (hp.set a c) j := fun vs hv => R vs (m_bk hv h)
theorem m_ik_ne {n a : Nat} {hp : px_H} {j : Nat} {c : px_C} (R : m_ik n hp j) (h : a ≠ 44 + n) : m_ik n (hp.set a c) j := fun vs hv => R vs (m_bk hv h)
theorem m_kq_ne {n a : Nat} {p : Int} {hp : px_H} {c0 j : Nat} {c : px_C} (R : m_kq n p hp c0 j) (h : a ≠ 44 + n) (h2 : a ≠ 45 + n) : m_kq n p (hp.set a c) c0 j := fun us vs hu hv => R us vs (m_bk hu h) (m_bk hv h2)
theorem m_row_st {n : Nat} {p : Int} {hp : px_H} {j i : Nat} {vs : List Value} {x : Int32} (R : m_row n p hp j) (hv : hp[46 + n]? = some (10, vs)) (x1 : 0 ≤ x.toInt) (x2 : x.toInt < p) : m_row n p (hp.set (46 + n) (10, vs.set i (.int x))) j := by
  intro vs' hv' k hk
  rw [px_self hv] at hv'
  cases hv'
  obtain ⟨y, e1, e2⟩ := R vs hv k hk
  by_cases h : i = k
  · subst h
    exact ⟨x, List.getElem?_set_self (List.getElem?_eq_some_iff.mp e1).1, x1, x2⟩
  · exact ⟨y, by rw [List.getElem?_set_ne h]; exact e1, e2⟩
theorem m_row_gr {n : Nat} {p : Int} {hp : px_H} {j : Nat} {vs : List Value} {x : Int32} (R : m_row n p hp j) (hv : hp[46 + n]? = some (10, vs)) (hl : j < vs.length) (x1 : 0 ≤ x.toInt) (x2 : x.toInt < p) : m_row n p (hp.set (46 + n) (10, vs.set j (.int x))) (j + 1) := by
  intro vs' hv' k hk
  rw [px_self hv] at hv'
  cases hv'
  by_cases h : j = k
  · subst h
    exact ⟨x, List.getElem?_set_self hl, x1, x2⟩
  · obtain ⟨y, e1, e2⟩ := R vs hv k (by omega)
    exact ⟨y, by rw [List.getElem?_set_ne h]; exact e1, e2⟩
theorem m_rowL {n : Nat} {p : Int} {hp : px_H} {j i : Nat} {vs : List Value} {z : Int32} (R : m_row n p hp j) (hv : hp[46 + n]? = some (10, vs)) (ez : vs[i]? = some (.int z)) (hi : i < j) : 0 ≤ z.toInt ∧ z.toInt < p := by
  obtain ⟨y, e1, e2⟩ := R vs hv i hi
  rw [ez] at e1
  cases e1
  exact e2
theorem m_rcI {n : Nat} {hp : px_H} {i : Nat} {vs : List Value} {z : Int32} (hv : hp[46 + n]? = some (10, vs)) (ez : vs[i]? = some (.int z)) (h : 1 ≤ z.toInt) : m_rc n hp i := by
  intro vs' hv'
  rw [hv] at hv'
  cases hv'
  exact ⟨z, ez, h⟩
theorem m_rcL {n : Nat} {hp : px_H} {j i : Nat} {vs : List Value} {z : Int32} (R : m_rc n hp j) (hv : hp[46 + n]? = some (10, vs)) (ez : vs[i]? = some (.int z)) : i = j → 1 ≤ z.toInt := by
  intro e
  subst e
  obtain ⟨y, e1, e2⟩ := R vs hv
  rw [ez] at e1
  cases e1
  exact e2
theorem m_ikI {n : Nat} {hp : px_H} {i : Nat} {us : List Value} {z : Int32} (hu : hp[44 + n]? = some (12, us)) (ez : us[i]? = some (.int z)) (h1 : 0 ≤ z.toInt) (h2 : z.toInt ≤ 1) (h : z.toInt ≠ 0) : m_ik n hp i := by
  intro us' hu'
  rw [hu] at hu'
  cases hu'
  rcases pa_01 h1 h2 with rfl | rfl
  · exact absurd rfl h
  · exact ez
theorem m_kqL {n : Nat} {p : Int} {hp : px_H} {i k c : Nat} {us vs : List Value} {z : Int32} (R : m_kq n p hp 36 37) (hu : hp[44 + n]? = some (12, us)) (hik : m_ik n hp c) (hv : hp[45 + n]? = some (10, vs)) (ez : vs[i]? = some (.int z)) (hi : i = 37 * c + k) (hk : k < 37) (hc : c < 36) : 0 ≤ z.toInt ∧ z.toInt < p ∧ (k = c → 1 ≤ z.toInt) := by
  have := R us vs hu hv c hc (hik us hu)
  rw [if_neg (by omega)] at this
  obtain ⟨y, e1, e2⟩ := this k hk
  rw [hi] at ez
  rw [ez] at e1
  cases e1
  exact e2
theorem m_kq_bs {n : Nat} {p : Int} {hp : px_H} {c : Nat} {us : List Value} (R : m_kq n p hp 36 37) (hu : hp[44 + n]? = some (12, us)) : m_kq n p (hp.set (44 + n) (12, us.set c (.int 1))) c 0 := by
  intro us' vs hu' hv c' hc' h1
  rw [px_self hu] at hu'
  cases hu'
  by_cases h : c' = c
  · rw [if_pos h]
    intro k hk
    omega
  · rw [if_neg h]
    rw [List.getElem?_set_ne (fun e => h e.symm)] at h1
    have := R us vs hu (m_bk hv (by omega)) c' hc' h1
    rw [if_neg (by omega)] at this
    exact this
theorem m_kq_st {n : Nat} {p : Int} {hp : px_H} {c j i : Nat} {vs : List Value} {x : Int32} (R : m_kq n p hp c j) (hv : hp[45 + n]? = some (10, vs)) (hi : i = 37 * c + j) (hj : j < 37) (hl : i < vs.length) (x1 : 0 ≤ x.toInt) (x2 : x.toInt < p) (x3 : j = c → 1 ≤ x.toInt) : m_kq n p (hp.set (45 + n) (10, vs.set i (.int x))) c (j + 1) := by
  intro us vs' hu hv' c' hc' h1
  rw [px_self hv] at hv'
  cases hv'
  have h0 := R us vs (m_bk hu (by omega)) hv c' hc' h1
  intro k hk
  by_cases h : c' = c
  · subst h
    rw [if_pos rfl] at hk h0
    by_cases h2 : k = j
    · subst h2
      exact ⟨x, by rw [← hi]; exact List.getElem?_set_self hl, x1, x2, x3⟩
    · obtain ⟨y, e1, e2⟩ := h0 k (by omega)
      exact ⟨y, by rw [List.getElem?_set_ne (by omega)]; exact e1, e2⟩
  · rw [if_neg h] at hk h0
    obtain ⟨y, e1, e2⟩ := h0 k hk
    exact ⟨y, by rw [List.getElem?_set_ne (by omega)]; exact e1, e2⟩
theorem m_kq_e {n : Nat} {p : Int} {hp : px_H} {c j : Nat} (R : m_kq n p hp c j) (hj : j = 37) : m_kq n p hp 36 37 := by
  intro us vs hu hv c' hc' h1
  have := R us vs hu hv c' hc' h1
  rw [hj, ite_self] at this
  rw [ite_self]
  exact this
theorem m_kq_z {n : Nat} {p : Int} {hp : px_H} (R : m_zk n hp 36) : m_kq n p hp 36 37 := by
  intro us vs hu hv c' hc' h1
  rw [R us hu c' hc'] at h1
  cases h1
theorem m_zk_st {n : Nat} {hp : px_H} {j : Nat} {us : List Value} (R : m_zk n hp j) (hu : hp[44 + n]? = some (12, us)) (hl : j < us.length) : m_zk n (hp.set (44 + n) (12, us.set j (.int 0))) (j + 1) := by
  intro us' hu' c hc
  rw [px_self hu] at hu'
  cases hu'
  by_cases h : j = c
  · subst h
    exact List.getElem?_set_self hl
  · rw [List.getElem?_set_ne h]
    exact R us hu c (by omega)
theorem m_kq_fr {n : Nat} {p : Int} {M : pa_M} {hp hp' : px_H} {c j : Nat} (H : pa_Hi n hp) (G : pa_Fr n M hp hp') (h1 : ¬ (30, 0) ∈ M) (h2 : ¬ (31, 0) ∈ M) (R : m_kq n p hp c j) : m_kq n p hp' c j := by
  obtain ⟨us, hu, -⟩ := pa_ara (a := 44 + n) (i := 12) (lo := 0) (hi := 1) H (by omega) (by decide) (by decide) rfl
  obtain ⟨vs, hv, -⟩ := pa_ara (a := 45 + n) (i := 13) (lo := -2147483648) (hi := 2147483647) H (by omega) (by decide) (by decide) rfl
  have e1 := pa_fa (i := 12) G hu (by omega) (by decide) (by decide) (by decide) h1
  have e2 := pa_fa (i := 13) G hv (by omega) (by decide) (by decide) (by decide) h2
  intro us' vs' hu' hv'
  rw [e1] at hu'
  rw [e2] at hv'
  cases hu'
  cases hv'
  exact R us vs hu hv
def ck_82 : pa_K := ([pa_rf 24, pa_i 2 13], some (pa_i 0 1), false, [(30, 0), (31, 0), (32, 0)])
set_option maxRecDepth 20000 in
set_option maxHeartbeats 4000000 in
theorem m_keep_c {d n : Nat} {hp0 : px_H} {th w h pn pl fo le ru : Int32} {p c : Int32} (hpr : m_pr p.toInt) (p1 : 2 ≤ p.toInt) (p2 : p.toInt ≤ 13) (c1 : 0 ≤ c.toInt) (c2 : c.toInt ≤ 35) : ∀ (k : Nat) (i : Int32) hp (hm : hp[38 + n]? = some (4, m_O n th w h pn pl fo le ru)) (H : pa_Hi n hp) (F : pa_Fr n [(30, 0), (31, 0), (32, 0)] hp0 hp) (L : hp.length = hp0.length) (R : m_row n p.toInt hp 37) (C : m_rc n hp c.toInt.toNat), i.toInt + k = 38 → 0 ≤ i.toInt → i.toInt ≤ 37 → m_kq n p.toInt hp c.toInt.toNat i.toInt.toNat → px_Gx d 82 (37, [(3, .int i), (2, .int c), (0, .ref (38 + n)), (1, .int p)], [], hp) (fun o hp' => pa_Po n ck_82 hp0 o hp' ∧ m_kq n p.toInt hp' 36 37) := by
  have cl1 : Int32.toInt 1 = 1 := rfl
  have cl37 : Int32.toInt 37 = 37 := rfl
  intro k
  induction k with
  | zero =>
    intro i hp hm H F L R C g1 g2 g3 KJ
    omega
  | succ k ih =>
    intro i hp hm H F L R C g1 g2 g3 KJ
    obtain ⟨bth1, bth2, bw1, bw2, bh1, bh2, bpn1, bpn2, bpl1, bpl2, bfo1, bfo2, ble1, ble2, bru1, bru2⟩ := pa_bnd H hm
    refine px_gx (fun _ K => px_a 2 (f' := (40, [(3, .int i), (2, .int c), (0, .ref (38 + n)), (1, .int p)], [.int 37, .int i], hp)) rfl K) ?_
    by_cases h168 : (37 : Int32) ≤ i
    · have h168' := h168
      rw [Int32.le_iff_toInt_le] at h168'
      refine px_gx (fun _ K => px_b2 true 66 rfl rfl (decide_eq_true h168) K) ?_
      show px_Gx _ _ (66, [(3, .int i), (2, .int c), (0, .ref (38 + n)), (1, .int p)], [], hp) _
      refine px_gx (fun _ K => px_a 1 (f' := (67, [(3, .int i), (2, .int c), (0, .ref (38 + n)), (1, .int p)], [.int 1], hp)) rfl K) ?_
      exact ⟨_, _, px_ri rfl rfl rfl, ⟨H, F, Or.inl ⟨_, rfl, pa_in (by omega) (by omega), L⟩⟩, (m_kq_e KJ (by omega))⟩
    · have h168' := h168
      rw [Int32.le_iff_toInt_le] at h168'
      refine px_gx (fun _ K => px_b2 false 66 rfl rfl (decide_eq_false h168) K) ?_
      show px_Gx _ _ (43, [(3, .int i), (2, .int c), (0, .ref (38 + n)), (1, .int p)], [], hp) _
      refine px_gx (fun _ K => px_a 1 (f' := (44, [(3, .int i), (2, .int c), (0, .ref (38 + n)), (1, .int p)], [.ref (38 + n)], hp)) rfl K) ?_
      refine px_gx (fun _ K => px_gf (38 + n) 30 4 11 (.ref (45 + n)) rfl rfl hm rfl K) ?_
      show px_Gx _ _ (47, [(3, .int i), (2, .int c), (0, .ref (38 + n)), (1, .int p)], [.ref (45 + n)], hp) _
      refine px_gx (fun _ K => px_a 3 (f' := (51, [(3, .int i), (2, .int c), (0, .ref (38 + n)), (1, .int p)], [.int (37 * c), .ref (45 + n)], hp)) rfl K) ?_
      obtain ⟨z169, ez169, fz169⟩ : ∃ qz : Int32, qz = 37 * c ∧ qz.toInt = 37 * Int32.toInt c := ⟨_, rfl, i32_mulL rfl (by omega) (by omega)⟩
      rw [← ez169]
      refine px_gx (fun _ K => px_a 2 (f' := (53, [(3, .int i), (2, .int c), (0, .ref (38 + n)), (1, .int p)], [.int (z169 + i), .ref (45 + n)], hp)) rfl K) ?_
      obtain ⟨z170, ez170, fz170⟩ : ∃ qz : Int32, qz = z169 + i ∧ qz.toInt = Int32.toInt z169 + Int32.toInt i := ⟨_, rfl, i32_add (by omega) (by omega)⟩
      rw [← ez170]
      refine px_gx (fun _ K => px_a 1 (f' := (54, [(3, .int i), (2, .int c), (0, .ref (38 + n)), (1, .int p)], [.ref (38 + n), .int z170, .ref (45 + n)], hp)) rfl K) ?_
      refine px_gx (fun _ K => px_gf (38 + n) 33 4 12 (.ref (46 + n)) rfl rfl hm rfl K) ?_
      show px_Gx _ _ (57, [(3, .int i), (2, .int c), (0, .ref (38 + n)), (1, .int p)], [.ref (46 + n), .int z170, .ref (45 + n)], hp) _
      refine px_gx (fun _ K => px_a 1 (f' := (58, [(3, .int i), (2, .int c), (0, .ref (38 + n)), (1, .int p)], [.int i, .ref (46 + n), .int z170, .ref (45 + n)], hp)) rfl K) ?_
      obtain ⟨vs172, hv172, hl172, hg172⟩ := pa_ara (a := 46 + n) (i := 14) (lo := -2147483648) (hi := 2147483647) H (by omega) (by decide) (by decide) rfl
      have hi171 : i.toNatClampNeg < vs172.length := by show (Int32.toInt i).toNat < _; omega
      obtain ⟨z171, ez171, lz171, uz171⟩ := hg172 _ hi171
      refine px_gx (fun _ K => px_al (46 + n) (.int z171) rfl hv172 (Or.inl ⟨rfl, Or.inl rfl⟩) (i32_nn (by omega)) ez171 K) ?_
      show px_Gx _ _ (59, [(3, .int i), (2, .int c), (0, .ref (38 + n)), (1, .int p)], [.int z171, .int z170, .ref (45 + n)], hp) _
      obtain ⟨rlz171, ruz171⟩ := m_rowL R hv172 ez171 (by show (Int32.toInt i).toNat < _; omega)
      have rcz171 := m_rcL C hv172 ez171
      obtain ⟨vs174, hv174, hl174, hg174⟩ := pa_ara (a := 45 + n) (i := 13) (lo := -2147483648) (hi := 2147483647) H (by omega) (by decide) (by decide) rfl
      have hi173 : z170.toNatClampNeg < vs174.length := by show (Int32.toInt z170).toNat < _; omega
      refine px_gx (fun _ K => px_ias (45 + n) rfl hv174 (by omega) (i32_nn (by omega)) hi173 K) ?_
      show px_Gx _ _ (60, [(3, .int i), (2, .int c), (0, .ref (38 + n)), (1, .int p)], [], hp.set (45 + n) (10, vs174.set z170.toNatClampNeg (.int z171))) _
      have hm173 : (hp.set (45 + n) (10, vs174.set z170.toNatClampNeg (.int z171)))[38 + n]? = some (4, (m_O n th w h pn pl fo le ru)) := px_ne hm (by omega)
      have H173 : pa_Hi n (hp.set (45 + n) (10, vs174.set z170.toNatClampNeg (.int z171))) := pa_aS (i := 13) H (by omega) (by decide) (by decide) hv174 rfl (pa_top_ok _)
      have F173 : pa_Fr n [(30, 0), (31, 0), (32, 0)] hp0 (hp.set (45 + n) (10, vs174.set z170.toNatClampNeg (.int z171))) := F.trans (pa_aF (i := 13) (by omega) (by decide) (by decide) hv174 (by decide) (by decide))
      have L173 : (hp.set (45 + n) (10, vs174.set z170.toNatClampNeg (.int z171))).length = hp0.length := List.length_set.trans L
      have R173 : m_row n p.toInt (hp.set (45 + n) (10, vs174.set z170.toNatClampNeg (.int z171))) 37 := m_row_ne R (by omega)
      have C173 : m_rc n (hp.set (45 + n) (10, vs174.set z170.toNatClampNeg (.int z171))) c.toInt.toNat := m_rc_ne C (by omega)
      have K173 : m_kq n p.toInt (hp.set (45 + n) (10, vs174.set z170.toNatClampNeg (.int z171))) c.toInt.toNat (i.toInt.toNat + 1) := m_kq_st KJ hv174 (by show (Int32.toInt z170).toNat = _; omega) (by omega) (by show (Int32.toInt z170).toNat < _; omega) (by omega) (by omega) (fun e => rcz171 (by show (Int32.toInt i).toNat = _; omega))
      have hv172_173 : (hp.set (45 + n) (10, vs174.set z170.toNatClampNeg (.int z171)))[46 + n]? = some (10, vs172) := px_ne hv172 (by omega)
      generalize hp.set (45 + n) (10, vs174.set z170.toNatClampNeg (.int z171)) = hp173 at hm173 H173 F173 L173 R173 C173 K173 hv172_173 ⊢
      refine px_gx (fun _ K => px_a 1 (f' := (63, [(3, .int (i + 1)), (2, .int c), (0, .ref (38 + n)), (1, .int p)], [], hp173)) rfl K) ?_
      obtain ⟨z175, ez175, fz175⟩ : ∃ qz : Int32, qz = i + 1 ∧ qz.toInt = Int32.toInt i + Int32.toInt 1 := ⟨_, rfl, i32_add (by omega) (by omega)⟩
      rw [← ez175]
      refine px_gx (fun _ K => px_a 1 (f' := (37, [(3, .int z175), (2, .int c), (0, .ref (38 + n)), (1, .int p)], [], hp173)) rfl K) ?_
      exact ih z175 hp173 hm173 H173 F173 L173 R173 C173 (by omega) (by omega) (by omega) (by rw [show z175.toInt.toNat = i.toInt.toNat + 1 by omega]; exact K173)
set_option maxRecDepth 20000 in
set_option maxHeartbeats 4000000 in
theorem m_keep_e {d n : Nat} {hp0 : px_H} {th w h pn pl fo le ru : Int32} {p c ti : Int32} (hpr : m_pr p.toInt) (p1 : 2 ≤ p.toInt) (p2 : p.toInt ≤ 13) (c1 : 0 ≤ c.toInt) (c2 : c.toInt ≤ 35) (ti1 : 0 ≤ ti.toInt) (ti2 : ti.toInt < p.toInt) : ∀ (k : Nat) (i : Int32) hp (hm : hp[38 + n]? = some (4, m_O n th w h pn pl fo le ru)) (H : pa_Hi n hp) (F : pa_Fr n [(30, 0), (31, 0), (32, 0)] hp0 hp) (L : hp.length = hp0.length) (R : m_row n p.toInt hp 37) (IK : m_ik n hp c.toInt.toNat) (KQ : m_kq n p.toInt hp 36 37), i.toInt + k = 38 → 0 ≤ i.toInt → i.toInt ≤ 37 → (∀ hp (hm : hp[38 + n]? = some (4, m_O n th w h pn pl fo le ru)) (H : pa_Hi n hp) (F : pa_Fr n [(30, 0), (31, 0), (32, 0)] hp0 hp) (L : hp.length = hp0.length) (R : m_row n p.toInt hp 37) (KQ : m_kq n p.toInt hp 36 37), px_Gx d 82 (142, [(2, .int c), (0, .ref (38 + n)), (1, .int p)], [], hp) (fun o hp' => pa_Po n ck_82 hp0 o hp' ∧ m_kq n p.toInt hp' 36 37)) → px_Gx d 82 (96, [(4, .int i), (3, .int ti), (2, .int c), (0, .ref (38 + n)), (1, .int p)], [], hp) (fun o hp' => pa_Po n ck_82 hp0 o hp' ∧ m_kq n p.toInt hp' 36 37) := by
  have cl1 : Int32.toInt 1 = 1 := rfl
  have cl37 : Int32.toInt 37 = 37 := rfl
  intro k
  induction k with
  | zero =>
    intro i hp hm H F L R IK KQ g1 g2 g3 K
    omega
  | succ k ih =>
    intro i hp hm H F L R IK KQ g1 g2 g3 K
    obtain ⟨bth1, bth2, bw1, bw2, bh1, bh2, bpn1, bpn2, bpl1, bpl2, bfo1, bfo2, ble1, ble2, bru1, bru2⟩ := pa_bnd H hm
    refine px_gx (fun _ K => px_a 2 (f' := (100, [(4, .int i), (3, .int ti), (2, .int c), (0, .ref (38 + n)), (1, .int p)], [.int 37, .int i], hp)) rfl K) ?_
    by_cases h176 : (37 : Int32) ≤ i
    · have h176' := h176
      rw [Int32.le_iff_toInt_le] at h176'
      refine px_gx (fun _ K => px_b2 true 142 rfl rfl (decide_eq_true h176) K) ?_
      show px_Gx _ _ (142, [(4, .int i), (3, .int ti), (2, .int c), (0, .ref (38 + n)), (1, .int p)], [], hp) _
      refine px_wk [(2, .int c), (0, .ref (38 + n)), (1, .int p)] ⟨rfl, rfl, rfl, trivial⟩ ?_
      exact K hp hm H F L R KQ
    · have h176' := h176
      rw [Int32.le_iff_toInt_le] at h176'
      refine px_gx (fun _ K => px_b2 false 142 rfl rfl (decide_eq_false h176) K) ?_
      show px_Gx _ _ (103, [(4, .int i), (3, .int ti), (2, .int c), (0, .ref (38 + n)), (1, .int p)], [], hp) _
      refine px_gx (fun _ K => px_a 1 (f' := (104, [(4, .int i), (3, .int ti), (2, .int c), (0, .ref (38 + n)), (1, .int p)], [.ref (38 + n)], hp)) rfl K) ?_
      refine px_gx (fun _ K => px_gf (38 + n) 33 4 12 (.ref (46 + n)) rfl rfl hm rfl K) ?_
      show px_Gx _ _ (107, [(4, .int i), (3, .int ti), (2, .int c), (0, .ref (38 + n)), (1, .int p)], [.ref (46 + n)], hp) _
      refine px_gx (fun _ K => px_a 2 (f' := (110, [(4, .int i), (3, .int ti), (2, .int c), (0, .ref (38 + n)), (1, .int p)], [.ref (38 + n), .int i, .ref (46 + n)], hp)) rfl K) ?_
      refine px_gx (fun _ K => px_gf (38 + n) 33 4 12 (.ref (46 + n)) rfl rfl hm rfl K) ?_
      show px_Gx _ _ (113, [(4, .int i), (3, .int ti), (2, .int c), (0, .ref (38 + n)), (1, .int p)], [.ref (46 + n), .int i, .ref (46 + n)], hp) _
      refine px_gx (fun _ K => px_a 1 (f' := (115, [(4, .int i), (3, .int ti), (2, .int c), (0, .ref (38 + n)), (1, .int p)], [.int i, .ref (46 + n), .int i, .ref (46 + n)], hp)) rfl K) ?_
      obtain ⟨vs178, hv178, hl178, hg178⟩ := pa_ara (a := 46 + n) (i := 14) (lo := -2147483648) (hi := 2147483647) H (by omega) (by decide) (by decide) rfl
      have hi177 : i.toNatClampNeg < vs178.length := by show (Int32.toInt i).toNat < _; omega
      obtain ⟨z177, ez177, lz177, uz177⟩ := hg178 _ hi177
      refine px_gx (fun _ K => px_al (46 + n) (.int z177) rfl hv178 (Or.inl ⟨rfl, Or.inl rfl⟩) (i32_nn (by omega)) ez177 K) ?_
      show px_Gx _ _ (116, [(4, .int i), (3, .int ti), (2, .int c), (0, .ref (38 + n)), (1, .int p)], [.int z177, .int i, .ref (46 + n)], hp) _
      obtain ⟨rlz177, ruz177⟩ := m_rowL R hv178 ez177 (by show (Int32.toInt i).toNat < _; omega)
      refine px_gx (fun _ K => px_a 3 (f' := (119, [(4, .int i), (3, .int ti), (2, .int c), (0, .ref (38 + n)), (1, .int p)], [.int (p - ti), .int z177, .int i, .ref (46 + n)], hp)) rfl K) ?_
      obtain ⟨z179, ez179, fz179⟩ : ∃ qz : Int32, qz = p - ti ∧ qz.toInt = Int32.toInt p - Int32.toInt ti := ⟨_, rfl, i32_sub (by omega) (by omega)⟩
      rw [← ez179]
      refine px_gx (fun _ K => px_a 1 (f' := (120, [(4, .int i), (3, .int ti), (2, .int c), (0, .ref (38 + n)), (1, .int p)], [.ref (38 + n), .int z179, .int z177, .int i, .ref (46 + n)], hp)) rfl K) ?_
      refine px_gx (fun _ K => px_gf (38 + n) 30 4 11 (.ref (45 + n)) rfl rfl hm rfl K) ?_
      show px_Gx _ _ (123, [(4, .int i), (3, .int ti), (2, .int c), (0, .ref (38 + n)), (1, .int p)], [.ref (45 + n), .int z179, .int z177, .int i, .ref (46 + n)], hp) _
      refine px_gx (fun _ K => px_a 3 (f' := (127, [(4, .int i), (3, .int ti), (2, .int c), (0, .ref (38 + n)), (1, .int p)], [.int (37 * c), .ref (45 + n), .int z179, .int z177, .int i, .ref (46 + n)], hp)) rfl K) ?_
      obtain ⟨z180, ez180, fz180⟩ : ∃ qz : Int32, qz = 37 * c ∧ qz.toInt = 37 * Int32.toInt c := ⟨_, rfl, i32_mulL rfl (by omega) (by omega)⟩
      rw [← ez180]
      refine px_gx (fun _ K => px_a 2 (f' := (130, [(4, .int i), (3, .int ti), (2, .int c), (0, .ref (38 + n)), (1, .int p)], [.int (z180 + i), .ref (45 + n), .int z179, .int z177, .int i, .ref (46 + n)], hp)) rfl K) ?_
      obtain ⟨z181, ez181, fz181⟩ : ∃ qz : Int32, qz = z180 + i ∧ qz.toInt = Int32.toInt z180 + Int32.toInt i := ⟨_, rfl, i32_add (by omega) (by omega)⟩
      rw [← ez181]
      obtain ⟨vs183, hv183, hl183, hg183⟩ := pa_ara (a := 45 + n) (i := 13) (lo := -2147483648) (hi := 2147483647) H (by omega) (by decide) (by decide) rfl
      have hi182 : z181.toNatClampNeg < vs183.length := by show (Int32.toInt z181).toNat < _; omega
      obtain ⟨z182, ez182, lz182, uz182⟩ := hg183 _ hi182
      refine px_gx (fun _ K => px_al (45 + n) (.int z182) rfl hv183 (Or.inl ⟨rfl, Or.inl rfl⟩) (i32_nn (by omega)) ez182 K) ?_
      show px_Gx _ _ (131, [(4, .int i), (3, .int ti), (2, .int c), (0, .ref (38 + n)), (1, .int p)], [.int z182, .int z179, .int z177, .int i, .ref (46 + n)], hp) _
      obtain ⟨vs184, hv184, hl184, hg184⟩ := pa_ara (a := 44 + n) (i := 12) (lo := 0) (hi := 1) H (by omega) (by decide) (by decide) rfl
      obtain ⟨klz182, kuz182, kdz182⟩ := m_kqL (k := i.toInt.toNat) (c := c.toInt.toNat) KQ hv184 IK hv183 ez182 (by show (Int32.toInt z181).toNat = _; omega) (by omega) (by omega)
      refine px_gx (fun _ K => px_a 1 (f' := (132, [(4, .int i), (3, .int ti), (2, .int c), (0, .ref (38 + n)), (1, .int p)], [.int (z179 * z182), .int z177, .int i, .ref (46 + n)], hp)) rfl K) ?_
      obtain ⟨z185, ez185, fz185⟩ : ∃ qz : Int32, qz = z179 * z182 ∧ qz.toInt = Int32.toInt z179 * Int32.toInt z182 ∧ 0 ≤ Int32.toInt z179 * Int32.toInt z182 ∧ Int32.toInt z179 * Int32.toInt z182 ≤ 13 * 13 := ⟨_, rfl, m_mulb (A := 13) (B := 13) (by omega) (by omega) (by omega) (by omega) (by decide) (by decide)⟩
      rw [← ez185]
      refine px_gx (fun _ K => px_a 1 (f' := (133, [(4, .int i), (3, .int ti), (2, .int c), (0, .ref (38 + n)), (1, .int p)], [.int (z177 + z185), .int i, .ref (46 + n)], hp)) rfl K) ?_
      obtain ⟨z186, ez186, fz186⟩ : ∃ qz : Int32, qz = z177 + z185 ∧ qz.toInt = Int32.toInt z177 + Int32.toInt z185 := ⟨_, rfl, i32_add (by omega) (by omega)⟩
      rw [← ez186]
      refine px_gx (fun _ K => px_a 1 (f' := (134, [(4, .int i), (3, .int ti), (2, .int c), (0, .ref (38 + n)), (1, .int p)], [.int p, .int z186, .int i, .ref (46 + n)], hp)) rfl K) ?_
      refine px_gx (fun _ K => px_irem rfl (pa_ne0 (by omega)) K) ?_
      show px_Gx _ _ (135, [(4, .int i), (3, .int ti), (2, .int c), (0, .ref (38 + n)), (1, .int p)], [.int (z186 - z186 / p * p), .int i, .ref (46 + n)], hp) _
      obtain ⟨z187, ez187, fz187⟩ : ∃ qz : Int32, qz = (z186 - z186 / p * p) ∧ qz.toInt = Int32.toInt z186 % Int32.toInt p ∧ 0 ≤ Int32.toInt z186 % Int32.toInt p ∧ Int32.toInt z186 % Int32.toInt p < Int32.toInt p := ⟨_, rfl, ⟨i32_remE (by omega) (by omega), m_modb (by omega)⟩⟩
      rw [← ez187]
      have hi188 : i.toNatClampNeg < vs178.length := by show (Int32.toInt i).toNat < _; omega
      refine px_gx (fun _ K => px_ias (46 + n) rfl hv178 (by omega) (i32_nn (by omega)) hi188 K) ?_
      show px_Gx _ _ (136, [(4, .int i), (3, .int ti), (2, .int c), (0, .ref (38 + n)), (1, .int p)], [], hp.set (46 + n) (10, vs178.set i.toNatClampNeg (.int z187))) _
      have hm188 : (hp.set (46 + n) (10, vs178.set i.toNatClampNeg (.int z187)))[38 + n]? = some (4, (m_O n th w h pn pl fo le ru)) := px_ne hm (by omega)
      have H188 : pa_Hi n (hp.set (46 + n) (10, vs178.set i.toNatClampNeg (.int z187))) := pa_aS (i := 14) H (by omega) (by decide) (by decide) hv178 rfl (pa_top_ok _)
      have F188 : pa_Fr n [(30, 0), (31, 0), (32, 0)] hp0 (hp.set (46 + n) (10, vs178.set i.toNatClampNeg (.int z187))) := F.trans (pa_aF (i := 14) (by omega) (by decide) (by decide) hv178 (by decide) (by decide))
      have L188 : (hp.set (46 + n) (10, vs178.set i.toNatClampNeg (.int z187))).length = hp0.length := List.length_set.trans L
      have R188 : m_row n p.toInt (hp.set (46 + n) (10, vs178.set i.toNatClampNeg (.int z187))) 37 := m_row_st R hv178 (by omega) (by omega)
      have I188 : m_ik n (hp.set (46 + n) (10, vs178.set i.toNatClampNeg (.int z187))) c.toInt.toNat := m_ik_ne IK (by omega)
      have K188 : m_kq n p.toInt (hp.set (46 + n) (10, vs178.set i.toNatClampNeg (.int z187))) 36 37 := m_kq_ne KQ (by omega) (by omega)
      have hv183_188 : (hp.set (46 + n) (10, vs178.set i.toNatClampNeg (.int z187)))[45 + n]? = some (10, vs183) := px_ne hv183 (by omega)
      have hv184_188 : (hp.set (46 + n) (10, vs178.set i.toNatClampNeg (.int z187)))[44 + n]? = some (12, vs184) := px_ne hv184 (by omega)
      generalize hp.set (46 + n) (10, vs178.set i.toNatClampNeg (.int z187)) = hp188 at hm188 H188 F188 L188 R188 I188 K188 hv183_188 hv184_188 ⊢
      refine px_gx (fun _ K => px_a 1 (f' := (139, [(4, .int (i + 1)), (3, .int ti), (2, .int c), (0, .ref (38 + n)), (1, .int p)], [], hp188)) rfl K) ?_
      obtain ⟨z189, ez189, fz189⟩ : ∃ qz : Int32, qz = i + 1 ∧ qz.toInt = Int32.toInt i + Int32.toInt 1 := ⟨_, rfl, i32_add (by omega) (by omega)⟩
      rw [← ez189]
      refine px_gx (fun _ K => px_a 1 (f' := (96, [(4, .int z189), (3, .int ti), (2, .int c), (0, .ref (38 + n)), (1, .int p)], [], hp188)) rfl K) ?_
      exact ih z189 hp188 hm188 H188 F188 L188 R188 I188 K188 (by omega) (by omega) (by omega) K
set_option maxRecDepth 20000 in
set_option maxHeartbeats 4000000 in
theorem m_keep_l {d n : Nat} {hp0 : px_H} {th w h pn pl fo le ru : Int32} {p : Int32} (hpr : m_pr p.toInt) (p1 : 2 ≤ p.toInt) (p2 : p.toInt ≤ 13) : ∀ (k : Nat) (c : Int32) hp (hm : hp[38 + n]? = some (4, m_O n th w h pn pl fo le ru)) (H : pa_Hi n hp) (F : pa_Fr n [(30, 0), (31, 0), (32, 0)] hp0 hp) (L : hp.length = hp0.length) (R : m_row n p.toInt hp 37) (KQ : m_kq n p.toInt hp 36 37), (k : Int) = c.toInt + 2 → -1 ≤ c.toInt → c.toInt ≤ 35 → px_Gx (d + 1) 82 (3, [(2, .int c), (0, .ref (38 + n)), (1, .int p)], [], hp) (fun o hp' => pa_Po n ck_82 hp0 o hp' ∧ m_kq n p.toInt hp' 36 37) := by
  have clm1 : Int32.toInt (-1) = -1 := rfl
  have cl0 : Int32.toInt 0 = 0 := rfl
  have cl1 : Int32.toInt 1 = 1 := rfl
  have cl36 : Int32.toInt 36 = 36 := rfl
  have cl37 : Int32.toInt 37 = 37 := rfl
  intro k
  induction k with
  | zero =>
    intro c hp hm H F L R KQ g1 g2 g3
    omega
  | succ k ih =>
    intro c hp hm H F L R KQ g1 g2 g3
    obtain ⟨bth1, bth2, bw1, bw2, bh1, bh2, bpn1, bpn2, bpl1, bpl2, bfo1, bfo2, ble1, ble2, bru1, bru2⟩ := pa_bnd H hm
    refine px_gx (fun _ K => px_a 1 (f' := (4, [(2, .int c), (0, .ref (38 + n)), (1, .int p)], [.int c], hp)) rfl K) ?_
    by_cases h190 : c < 0
    · have h190' := h190
      rw [Int32.lt_iff_toInt_lt] at h190'
      refine px_gx (fun _ K => px_b1 true 148 rfl rfl (decide_eq_true h190) K) ?_
      show px_Gx _ _ (148, [(2, .int c), (0, .ref (38 + n)), (1, .int p)], [], hp) _
      refine px_gx (fun _ K => px_a 1 (f' := (149, [(2, .int c), (0, .ref (38 + n)), (1, .int p)], [.ref (38 + n)], hp)) rfl K) ?_
      refine px_gx (fun _ K => px_gf (38 + n) 33 4 12 (.ref (46 + n)) rfl rfl hm rfl K) ?_
      show px_Gx _ _ (152, [(2, .int c), (0, .ref (38 + n)), (1, .int p)], [.ref (46 + n)], hp) _
      refine px_gx (fun _ K => px_a 1 (f' := (154, [(2, .int c), (0, .ref (38 + n)), (1, .int p)], [.int 36, .ref (46 + n)], hp)) rfl K) ?_
      obtain ⟨vs192, hv192, hl192, hg192⟩ := pa_ara (a := 46 + n) (i := 14) (lo := -2147483648) (hi := 2147483647) H (by omega) (by decide) (by decide) rfl
      have hi191 : (36 : Int32).toNatClampNeg < vs192.length := by show (Int32.toInt 36).toNat < _; omega
      obtain ⟨z191, ez191, lz191, uz191⟩ := hg192 _ hi191
      refine px_gx (fun _ K => px_al (46 + n) (.int z191) rfl hv192 (Or.inl ⟨rfl, Or.inl rfl⟩) (i32_nn (by omega)) ez191 K) ?_
      show px_Gx _ _ (155, [(2, .int c), (0, .ref (38 + n)), (1, .int p)], [.int z191], hp) _
      obtain ⟨rlz191, ruz191⟩ := m_rowL R hv192 ez191 (by show (Int32.toInt 36).toNat < _; omega)
      by_cases h193 : ¬ z191 = 0
      · have h193' := h193
        have h193'' : Int32.toInt z191 ≠ Int32.toInt 0 := fun z => h193 (Int32.toInt_inj.mp z)
        refine px_gx (fun _ K => px_b1 true 162 rfl rfl (decide_eq_true h193) K) ?_
        show px_Gx _ _ (162, [(2, .int c), (0, .ref (38 + n)), (1, .int p)], [], hp) _
        refine px_gx (fun _ K => px_a 1 (f' := (163, [(2, .int c), (0, .ref (38 + n)), (1, .int p)], [.int 0], hp)) rfl K) ?_
        exact ⟨_, _, px_ri rfl rfl rfl, ⟨H, F, Or.inl ⟨_, rfl, pa_in (by omega) (by omega), L⟩⟩, KQ⟩
      · have h193' := h193
        have h193'' : Int32.toInt z191 = Int32.toInt 0 := congrArg Int32.toInt (Decidable.not_not.mp h193)
        refine px_gx (fun _ K => px_b1 false 162 rfl rfl (decide_eq_false h193) K) ?_
        show px_Gx _ _ (158, [(2, .int c), (0, .ref (38 + n)), (1, .int p)], [], hp) _
        refine px_gx (fun _ K => px_a 2 (f' := (163, [(2, .int c), (0, .ref (38 + n)), (1, .int p)], [.int 1], hp)) rfl K) ?_
        exact ⟨_, _, px_ri rfl rfl rfl, ⟨H, F, Or.inl ⟨_, rfl, pa_in (by omega) (by omega), L⟩⟩, KQ⟩
    · have h190' := h190
      rw [Int32.lt_iff_toInt_lt] at h190'
      refine px_gx (fun _ K => px_b1 false 148 rfl rfl (decide_eq_false h190) K) ?_
      show px_Gx _ _ (7, [(2, .int c), (0, .ref (38 + n)), (1, .int p)], [], hp) _
      refine px_gx (fun _ K => px_a 1 (f' := (8, [(2, .int c), (0, .ref (38 + n)), (1, .int p)], [.ref (38 + n)], hp)) rfl K) ?_
      refine px_gx (fun _ K => px_gf (38 + n) 33 4 12 (.ref (46 + n)) rfl rfl hm rfl K) ?_
      show px_Gx _ _ (11, [(2, .int c), (0, .ref (38 + n)), (1, .int p)], [.ref (46 + n)], hp) _
      refine px_gx (fun _ K => px_a 1 (f' := (12, [(2, .int c), (0, .ref (38 + n)), (1, .int p)], [.int c, .ref (46 + n)], hp)) rfl K) ?_
      obtain ⟨vs195, hv195, hl195, hg195⟩ := pa_ara (a := 46 + n) (i := 14) (lo := -2147483648) (hi := 2147483647) H (by omega) (by decide) (by decide) rfl
      have hi194 : c.toNatClampNeg < vs195.length := by show (Int32.toInt c).toNat < _; omega
      obtain ⟨z194, ez194, lz194, uz194⟩ := hg195 _ hi194
      refine px_gx (fun _ K => px_al (46 + n) (.int z194) rfl hv195 (Or.inl ⟨rfl, Or.inl rfl⟩) (i32_nn (by omega)) ez194 K) ?_
      show px_Gx _ _ (13, [(2, .int c), (0, .ref (38 + n)), (1, .int p)], [.int z194], hp) _
      obtain ⟨rlz194, ruz194⟩ := m_rowL R hv195 ez194 (by show (Int32.toInt c).toNat < _; omega)
      by_cases h196 : ¬ z194 = 0
      · have h196' := h196
        have h196'' : Int32.toInt z194 ≠ Int32.toInt 0 := fun z => h196 (Int32.toInt_inj.mp z)
        refine px_gx (fun _ K => px_b1 true 19 rfl rfl (decide_eq_true h196) K) ?_
        show px_Gx _ _ (19, [(2, .int c), (0, .ref (38 + n)), (1, .int p)], [], hp) _
        refine px_gx (fun _ K => px_a 1 (f' := (20, [(2, .int c), (0, .ref (38 + n)), (1, .int p)], [.ref (38 + n)], hp)) rfl K) ?_
        refine px_gx (fun _ K => px_gf (38 + n) 27 4 10 (.ref (44 + n)) rfl rfl hm rfl K) ?_
        show px_Gx _ _ (23, [(2, .int c), (0, .ref (38 + n)), (1, .int p)], [.ref (44 + n)], hp) _
        refine px_gx (fun _ K => px_a 1 (f' := (24, [(2, .int c), (0, .ref (38 + n)), (1, .int p)], [.int c, .ref (44 + n)], hp)) rfl K) ?_
        obtain ⟨vs198, hv198, hl198, hg198⟩ := pa_ara (a := 44 + n) (i := 12) (lo := 0) (hi := 1) H (by omega) (by decide) (by decide) rfl
        have hi197 : c.toNatClampNeg < vs198.length := by show (Int32.toInt c).toNat < _; omega
        obtain ⟨z197, ez197, lz197, uz197⟩ := hg198 _ hi197
        refine px_gx (fun _ K => px_al (44 + n) (.int z197) rfl hv198 (Or.inr (Or.inr (Or.inl ⟨rfl, rfl⟩))) (i32_nn (by omega)) ez197 K) ?_
        show px_Gx _ _ (25, [(2, .int c), (0, .ref (38 + n)), (1, .int p)], [.int z197], hp) _
        by_cases h199 : ¬ z197 = 0
        · have h199' := h199
          have h199'' : Int32.toInt z197 ≠ Int32.toInt 0 := fun z => h199 (Int32.toInt_inj.mp z)
          refine px_gx (fun _ K => px_b1 true 68 rfl rfl (decide_eq_true h199) K) ?_
          show px_Gx _ _ (68, [(2, .int c), (0, .ref (38 + n)), (1, .int p)], [], hp) _
          have I0 : m_ik n hp c.toInt.toNat := m_ikI hv198 ez197 (by omega) (by omega) (by omega)
          refine px_gx (fun _ K => px_a 1 (f' := (69, [(2, .int c), (0, .ref (38 + n)), (1, .int p)], [.ref (38 + n)], hp)) rfl K) ?_
          refine px_gx (fun _ K => px_gf (38 + n) 33 4 12 (.ref (46 + n)) rfl rfl hm rfl K) ?_
          show px_Gx _ _ (72, [(2, .int c), (0, .ref (38 + n)), (1, .int p)], [.ref (46 + n)], hp) _
          refine px_gx (fun _ K => px_a 1 (f' := (73, [(2, .int c), (0, .ref (38 + n)), (1, .int p)], [.int c, .ref (46 + n)], hp)) rfl K) ?_
          refine px_gx (fun _ K => px_al (46 + n) (.int z194) rfl hv195 (Or.inl ⟨rfl, Or.inl rfl⟩) (i32_nn (by omega)) ez194 K) ?_
          show px_Gx _ _ (74, [(2, .int c), (0, .ref (38 + n)), (1, .int p)], [.int z194], hp) _
          refine px_gx (fun _ K => px_a 1 (f' := (75, [(2, .int c), (0, .ref (38 + n)), (1, .int p)], [.ref (38 + n), .int z194], hp)) rfl K) ?_
          refine px_gx (fun _ K => px_gf (38 + n) 30 4 11 (.ref (45 + n)) rfl rfl hm rfl K) ?_
          show px_Gx _ _ (78, [(2, .int c), (0, .ref (38 + n)), (1, .int p)], [.ref (45 + n), .int z194], hp) _
          refine px_gx (fun _ K => px_a 3 (f' := (82, [(2, .int c), (0, .ref (38 + n)), (1, .int p)], [.int (37 * c), .ref (45 + n), .int z194], hp)) rfl K) ?_
          obtain ⟨z201, ez201, fz201⟩ : ∃ qz : Int32, qz = 37 * c ∧ qz.toInt = 37 * Int32.toInt c := ⟨_, rfl, i32_mulL rfl (by omega) (by omega)⟩
          rw [← ez201]
          refine px_gx (fun _ K => px_a 2 (f' := (84, [(2, .int c), (0, .ref (38 + n)), (1, .int p)], [.int (z201 + c), .ref (45 + n), .int z194], hp)) rfl K) ?_
          obtain ⟨z202, ez202, fz202⟩ : ∃ qz : Int32, qz = z201 + c ∧ qz.toInt = Int32.toInt z201 + Int32.toInt c := ⟨_, rfl, i32_add (by omega) (by omega)⟩
          rw [← ez202]
          obtain ⟨vs204, hv204, hl204, hg204⟩ := pa_ara (a := 45 + n) (i := 13) (lo := -2147483648) (hi := 2147483647) H (by omega) (by decide) (by decide) rfl
          have hi203 : z202.toNatClampNeg < vs204.length := by show (Int32.toInt z202).toNat < _; omega
          obtain ⟨z203, ez203, lz203, uz203⟩ := hg204 _ hi203
          refine px_gx (fun _ K => px_al (45 + n) (.int z203) rfl hv204 (Or.inl ⟨rfl, Or.inl rfl⟩) (i32_nn (by omega)) ez203 K) ?_
          show px_Gx _ _ (85, [(2, .int c), (0, .ref (38 + n)), (1, .int p)], [.int z203, .int z194], hp) _
          obtain ⟨klz203, kuz203, kdz203⟩ := m_kqL (k := c.toInt.toNat) (c := c.toInt.toNat) KQ hv198 I0 hv204 ez203 (by show (Int32.toInt z202).toNat = _; omega) (by omega) (by omega)
          refine px_gx (fun _ K => px_a 1 (f' := (86, [(2, .int c), (0, .ref (38 + n)), (1, .int p)], [.int p, .int z203, .int z194], hp)) rfl K) ?_
          obtain ⟨o205, hp205, g205, z205, rfl, eh205, l205, u205, -⟩ := m_inverse (d := d) (hp := hp) (v := z203) hpr (by omega) (by omega)
          rw [eh205] at g205
          refine px_gx (fun _ K => px_cl (as := [.int z203, .int p]) (rest := [.int z194]) rfl rfl g205 K) ?_
          show px_Gx _ _ (89, [(2, .int c), (0, .ref (38 + n)), (1, .int p)], [.int z205, .int z194], hp) _
          refine px_gx (fun _ K => px_a 1 (f' := (90, [(2, .int c), (0, .ref (38 + n)), (1, .int p)], [.int (z194 * z205)], hp)) rfl K) ?_
          obtain ⟨z206, ez206, fz206⟩ : ∃ qz : Int32, qz = z194 * z205 ∧ qz.toInt = Int32.toInt z194 * Int32.toInt z205 ∧ 0 ≤ Int32.toInt z194 * Int32.toInt z205 ∧ Int32.toInt z194 * Int32.toInt z205 ≤ 13 * 13 := ⟨_, rfl, m_mulb (A := 13) (B := 13) (by omega) (by omega) (by omega) (by omega) (by decide) (by decide)⟩
          rw [← ez206]
          refine px_gx (fun _ K => px_a 1 (f' := (91, [(2, .int c), (0, .ref (38 + n)), (1, .int p)], [.int p, .int z206], hp)) rfl K) ?_
          refine px_gx (fun _ K => px_irem rfl (pa_ne0 (by omega)) K) ?_
          show px_Gx _ _ (92, [(2, .int c), (0, .ref (38 + n)), (1, .int p)], [.int (z206 - z206 / p * p)], hp) _
          obtain ⟨z207, ez207, fz207⟩ : ∃ qz : Int32, qz = (z206 - z206 / p * p) ∧ qz.toInt = Int32.toInt z206 % Int32.toInt p ∧ 0 ≤ Int32.toInt z206 % Int32.toInt p ∧ Int32.toInt z206 % Int32.toInt p < Int32.toInt p := ⟨_, rfl, ⟨i32_remE (by omega) (by omega), m_modb (by omega)⟩⟩
          rw [← ez207]
          refine px_gx (fun _ K => px_a 3 (f' := (96, [(4, .int 0), (3, .int z207), (2, .int c), (0, .ref (38 + n)), (1, .int p)], [], hp)) rfl K) ?_
          refine m_keep_e hpr p1 p2 (by omega) (by omega) (by omega) (by omega) 38 0 hp hm H F L R I0 KQ (by omega) (by omega) (by omega) (fun hp2 hm2 H2 F2 L2 R2 K2 => ?_)
          refine px_gx (fun _ K => px_a 1 (f' := (145, [(2, .int (c + (-1))), (0, .ref (38 + n)), (1, .int p)], [], hp2)) rfl K) ?_
          obtain ⟨z208, ez208, fz208⟩ : ∃ qz : Int32, qz = c + (-1) ∧ qz.toInt = Int32.toInt c + Int32.toInt (-1) := ⟨_, rfl, i32_add (by omega) (by omega)⟩
          rw [← ez208]
          refine px_gx (fun _ K => px_a 1 (f' := (3, [(2, .int z208), (0, .ref (38 + n)), (1, .int p)], [], hp2)) rfl K) ?_
          exact ih z208 hp2 hm2 H2 F2 L2 R2 K2 (by omega) (by omega) (by omega)
        · have h199' := h199
          have h199'' : Int32.toInt z197 = Int32.toInt 0 := congrArg Int32.toInt (Decidable.not_not.mp h199)
          refine px_gx (fun _ K => px_b1 false 68 rfl rfl (decide_eq_false h199) K) ?_
          show px_Gx _ _ (28, [(2, .int c), (0, .ref (38 + n)), (1, .int p)], [], hp) _
          have C0 : m_rc n hp c.toInt.toNat := m_rcI hv195 ez194 (by omega)
          refine px_gx (fun _ K => px_a 1 (f' := (29, [(2, .int c), (0, .ref (38 + n)), (1, .int p)], [.ref (38 + n)], hp)) rfl K) ?_
          refine px_gx (fun _ K => px_gf (38 + n) 27 4 10 (.ref (44 + n)) rfl rfl hm rfl K) ?_
          show px_Gx _ _ (32, [(2, .int c), (0, .ref (38 + n)), (1, .int p)], [.ref (44 + n)], hp) _
          refine px_gx (fun _ K => px_a 2 (f' := (34, [(2, .int c), (0, .ref (38 + n)), (1, .int p)], [.int 1, .int c, .ref (44 + n)], hp)) rfl K) ?_
          have hi209 : c.toNatClampNeg < vs198.length := by show (Int32.toInt c).toNat < _; omega
          refine px_gx (fun _ K => px_zas (44 + n) rfl hv198 (by omega) (i32_nn (by omega)) hi209 (pa_nb (by omega) (by omega)) K) ?_
          show px_Gx _ _ (35, [(2, .int c), (0, .ref (38 + n)), (1, .int p)], [], hp.set (44 + n) (12, vs198.set c.toNatClampNeg (.int 1))) _
          have hm209 : (hp.set (44 + n) (12, vs198.set c.toNatClampNeg (.int 1)))[38 + n]? = some (4, (m_O n th w h pn pl fo le ru)) := px_ne hm (by omega)
          have H209 : pa_Hi n (hp.set (44 + n) (12, vs198.set c.toNatClampNeg (.int 1))) := pa_aS (i := 12) H (by omega) (by decide) (by decide) hv198 rfl (pa_in (by omega) (by omega))
          have F209 : pa_Fr n [(30, 0), (31, 0), (32, 0)] hp0 (hp.set (44 + n) (12, vs198.set c.toNatClampNeg (.int 1))) := F.trans (pa_aF (i := 12) (by omega) (by decide) (by decide) hv198 (by decide) (by decide))
          have L209 : (hp.set (44 + n) (12, vs198.set c.toNatClampNeg (.int 1))).length = hp0.length := List.length_set.trans L
          have R209 : m_row n p.toInt (hp.set (44 + n) (12, vs198.set c.toNatClampNeg (.int 1))) 37 := m_row_ne R (by omega)
          have C209 : m_rc n (hp.set (44 + n) (12, vs198.set c.toNatClampNeg (.int 1))) c.toInt.toNat := m_rc_ne C0 (by omega)
          have K209 : m_kq n p.toInt (hp.set (44 + n) (12, vs198.set c.toNatClampNeg (.int 1))) c.toInt.toNat 0 := by
            exact m_kq_bs KQ hv198
          have hv195_209 : (hp.set (44 + n) (12, vs198.set c.toNatClampNeg (.int 1)))[46 + n]? = some (10, vs195) := px_ne hv195 (by omega)
          generalize hp.set (44 + n) (12, vs198.set c.toNatClampNeg (.int 1)) = hp209 at hm209 H209 F209 L209 R209 C209 K209 hv195_209 ⊢
          refine px_gx (fun _ K => px_a 2 (f' := (37, [(3, .int 0), (2, .int c), (0, .ref (38 + n)), (1, .int p)], [], hp209)) rfl K) ?_
          exact m_keep_c hpr p1 p2 (by omega) (by omega) 38 0 hp209 hm209 H209 F209 L209 R209 C209 (by omega) (by omega) (by omega) K209
      · have h196' := h196
        have h196'' : Int32.toInt z194 = Int32.toInt 0 := congrArg Int32.toInt (Decidable.not_not.mp h196)
        refine px_gx (fun _ K => px_b1 false 19 rfl rfl (decide_eq_false h196) K) ?_
        show px_Gx _ _ (16, [(2, .int c), (0, .ref (38 + n)), (1, .int p)], [], hp) _
        refine px_gx (fun _ K => px_a 2 (f' := (145, [(2, .int (c + (-1))), (0, .ref (38 + n)), (1, .int p)], [], hp)) rfl K) ?_
        obtain ⟨z210, ez210, fz210⟩ : ∃ qz : Int32, qz = c + (-1) ∧ qz.toInt = Int32.toInt c + Int32.toInt (-1) := ⟨_, rfl, i32_add (by omega) (by omega)⟩
        rw [← ez210]
        refine px_gx (fun _ K => px_a 1 (f' := (3, [(2, .int z210), (0, .ref (38 + n)), (1, .int p)], [], hp)) rfl K) ?_
        exact ih z210 hp hm H F L R KQ (by omega) (by omega) (by omega)
set_option maxRecDepth 20000 in
set_option maxHeartbeats 4000000 in
theorem m_keep {d n : Nat} {hp0 : px_H} {th w h pn pl fo le ru : Int32} {p : Int32} (hpr : m_pr p.toInt) (hm : hp0[38 + n]? = some (4, m_O n th w h pn pl fo le ru)) (H : pa_Hi n hp0) (R : m_row n p.toInt hp0 37) (KQ : m_kq n p.toInt hp0 36 37) : px_Gx (d + 1) 82 (0, [(0, .ref (38 + n)), (1, .int p)], [], hp0) (fun o hp' => pa_Po n ck_82 hp0 o hp' ∧ m_kq n p.toInt hp' 36 37) := by
  have cl35 : Int32.toInt 35 = 35 := rfl
  obtain ⟨bth1, bth2, bw1, bw2, bh1, bh2, bpn1, bpn2, bpl1, bpl2, bfo1, bfo2, ble1, ble2, bru1, bru2⟩ := pa_bnd H hm
  have F : pa_Fr n [(30, 0), (31, 0), (32, 0)] hp0 hp0 := pa_Fr.refl _
  have L : hp0.length = hp0.length := rfl
  have p12 : 2 ≤ p.toInt ∧ p.toInt ≤ 13 := by unfold m_pr at hpr; omega
  refine px_gx (fun _ K => px_a 2 (f' := (3, [(2, .int 35), (0, .ref (38 + n)), (1, .int p)], [], hp0)) rfl K) ?_
  exact m_keep_l hpr (by omega) (by omega) 37 35 hp0 hm H F L R KQ (by omega) (by omega) (by omega)
