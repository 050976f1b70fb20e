def f_wl (N : Nat) : List Nat := if N = 0 then [] else f_ws N 8
theorem f_wl_e {N : Nat} {wl : List Nat} (h : (N = 0 ∧ wl = []) ∨ (N ≠ 0 ∧ wl = f_ws N 8)) : wl = f_wl N := by
  unfold f_wl
  rcases h with ⟨a, b⟩ | ⟨a, b⟩
  · rw [if_pos a, b]
  · rw [if_neg a, b]
theorem f_wl_c (N : Nat) : (N = 0 ∧ f_wl N = []) ∨ (N ≠ 0 ∧ f_wl N = f_ws N 8) := by
  unfold f_wl
  by_cases h : N = 0
  · exact Or.inl ⟨h, if_pos h⟩
  · exact Or.inr ⟨h, if_neg h⟩
def g_P (n : Nat) (hp : px_H) : Prop := (∃ mv : Int32, hp[(30 : Nat)]? = some (0, [.int (nI n), .ref 31, .ref (32 + n), .ref (33 + n), .int mv])) ∧ hp[(31 : Nat)]? = some (14, g_refs n) ∧ (∃ lv : List Value, hp[32 + n]? = some (12, lv) ∧ lv.length = n) ∧ (∀ c, c < n → ∃ rv : List Value, hp[32 + c]? = some (10, rv) ∧ rv.length = n + 1) ∧ ∃ wv : List Value, hp[33 + n]? = some (10, wv) ∧ wv.length = n + 1
theorem g_max : ∀ m, m < 14 → 2 ≤ m → (if (2 : Int32) < nI m then nI m else 2) = nI m := by decide +kernel
theorem g_rg17 {n a : Nat} (h : 32 ≤ a) (h2 : a < 32 + n ∨ a = 33 + n) : pa_rg n a = 17 := by
  unfold pa_rg
  rw [if_neg (by omega), if_neg (by omega), if_neg (by omega), if_neg (by omega), if_neg (by omega)]
  by_cases e : a < 32 + n
  · rw [if_pos ⟨h, e⟩]
  · rw [if_neg (by omega), if_pos (by omega)]
theorem g_rg18 {n : Nat} (_ : 0 ≤ n) : pa_rg n (32 + n) = 18 := by
  unfold pa_rg
  rw [if_neg (by omega), if_neg (by omega), if_neg (by omega), if_neg (by omega), if_neg (by omega), if_neg (by omega), if_neg (by omega), if_pos (by omega)]
  omega
set_option maxRecDepth 20000 in
theorem c_bgl {d0 n m : Nat} {hp0 : px_H} (n36 : n ≤ 36) : ∀ q c, c + q = n → ∀ (hp : px_H) (lv : List Value) (h30 : hp[(30 : Nat)]? = some (0, [.int (nI n), .ref 31, .ref (32 + n), .ref (33 + n), .int (nI m)])) (hl : hp[32 + n]? = some (12, lv)) (ll : lv.length = n) (f1 : ∀ d, d < c → lv[d]? = some (.int 0)) (sm : ∀ a, a ≠ 32 + n → hp[a]? = hp0[a]?), px_Gx d0 13 (11, [(2, .int (nI c)), (0, .ref 30), (1, .int (nI m))], [], hp) (fun o hp' => o = .inl none ∧ (∃ lv : List Value, hp'[32 + n]? = some (12, lv) ∧ lv.length = n ∧ ∀ d, d < n → lv[d]? = some (.int 0)) ∧ ∀ a, a ≠ 32 + n → hp'[a]? = hp0[a]?) := by
  intro q
  induction q with
  | zero =>
    intro c h hp lv h30 hl ll f1 sm
    refine px_gx (fun _ K9 => px_a 2 (f' := (13, [(2, .int (nI c)), (0, .ref 30), (1, .int (nI m))], [.ref 30, .int (nI c)], hp)) rfl K9) ?_
    refine px_gx (fun _ K9 => px_gf 30 7 0 0 (.int (nI n)) rfl rfl h30 rfl K9) ?_
    show px_Gx _ _ (16, [(2, .int (nI c)), (0, .ref 30), (1, .int (nI m))], [.int (nI n), .int (nI c)], hp) _
    refine px_gx (fun _ K9 => px_b2 true 32 rfl rfl (decide_eq_true (show nI n ≤ nI c by rw [Int32.le_iff_toInt_le, nI_toInt (by omega), nI_toInt (by omega)]; omega)) K9) ?_
    show px_Gx _ _ (32, [(2, .int (nI c)), (0, .ref 30), (1, .int (nI m))], [], hp) _
    exact ⟨_, _, px_e rfl rfl, rfl, ⟨lv, hl, ll, fun d hd => f1 d (by omega)⟩, sm⟩
  | succ q ih =>
    intro c h hp lv h30 hl ll f1 sm
    refine px_gx (fun _ K9 => px_a 2 (f' := (13, [(2, .int (nI c)), (0, .ref 30), (1, .int (nI m))], [.ref 30, .int (nI c)], hp)) rfl K9) ?_
    refine px_gx (fun _ K9 => px_gf 30 7 0 0 (.int (nI n)) rfl rfl h30 rfl K9) ?_
    show px_Gx _ _ (16, [(2, .int (nI c)), (0, .ref 30), (1, .int (nI m))], [.int (nI n), .int (nI c)], hp) _
    refine px_gx (fun _ K9 => px_b2 false 32 rfl rfl (decide_eq_false (show ¬ nI n ≤ nI c by rw [Int32.le_iff_toInt_le, nI_toInt (by omega), nI_toInt (by omega)]; omega)) K9) ?_
    show px_Gx _ _ (19, [(2, .int (nI c)), (0, .ref 30), (1, .int (nI m))], [], hp) _
    refine px_gx (fun _ K9 => px_a 1 (f' := (20, [(2, .int (nI c)), (0, .ref 30), (1, .int (nI m))], [.ref 30], hp)) rfl K9) ?_
    refine px_gx (fun _ K9 => px_gf 30 18 0 2 (.ref (32 + n)) rfl rfl h30 rfl K9) ?_
    show px_Gx _ _ (23, [(2, .int (nI c)), (0, .ref 30), (1, .int (nI m))], [.ref (32 + n)], hp) _
    refine px_gx (fun _ K9 => px_a 2 (f' := (25, [(2, .int (nI c)), (0, .ref 30), (1, .int (nI m))], [.int 0, .int (nI c), .ref (32 + n)], hp)) rfl K9) ?_
    refine px_gx (fun _ K9 => px_zas (32 + n) rfl hl (by omega) (nI_pos (by omega)) (by rw [nI_clamp (by omega)]; omega) rfl K9) ?_
    have hf1_30 : (hp.set (32 + n) (12, (lv.set (nI c).toNatClampNeg (.int 0))))[(30 : Nat)]? = some (0, [.int (nI n), .ref 31, .ref (32 + n), .ref (33 + n), .int (nI m)]) := px_ne h30 (by omega)
    have hf1__32___n_ : (hp.set (32 + n) (12, (lv.set (nI c).toNatClampNeg (.int 0))))[(32 + n)]? = some (12, (lv.set (nI c).toNatClampNeg (.int 0))) := px_self hl
    show px_Gx _ _ (26, [(2, .int (nI c)), (0, .ref 30), (1, .int (nI m))], [], (hp.set (32 + n) (12, (lv.set (nI c).toNatClampNeg (.int 0))))) _
    refine px_gx (fun _ K9 => px_a 2 (f' := (11, [(2, .int ((nI c) + 1)), (0, .ref 30), (1, .int (nI m))], [], (hp.set (32 + n) (12, (lv.set (nI c).toNatClampNeg (.int 0)))))) rfl K9) ?_
    rw [p_s16 c (by omega)]
    exact ih (c + 1) (by omega) _ _ hf1_30 hf1__32___n_ (by rw [List.length_set]; exact ll) (fun d hd => by
      rw [nI_clamp (by omega)]
      by_cases e : d = c
      · subst e
        exact List.getElem?_set_self (by omega)
      · rw [List.getElem?_set_ne (by omega)]
        exact f1 d (by omega)) (fun a ha => (List.getElem?_set_ne (Ne.symm ha)).trans (sm a ha))
set_option maxRecDepth 20000 in
theorem c_bgX {d0 n m : Nat} {hp : px_H} (pm : m = 2 ∨ m = 3 ∨ m = 5 ∨ m = 7 ∨ m = 11 ∨ m = 13) (n36 : n ≤ 36) (gp : g_P n hp) : px_Gx d0 13 (0, [(0, .ref 30), (1, .int (nI m))], [], hp) (fun o hp' => o = .inl none ∧ g_H n m hp' (fun _ => false) (fun _ _ => 0) (fun _ => 0) ∧ (∃ wv : List Value, hp'[33 + n]? = some (10, wv) ∧ wv.length = n + 1) ∧ ∀ a, ¬ (30 ≤ a ∧ a ≤ 33 + n) → hp'[a]? = hp[a]?) := by
  have m14 := g_pm pm
  obtain ⟨⟨mv, h30⟩, h31, ⟨lv, hl, ll⟩, rows, wv, hw, lw⟩ := gp
  refine px_gx (fun _ K9 => px_a 4 (f' := (6, [(0, .ref 30), (1, .int (nI m))], [.int (if 2 < (nI m) then (nI m) else 2), .ref 30], hp)) rfl K9) ?_
  have ev : (if 2 < (nI m) then (nI m) else 2) = (nI m) := g_max m m14.2 m14.1
  show px_Gx _ _ (6, [(0, .ref 30), (1, .int (nI m))], [.int (if 2 < (nI m) then (nI m) else 2), .ref 30], hp) _
  rw [ev]
  show px_Gx _ _ (6, [(0, .ref 30), (1, .int (nI m))], [.int (nI m), .ref 30], hp) _
  refine px_gx (fun _ K9 => px_pf 30 26 0 4 rfl rfl h30 (by omega) (by simp) rfl rfl (by decide) K9) ?_
  have hf1_30 : (hp.set 30 (0, [.int (nI n), .ref 31, .ref (32 + n), .ref (33 + n), .int (nI m)]))[(30 : Nat)]? = some (0, [.int (nI n), .ref 31, .ref (32 + n), .ref (33 + n), .int (nI m)]) := px_self h30
  have hf1_31 : (hp.set 30 (0, [.int (nI n), .ref 31, .ref (32 + n), .ref (33 + n), .int (nI m)]))[(31 : Nat)]? = some (14, (g_refs n)) := px_ne h31 (by omega)
  have hf1__32___n_ : (hp.set 30 (0, [.int (nI n), .ref 31, .ref (32 + n), .ref (33 + n), .int (nI m)]))[(32 + n)]? = some (12, lv) := px_ne hl (by omega)
  have hf1__33___n_ : (hp.set 30 (0, [.int (nI n), .ref 31, .ref (32 + n), .ref (33 + n), .int (nI m)]))[(33 + n)]? = some (10, wv) := px_ne hw (by omega)
  show px_Gx _ _ (9, [(0, .ref 30), (1, .int (nI m))], [], (hp.set 30 (0, [.int (nI n), .ref 31, .ref (32 + n), .ref (33 + n), .int (nI m)]))) _
  refine px_gx (fun _ K9 => px_a 2 (f' := (11, [(2, .int 0), (0, .ref 30), (1, .int (nI m))], [], (hp.set 30 (0, [.int (nI n), .ref 31, .ref (32 + n), .ref (33 + n), .int (nI m)])))) rfl K9) ?_
  obtain ⟨o, hp', g, e, ⟨lv', k1, k2, k3⟩, k4⟩ := c_bgl (d0 := d0) (m := m) n36 n 0 (by omega) _ lv hf1_30 hf1__32___n_ ll (fun d hd => absurd hd (Nat.not_lt_zero d)) (fun a _ => rfl)
  refine ⟨o, hp', g, e, ⟨(k4 _ (by omega)).trans hf1_30, (k4 _ (by omega)).trans hf1_31, ⟨lv', k1, k2, fun c hc => ?_⟩, fun c hc => ?_⟩, ⟨wv, (k4 _ (by omega)).trans hf1__33___n_, lw⟩, fun a ha => (k4 a (by omega)).trans (List.getElem?_set_ne (by omega))⟩
  · show lv'[c]? = some (.int (if false = true then 1 else 0))
    rw [if_neg (by decide)]
    exact k3 c hc
  · obtain ⟨rv, q1, q2⟩ := rows c hc
    exact ⟨rv, (k4 _ (by omega)).trans (px_ne q1 (by omega)), q2, fun z => by cases z⟩
theorem e_S00 {m n : Nat} {x : Nat → Int} : e_S m n x 0 (fun _ => 0) := by
  unfold e_S
  have : ∀ C, e_d x (fun _ => 0) C = 0 := fun C => by
    induction C with
    | zero => rfl
    | succ C ih =>
      show e_d x (fun _ => 0) C + x C * 0 = 0
      rw [ih, Int.mul_zero]
      rfl
  rw [this]
  exact Int.dvd_zero _
/-- what equations hold so far -/
def g_Q (n m : Nat) (hp : px_H) (A : (Nat → Int) → Prop) : Prop := ∃ ld r rb, g_H n m hp ld r rb ∧ g_R m n ld r rb ∧ (∀ w, g_S m n ld r rb w ↔ A w) ∧ ∃ wv : List Value, hp[33 + n]? = some (10, wv) ∧ wv.length = n + 1
theorem g_Q_c {n m : Nat} {hp : px_H} {A B : (Nat → Int) → Prop} (e : ∀ w, A w ↔ B w) (h : g_Q n m hp A) : g_Q n m hp B := by
  obtain ⟨ld, r, rb, a1, a2, a3, a4⟩ := h
  exact ⟨ld, r, rb, a1, a2, fun w => (a3 w).trans (e w), a4⟩
theorem g_Q_m {n m : Nat} {hp hp' : px_H} {A : (Nat → Int) → Prop} (sm : ∀ a x, 30 ≤ a → a ≤ 33 + n → hp[a]? = some x → hp'[a]? = some x) (h : g_Q n m hp A) : g_Q n m hp' A := by
  obtain ⟨ld, r, rb, ⟨h30, h31, ⟨lv, hl, ll⟩, rows⟩, a2, a3, wv, a4, a5⟩ := h
  refine ⟨ld, r, rb, ⟨sm _ _ (by omega) (by omega) h30, sm _ _ (by omega) (by omega) h31, ⟨lv, sm _ _ (by omega) (by omega) hl, ll⟩, fun c hc => ?_⟩, a2, a3, wv, sm _ _ (by omega) (by omega) a4, a5⟩
  obtain ⟨rv, b1, b2⟩ := rows c hc
  exact ⟨rv, sm _ _ (by omega) (by omega) b1, b2⟩
/-- one equation more -/
theorem c_addQ {d0 n m b : Nat} {s : Int64} {A : (Nat → Int) → Prop} {hp : px_H} (pm : m = 2 ∨ m = 3 ∨ m = 5 ∨ m = 7 ∨ m = 11 ∨ m = 13) (n36 : n ≤ 36) (hb : b ≤ 1) (q : g_Q n m hp A) : ∃ (z : Int32) (hp1 : px_H), px_Go (d0 + 2) 12 (0, [(0, .ref 30), (1, .long s), (3, .int (nI b))], [], hp) (.inl (some (.int z)), hp1) ∧ (∀ a, ¬ (32 ≤ a ∧ a ≤ 33 + n) → hp1[a]? = hp[a]?) ∧ ((z = 1 ∧ g_Q n m hp1 (fun w => A w ∧ e_S m n (fun d => (g_bt s d : Int)) b w) ∧ ∃ w, A w ∧ e_S m n (fun d => (g_bt s d : Int)) b w) ∨ (z = 0 ∧ ∀ w, A w → ¬ e_S m n (fun d => (g_bt s d : Int)) b w)) := by
  obtain ⟨ld, r, rb, a1, a2, a3, wv, a4, a5⟩ := q
  obtain ⟨o, hp1, g, sm, WVQ, cx⟩ := c_addX (d0 := d0) (b := b) (s := s) pm n36 hb a2 a1 a4 a5
  rcases cx with ⟨rfl, ld', r', rb', b1, b2, b3⟩ | ⟨rfl, b3⟩
  · have e : ∀ w, g_S m n ld' r' rb' w ↔ A w ∧ e_S m n (fun d => (g_bt s d : Int)) b w := fun w => (b3 w).trans (and_congr (a3 w) Iff.rfl)
    obtain ⟨w, hw⟩ := g_sat b2
    exact ⟨1, hp1, g, sm, Or.inl ⟨rfl, ⟨ld', r', rb', b1, b2, e, WVQ⟩, w, (e w).mp hw⟩⟩
  · exact ⟨0, hp1, g, sm, Or.inr ⟨rfl, fun w hA he => b3 w ((a3 w).mpr hA) he⟩⟩
set_option maxRecDepth 20000 in
theorem x_apl8 {d n m k : Nat} {W V c N : Nat} {fc fd : Int32} {sh : Int64} {wl : List Nat} {st : List Value} {f : Nat → Nat} (pm : m = 2 ∨ m = 3 ∨ m = 5 ∨ m = 7 ∨ m = 11 ∨ m = 13) (n36 : n ≤ 36) (hk : k < 6) (c160 : c ≤ 160) (hr1 : st.length = 160 ∧ (∀ j, j < c → st[j]? = some (.long (lN (f j))))) : ∀ t j, j + t = c → ∀ (hp : px_H) (A : (Nat → Int) → Prop) (hc : hp[(8 : Nat)]? = some (3, [.int (nI W), .int (nI V), .ref 9, .ref 28, .ref 29, .ref 30, .ref (34 + n), .int fc, .long sh, .int fd])) (R : r_fm hp W V) (hf1 : hp[10 + 3 * k]? = some (1, [.int (nI W), .int (nI V), .ref (11 + 3 * k), .ref (12 + 3 * k), .int (nI N), .int (nI wl.length), .int (nI c), .long sh])) (hs1 : hp[12 + 3 * k]? = some (11, st)) (q : g_Q n m hp A) (A0 : A (fun _ => 0)), px_Gx (d + 5) 43 (10, [(2, .int (nI j)), (0, .ref 8), (1, .ref (10 + 3 * k))], [], hp) (fun o hp' => o = .inl none ∧ r_fm hp' W V ∧ g_Q n m hp' (fun w => A w ∧ ∀ i, j ≤ i → i < c → e_S m n (fun d => (g_bt (lN (f i)) d : Int)) 0 w)) := by
  intro t
  induction t with
  | zero =>
    intro j h hp A hc R hf1 hs1 q A0
    have h30 : hp[(30 : Nat)]? = some (0, [.int (nI n), .ref 31, .ref (32 + n), .ref (33 + n), .int (nI m)]) := by
      obtain ⟨ld, r, rb, a1, -⟩ := q
      exact a1.1
    refine px_gx (fun _ K9 => px_a 2 (f' := (12, [(2, .int (nI j)), (0, .ref 8), (1, .ref (10 + 3 * k))], [.ref (10 + 3 * k), .int (nI j)], hp)) rfl K9) ?_
    refine px_gx (fun _ K9 => px_gf (10 + 3 * k) 94 1 6 (.int (nI c)) rfl rfl hf1 rfl K9) ?_
    show px_Gx _ _ (15, [(2, .int (nI j)), (0, .ref 8), (1, .ref (10 + 3 * k))], [.int (nI c), .int (nI j)], hp) _
    refine px_gx (fun _ K9 => px_b2 true 39 rfl rfl (decide_eq_true (show nI c ≤ nI j by rw [Int32.le_iff_toInt_le, nI_toInt (by omega), nI_toInt (by omega)]; omega)) K9) ?_
    show px_Gx _ _ (39, [(2, .int (nI j)), (0, .ref 8), (1, .ref (10 + 3 * k))], [], hp) _
    exact ⟨_, _, px_e rfl rfl, rfl, R, g_Q_c (fun w => ⟨fun z => ⟨z, fun i h1 h2 => absurd h1 (by omega)⟩, fun z => z.1⟩) q⟩
  | succ t ih =>
    intro j h hp A hc R hf1 hs1 q A0
    have hj : j < c := by omega
    have h30 : hp[(30 : Nat)]? = some (0, [.int (nI n), .ref 31, .ref (32 + n), .ref (33 + n), .int (nI m)]) := by
      obtain ⟨ld, r, rb, a1, -⟩ := q
      exact a1.1
    obtain ⟨z, hp2, g2, sm, cx⟩ := c_addQ (d0 := d + 2) (b := 0) (s := lN (f j)) pm n36 (by omega) q
    obtain ⟨rfl, q2, -⟩ := cx.resolve_right (fun z => z.2 _ A0 e_S00)
    refine px_gx (fun _ K9 => px_a 2 (f' := (12, [(2, .int (nI j)), (0, .ref 8), (1, .ref (10 + 3 * k))], [.ref (10 + 3 * k), .int (nI j)], hp)) rfl K9) ?_
    refine px_gx (fun _ K9 => px_gf (10 + 3 * k) 94 1 6 (.int (nI c)) rfl rfl hf1 rfl K9) ?_
    show px_Gx _ _ (15, [(2, .int (nI j)), (0, .ref 8), (1, .ref (10 + 3 * k))], [.int (nI c), .int (nI j)], hp) _
    refine px_gx (fun _ K9 => px_b2 false 39 rfl rfl (decide_eq_false (show ¬ nI c ≤ nI j by rw [Int32.le_iff_toInt_le, nI_toInt (by omega), nI_toInt (by omega)]; omega)) K9) ?_
    show px_Gx _ _ (18, [(2, .int (nI j)), (0, .ref 8), (1, .ref (10 + 3 * k))], [], hp) _
    refine px_gx (fun _ K9 => px_a 1 (f' := (19, [(2, .int (nI j)), (0, .ref 8), (1, .ref (10 + 3 * k))], [.ref 8], hp)) rfl K9) ?_
    refine px_gx (fun _ K9 => px_gf 8 46 3 5 (.ref 30) rfl rfl hc rfl K9) ?_
    show px_Gx _ _ (22, [(2, .int (nI j)), (0, .ref 8), (1, .ref (10 + 3 * k))], [.ref 30], hp) _
    refine px_gx (fun _ K9 => px_a 1 (f' := (23, [(2, .int (nI j)), (0, .ref 8), (1, .ref (10 + 3 * k))], [.ref (10 + 3 * k), .ref 30], hp)) rfl K9) ?_
    refine px_gx (fun _ K9 => px_gf (10 + 3 * k) 97 1 3 (.ref (12 + 3 * k)) rfl rfl hf1 rfl K9) ?_
    show px_Gx _ _ (26, [(2, .int (nI j)), (0, .ref 8), (1, .ref (10 + 3 * k))], [.ref (12 + 3 * k), .ref 30], hp) _
    refine px_gx (fun _ K9 => px_a 1 (f' := (27, [(2, .int (nI j)), (0, .ref 8), (1, .ref (10 + 3 * k))], [.int (nI j), .ref (12 + 3 * k), .ref 30], hp)) rfl K9) ?_
    refine px_gx (fun _ K9 => px_al (12 + 3 * k) (.long (lN (f j))) rfl hs1 (Or.inr (Or.inl ⟨rfl, rfl⟩)) (nI_pos (by omega)) (by rw [nI_clamp (by omega)]; exact hr1.2 j hj) K9) ?_
    show px_Gx _ _ (28, [(2, .int (nI j)), (0, .ref 8), (1, .ref (10 + 3 * k))], [.long (lN (f j)), .ref 30], hp) _
    refine px_gx (fun _ K9 => px_a 1 (f' := (29, [(2, .int (nI j)), (0, .ref 8), (1, .ref (10 + 3 * k))], [.int 0, .long (lN (f j)), .ref 30], hp)) rfl K9) ?_
    refine px_gx (fun _ K9 => px_cv 30 (as := [.long (lN (f j)), .int 0]) (rest := []) rfl rfl h30 rfl rfl rfl rfl (Nat.le_of_ble_eq_true rfl) (g2) K9) ?_
    show px_Gx _ _ (32, [(2, .int (nI j)), (0, .ref 8), (1, .ref (10 + 3 * k))], [.int 1], hp2) _
    refine px_gx (fun _ K9 => px_a 3 (f' := (10, [(2, .int ((nI j) + 1)), (0, .ref 8), (1, .ref (10 + 3 * k))], [], hp2)) rfl K9) ?_
    rw [p_s16 j (by omega)]
    refine px_wk [(2, .int (nI (j + 1))), (0, .ref 8), (1, .ref (10 + 3 * k))] ⟨rfl, rfl, rfl, trivial⟩ ?_
    obtain ⟨o, hp3, g3, e3, R3, q3⟩ := ih (j + 1) (by omega) hp2 _ ((sm _ (by omega)).trans hc) (r_fm_m (fun a x h1 h2 h3 => (sm a (by omega)).trans h3) R) ((sm _ (by omega)).trans hf1) ((sm _ (by omega)).trans hs1) q2 ⟨A0, e_S00⟩
    refine ⟨o, hp3, g3, e3, R3, g_Q_c (fun w => ⟨fun z => ⟨z.1.1, fun i h1 h2 => ?_⟩, fun z => ⟨⟨z.1, z.2 j (Nat.le_refl j) hj⟩, fun i h1 h2 => z.2 i (by omega) h2⟩⟩) q3⟩
    by_cases e : i = j
    · rw [e]
      exact z.1.2
    · exact z.2 i (by omega) h2
set_option maxRecDepth 20000 in
theorem x_aps8 {d n m k : Nat} (hN : pa_N n) {hp : px_H} (H : pa_Hi n hp) {W V : Nat} {fc fd : Int32} {sh : Int64} (pm : m = 2 ∨ m = 3 ∨ m = 5 ∨ m = 7 ∨ m = 11 ∨ m = 13) (hc : hp[(8 : Nat)]? = some (3, [.int (nI W), .int (nI V), .ref 9, .ref 28, .ref 29, .ref 30, .ref (34 + n), .int fc, .long sh, .int fd])) (hk : k < 6) (hW : W ≤ 6) (hV : V ≤ 6) (R : r_fm hp W V) {A : (Nat → Int) → Prop} (q : g_Q n m hp A) (A0 : A (fun _ => 0)) {Nk : Nat} (hNk : pa_fd hp (10 + 3 * k) 4 = some (.int (nI Nk))) (hNk6 : Nk < 65536) : ∃ hp1, px_Go (d + 5) 43 (0, [(0, .ref 8), (1, .ref (10 + 3 * k))], [], hp) (.inl none, hp1) ∧ pa_Hi n hp1 ∧ pa_Fr n [(10, 6), (10, 7), (12, 0), (17, 0), (18, 0)] hp hp1 ∧ r_fm hp1 W V ∧ g_Q n m hp1 (fun w => A w ∧ ∀ S, pl_D W V (f_wl Nk) sh S → e_S m n (fun d => (g_bt (lN S) d : Int)) 0 w) := by
  have key : px_Gx (d + 5) 43 (0, [(0, .ref 8), (1, .ref (10 + 3 * k))], [], hp) (fun o hp' => o = .inl none ∧ r_fm hp' W V ∧ g_Q n m hp' (fun w => A w ∧ ∀ S, pl_D W V (f_wl Nk) sh S → e_S m n (fun d => (g_bt (lN S) d : Int)) 0 w)) := by
    obtain ⟨hp1, N, c, g, H1, G1, R1, Rk, ss0, c0, R0⟩ := x_prep (d := d) (sh := sh) hN H hW hV hk R
    obtain ⟨wl0, ws0, u1, u2, u3, u4, u5, st0, f0, hf, -⟩ := R0
    obtain ⟨wl, ws, v1, v2, v3, v4, v5, st, f, hf1, hs1, hr1⟩ := Rk
    have eN : N = Nk := by
      rw [pa_fd_get hf] at hNk
      have f8 : some (Value.int (nI N)) = some (Value.int (nI Nk)) := hNk
      injection f8 with f8
      injection f8 with f8
      exact q_nI v1 hNk6 f8
    have LL : pl_L c f (pl_D W V (f_wl Nk) sh) := by
      rw [← eN, ← f_wl_e v2]
      exact hr1.2.2.2
    refine px_gx (fun _ K9 => px_a 2 (f' := (2, [(0, .ref 8), (1, .ref (10 + 3 * k))], [.ref 8, .ref (10 + 3 * k)], hp)) rfl K9) ?_
    refine px_gx (fun _ K9 => px_gf 8 64 3 8 (.long sh) rfl rfl hc rfl K9) ?_
    show px_Gx _ _ (5, [(0, .ref 8), (1, .ref (10 + 3 * k))], [.long sh, .ref (10 + 3 * k)], hp) _
    refine px_gx (fun _ K9 => px_cv (10 + 3 * k) (as := [.long sh]) (rest := []) rfl rfl hf rfl rfl rfl rfl (Nat.le_of_ble_eq_true rfl) (g) K9) ?_
    show px_Gx _ _ (8, [(0, .ref 8), (1, .ref (10 + 3 * k))], [], hp1) _
    refine px_gx (fun _ K9 => px_a 2 (f' := (10, [(2, .int 0), (0, .ref 8), (1, .ref (10 + 3 * k))], [], hp1)) rfl K9) ?_
    obtain ⟨o, hp3, g3, e3, R3, q3⟩ := x_apl8 (d := d) pm hN.2 hk (pl_c160 hr1) ⟨hr1.1, hr1.2.1⟩ c 0 (by omega) hp1 A (l_fo G1 hc (r := 8) rfl (by decide)) R1 hf1 hs1 (g_Q_m (fun a x h1 h2 h3 => by
      obtain ⟨t, vs⟩ := x
      by_cases e : a = 33 + n
      · subst e
        exact l_fo G1 h3 (r := 17) (g_rg17 (by omega) (by omega)) (by decide)
      · by_cases e2 : a = 32 + n
        · subst e2
          exact l_fo G1 h3 (r := 18) (g_rg18 (by omega)) (by decide)
        · by_cases e3 : a = 30
          · subst e3
            exact l_fo G1 h3 (r := 15) rfl (by decide)
          · by_cases e4 : a = 31
            · subst e4
              exact l_fo G1 h3 (r := 16) rfl (by decide)
            · exact l_fo G1 h3 (r := 17) (g_rg17 (by omega) (by omega)) (by decide)) q) A0
    refine ⟨o, hp3, g3, e3, R3, g_Q_c (fun w => and_congr Iff.rfl ⟨fun z S hS => ?_, fun z i _ h2 => z _ ((LL.2 _).mpr ⟨i, h2, rfl⟩)⟩) q3⟩
    obtain ⟨i, h2, rfl⟩ := (LL.2 S).mp hS
    exact z i (Nat.zero_le i) h2
  obtain ⟨o, hp1, g, e, R1, q1⟩ := key
  obtain ⟨hp2, g2, H2, G2⟩ := x_cn (d' := d + 5) (ct_43 hN) (by omega) rfl rfl H [.ref 8, .ref (10 + 3 * k)] ⟨⟨8, rfl, rfl, by decide⟩, ⟨_, rfl, r10 hk, by decide⟩, trivial⟩
  have e2 := px_det g g2
  cases e2
  exact ⟨hp1, g, H2, G2.mono (by decide), R1, q1⟩
