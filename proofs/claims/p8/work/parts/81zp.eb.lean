def g_refs (n : Nat) : List Value := (List.range n).map (fun c => .ref (32 + c))
theorem g_refs_e {n c : Nat} (h : c < n) : (g_refs n)[c]? = some (.ref (32 + c)) := by
  unfold g_refs
  rw [List.getElem?_map, List.getElem?_range h]
  rfl
theorem g_mr {a m : Nat} (ha : a < 1000000) (h0 : 0 < m) (hm : m < 14) : nI a - nI a / nI m * nI m = nI (a % m) := pk_rem (by omega) h0 (by omega)
theorem g_ml {a b : Nat} (ha : a ≤ 14) (hb : b ≤ 14) : a * b ≤ 196 := Nat.mul_le_mul ha hb
theorem g_n0 {m : Nat} (h0 : 0 < m) (hm : m < 14) : nI m ≠ 0 := fun z => by
  have := (nI_eq (a := m) (b := 0) (by omega) (by decide)).mp z
  omega
theorem g_pm {m : Nat} (pm : m = 2 ∨ m = 3 ∨ m = 5 ∨ m = 7 ∨ m = 11 ∨ m = 13) : 2 ≤ m ∧ m < 14 := by omega
set_option maxRecDepth 20000 in
theorem c_invl {d n m v : Nat} {hp : px_H} (pm : m = 2 ∨ m = 3 ∨ m = 5 ∨ m = 7 ∨ m = 11 ∨ m = 13) (v0 : 0 < v) (vm : v < m) (h30 : hp[(30 : Nat)]? = some (0, [.int (nI n), .ref 31, .ref (32 + n), .ref (33 + n), .int (nI m)])) : ∀ t k, k + t = m → 1 ≤ k → (∀ j, j < k → j * v % m ≠ 1) → px_Gx d 15 (2, [(2, .int (nI k)), (0, .ref 30), (1, .int (nI v))], [], hp) (fun o hp' => hp' = hp ∧ ∃ k, k < m ∧ k * v % m = 1 ∧ o = .inl (some (.int (nI k)))) := by
  have m14 := g_pm pm
  obtain ⟨k0, q1, q2⟩ := e_p m m14.2 pm v vm v0
  intro t
  induction t with
  | zero =>
    intro k h k1 hno
    exact absurd q2 (hno k0 (by omega))
  | succ t ih =>
    intro k h k1 hno
    have kv := g_ml (a := k) (b := v) (by omega) (by omega)
    by_cases e : k * v % m = 1
    · 
      refine px_gx (fun _ K9 => px_a 2 (f' := (4, [(2, .int (nI k)), (0, .ref 30), (1, .int (nI v))], [.ref 30, .int (nI k)], hp)) rfl K9) ?_
      refine px_gx (fun _ K9 => px_gf 30 26 0 4 (.int (nI m)) rfl rfl h30 rfl K9) ?_
      show px_Gx _ _ (7, [(2, .int (nI k)), (0, .ref 30), (1, .int (nI v))], [.int (nI m), .int (nI k)], hp) _
      refine px_gx (fun _ K9 => px_b2 false 30 rfl rfl (decide_eq_false (show ¬ nI m ≤ nI k by rw [Int32.le_iff_toInt_le, nI_toInt (by omega), nI_toInt (by omega)]; omega)) K9) ?_
      show px_Gx _ _ (10, [(2, .int (nI k)), (0, .ref 30), (1, .int (nI v))], [], hp) _
      refine px_gx (fun _ K9 => px_a 4 (f' := (14, [(2, .int (nI k)), (0, .ref 30), (1, .int (nI v))], [.ref 30, .int ((nI k) * (nI v))], hp)) rfl K9) ?_
      refine px_gx (fun _ K9 => px_gf 30 26 0 4 (.int (nI m)) rfl rfl h30 rfl K9) ?_
      show px_Gx _ _ (17, [(2, .int (nI k)), (0, .ref 30), (1, .int (nI v))], [.int (nI m), .int ((nI k) * (nI v))], hp) _
      refine px_gx (fun _ K9 => px_irem rfl (g_n0 (by omega) (by omega)) K9) ?_
      refine px_gx (fun _ K9 => px_a 1 (f' := (19, [(2, .int (nI k)), (0, .ref 30), (1, .int (nI v))], [.int 1, .int (((nI k) * (nI v)) - ((nI k) * (nI v)) / (nI m) * (nI m))], hp)) rfl K9) ?_
      refine px_gx (fun _ K9 => px_b2 false 24 rfl rfl (decide_eq_false (not_not_intro (by rw [pk_mul, g_mr (by omega) (by omega) (by omega), e]; rfl))) K9) ?_
      show px_Gx _ _ (22, [(2, .int (nI k)), (0, .ref 30), (1, .int (nI v))], [], hp) _
      refine px_gx (fun _ K9 => px_a 1 (f' := (23, [(2, .int (nI k)), (0, .ref 30), (1, .int (nI v))], [.int (nI k)], hp)) rfl K9) ?_
      exact ⟨_, _, px_ri rfl rfl rfl, rfl, k, by omega, e, rfl⟩
    · 
      refine px_gx (fun _ K9 => px_a 2 (f' := (4, [(2, .int (nI k)), (0, .ref 30), (1, .int (nI v))], [.ref 30, .int (nI k)], hp)) rfl K9) ?_
      refine px_gx (fun _ K9 => px_gf 30 26 0 4 (.int (nI m)) rfl rfl h30 rfl K9) ?_
      show px_Gx _ _ (7, [(2, .int (nI k)), (0, .ref 30), (1, .int (nI v))], [.int (nI m), .int (nI k)], hp) _
      refine px_gx (fun _ K9 => px_b2 false 30 rfl rfl (decide_eq_false (show ¬ nI m ≤ nI k by rw [Int32.le_iff_toInt_le, nI_toInt (by omega), nI_toInt (by omega)]; omega)) K9) ?_
      show px_Gx _ _ (10, [(2, .int (nI k)), (0, .ref 30), (1, .int (nI v))], [], hp) _
      refine px_gx (fun _ K9 => px_a 4 (f' := (14, [(2, .int (nI k)), (0, .ref 30), (1, .int (nI v))], [.ref 30, .int ((nI k) * (nI v))], hp)) rfl K9) ?_
      refine px_gx (fun _ K9 => px_gf 30 26 0 4 (.int (nI m)) rfl rfl h30 rfl K9) ?_
      show px_Gx _ _ (17, [(2, .int (nI k)), (0, .ref 30), (1, .int (nI v))], [.int (nI m), .int ((nI k) * (nI v))], hp) _
      refine px_gx (fun _ K9 => px_irem rfl (g_n0 (by omega) (by omega)) K9) ?_
      refine px_gx (fun _ K9 => px_a 1 (f' := (19, [(2, .int (nI k)), (0, .ref 30), (1, .int (nI v))], [.int 1, .int (((nI k) * (nI v)) - ((nI k) * (nI v)) / (nI m) * (nI m))], hp)) rfl K9) ?_
      refine px_gx (fun _ K9 => px_b2 true 24 rfl rfl (decide_eq_true (fun z => e ((nI_eq (a := k * v % m) (b := 1) (Nat.lt_of_lt_of_le (Nat.mod_lt _ (by omega)) (by omega)) (by decide)).mp (by rw [pk_mul, g_mr (by omega) (by omega) (by omega)] at z; exact z)))) K9) ?_
      show px_Gx _ _ (24, [(2, .int (nI k)), (0, .ref 30), (1, .int (nI v))], [], hp) _
      refine px_gx (fun _ K9 => px_a 2 (f' := (2, [(2, .int ((nI k) + 1)), (0, .ref 30), (1, .int (nI v))], [], hp)) rfl K9) ?_
      rw [p_s16 k (by omega)]
      exact ih (k + 1) (by omega) (by omega) (fun j hj => by
        by_cases q : j = k
        · subst q
          exact e
        · exact hno j (by omega))
theorem c_inv {d n m v : Nat} {hp : px_H} (pm : m = 2 ∨ m = 3 ∨ m = 5 ∨ m = 7 ∨ m = 11 ∨ m = 13) (v0 : 0 < v) (vm : v < m) (h30 : hp[(30 : Nat)]? = some (0, [.int (nI n), .ref 31, .ref (32 + n), .ref (33 + n), .int (nI m)])) : px_Gx d 15 (0, [(0, .ref 30), (1, .int (nI v))], [], hp) (fun o hp' => hp' = hp ∧ ∃ k, k < m ∧ k * v % m = 1 ∧ o = .inl (some (.int (nI k)))) := by
  have m14 := g_pm pm
  obtain ⟨o, hp', g, q⟩ := c_invl (d := d) pm v0 vm h30 (m - 1) 1 (by omega) (Nat.le_refl 1) (fun j hj z => by
    have : j = 0 := by omega
    rw [this, Nat.zero_mul, Nat.zero_mod] at z
    cases z)
  exact ⟨o, hp', px_a 2 (f' := (2, [(2, .int (nI 1)), (0, .ref 30), (1, .int (nI v))], [], hp)) rfl g, q⟩
set_option maxRecDepth 20000 in
theorem c_subl {d0 n m L t fa : Nat} {x r : Nat → Nat} {xb rb : Nat} {rv : List Value} (m14 : 2 ≤ m ∧ m < 14) (n36 : n ≤ 36) (hL : L < n) (tm : t ≤ m) (fa8 : 32 ≤ fa) (faL : fa ≠ 32 + L) (xm : ∀ d, d < n → x d < m) (rm : ∀ d, d < n → r d < m) (xbm : xb < m) (rbm : rb < m) (lr : rv.length = n + 1) (hr1 : ∀ d, d < n → rv[d]? = some (.int (nI (r d)))) (hrb : rv[n]? = some (.int (nI rb))) : ∀ q c, c + q = L + 1 → ∀ (hp : px_H) (h30 : hp[(30 : Nat)]? = some (0, [.int (nI n), .ref 31, .ref (32 + n), .ref (33 + n), .int (nI m)])) (h31 : hp[(31 : Nat)]? = some (14, g_refs n)) (hr : hp[32 + L]? = some (10, rv)) (fv : List Value) (hf : hp[fa]? = some (10, fv)) (lf : fv.length = n + 1) (f1 : ∀ d, d < c → fv[d]? = some (.int (nI ((x d + (m - t) * r d) % m)))) (f2 : ∀ d, c ≤ d → d < n → fv[d]? = some (.int (nI (x d)))) (fb : fv[n]? = some (.int (nI xb))), px_Gx d0 19 (19, [(6, .int (nI c)), (5, .int (nI (m - t))), (4, .ref (32 + L)), (0, .ref 30), (1, .int (nI L)), (2, .int (nI t)), (3, .ref fa)], [], hp) (fun o hp' => o = .inl none ∧ ∃ fv' : List Value, hp'[fa]? = some (10, fv') ∧ fv'.length = n + 1 ∧ (∀ d, d < n → fv'[d]? = some (.int (nI (if d ≤ L then (x d + (m - t) * r d) % m else x d)))) ∧ fv'[n]? = some (.int (nI ((xb + (m - t) * rb) % m))) ∧ ∀ a, a ≠ fa → hp'[a]? = hp[a]?) := by
  intro q
  induction q with
  | zero =>
    intro c h hp h30 h31 hr fv hf lf f1 f2 fb
    have k1 := g_ml (a := m - t) (b := rb) (by omega) (by omega)
    refine px_gx (fun _ K9 => px_a 2 (f' := (22, [(6, .int (nI c)), (5, .int (nI (m - t))), (4, .ref (32 + L)), (0, .ref 30), (1, .int (nI L)), (2, .int (nI t)), (3, .ref fa)], [.int (nI L), .int (nI c)], hp)) rfl K9) ?_
    refine px_gx (fun _ K9 => px_b2 true 53 rfl rfl (decide_eq_true (show nI L < nI c by rw [Int32.lt_iff_toInt_lt, nI_toInt (by omega), nI_toInt (by omega)]; omega)) K9) ?_
    show px_Gx _ _ (53, [(6, .int (nI c)), (5, .int (nI (m - t))), (4, .ref (32 + L)), (0, .ref 30), (1, .int (nI L)), (2, .int (nI t)), (3, .ref fa)], [], hp) _
    refine px_gx (fun _ K9 => px_a 2 (f' := (55, [(6, .int (nI c)), (5, .int (nI (m - t))), (4, .ref (32 + L)), (0, .ref 30), (1, .int (nI L)), (2, .int (nI t)), (3, .ref fa)], [.ref 30, .ref fa], hp)) rfl K9) ?_
    refine px_gx (fun _ K9 => px_gf 30 7 0 0 (.int (nI n)) rfl rfl h30 rfl K9) ?_
    show px_Gx _ _ (58, [(6, .int (nI c)), (5, .int (nI (m - t))), (4, .ref (32 + L)), (0, .ref 30), (1, .int (nI L)), (2, .int (nI t)), (3, .ref fa)], [.int (nI n), .ref fa], hp) _
    refine px_gx (fun _ K9 => px_a 2 (f' := (60, [(6, .int (nI c)), (5, .int (nI (m - t))), (4, .ref (32 + L)), (0, .ref 30), (1, .int (nI L)), (2, .int (nI t)), (3, .ref fa)], [.ref 30, .ref fa, .int (nI n), .ref fa], hp)) rfl K9) ?_
    refine px_gx (fun _ K9 => px_gf 30 7 0 0 (.int (nI n)) rfl rfl h30 rfl K9) ?_
    show px_Gx _ _ (63, [(6, .int (nI c)), (5, .int (nI (m - t))), (4, .ref (32 + L)), (0, .ref 30), (1, .int (nI L)), (2, .int (nI t)), (3, .ref fa)], [.int (nI n), .ref fa, .int (nI n), .ref fa], hp) _
    refine px_gx (fun _ K9 => px_al fa (.int (nI xb)) rfl hf (Or.inl ⟨rfl, Or.inl rfl⟩) (nI_pos (by omega)) (by rw [nI_clamp (by omega)]; exact fb) K9) ?_
    show px_Gx _ _ (64, [(6, .int (nI c)), (5, .int (nI (m - t))), (4, .ref (32 + L)), (0, .ref 30), (1, .int (nI L)), (2, .int (nI t)), (3, .ref fa)], [.int (nI xb), .int (nI n), .ref fa], hp) _
    refine px_gx (fun _ K9 => px_a 3 (f' := (69, [(6, .int (nI c)), (5, .int (nI (m - t))), (4, .ref (32 + L)), (0, .ref 30), (1, .int (nI L)), (2, .int (nI t)), (3, .ref fa)], [.ref 30, .ref (32 + L), .int (nI (m - t)), .int (nI xb), .int (nI n), .ref fa], hp)) rfl K9) ?_
    refine px_gx (fun _ K9 => px_gf 30 7 0 0 (.int (nI n)) rfl rfl h30 rfl K9) ?_
    show px_Gx _ _ (72, [(6, .int (nI c)), (5, .int (nI (m - t))), (4, .ref (32 + L)), (0, .ref 30), (1, .int (nI L)), (2, .int (nI t)), (3, .ref fa)], [.int (nI n), .ref (32 + L), .int (nI (m - t)), .int (nI xb), .int (nI n), .ref fa], hp) _
    refine px_gx (fun _ K9 => px_al (32 + L) (.int (nI rb)) rfl hr (Or.inl ⟨rfl, Or.inl rfl⟩) (nI_pos (by omega)) (by rw [nI_clamp (by omega)]; exact hrb) K9) ?_
    show px_Gx _ _ (73, [(6, .int (nI c)), (5, .int (nI (m - t))), (4, .ref (32 + L)), (0, .ref 30), (1, .int (nI L)), (2, .int (nI t)), (3, .ref fa)], [.int (nI rb), .int (nI (m - t)), .int (nI xb), .int (nI n), .ref fa], hp) _
    refine px_gx (fun _ K9 => px_a 3 (f' := (76, [(6, .int (nI c)), (5, .int (nI (m - t))), (4, .ref (32 + L)), (0, .ref 30), (1, .int (nI L)), (2, .int (nI t)), (3, .ref fa)], [.ref 30, .int ((nI xb) + ((nI (m - t)) * (nI rb))), .int (nI n), .ref fa], hp)) rfl K9) ?_
    refine px_gx (fun _ K9 => px_gf 30 26 0 4 (.int (nI m)) rfl rfl h30 rfl K9) ?_
    show px_Gx _ _ (79, [(6, .int (nI c)), (5, .int (nI (m - t))), (4, .ref (32 + L)), (0, .ref 30), (1, .int (nI L)), (2, .int (nI t)), (3, .ref fa)], [.int (nI m), .int ((nI xb) + ((nI (m - t)) * (nI rb))), .int (nI n), .ref fa], hp) _
    refine px_gx (fun _ K9 => px_irem rfl (g_n0 (by omega) (by omega)) K9) ?_
    have ev : (((nI xb) + ((nI (m - t)) * (nI rb))) - ((nI xb) + ((nI (m - t)) * (nI rb))) / (nI m) * (nI m)) = (nI ((xb + (m - t) * rb) % m)) := by rw [pk_mul, nI_add, g_mr (by omega) (by omega) (by omega)]
    show px_Gx _ _ (80, [(6, .int (nI c)), (5, .int (nI (m - t))), (4, .ref (32 + L)), (0, .ref 30), (1, .int (nI L)), (2, .int (nI t)), (3, .ref fa)], [.int (((nI xb) + ((nI (m - t)) * (nI rb))) - ((nI xb) + ((nI (m - t)) * (nI rb))) / (nI m) * (nI m)), .int (nI n), .ref fa], hp) _
    rw [ev]
    show px_Gx _ _ (80, [(6, .int (nI c)), (5, .int (nI (m - t))), (4, .ref (32 + L)), (0, .ref 30), (1, .int (nI L)), (2, .int (nI t)), (3, .ref fa)], [.int (nI ((xb + (m - t) * rb) % m)), .int (nI n), .ref fa], hp) _
    refine px_gx (fun _ K9 => px_ias fa rfl hf (by omega) (nI_pos (by omega)) (by rw [nI_clamp (by omega)]; omega) K9) ?_
    have hf1_30 : (hp.set fa (10, (fv.set (nI n).toNatClampNeg (.int (nI ((xb + (m - t) * rb) % m))))))[(30 : Nat)]? = some (0, [.int (nI n), .ref 31, .ref (32 + n), .ref (33 + n), .int (nI m)]) := px_ne h30 (by omega)
    have hf1_31 : (hp.set fa (10, (fv.set (nI n).toNatClampNeg (.int (nI ((xb + (m - t) * rb) % m))))))[(31 : Nat)]? = some (14, (g_refs n)) := px_ne h31 (by omega)
    have hf1__32___L_ : (hp.set fa (10, (fv.set (nI n).toNatClampNeg (.int (nI ((xb + (m - t) * rb) % m))))))[(32 + L)]? = some (10, rv) := px_ne hr (by omega)
    have hf1_fa : (hp.set fa (10, (fv.set (nI n).toNatClampNeg (.int (nI ((xb + (m - t) * rb) % m))))))[fa]? = some (10, (fv.set (nI n).toNatClampNeg (.int (nI ((xb + (m - t) * rb) % m))))) := px_self hf
    show px_Gx _ _ (81, [(6, .int (nI c)), (5, .int (nI (m - t))), (4, .ref (32 + L)), (0, .ref 30), (1, .int (nI L)), (2, .int (nI t)), (3, .ref fa)], [], (hp.set fa (10, (fv.set (nI n).toNatClampNeg (.int (nI ((xb + (m - t) * rb) % m))))))) _
    refine ⟨_, _, px_e rfl rfl, rfl, _, hf1_fa, by rw [List.length_set]; exact lf, ?_, ?_, ?_⟩
    · intro d hd
      rw [nI_clamp (by omega), List.getElem?_set_ne (by omega)]
      by_cases e : d ≤ L
      · rw [if_pos e]
        exact f1 d (by omega)
      · rw [if_neg e]
        exact f2 d (by omega) hd
    · rw [nI_clamp (by omega)]
      exact List.getElem?_set_self (by omega)
    · intro a ha
      exact List.getElem?_set_ne (Ne.symm ha)
  | succ q ih =>
    intro c h hp h30 h31 hr fv hf lf f1 f2 fb
    have x1 := xm c (by omega)
    have r1 := rm c (by omega)
    have k1 := g_ml (a := m - t) (b := r c) (by omega) (by omega)
    refine px_gx (fun _ K9 => px_a 2 (f' := (22, [(6, .int (nI c)), (5, .int (nI (m - t))), (4, .ref (32 + L)), (0, .ref 30), (1, .int (nI L)), (2, .int (nI t)), (3, .ref fa)], [.int (nI L), .int (nI c)], hp)) rfl K9) ?_
    refine px_gx (fun _ K9 => px_b2 false 53 rfl rfl (decide_eq_false (show ¬ nI L < nI c by rw [Int32.lt_iff_toInt_lt, nI_toInt (by omega), nI_toInt (by omega)]; omega)) K9) ?_
    show px_Gx _ _ (25, [(6, .int (nI c)), (5, .int (nI (m - t))), (4, .ref (32 + L)), (0, .ref 30), (1, .int (nI L)), (2, .int (nI t)), (3, .ref fa)], [], hp) _
    refine px_gx (fun _ K9 => px_a 4 (f' := (31, [(6, .int (nI c)), (5, .int (nI (m - t))), (4, .ref (32 + L)), (0, .ref 30), (1, .int (nI L)), (2, .int (nI t)), (3, .ref fa)], [.int (nI c), .ref fa, .int (nI c), .ref fa], hp)) rfl K9) ?_
    refine px_gx (fun _ K9 => px_al fa (.int (nI (x c))) rfl hf (Or.inl ⟨rfl, Or.inl rfl⟩) (nI_pos (by omega)) (by rw [nI_clamp (by omega)]; exact f2 c (Nat.le_refl c) (by omega)) K9) ?_
    show px_Gx _ _ (32, [(6, .int (nI c)), (5, .int (nI (m - t))), (4, .ref (32 + L)), (0, .ref 30), (1, .int (nI L)), (2, .int (nI t)), (3, .ref fa)], [.int (nI (x c)), .int (nI c), .ref fa], hp) _
    refine px_gx (fun _ K9 => px_a 3 (f' := (38, [(6, .int (nI c)), (5, .int (nI (m - t))), (4, .ref (32 + L)), (0, .ref 30), (1, .int (nI L)), (2, .int (nI t)), (3, .ref fa)], [.int (nI c), .ref (32 + L), .int (nI (m - t)), .int (nI (x c)), .int (nI c), .ref fa], hp)) rfl K9) ?_
    refine px_gx (fun _ K9 => px_al (32 + L) (.int (nI (r c))) rfl hr (Or.inl ⟨rfl, Or.inl rfl⟩) (nI_pos (by omega)) (by rw [nI_clamp (by omega)]; exact hr1 c (by omega)) K9) ?_
    show px_Gx _ _ (39, [(6, .int (nI c)), (5, .int (nI (m - t))), (4, .ref (32 + L)), (0, .ref 30), (1, .int (nI L)), (2, .int (nI t)), (3, .ref fa)], [.int (nI (r c)), .int (nI (m - t)), .int (nI (x c)), .int (nI c), .ref fa], hp) _
    refine px_gx (fun _ K9 => px_a 3 (f' := (42, [(6, .int (nI c)), (5, .int (nI (m - t))), (4, .ref (32 + L)), (0, .ref 30), (1, .int (nI L)), (2, .int (nI t)), (3, .ref fa)], [.ref 30, .int ((nI (x c)) + ((nI (m - t)) * (nI (r c)))), .int (nI c), .ref fa], hp)) rfl K9) ?_
    refine px_gx (fun _ K9 => px_gf 30 26 0 4 (.int (nI m)) rfl rfl h30 rfl K9) ?_
    show px_Gx _ _ (45, [(6, .int (nI c)), (5, .int (nI (m - t))), (4, .ref (32 + L)), (0, .ref 30), (1, .int (nI L)), (2, .int (nI t)), (3, .ref fa)], [.int (nI m), .int ((nI (x c)) + ((nI (m - t)) * (nI (r c)))), .int (nI c), .ref fa], hp) _
    refine px_gx (fun _ K9 => px_irem rfl (g_n0 (by omega) (by omega)) K9) ?_
    have ev : (((nI (x c)) + ((nI (m - t)) * (nI (r c)))) - ((nI (x c)) + ((nI (m - t)) * (nI (r c)))) / (nI m) * (nI m)) = (nI ((x c + (m - t) * r c) % m)) := by rw [pk_mul, nI_add, g_mr (by omega) (by omega) (by omega)]
    show px_Gx _ _ (46, [(6, .int (nI c)), (5, .int (nI (m - t))), (4, .ref (32 + L)), (0, .ref 30), (1, .int (nI L)), (2, .int (nI t)), (3, .ref fa)], [.int (((nI (x c)) + ((nI (m - t)) * (nI (r c)))) - ((nI (x c)) + ((nI (m - t)) * (nI (r c)))) / (nI m) * (nI m)), .int (nI c), .ref fa], hp) _
    rw [ev]
    show px_Gx _ _ (46, [(6, .int (nI c)), (5, .int (nI (m - t))), (4, .ref (32 + L)), (0, .ref 30), (1, .int (nI L)), (2, .int (nI t)), (3, .ref fa)], [.int (nI ((x c + (m - t) * r c) % m)), .int (nI c), .ref fa], hp) _
    refine px_gx (fun _ K9 => px_ias fa rfl hf (by omega) (nI_pos (by omega)) (by rw [nI_clamp (by omega)]; omega) K9) ?_
    have hf1_30 : (hp.set fa (10, (fv.set (nI c).toNatClampNeg (.int (nI ((x c + (m - t) * r c) % m))))))[(30 : Nat)]? = some (0, [.int (nI n), .ref 31, .ref (32 + n), .ref (33 + n), .int (nI m)]) := px_ne h30 (by omega)
    have hf1_31 : (hp.set fa (10, (fv.set (nI c).toNatClampNeg (.int (nI ((x c + (m - t) * r c) % m))))))[(31 : Nat)]? = some (14, (g_refs n)) := px_ne h31 (by omega)
    have hf1__32___L_ : (hp.set fa (10, (fv.set (nI c).toNatClampNeg (.int (nI ((x c + (m - t) * r c) % m))))))[(32 + L)]? = some (10, rv) := px_ne hr (by omega)
    have hf1_fa : (hp.set fa (10, (fv.set (nI c).toNatClampNeg (.int (nI ((x c + (m - t) * r c) % m))))))[fa]? = some (10, (fv.set (nI c).toNatClampNeg (.int (nI ((x c + (m - t) * r c) % m))))) := px_self hf
    show px_Gx _ _ (47, [(6, .int (nI c)), (5, .int (nI (m - t))), (4, .ref (32 + L)), (0, .ref 30), (1, .int (nI L)), (2, .int (nI t)), (3, .ref fa)], [], (hp.set fa (10, (fv.set (nI c).toNatClampNeg (.int (nI ((x c + (m - t) * r c) % m))))))) _
    refine px_gx (fun _ K9 => px_a 2 (f' := (19, [(6, .int ((nI c) + 1)), (5, .int (nI (m - t))), (4, .ref (32 + L)), (0, .ref 30), (1, .int (nI L)), (2, .int (nI t)), (3, .ref fa)], [], (hp.set fa (10, (fv.set (nI c).toNatClampNeg (.int (nI ((x c + (m - t) * r c) % m)))))))) rfl K9) ?_
    rw [p_s16 c (by omega)]
    obtain ⟨o, hp', g, e, fv', b1, b2, b3, b4, b5⟩ := ih (c + 1) (by omega) _ hf1_30 hf1_31 hf1__32___L_ _ hf1_fa (by rw [List.length_set]; exact lf) (fun d hd => by
      rw [nI_clamp (by omega)]
      by_cases e : d = c
      · subst e
        exact List.getElem?_set_self (by omega)
      · rw [List.getElem?_set_ne (by omega)]
        exact f1 d (by omega)) (fun d h1 h2 => by
      rw [nI_clamp (by omega), List.getElem?_set_ne (by omega)]
      exact f2 d (by omega) h2) (by rw [nI_clamp (by omega), List.getElem?_set_ne (by omega)]; exact fb)
    exact ⟨o, hp', g, e, fv', b1, b2, b3, b4, fun a ha => (b5 a ha).trans (List.getElem?_set_ne (Ne.symm ha))⟩
set_option maxRecDepth 20000 in
theorem c_sub {d0 n m L t fa : Nat} {x r : Nat → Nat} {xb rb : Nat} {rv fv : List Value} {hp : px_H} (m14 : 2 ≤ m ∧ m < 14) (n36 : n ≤ 36) (hL : L < n) (tm : t ≤ m) (fa8 : 32 ≤ fa) (faL : fa ≠ 32 + L) (xm : ∀ d, d < n → x d < m) (rm : ∀ d, d < n → r d < m) (xbm : xb < m) (rbm : rb < m) (lr : rv.length = n + 1) (hr1 : ∀ d, d < n → rv[d]? = some (.int (nI (r d)))) (hrb : rv[n]? = some (.int (nI rb))) (h30 : hp[(30 : Nat)]? = some (0, [.int (nI n), .ref 31, .ref (32 + n), .ref (33 + n), .int (nI m)])) (h31 : hp[(31 : Nat)]? = some (14, g_refs n)) (hr : hp[32 + L]? = some (10, rv)) (hf : hp[fa]? = some (10, fv)) (lf : fv.length = n + 1) (f2 : ∀ d, d < n → fv[d]? = some (.int (nI (x d)))) (fb : fv[n]? = some (.int (nI xb))) : px_Gx d0 19 (0, [(0, .ref 30), (1, .int (nI L)), (2, .int (nI t)), (3, .ref fa)], [], hp) (fun o hp' => o = .inl none ∧ ∃ fv' : List Value, hp'[fa]? = some (10, fv') ∧ fv'.length = n + 1 ∧ (∀ d, d < n → fv'[d]? = some (.int (nI (if d ≤ L then (x d + (m - t) * r d) % m else x d)))) ∧ fv'[n]? = some (.int (nI ((xb + (m - t) * rb) % m))) ∧ ∀ a, a ≠ fa → hp'[a]? = hp[a]?) := by
  refine px_gx (fun _ K9 => px_a 1 (f' := (1, [(0, .ref 30), (1, .int (nI L)), (2, .int (nI t)), (3, .ref fa)], [.ref 30], hp)) rfl K9) ?_
  refine px_gx (fun _ K9 => px_gf 30 15 0 1 (.ref 31) rfl rfl h30 rfl K9) ?_
  show px_Gx _ _ (4, [(0, .ref 30), (1, .int (nI L)), (2, .int (nI t)), (3, .ref fa)], [.ref 31], hp) _
  refine px_gx (fun _ K9 => px_a 1 (f' := (5, [(0, .ref 30), (1, .int (nI L)), (2, .int (nI t)), (3, .ref fa)], [.int (nI L), .ref 31], hp)) rfl K9) ?_
  refine px_gx (fun _ K9 => px_al 31 (.ref (32 + L)) rfl h31 (Or.inr (Or.inr (Or.inr ⟨rfl, Or.inr rfl⟩))) (nI_pos (by omega)) (by rw [nI_clamp (by omega)]; exact g_refs_e (by omega)) K9) ?_
  show px_Gx _ _ (6, [(0, .ref 30), (1, .int (nI L)), (2, .int (nI t)), (3, .ref fa)], [.ref (32 + L)], hp) _
  refine px_gx (fun _ K9 => px_a 2 (f' := (9, [(4, .ref (32 + L)), (0, .ref 30), (1, .int (nI L)), (2, .int (nI t)), (3, .ref fa)], [.ref 30], hp)) rfl K9) ?_
  refine px_gx (fun _ K9 => px_gf 30 26 0 4 (.int (nI m)) rfl rfl h30 rfl K9) ?_
  show px_Gx _ _ (12, [(4, .ref (32 + L)), (0, .ref 30), (1, .int (nI L)), (2, .int (nI t)), (3, .ref fa)], [.int (nI m)], hp) _
  refine px_gx (fun _ K9 => px_a 2 (f' := (14, [(4, .ref (32 + L)), (0, .ref 30), (1, .int (nI L)), (2, .int (nI t)), (3, .ref fa)], [.int ((nI m) - (nI t))], hp)) rfl K9) ?_
  have ev : ((nI m) - (nI t)) = (nI (m - t)) := pk_sub (by omega)
  show px_Gx _ _ (14, [(4, .ref (32 + L)), (0, .ref 30), (1, .int (nI L)), (2, .int (nI t)), (3, .ref fa)], [.int ((nI m) - (nI t))], hp) _
  rw [ev]
  show px_Gx _ _ (14, [(4, .ref (32 + L)), (0, .ref 30), (1, .int (nI L)), (2, .int (nI t)), (3, .ref fa)], [.int (nI (m - t))], hp) _
  refine px_gx (fun _ K9 => px_a 3 (f' := (19, [(6, .int 0), (5, .int (nI (m - t))), (4, .ref (32 + L)), (0, .ref 30), (1, .int (nI L)), (2, .int (nI t)), (3, .ref fa)], [], hp)) rfl K9) ?_
  refine px_wk [(6, .int (nI 0)), (5, .int (nI (m - t))), (4, .ref (32 + L)), (0, .ref 30), (1, .int (nI L)), (2, .int (nI t)), (3, .ref fa)] ⟨rfl, rfl, rfl, rfl, rfl, rfl, rfl, trivial⟩ ?_
  exact c_subl m14 n36 hL tm fa8 faL xm rm xbm rbm lr hr1 hrb (L + 1) 0 (by omega) hp h30 h31 hr fv hf lf (fun d hd => absurd hd (Nat.not_lt_zero d)) (fun d _ h => f2 d h) fb
set_option maxRecDepth 20000 in
theorem c_lastl {d0 n m : Nat} {hp : px_H} {x : Nat → Nat} {wv : List Value} (n36 : n ≤ 36) (m14 : 2 ≤ m ∧ m < 14) (h30 : hp[(30 : Nat)]? = some (0, [.int (nI n), .ref 31, .ref (32 + n), .ref (33 + n), .int (nI m)])) (hw : hp[33 + n]? = some (10, wv)) (xm : ∀ d, d < n → x d < m) (hx : ∀ d, d < n → wv[d]? = some (.int (nI (x d)))) : ∀ c, c ≤ n → (∀ d, c ≤ d → d < n → x d = 0) → px_Gx d0 17 (7, [(1, .int (nI c - 1)), (0, .ref 30)], [], hp) (fun o hp' => hp' = hp ∧ (((∀ d, d < n → x d = 0) ∧ o = .inl (some (.int (-1)))) ∨ ∃ L, L < n ∧ x L ≠ 0 ∧ (∀ d, L < d → d < n → x d = 0) ∧ o = .inl (some (.int (nI L))))) := by
  intro c
  induction c with
  | zero =>
    intro h hz
    show px_Gx _ _ (7, [(1, .int (-1)), (0, .ref 30)], [], hp) _
    refine px_gx (fun _ K9 => px_a 3 (f' := (29, [(1, .int (-1)), (0, .ref 30)], [.int (-1)], hp)) rfl K9) ?_
    exact ⟨_, _, px_ri rfl rfl rfl, rfl, Or.inl ⟨fun d hd => hz d (Nat.zero_le d) hd, rfl⟩⟩
  | succ c ih =>
    intro h hz
    have x1 := xm c (by omega)
    rw [nI_pred]
    by_cases e : x c = 0
    · 
      refine px_gx (fun _ K9 => px_a 1 (f' := (8, [(1, .int (nI c)), (0, .ref 30)], [.int (nI c)], hp)) rfl K9) ?_
      refine px_gx (fun _ K9 => px_b1 false 28 rfl rfl (decide_eq_false (nI_pos (by omega))) K9) ?_
      show px_Gx _ _ (11, [(1, .int (nI c)), (0, .ref 30)], [], hp) _
      refine px_gx (fun _ K9 => px_a 1 (f' := (12, [(1, .int (nI c)), (0, .ref 30)], [.ref 30], hp)) rfl K9) ?_
      refine px_gx (fun _ K9 => px_gf 30 22 0 3 (.ref (33 + n)) rfl rfl h30 rfl K9) ?_
      show px_Gx _ _ (15, [(1, .int (nI c)), (0, .ref 30)], [.ref (33 + n)], hp) _
      refine px_gx (fun _ K9 => px_a 1 (f' := (16, [(1, .int (nI c)), (0, .ref 30)], [.int (nI c), .ref (33 + n)], hp)) rfl K9) ?_
      refine px_gx (fun _ K9 => px_al (33 + n) (.int (nI (x c))) rfl hw (Or.inl ⟨rfl, Or.inl rfl⟩) (nI_pos (by omega)) (by rw [nI_clamp (by omega)]; exact hx c (by omega)) K9) ?_
      show px_Gx _ _ (17, [(1, .int (nI c)), (0, .ref 30)], [.int (nI (x c))], hp) _
      refine px_gx (fun _ K9 => px_b1 true 22 rfl rfl (decide_eq_true (by rw [e]; rfl)) K9) ?_
      show px_Gx _ _ (22, [(1, .int (nI c)), (0, .ref 30)], [], hp) _
      refine px_gx (fun _ K9 => px_a 2 (f' := (7, [(1, .int ((nI c) + (-1))), (0, .ref 30)], [], hp)) rfl K9) ?_
      rw [show nI c + -1 = nI c - 1 from (Int32.sub_eq_add_neg _ _).symm]
      exact ih (by omega) (fun d h1 h2 => by
        by_cases q : d = c
        · rw [q]; exact e
        · exact hz d (by omega) h2)
    · 
      refine px_gx (fun _ K9 => px_a 1 (f' := (8, [(1, .int (nI c)), (0, .ref 30)], [.int (nI c)], hp)) rfl K9) ?_
      refine px_gx (fun _ K9 => px_b1 false 28 rfl rfl (decide_eq_false (nI_pos (by omega))) K9) ?_
      show px_Gx _ _ (11, [(1, .int (nI c)), (0, .ref 30)], [], hp) _
      refine px_gx (fun _ K9 => px_a 1 (f' := (12, [(1, .int (nI c)), (0, .ref 30)], [.ref 30], hp)) rfl K9) ?_
      refine px_gx (fun _ K9 => px_gf 30 22 0 3 (.ref (33 + n)) rfl rfl h30 rfl K9) ?_
      show px_Gx _ _ (15, [(1, .int (nI c)), (0, .ref 30)], [.ref (33 + n)], hp) _
      refine px_gx (fun _ K9 => px_a 1 (f' := (16, [(1, .int (nI c)), (0, .ref 30)], [.int (nI c), .ref (33 + n)], hp)) rfl K9) ?_
      refine px_gx (fun _ K9 => px_al (33 + n) (.int (nI (x c))) rfl hw (Or.inl ⟨rfl, Or.inl rfl⟩) (nI_pos (by omega)) (by rw [nI_clamp (by omega)]; exact hx c (by omega)) K9) ?_
      show px_Gx _ _ (17, [(1, .int (nI c)), (0, .ref 30)], [.int (nI (x c))], hp) _
      refine px_gx (fun _ K9 => px_b1 false 22 rfl rfl (decide_eq_false (fun z => e ((nI_eq (a := x c) (b := 0) (by omega) (by decide)).mp z))) K9) ?_
      show px_Gx _ _ (20, [(1, .int (nI c)), (0, .ref 30)], [], hp) _
      refine px_gx (fun _ K9 => px_a 1 (f' := (21, [(1, .int (nI c)), (0, .ref 30)], [.int (nI c)], hp)) rfl K9) ?_
      exact ⟨_, _, px_ri rfl rfl rfl, rfl, Or.inr ⟨c, by omega, e, fun d h1 h2 => hz d (by omega) h2, rfl⟩⟩
theorem c_last {d0 n m : Nat} {hp : px_H} {x : Nat → Nat} {wv : List Value} (n36 : n ≤ 36) (m14 : 2 ≤ m ∧ m < 14) (h30 : hp[(30 : Nat)]? = some (0, [.int (nI n), .ref 31, .ref (32 + n), .ref (33 + n), .int (nI m)])) (hw : hp[33 + n]? = some (10, wv)) (xm : ∀ d, d < n → x d < m) (hx : ∀ d, d < n → wv[d]? = some (.int (nI (x d)))) : px_Gx d0 17 (0, [(0, .ref 30)], [], hp) (fun o hp' => hp' = hp ∧ (((∀ d, d < n → x d = 0) ∧ o = .inl (some (.int (-1)))) ∨ ∃ L, L < n ∧ x L ≠ 0 ∧ (∀ d, L < d → d < n → x d = 0) ∧ o = .inl (some (.int (nI L))))) := by
  refine px_gx (fun _ K9 => px_a 1 (f' := (1, [(0, .ref 30)], [.ref 30], hp)) rfl K9) ?_
  refine px_gx (fun _ K9 => px_gf 30 7 0 0 (.int (nI n)) rfl rfl h30 rfl K9) ?_
  show px_Gx _ _ (4, [(0, .ref 30)], [.int (nI n)], hp) _
  refine px_gx (fun _ K9 => px_a 3 (f' := (7, [(1, .int ((nI n) - 1)), (0, .ref 30)], [], hp)) rfl K9) ?_
  exact c_lastl n36 m14 h30 hw xm hx n (Nat.le_refl n) (fun d h1 h2 => absurd h1 (by omega))
