theorem pl_G_c {k W V N : Nat} {wc : Int32} {ss : Int64} {hp : px_H} {c : Nat} {D D' : Nat → Prop} (h : pl_G k W V N wc ss hp c D) (e : ∀ S, D S ↔ D' S) : pl_G k W V N wc ss hp c D' := by
  obtain ⟨st, f, a1, a2, a3, a4, a5, a6⟩ := h
  exact ⟨st, f, a1, a2, a3, a4, a5, pl_L_c a6 e⟩
theorem p_shl {W P x y : Nat} (hW : W ≤ 6) (hx : x < 7) (hy : y < 7) : lN (f_cc W P) <<< (Int32.toInt64 (nI W * nI y + nI x) &&& 63) = lN (f_cS W P x y) := by
  have : W * y ≤ 6 * 6 := Nat.mul_le_mul hW (by omega)
  rw [pk_mul, nI_add, wb_shl _ (by omega)]
  rfl
theorem p_D1 {D : Nat → Prop} {W P fx x y : Nat} {ss : Int64} (hx : x ≤ fx) (S : Nat) : ((fun S => D S ∨ ∃ x' y', (y' < y ∨ (y' = y ∧ x' < x)) ∧ x' ≤ fx ∧ S = f_cS W P x' y' ∧ pl_sub ss S) S ∨ (S = f_cS W P x y ∧ pl_sub ss S)) ↔ (fun S => D S ∨ ∃ x' y', (y' < y ∨ (y' = y ∧ x' < (x + 1))) ∧ x' ≤ fx ∧ S = f_cS W P x' y' ∧ pl_sub ss S) S := by
  constructor
  · rintro ((h | ⟨x', y', h1, h2⟩) | ⟨rfl, h⟩)
    · exact Or.inl h
    · exact Or.inr ⟨x', y', h1.imp id (fun z => ⟨z.1, Nat.lt_succ_of_lt z.2⟩), h2⟩
    · exact Or.inr ⟨x, y, Or.inr ⟨rfl, Nat.lt_succ_self x⟩, hx, rfl, h⟩
  · rintro (h | ⟨x', y', h1, h2, rfl, h3⟩)
    · exact Or.inl (Or.inl h)
    · rcases h1 with z | ⟨z1, z2⟩
      · exact Or.inl (Or.inr ⟨x', y', Or.inl z, h2, rfl, h3⟩)
      · by_cases e : x' = x
        · subst e z1
          exact Or.inr ⟨rfl, h3⟩
        · exact Or.inl (Or.inr ⟨x', y', Or.inr ⟨z1, by omega⟩, h2, rfl, h3⟩)
theorem p_D2 {D : Nat → Prop} {W P fx y : Nat} {ss : Int64} (S : Nat) : (fun S => D S ∨ ∃ x' y', (y' < y ∨ (y' = y ∧ x' < (fx + 1))) ∧ x' ≤ fx ∧ S = f_cS W P x' y' ∧ pl_sub ss S) S ↔ (fun S => D S ∨ ∃ x' y', (y' < (y + 1) ∨ (y' = (y + 1) ∧ x' < 0)) ∧ x' ≤ fx ∧ S = f_cS W P x' y' ∧ pl_sub ss S) S := by
  constructor
  · rintro (h | ⟨x', y', h1, h2⟩)
    · exact Or.inl h
    · exact Or.inr ⟨x', y', Or.inl (by rcases h1 with z | z <;> omega), h2⟩
  · rintro (h | ⟨x', y', h1, h2, h3⟩)
    · exact Or.inl h
    · refine Or.inr ⟨x', y', ?_, h2, h3⟩
      by_cases e : y' = y
      · exact Or.inr ⟨e, by omega⟩
      · rcases h1 with z | z
        · exact Or.inl (by omega)
        · exact absurd z.2 (Nat.not_lt_zero _)
set_option maxRecDepth 20000 in
theorem c_pwx {d k : Nat} {W V N P : Nat} {wc : Int32} {ss : Int64} {fx fy B : Nat} {D : Nat → Prop} {hp0 : px_H} {Q : px_O → px_H → Prop} (hW : W ≤ 6) (hV : V ≤ 6) (hC : f_C P) (hx : fx + f_co P 4 = W) (hy : fy + f_ro P 4 = V) (hB : B + (fx + 1) * (fy + 1) ≤ 160) (hD : ∀ x y, x ≤ fx → y ≤ fy → ¬ D (f_cS W P x y)) {y : Nat} (hyy : y ≤ fy) (K : ∀ (hp' : px_H) (c' : Nat), c' ≤ B + (y + 1) * (fx + 1) → pl_G k W V N wc ss hp' c' (fun S => D S ∨ ∃ x' y', (y' < (y + 1) ∨ (y' = (y + 1) ∧ x' < 0)) ∧ x' ≤ fx ∧ S = f_cS W P x' y' ∧ pl_sub ss S) → (∀ a, a ≠ 10 + 3 * k → a ≠ 12 + 3 * k → hp'[a]? = hp0[a]?) → px_Gx (d + 1) 26 (97, [(6, .int (nI y)), (4, .long (lN (f_cc W P))), (3, .int (nI fy)), (2, .int (nI fx)), (0, .ref (10 + 3 * k)), (1, .int (nI P))], [], hp') Q) : ∀ m x, x + m = fx + 1 → ∀ (hp : px_H) (c : Nat), c ≤ B + y * (fx + 1) + x → pl_G k W V N wc ss hp c (fun S => D S ∨ ∃ x' y', (y' < y ∨ (y' = y ∧ x' < x)) ∧ x' ≤ fx ∧ S = f_cS W P x' y' ∧ pl_sub ss S) → (∀ a, a ≠ 10 + 3 * k → a ≠ 12 + 3 * k → hp[a]? = hp0[a]?) → px_Gx (d + 1) 26 (48, [(7, .int (nI x)), (6, .int (nI y)), (4, .long (lN (f_cc W P))), (3, .int (nI fy)), (2, .int (nI fx)), (0, .ref (10 + 3 * k)), (1, .int (nI P))], [], hp) Q := by
  have c0 : 0 < f_co P 4 := by
    obtain ⟨-, ⟨j, hj⟩, -⟩ := hC
    exact Nat.lt_of_le_of_lt (Nat.zero_le _) (f_ic hj)
  have r0 : 0 < f_ro P 4 := by
    obtain ⟨-, -, ⟨i, hi⟩⟩ := hC
    exact Nat.lt_of_le_of_lt (Nat.zero_le _) (f_ir hi)
  intro m
  induction m with
  | zero =>
    intro x h hp c hc G hsm
    obtain rfl : x = fx + 1 := by omega
    obtain ⟨st, f, hf, hr⟩ := G
    refine px_gx (fun _ K9 => px_a 2 (f' := (51, [(7, .int (nI (fx + 1))), (6, .int (nI y)), (4, .long (lN (f_cc W P))), (3, .int (nI fy)), (2, .int (nI fx)), (0, .ref (10 + 3 * k)), (1, .int (nI P))], [.int (nI fx), .int (nI (fx + 1))], hp)) rfl K9) ?_
    refine px_gx (fun _ K9 => px_b2 true 97 rfl rfl (decide_eq_true (show nI fx < nI (fx + 1) by rw [Int32.lt_iff_toInt_lt, nI_toInt (by omega), nI_toInt (by omega)]; omega)) K9) ?_
    show px_Gx _ _ (97, [(7, .int (nI (fx + 1))), (6, .int (nI y)), (4, .long (lN (f_cc W P))), (3, .int (nI fy)), (2, .int (nI fx)), (0, .ref (10 + 3 * k)), (1, .int (nI P))], [], hp) _
    refine px_wk [(6, .int (nI y)), (4, .long (lN (f_cc W P))), (3, .int (nI fy)), (2, .int (nI fx)), (0, .ref (10 + 3 * k)), (1, .int (nI P))] ⟨rfl, rfl, rfl, rfl, rfl, rfl, trivial⟩ ?_
    exact K hp c (by rw [Nat.add_mul, Nat.one_mul]; omega) (pl_G_c ⟨st, f, hf, hr⟩ p_D2) hsm
  | succ m ih =>
    intro x h hp c hc G hsm
    have hS : f_cS W P x y < 2 ^ 36 := pl_lt hW hV (by omega) (by omega)
    have eS := p_shl (P := P) (x := x) (y := y) hW (by omega) (by omega)
    have hcap : (y + 1) * (fx + 1) ≤ (fx + 1) * (fy + 1) := by
      rw [Nat.mul_comm]
      exact Nat.mul_le_mul (Nat.le_refl _) (by omega)
    rw [Nat.add_mul, Nat.one_mul] at hcap
    obtain ⟨st, f, hf, hr⟩ := G
    have G : pl_G k W V N wc ss hp c _ := ⟨st, f, hf, hr⟩
    by_cases hsub : pl_sub ss (f_cS W P x y)
    · obtain ⟨o1, hp1, hg, e1, G1, s1⟩ := c_ins (d := d) hS (by omega) (fun z => by
        rcases z with z | ⟨x', y', h1, h2, h3, -⟩
        · exact hD x y (by omega) hyy z
        · have q := f_inj hC hC (by omega) (by omega) h3
          omega) G
      subst e1
      refine px_gx (fun _ K9 => px_a 2 (f' := (51, [(7, .int (nI x)), (6, .int (nI y)), (4, .long (lN (f_cc W P))), (3, .int (nI fy)), (2, .int (nI fx)), (0, .ref (10 + 3 * k)), (1, .int (nI P))], [.int (nI fx), .int (nI x)], hp)) rfl K9) ?_
      refine px_gx (fun _ K9 => px_b2 false 97 rfl rfl (decide_eq_false (show ¬ nI fx < nI x by rw [Int32.lt_iff_toInt_lt, nI_toInt (by omega), nI_toInt (by omega)]; omega)) K9) ?_
      show px_Gx _ _ (54, [(7, .int (nI x)), (6, .int (nI y)), (4, .long (lN (f_cc W P))), (3, .int (nI fy)), (2, .int (nI fx)), (0, .ref (10 + 3 * k)), (1, .int (nI P))], [], hp) _
      refine px_gx (fun _ K9 => px_a 2 (f' := (57, [(7, .int (nI x)), (6, .int (nI y)), (4, .long (lN (f_cc W P))), (3, .int (nI fy)), (2, .int (nI fx)), (0, .ref (10 + 3 * k)), (1, .int (nI P))], [.ref (10 + 3 * k), .long (lN (f_cc W P))], hp)) rfl K9) ?_
      refine px_gx (fun _ K9 => px_gf (10 + 3 * k) 9 1 0 (.int (nI W)) rfl rfl hf rfl K9) ?_
      show px_Gx _ _ (60, [(7, .int (nI x)), (6, .int (nI y)), (4, .long (lN (f_cc W P))), (3, .int (nI fy)), (2, .int (nI fx)), (0, .ref (10 + 3 * k)), (1, .int (nI P))], [.int (nI W), .long (lN (f_cc W P))], hp) _
      refine px_gx (fun _ K9 => px_a 6 (f' := (69, [(8, .long ((lN (f_cc W P)) <<< (Int32.toInt64 (((nI W) * (nI y)) + (nI x)) &&& 63))), (7, .int (nI x)), (6, .int (nI y)), (4, .long (lN (f_cc W P))), (3, .int (nI fy)), (2, .int (nI fx)), (0, .ref (10 + 3 * k)), (1, .int (nI P))], [], hp)) rfl K9) ?_
      rw [eS]
      show px_Gx _ _ (69, [(8, .long (lN (f_cS W P x y))), (7, .int (nI x)), (6, .int (nI y)), (4, .long (lN (f_cc W P))), (3, .int (nI fy)), (2, .int (nI fx)), (0, .ref (10 + 3 * k)), (1, .int (nI P))], [], hp) _
      refine px_gx (fun _ K9 => px_a 2 (f' := (72, [(8, .long (lN (f_cS W P x y))), (7, .int (nI x)), (6, .int (nI y)), (4, .long (lN (f_cc W P))), (3, .int (nI fy)), (2, .int (nI fx)), (0, .ref (10 + 3 * k)), (1, .int (nI P))], [.ref (10 + 3 * k), .long (lN (f_cS W P x y))], hp)) rfl K9) ?_
      refine px_gx (fun _ K9 => px_gf (10 + 3 * k) 39 1 7 (.long ss) rfl rfl hf rfl K9) ?_
      show px_Gx _ _ (75, [(8, .long (lN (f_cS W P x y))), (7, .int (nI x)), (6, .int (nI y)), (4, .long (lN (f_cc W P))), (3, .int (nI fy)), (2, .int (nI fx)), (0, .ref (10 + 3 * k)), (1, .int (nI P))], [.long ss, .long (lN (f_cS W P x y))], hp) _
      refine px_gx (fun _ K9 => px_a 5 (f' := (82, [(8, .long (lN (f_cS W P x y))), (7, .int (nI x)), (6, .int (nI y)), (4, .long (lN (f_cc W P))), (3, .int (nI fy)), (2, .int (nI fx)), (0, .ref (10 + 3 * k)), (1, .int (nI P))], [.int (lg_cmp ((lN (f_cS W P x y)) &&& (ss ^^^ -1)) 0)], hp)) rfl K9) ?_
      refine px_gx (fun _ K9 => px_b1 false 91 rfl rfl (decide_eq_false (not_not_intro (x_cmp0.mpr ((p_sub hS).mpr hsub)))) K9) ?_
      show px_Gx _ _ (85, [(8, .long (lN (f_cS W P x y))), (7, .int (nI x)), (6, .int (nI y)), (4, .long (lN (f_cc W P))), (3, .int (nI fy)), (2, .int (nI fx)), (0, .ref (10 + 3 * k)), (1, .int (nI P))], [], hp) _
      refine px_gx (fun _ K9 => px_a 2 (f' := (88, [(8, .long (lN (f_cS W P x y))), (7, .int (nI x)), (6, .int (nI y)), (4, .long (lN (f_cc W P))), (3, .int (nI fy)), (2, .int (nI fx)), (0, .ref (10 + 3 * k)), (1, .int (nI P))], [.long (lN (f_cS W P x y)), .ref (10 + 3 * k)], hp)) rfl K9) ?_
      refine px_gx (fun _ K9 => px_cv (10 + 3 * k) (as := [.long (lN (f_cS W P x y))]) (rest := []) rfl rfl hf rfl rfl rfl rfl (Nat.le_of_ble_eq_true rfl) (hg) K9) ?_
      show px_Gx _ _ (91, [(8, .long (lN (f_cS W P x y))), (7, .int (nI x)), (6, .int (nI y)), (4, .long (lN (f_cc W P))), (3, .int (nI fy)), (2, .int (nI fx)), (0, .ref (10 + 3 * k)), (1, .int (nI P))], [], hp1) _
      refine px_gx (fun _ K9 => px_a 2 (f' := (48, [(7, .int ((nI x) + 1)), (8, .long (lN (f_cS W P x y))), (6, .int (nI y)), (4, .long (lN (f_cc W P))), (3, .int (nI fy)), (2, .int (nI fx)), (0, .ref (10 + 3 * k)), (1, .int (nI P))], [], hp1)) rfl K9) ?_
      rw [p_s16 x (by omega)]
      refine px_wk [(7, .int (nI (x + 1))), (6, .int (nI y)), (4, .long (lN (f_cc W P))), (3, .int (nI fy)), (2, .int (nI fx)), (0, .ref (10 + 3 * k)), (1, .int (nI P))] ⟨rfl, rfl, rfl, rfl, rfl, rfl, rfl, trivial⟩ ?_
      refine ih (x + 1) (by omega) hp1 (c + 1) (by omega) (pl_G_c G1 (fun S => ?_)) (fun a h1 h2 => (s1 a h1 h2).trans (hsm a h1 h2))
      refine Iff.trans ?_ (p_D1 (by omega) S)
      exact or_congr Iff.rfl ⟨fun z => ⟨z, by rw [z]; exact hsub⟩, fun z => z.1⟩
    · 
      refine px_gx (fun _ K9 => px_a 2 (f' := (51, [(7, .int (nI x)), (6, .int (nI y)), (4, .long (lN (f_cc W P))), (3, .int (nI fy)), (2, .int (nI fx)), (0, .ref (10 + 3 * k)), (1, .int (nI P))], [.int (nI fx), .int (nI x)], hp)) rfl K9) ?_
      refine px_gx (fun _ K9 => px_b2 false 97 rfl rfl (decide_eq_false (show ¬ nI fx < nI x by rw [Int32.lt_iff_toInt_lt, nI_toInt (by omega), nI_toInt (by omega)]; omega)) K9) ?_
      show px_Gx _ _ (54, [(7, .int (nI x)), (6, .int (nI y)), (4, .long (lN (f_cc W P))), (3, .int (nI fy)), (2, .int (nI fx)), (0, .ref (10 + 3 * k)), (1, .int (nI P))], [], hp) _
      refine px_gx (fun _ K9 => px_a 2 (f' := (57, [(7, .int (nI x)), (6, .int (nI y)), (4, .long (lN (f_cc W P))), (3, .int (nI fy)), (2, .int (nI fx)), (0, .ref (10 + 3 * k)), (1, .int (nI P))], [.ref (10 + 3 * k), .long (lN (f_cc W P))], hp)) rfl K9) ?_
      refine px_gx (fun _ K9 => px_gf (10 + 3 * k) 9 1 0 (.int (nI W)) rfl rfl hf rfl K9) ?_
      show px_Gx _ _ (60, [(7, .int (nI x)), (6, .int (nI y)), (4, .long (lN (f_cc W P))), (3, .int (nI fy)), (2, .int (nI fx)), (0, .ref (10 + 3 * k)), (1, .int (nI P))], [.int (nI W), .long (lN (f_cc W P))], hp) _
      refine px_gx (fun _ K9 => px_a 6 (f' := (69, [(8, .long ((lN (f_cc W P)) <<< (Int32.toInt64 (((nI W) * (nI y)) + (nI x)) &&& 63))), (7, .int (nI x)), (6, .int (nI y)), (4, .long (lN (f_cc W P))), (3, .int (nI fy)), (2, .int (nI fx)), (0, .ref (10 + 3 * k)), (1, .int (nI P))], [], hp)) rfl K9) ?_
      rw [eS]
      show px_Gx _ _ (69, [(8, .long (lN (f_cS W P x y))), (7, .int (nI x)), (6, .int (nI y)), (4, .long (lN (f_cc W P))), (3, .int (nI fy)), (2, .int (nI fx)), (0, .ref (10 + 3 * k)), (1, .int (nI P))], [], hp) _
      refine px_gx (fun _ K9 => px_a 2 (f' := (72, [(8, .long (lN (f_cS W P x y))), (7, .int (nI x)), (6, .int (nI y)), (4, .long (lN (f_cc W P))), (3, .int (nI fy)), (2, .int (nI fx)), (0, .ref (10 + 3 * k)), (1, .int (nI P))], [.ref (10 + 3 * k), .long (lN (f_cS W P x y))], hp)) rfl K9) ?_
      refine px_gx (fun _ K9 => px_gf (10 + 3 * k) 39 1 7 (.long ss) rfl rfl hf rfl K9) ?_
      show px_Gx _ _ (75, [(8, .long (lN (f_cS W P x y))), (7, .int (nI x)), (6, .int (nI y)), (4, .long (lN (f_cc W P))), (3, .int (nI fy)), (2, .int (nI fx)), (0, .ref (10 + 3 * k)), (1, .int (nI P))], [.long ss, .long (lN (f_cS W P x y))], hp) _
      refine px_gx (fun _ K9 => px_a 5 (f' := (82, [(8, .long (lN (f_cS W P x y))), (7, .int (nI x)), (6, .int (nI y)), (4, .long (lN (f_cc W P))), (3, .int (nI fy)), (2, .int (nI fx)), (0, .ref (10 + 3 * k)), (1, .int (nI P))], [.int (lg_cmp ((lN (f_cS W P x y)) &&& (ss ^^^ -1)) 0)], hp)) rfl K9) ?_
      refine px_gx (fun _ K9 => px_b1 true 91 rfl rfl (decide_eq_true (fun z => hsub ((p_sub hS).mp (x_cmp0.mp z)))) K9) ?_
      show px_Gx _ _ (91, [(8, .long (lN (f_cS W P x y))), (7, .int (nI x)), (6, .int (nI y)), (4, .long (lN (f_cc W P))), (3, .int (nI fy)), (2, .int (nI fx)), (0, .ref (10 + 3 * k)), (1, .int (nI P))], [], hp) _
      refine px_gx (fun _ K9 => px_a 2 (f' := (48, [(7, .int ((nI x) + 1)), (8, .long (lN (f_cS W P x y))), (6, .int (nI y)), (4, .long (lN (f_cc W P))), (3, .int (nI fy)), (2, .int (nI fx)), (0, .ref (10 + 3 * k)), (1, .int (nI P))], [], hp)) rfl K9) ?_
      rw [p_s16 x (by omega)]
      refine px_wk [(7, .int (nI (x + 1))), (6, .int (nI y)), (4, .long (lN (f_cc W P))), (3, .int (nI fy)), (2, .int (nI fx)), (0, .ref (10 + 3 * k)), (1, .int (nI P))] ⟨rfl, rfl, rfl, rfl, rfl, rfl, rfl, trivial⟩ ?_
      refine ih (x + 1) (by omega) hp c (by omega) (pl_G_c G (fun S => ?_)) hsm
      refine Iff.trans ?_ (p_D1 (by omega) S)
      exact ⟨Or.inl, fun z => z.elim id (fun z => absurd (by rw [← z.1]; exact z.2) hsub)⟩
set_option maxRecDepth 20000 in
theorem c_pwy {d k : Nat} {W V N P : Nat} {wc : Int32} {ss : Int64} {fx fy B : Nat} {D : Nat → Prop} {hp0 : px_H} (hW : W ≤ 6) (hV : V ≤ 6) (hC : f_C P) (hx : fx + f_co P 4 = W) (hy : fy + f_ro P 4 = V) (hB : B + (fx + 1) * (fy + 1) ≤ 160) (hD : ∀ x y, x ≤ fx → y ≤ fy → ¬ D (f_cS W P x y)) : ∀ m y, y + m = fy + 1 → ∀ (hp : px_H) (c : Nat), c ≤ B + y * (fx + 1) → pl_G k W V N wc ss hp c (fun S => D S ∨ ∃ x' y', (y' < y ∨ (y' = y ∧ x' < 0)) ∧ x' ≤ fx ∧ S = f_cS W P x' y' ∧ pl_sub ss S) → (∀ a, a ≠ 10 + 3 * k → a ≠ 12 + 3 * k → hp[a]? = hp0[a]?) → px_Gx (d + 1) 26 (39, [(6, .int (nI y)), (4, .long (lN (f_cc W P))), (3, .int (nI fy)), (2, .int (nI fx)), (0, .ref (10 + 3 * k)), (1, .int (nI P))], [], hp) (fun o hp' => o = .inl none ∧ ∃ c', c' ≤ B + (fx + 1) * (fy + 1) ∧ pl_G k W V N wc ss hp' c' (fun S => D S ∨ ∃ x' y', (y' < (fy + 1) ∨ (y' = (fy + 1) ∧ x' < 0)) ∧ x' ≤ fx ∧ S = f_cS W P x' y' ∧ pl_sub ss S) ∧ (∀ a, a ≠ 10 + 3 * k → a ≠ 12 + 3 * k → hp'[a]? = hp0[a]?)) := by
  have c0 : 0 < f_co P 4 := by
    obtain ⟨-, ⟨j, hj⟩, -⟩ := hC
    exact Nat.lt_of_le_of_lt (Nat.zero_le _) (f_ic hj)
  have r0 : 0 < f_ro P 4 := by
    obtain ⟨-, -, ⟨i, hi⟩⟩ := hC
    exact Nat.lt_of_le_of_lt (Nat.zero_le _) (f_ir hi)
  intro m
  induction m with
  | zero =>
    intro y h hp c hc G hsm
    obtain rfl : y = fy + 1 := by omega
    obtain ⟨st, f, hf, hr⟩ := G
    refine px_gx (fun _ K9 => px_a 2 (f' := (42, [(6, .int (nI (fy + 1))), (4, .long (lN (f_cc W P))), (3, .int (nI fy)), (2, .int (nI fx)), (0, .ref (10 + 3 * k)), (1, .int (nI P))], [.int (nI fy), .int (nI (fy + 1))], hp)) rfl K9) ?_
    refine px_gx (fun _ K9 => px_b2 true 103 rfl rfl (decide_eq_true (show nI fy < nI (fy + 1) by rw [Int32.lt_iff_toInt_lt, nI_toInt (by omega), nI_toInt (by omega)]; omega)) K9) ?_
    show px_Gx _ _ (103, [(6, .int (nI (fy + 1))), (4, .long (lN (f_cc W P))), (3, .int (nI fy)), (2, .int (nI fx)), (0, .ref (10 + 3 * k)), (1, .int (nI P))], [], hp) _
    exact ⟨_, _, px_e rfl rfl, rfl, c, by rw [Nat.mul_comm (fx + 1)]; exact hc, ⟨st, f, hf, hr⟩, hsm⟩
  | succ m ih =>
    intro y h hp c hc G hsm
    obtain ⟨st, f, hf, hr⟩ := G
    have G : pl_G k W V N wc ss hp c _ := ⟨st, f, hf, hr⟩
    refine px_gx (fun _ K9 => px_a 2 (f' := (42, [(6, .int (nI y)), (4, .long (lN (f_cc W P))), (3, .int (nI fy)), (2, .int (nI fx)), (0, .ref (10 + 3 * k)), (1, .int (nI P))], [.int (nI fy), .int (nI y)], hp)) rfl K9) ?_
    refine px_gx (fun _ K9 => px_b2 false 103 rfl rfl (decide_eq_false (show ¬ nI fy < nI y by rw [Int32.lt_iff_toInt_lt, nI_toInt (by omega), nI_toInt (by omega)]; omega)) K9) ?_
    show px_Gx _ _ (45, [(6, .int (nI y)), (4, .long (lN (f_cc W P))), (3, .int (nI fy)), (2, .int (nI fx)), (0, .ref (10 + 3 * k)), (1, .int (nI P))], [], hp) _
    refine px_gx (fun _ K9 => px_a 2 (f' := (48, [(7, .int 0), (6, .int (nI y)), (4, .long (lN (f_cc W P))), (3, .int (nI fy)), (2, .int (nI fx)), (0, .ref (10 + 3 * k)), (1, .int (nI P))], [], hp)) rfl K9) ?_
    refine c_pwx hW hV hC hx hy hB hD (y := y) (by omega) (fun hp' c' h1 h2 h3 => ?_) (fx + 1) 0 (by omega) hp c (by omega) G hsm
    · 
      refine px_gx (fun _ K9 => px_a 2 (f' := (39, [(6, .int ((nI y) + 1)), (4, .long (lN (f_cc W P))), (3, .int (nI fy)), (2, .int (nI fx)), (0, .ref (10 + 3 * k)), (1, .int (nI P))], [], hp')) rfl K9) ?_
      rw [p_s16 y (by omega)]
      exact ih (y + 1) (by omega) hp' c' h1 h2 h3
set_option maxRecDepth 20000 in
theorem c_pw {d k : Nat} {hp : px_H} {W V N P : Nat} {wc : Int32} {ss : Int64} {c : Nat} {D : Nat → Prop} (hW : W ≤ 6) (hV : V ≤ 6) (hC : f_C P) (hc : c + f_A P ≤ 160) (hD : ∀ x y, x + f_co P 4 ≤ W → y + f_ro P 4 ≤ V → ¬ D (f_cS W P x y)) (G : pl_G k W V N wc ss hp c D) : px_Gx (d + 1) 26 (0, [(0, .ref (10 + 3 * k)), (1, .int (nI P))], [], hp) (fun o hp' => o = .inl none ∧ ∃ c', c' ≤ c + f_A P ∧ pl_G k W V N wc ss hp' c' (fun S => D S ∨ ∃ x y, x + f_co P 4 ≤ W ∧ y + f_ro P 4 ≤ V ∧ S = f_cS W P x y ∧ pl_sub ss S) ∧ ∀ a, a ≠ 10 + 3 * k → a ≠ 12 + 3 * k → hp'[a]? = hp[a]?) := by
  have c4 : f_co P 4 < 5 := Nat.lt_succ_of_le (f_co_s 4 (Nat.le_refl 4)).1
  have r4 : f_ro P 4 < 5 := Nat.lt_succ_of_le (f_ro_s 4 (Nat.le_refl 4)).1
  obtain ⟨st, f, hf, hr⟩ := G
  have G : pl_G k W V N wc ss hp c D := ⟨st, f, hf, hr⟩
  by_cases h1 : W < f_co P 4
  · 
    refine px_gx (fun _ K9 => px_a 1 (f' := (1, [(0, .ref (10 + 3 * k)), (1, .int (nI P))], [.ref (10 + 3 * k)], hp)) rfl K9) ?_
    refine px_gx (fun _ K9 => px_gf (10 + 3 * k) 9 1 0 (.int (nI W)) rfl rfl hf rfl K9) ?_
    show px_Gx _ _ (4, [(0, .ref (10 + 3 * k)), (1, .int (nI P))], [.int (nI W)], hp) _
    refine px_gx (fun _ K9 => px_a 1 (f' := (5, [(0, .ref (10 + 3 * k)), (1, .int (nI P))], [.int (nI P), .int (nI W)], hp)) rfl K9) ?_
    refine px_gx (fun _ K9 => px_cl (as := [.int (nI P)]) (rest := [.int (nI W)]) rfl rfl (c_co (d := d) hC.1) K9) ?_
    show px_Gx _ _ (8, [(0, .ref (10 + 3 * k)), (1, .int (nI P))], [.int (nI (f_co P 4)), .int (nI W)], hp) _
    refine px_gx (fun _ K9 => px_a 3 (f' := (11, [(2, .int ((nI W) - (nI (f_co P 4)))), (0, .ref (10 + 3 * k)), (1, .int (nI P))], [.ref (10 + 3 * k)], hp)) rfl K9) ?_
    refine px_gx (fun _ K9 => px_gf (10 + 3 * k) 15 1 1 (.int (nI V)) rfl rfl hf rfl K9) ?_
    show px_Gx _ _ (14, [(2, .int ((nI W) - (nI (f_co P 4)))), (0, .ref (10 + 3 * k)), (1, .int (nI P))], [.int (nI V)], hp) _
    refine px_gx (fun _ K9 => px_a 1 (f' := (15, [(2, .int ((nI W) - (nI (f_co P 4)))), (0, .ref (10 + 3 * k)), (1, .int (nI P))], [.int (nI P), .int (nI V)], hp)) rfl K9) ?_
    refine px_gx (fun _ K9 => px_cl (as := [.int (nI P)]) (rest := [.int (nI V)]) rfl rfl (c_ro (d := d) hC.1) K9) ?_
    show px_Gx _ _ (18, [(2, .int ((nI W) - (nI (f_co P 4)))), (0, .ref (10 + 3 * k)), (1, .int (nI P))], [.int (nI (f_ro P 4)), .int (nI V)], hp) _
    refine px_gx (fun _ K9 => px_a 3 (f' := (21, [(3, .int ((nI V) - (nI (f_ro P 4)))), (2, .int ((nI W) - (nI (f_co P 4)))), (0, .ref (10 + 3 * k)), (1, .int (nI P))], [.int ((nI W) - (nI (f_co P 4)))], hp)) rfl K9) ?_
    refine px_gx (fun _ K9 => px_b1 true 28 rfl rfl (decide_eq_true ((p_free W (by omega) _ c4).1.mpr h1)) K9) ?_
    show px_Gx _ _ (28, [(3, .int ((nI V) - (nI (f_ro P 4)))), (2, .int ((nI W) - (nI (f_co P 4)))), (0, .ref (10 + 3 * k)), (1, .int (nI P))], [], hp) _
    exact ⟨_, _, px_e rfl rfl, rfl, c, by omega, pl_G_c G (fun S => ⟨Or.inl, fun z => z.elim id (fun ⟨x, y, z, _⟩ => absurd z (by omega))⟩), fun a _ _ => rfl⟩
  by_cases h2 : V < f_ro P 4
  · 
    refine px_gx (fun _ K9 => px_a 1 (f' := (1, [(0, .ref (10 + 3 * k)), (1, .int (nI P))], [.ref (10 + 3 * k)], hp)) rfl K9) ?_
    refine px_gx (fun _ K9 => px_gf (10 + 3 * k) 9 1 0 (.int (nI W)) rfl rfl hf rfl K9) ?_
    show px_Gx _ _ (4, [(0, .ref (10 + 3 * k)), (1, .int (nI P))], [.int (nI W)], hp) _
    refine px_gx (fun _ K9 => px_a 1 (f' := (5, [(0, .ref (10 + 3 * k)), (1, .int (nI P))], [.int (nI P), .int (nI W)], hp)) rfl K9) ?_
    refine px_gx (fun _ K9 => px_cl (as := [.int (nI P)]) (rest := [.int (nI W)]) rfl rfl (c_co (d := d) hC.1) K9) ?_
    show px_Gx _ _ (8, [(0, .ref (10 + 3 * k)), (1, .int (nI P))], [.int (nI (f_co P 4)), .int (nI W)], hp) _
    refine px_gx (fun _ K9 => px_a 3 (f' := (11, [(2, .int ((nI W) - (nI (f_co P 4)))), (0, .ref (10 + 3 * k)), (1, .int (nI P))], [.ref (10 + 3 * k)], hp)) rfl K9) ?_
    refine px_gx (fun _ K9 => px_gf (10 + 3 * k) 15 1 1 (.int (nI V)) rfl rfl hf rfl K9) ?_
    show px_Gx _ _ (14, [(2, .int ((nI W) - (nI (f_co P 4)))), (0, .ref (10 + 3 * k)), (1, .int (nI P))], [.int (nI V)], hp) _
    refine px_gx (fun _ K9 => px_a 1 (f' := (15, [(2, .int ((nI W) - (nI (f_co P 4)))), (0, .ref (10 + 3 * k)), (1, .int (nI P))], [.int (nI P), .int (nI V)], hp)) rfl K9) ?_
    refine px_gx (fun _ K9 => px_cl (as := [.int (nI P)]) (rest := [.int (nI V)]) rfl rfl (c_ro (d := d) hC.1) K9) ?_
    show px_Gx _ _ (18, [(2, .int ((nI W) - (nI (f_co P 4)))), (0, .ref (10 + 3 * k)), (1, .int (nI P))], [.int (nI (f_ro P 4)), .int (nI V)], hp) _
    refine px_gx (fun _ K9 => px_a 3 (f' := (21, [(3, .int ((nI V) - (nI (f_ro P 4)))), (2, .int ((nI W) - (nI (f_co P 4)))), (0, .ref (10 + 3 * k)), (1, .int (nI P))], [.int ((nI W) - (nI (f_co P 4)))], hp)) rfl K9) ?_
    refine px_gx (fun _ K9 => px_b1 false 28 rfl rfl (decide_eq_false (fun z => h1 ((p_free W (by omega) _ c4).1.mp z))) K9) ?_
    show px_Gx _ _ (24, [(3, .int ((nI V) - (nI (f_ro P 4)))), (2, .int ((nI W) - (nI (f_co P 4)))), (0, .ref (10 + 3 * k)), (1, .int (nI P))], [], hp) _
    refine px_gx (fun _ K9 => px_a 1 (f' := (25, [(3, .int ((nI V) - (nI (f_ro P 4)))), (2, .int ((nI W) - (nI (f_co P 4)))), (0, .ref (10 + 3 * k)), (1, .int (nI P))], [.int ((nI V) - (nI (f_ro P 4)))], hp)) rfl K9) ?_
    refine px_gx (fun _ K9 => px_b1 false 29 rfl rfl (decide_eq_false (fun z => absurd ((p_free V (by omega) _ r4).1.mpr h2) (Int32.not_lt.mpr z))) K9) ?_
    show px_Gx _ _ (28, [(3, .int ((nI V) - (nI (f_ro P 4)))), (2, .int ((nI W) - (nI (f_co P 4)))), (0, .ref (10 + 3 * k)), (1, .int (nI P))], [], hp) _
    exact ⟨_, _, px_e rfl rfl, rfl, c, by omega, pl_G_c G (fun S => ⟨Or.inl, fun z => z.elim id (fun ⟨x, y, _, z, _⟩ => absurd z (by omega))⟩), fun a _ _ => rfl⟩
  refine px_gx (fun _ K9 => px_a 1 (f' := (1, [(0, .ref (10 + 3 * k)), (1, .int (nI P))], [.ref (10 + 3 * k)], hp)) rfl K9) ?_
  refine px_gx (fun _ K9 => px_gf (10 + 3 * k) 9 1 0 (.int (nI W)) rfl rfl hf rfl K9) ?_
  show px_Gx _ _ (4, [(0, .ref (10 + 3 * k)), (1, .int (nI P))], [.int (nI W)], hp) _
  refine px_gx (fun _ K9 => px_a 1 (f' := (5, [(0, .ref (10 + 3 * k)), (1, .int (nI P))], [.int (nI P), .int (nI W)], hp)) rfl K9) ?_
  refine px_gx (fun _ K9 => px_cl (as := [.int (nI P)]) (rest := [.int (nI W)]) rfl rfl (c_co (d := d) hC.1) K9) ?_
  show px_Gx _ _ (8, [(0, .ref (10 + 3 * k)), (1, .int (nI P))], [.int (nI (f_co P 4)), .int (nI W)], hp) _
  refine px_gx (fun _ K9 => px_a 3 (f' := (11, [(2, .int ((nI W) - (nI (f_co P 4)))), (0, .ref (10 + 3 * k)), (1, .int (nI P))], [.ref (10 + 3 * k)], hp)) rfl K9) ?_
  refine px_gx (fun _ K9 => px_gf (10 + 3 * k) 15 1 1 (.int (nI V)) rfl rfl hf rfl K9) ?_
  show px_Gx _ _ (14, [(2, .int ((nI W) - (nI (f_co P 4)))), (0, .ref (10 + 3 * k)), (1, .int (nI P))], [.int (nI V)], hp) _
  refine px_gx (fun _ K9 => px_a 1 (f' := (15, [(2, .int ((nI W) - (nI (f_co P 4)))), (0, .ref (10 + 3 * k)), (1, .int (nI P))], [.int (nI P), .int (nI V)], hp)) rfl K9) ?_
  refine px_gx (fun _ K9 => px_cl (as := [.int (nI P)]) (rest := [.int (nI V)]) rfl rfl (c_ro (d := d) hC.1) K9) ?_
  show px_Gx _ _ (18, [(2, .int ((nI W) - (nI (f_co P 4)))), (0, .ref (10 + 3 * k)), (1, .int (nI P))], [.int (nI (f_ro P 4)), .int (nI V)], hp) _
  refine px_gx (fun _ K9 => px_a 3 (f' := (21, [(3, .int ((nI V) - (nI (f_ro P 4)))), (2, .int ((nI W) - (nI (f_co P 4)))), (0, .ref (10 + 3 * k)), (1, .int (nI P))], [.int ((nI W) - (nI (f_co P 4)))], hp)) rfl K9) ?_
  refine px_gx (fun _ K9 => px_b1 false 28 rfl rfl (decide_eq_false (fun z => h1 ((p_free W (by omega) _ c4).1.mp z))) K9) ?_
  show px_Gx _ _ (24, [(3, .int ((nI V) - (nI (f_ro P 4)))), (2, .int ((nI W) - (nI (f_co P 4)))), (0, .ref (10 + 3 * k)), (1, .int (nI P))], [], hp) _
  refine px_gx (fun _ K9 => px_a 1 (f' := (25, [(3, .int ((nI V) - (nI (f_ro P 4)))), (2, .int ((nI W) - (nI (f_co P 4)))), (0, .ref (10 + 3 * k)), (1, .int (nI P))], [.int ((nI V) - (nI (f_ro P 4)))], hp)) rfl K9) ?_
  refine px_gx (fun _ K9 => px_b1 true 29 rfl rfl (decide_eq_true (Int32.not_lt.mp (fun z => h2 ((p_free V (by omega) _ r4).1.mp z)))) K9) ?_
  show px_Gx _ _ (29, [(3, .int ((nI V) - (nI (f_ro P 4)))), (2, .int ((nI W) - (nI (f_co P 4)))), (0, .ref (10 + 3 * k)), (1, .int (nI P))], [], hp) _
  rw [(p_free W (by omega) _ c4).2 (by omega), (p_free V (by omega) _ r4).2 (by omega)]
  refine px_gx (fun _ K9 => px_a 2 (f' := (31, [(3, .int (nI (V - f_ro P 4))), (2, .int (nI (W - f_co P 4))), (0, .ref (10 + 3 * k)), (1, .int (nI P))], [.int (nI P), .ref (10 + 3 * k)], hp)) rfl K9) ?_
  refine px_gx (fun _ K9 => px_cv (10 + 3 * k) (as := [.int (nI P)]) (rest := []) rfl rfl hf rfl rfl rfl rfl (Nat.le_of_ble_eq_true rfl) (c_cc (d := d) hW hC.1 hf) K9) ?_
  show px_Gx _ _ (34, [(3, .int (nI (V - f_ro P 4))), (2, .int (nI (W - f_co P 4))), (0, .ref (10 + 3 * k)), (1, .int (nI P))], [.long (lN (f_cc W P))], hp) _
  refine px_gx (fun _ K9 => px_a 3 (f' := (39, [(6, .int 0), (4, .long (lN (f_cc W P))), (3, .int (nI (V - f_ro P 4))), (2, .int (nI (W - f_co P 4))), (0, .ref (10 + 3 * k)), (1, .int (nI P))], [], hp)) rfl K9) ?_
  have hA : (W - f_co P 4 + 1) * (V - f_ro P 4 + 1) ≤ f_A P := Nat.mul_le_mul (by omega) (by omega)
  obtain ⟨o, hp', g, e, c', k1, k2, k3⟩ := c_pwy (d := d) (B := c) (hp0 := hp) (fx := W - f_co P 4) (fy := V - f_ro P 4) hW hV hC (by omega) (by omega) (by omega) (fun x y hx hy => hD x y (by omega) (by omega)) (V - f_ro P 4 + 1) 0 (by omega) hp c (by omega) (pl_G_c G (fun S => ⟨Or.inl, fun z => z.elim id (fun ⟨x', y', z, _⟩ => by rcases z with z | z <;> omega)⟩)) (fun a _ _ => rfl)
  refine ⟨o, hp', g, e, c', by omega, pl_G_c k2 (fun S => or_congr Iff.rfl ?_), k3⟩
  constructor
  · rintro ⟨x, y, z1, z2, z3⟩
    exact ⟨x, y, by omega, by rcases z1 with z | z <;> omega, z3⟩
  · rintro ⟨x, y, z1, z2, z3⟩
    exact ⟨x, y, Or.inl (by omega), by omega, z3⟩
