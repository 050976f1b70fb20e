def z_b (vs : List Value) (t : Nat) (P : Prop) : Prop := ∃ b : Int32, vs[t]? = some (.int b) ∧ ((b = 1 ∧ P) ∨ (b = 0 ∧ ¬ P))
theorem z_b_c {vs : List Value} {t : Nat} {P Q : Prop} (h : P ↔ Q) (a : z_b vs t P) : z_b vs t Q := by
  obtain ⟨b, b1, b2⟩ := a
  exact ⟨b, b1, b2.imp (fun z => ⟨z.1, h.mp z.2⟩) (fun z => ⟨z.1, fun q => z.2 (h.mpr q)⟩)⟩
def z_Q (cs : Nat → Nat) (pc v p : Nat) : Prop := v = 0 ∨ ∃ j, j < p ∧ 0 < cs j ∧ cs j ≤ v ∧ z_S cs pc (v - cs j)
theorem z_Qe {cs : Nat → Nat} {pc v : Nat} : z_Q cs pc v pc ↔ z_S cs pc v := by
  unfold z_Q
  by_cases h : v = 0
  · subst h
    exact ⟨fun _ => z_S.zero, fun _ => Or.inl rfl⟩
  · rw [z_iff (show 0 < v by omega)]
    exact ⟨fun z => z.resolve_left h, fun z => Or.inr z⟩
theorem z_Qs {cs : Nat → Nat} {pc v p : Nat} (h : ¬ (0 < cs p ∧ cs p ≤ v ∧ z_S cs pc (v - cs p))) : z_Q cs pc v p ↔ z_Q cs pc v (p + 1) := by
  unfold z_Q
  constructor
  · rintro (z | ⟨j, a1, a2⟩)
    · exact Or.inl z
    · exact Or.inr ⟨j, Nat.lt_succ_of_lt a1, a2⟩
  · rintro (z | ⟨j, a1, a2⟩)
    · exact Or.inl z
    · by_cases e : j = p
      · subst e
        exact absurd a2 h
      · exact Or.inr ⟨j, by omega, a2⟩
theorem z_b_s {vs : List Value} {t v : Nat} {P : Prop} {x : Value} (h : t < v) (a : z_b vs t P) : z_b (vs.set v x) t P := by
  obtain ⟨b, b1, b2⟩ := a
  exact ⟨b, by rw [List.getElem?_set_ne (by omega)]; exact b1, b2⟩
theorem z_subv : ∀ c, c < 7 → ∀ t, t < 37 → c ≤ t → nI t - nI c = nI (t - c) := z_sub
set_option maxRecDepth 20000 in
theorem m_szi {d n pc K v : Nat} {zs : List Value} {cs : Nat → Nat} {th w h pl fo le ru : Int32} {P : px_O → px_H → Prop} (pc6 : pc ≤ 6) (hv36 : v ≤ 36) (hK36 : K ≤ 36) (Z : ∀ k, k < 6 → zs[k]? = some (.int (nI (cs k))) ∧ cs k ≤ 6) : ∀ m p, p + m = pc → ∀ (hp : px_H) (vs : List Value), hp[38 + n]? = some (4, [.int th, .int w, .int h, .ref (39 + n), .int (nI pc), .ref (40 + n), .ref (41 + n), .ref (42 + n), .int pl, .ref (43 + n), .ref (44 + n), .ref (45 + n), .ref (46 + n), .int fo, .ref (47 + n), .int le, .ref (48 + n), .int ru, .ref (49 + n), .ref (50 + n), .ref (51 + n)]) → hp[40 + n]? = some (10, zs) → hp[51 + n]? = some (12, vs) → v < vs.length → (∀ t, t < v → z_b vs t (z_S cs pc t)) → z_b vs v (z_Q cs pc v p) → (∀ (hp' : px_H) (vs' : List Value), hp'[38 + n]? = some (4, [.int th, .int w, .int h, .ref (39 + n), .int (nI pc), .ref (40 + n), .ref (41 + n), .ref (42 + n), .int pl, .ref (43 + n), .ref (44 + n), .ref (45 + n), .ref (46 + n), .int fo, .ref (47 + n), .int le, .ref (48 + n), .int ru, .ref (49 + n), .ref (50 + n), .ref (51 + n)]) → hp'[40 + n]? = some (10, zs) → hp'[51 + n]? = some (12, vs') → vs'.length = vs.length → (∀ t, t ≤ v → z_b vs' t (z_S cs pc t)) → px_Gx d 93 (90, [(3, .int (nI pc)), (2, .int (nI v)), (1, .int (nI K)), (0, .ref (38 + n))], [], hp') P) → px_Gx d 93 (34, [(3, .int (nI p)), (2, .int (nI v)), (1, .int (nI K)), (0, .ref (38 + n))], [], hp) P := by
  intro m
  induction m with
  | zero =>
    intro p hp0 hp vs hm hz hv hl inv hQ Kn
    obtain rfl : p = pc := by omega
    refine px_gx (fun _ K9 => px_a 2 (f' := (36, [(3, .int (nI p)), (2, .int (nI v)), (1, .int (nI K)), (0, .ref (38 + n))], [.ref (38 + n), .int (nI p)], hp)) rfl K9) ?_
    refine px_gx (fun _ K9 => px_gf (38 + n) 61 4 4 (.int (nI p)) rfl rfl hm rfl K9) ?_
    show px_Gx _ _ (39, [(3, .int (nI p)), (2, .int (nI v)), (1, .int (nI K)), (0, .ref (38 + n))], [.int (nI p), .int (nI p)], hp) _
    refine px_gx (fun _ K9 => px_b2 true 90 rfl rfl (decide_eq_true (Int32.le_refl _)) K9) ?_
    show px_Gx _ _ (90, [(3, .int (nI p)), (2, .int (nI v)), (1, .int (nI K)), (0, .ref (38 + n))], [], hp) _
    refine Kn hp vs hm hz hv rfl (fun t ht => ?_)
    by_cases e : t = v
    · subst e
      exact z_b_c z_Qe hQ
    · exact inv t (by omega)
  | succ m ih =>
    intro p hp0 hp vs hm hz hv hl inv hQ Kn
    obtain ⟨zp, c6⟩ := Z p (by omega)
    by_cases h1 : 0 < cs p
    rotate_left
    · have hno : ¬ (0 < cs p ∧ cs p ≤ v ∧ z_S cs pc (v - cs p)) := fun z => h1 z.1
      refine px_gx (fun _ K9 => px_a 2 (f' := (36, [(3, .int (nI p)), (2, .int (nI v)), (1, .int (nI K)), (0, .ref (38 + n))], [.ref (38 + n), .int (nI p)], hp)) rfl K9) ?_
      refine px_gx (fun _ K9 => px_gf (38 + n) 61 4 4 (.int (nI pc)) rfl rfl hm rfl K9) ?_
      show px_Gx _ _ (39, [(3, .int (nI p)), (2, .int (nI v)), (1, .int (nI K)), (0, .ref (38 + n))], [.int (nI pc), .int (nI p)], hp) _
      refine px_gx (fun _ K9 => px_b2 false 90 rfl rfl (decide_eq_false (show ¬ nI pc ≤ nI p by rw [Int32.le_iff_toInt_le, nI_toInt (by omega), nI_toInt (by omega)]; omega)) K9) ?_
      show px_Gx _ _ (42, [(3, .int (nI p)), (2, .int (nI v)), (1, .int (nI K)), (0, .ref (38 + n))], [], hp) _
      refine px_gx (fun _ K9 => px_a 1 (f' := (43, [(3, .int (nI p)), (2, .int (nI v)), (1, .int (nI K)), (0, .ref (38 + n))], [.ref (38 + n)], hp)) rfl K9) ?_
      refine px_gx (fun _ K9 => px_gf (38 + n) 13 4 5 (.ref (40 + n)) rfl rfl hm rfl K9) ?_
      show px_Gx _ _ (46, [(3, .int (nI p)), (2, .int (nI v)), (1, .int (nI K)), (0, .ref (38 + n))], [.ref (40 + n)], hp) _
      refine px_gx (fun _ K9 => px_a 1 (f' := (47, [(3, .int (nI p)), (2, .int (nI v)), (1, .int (nI K)), (0, .ref (38 + n))], [.int (nI p), .ref (40 + n)], hp)) rfl K9) ?_
      refine px_gx (fun _ K9 => px_al (40 + n) (.int (nI (cs p))) rfl hz (Or.inl ⟨rfl, Or.inl rfl⟩) (nI_pos (by omega)) (by rw [nI_clamp (by omega)]; exact zp) K9) ?_
      show px_Gx _ _ (48, [(3, .int (nI p)), (2, .int (nI v)), (1, .int (nI K)), (0, .ref (38 + n))], [.int (nI (cs p))], hp) _
      refine px_gx (fun _ K9 => px_b1 true 84 rfl rfl (decide_eq_true (show nI (cs p) ≤ nI 0 by rw [Int32.le_iff_toInt_le, nI_toInt (by omega), nI_toInt (by omega)]; omega)) K9) ?_
      show px_Gx _ _ (84, [(3, .int (nI p)), (2, .int (nI v)), (1, .int (nI K)), (0, .ref (38 + n))], [], hp) _
      refine px_gx (fun _ K9 => px_a 2 (f' := (34, [(3, .int ((nI p) + 1)), (2, .int (nI v)), (1, .int (nI K)), (0, .ref (38 + n))], [], hp)) rfl K9) ?_
      rw [z_s37 p (by omega)]
      exact ih (p + 1) (by omega) hp vs hm hz hv hl inv (z_b_c (z_Qs hno) hQ) Kn
    by_cases h2 : cs p ≤ v
    rotate_left
    · have hno : ¬ (0 < cs p ∧ cs p ≤ v ∧ z_S cs pc (v - cs p)) := fun z => h2 z.2.1
      refine px_gx (fun _ K9 => px_a 2 (f' := (36, [(3, .int (nI p)), (2, .int (nI v)), (1, .int (nI K)), (0, .ref (38 + n))], [.ref (38 + n), .int (nI p)], hp)) rfl K9) ?_
      refine px_gx (fun _ K9 => px_gf (38 + n) 61 4 4 (.int (nI pc)) rfl rfl hm rfl K9) ?_
      show px_Gx _ _ (39, [(3, .int (nI p)), (2, .int (nI v)), (1, .int (nI K)), (0, .ref (38 + n))], [.int (nI pc), .int (nI p)], hp) _
      refine px_gx (fun _ K9 => px_b2 false 90 rfl rfl (decide_eq_false (show ¬ nI pc ≤ nI p by rw [Int32.le_iff_toInt_le, nI_toInt (by omega), nI_toInt (by omega)]; omega)) K9) ?_
      show px_Gx _ _ (42, [(3, .int (nI p)), (2, .int (nI v)), (1, .int (nI K)), (0, .ref (38 + n))], [], hp) _
      refine px_gx (fun _ K9 => px_a 1 (f' := (43, [(3, .int (nI p)), (2, .int (nI v)), (1, .int (nI K)), (0, .ref (38 + n))], [.ref (38 + n)], hp)) rfl K9) ?_
      refine px_gx (fun _ K9 => px_gf (38 + n) 13 4 5 (.ref (40 + n)) rfl rfl hm rfl K9) ?_
      show px_Gx _ _ (46, [(3, .int (nI p)), (2, .int (nI v)), (1, .int (nI K)), (0, .ref (38 + n))], [.ref (40 + n)], hp) _
      refine px_gx (fun _ K9 => px_a 1 (f' := (47, [(3, .int (nI p)), (2, .int (nI v)), (1, .int (nI K)), (0, .ref (38 + n))], [.int (nI p), .ref (40 + n)], hp)) rfl K9) ?_
      refine px_gx (fun _ K9 => px_al (40 + n) (.int (nI (cs p))) rfl hz (Or.inl ⟨rfl, Or.inl rfl⟩) (nI_pos (by omega)) (by rw [nI_clamp (by omega)]; exact zp) K9) ?_
      show px_Gx _ _ (48, [(3, .int (nI p)), (2, .int (nI v)), (1, .int (nI K)), (0, .ref (38 + n))], [.int (nI (cs p))], hp) _
      refine px_gx (fun _ K9 => px_b1 false 84 rfl rfl (decide_eq_false (show ¬ nI (cs p) ≤ nI 0 by rw [Int32.le_iff_toInt_le, nI_toInt (by omega), nI_toInt (by omega)]; omega)) K9) ?_
      show px_Gx _ _ (51, [(3, .int (nI p)), (2, .int (nI v)), (1, .int (nI K)), (0, .ref (38 + n))], [], hp) _
      refine px_gx (fun _ K9 => px_a 2 (f' := (53, [(3, .int (nI p)), (2, .int (nI v)), (1, .int (nI K)), (0, .ref (38 + n))], [.ref (38 + n), .int (nI v)], hp)) rfl K9) ?_
      refine px_gx (fun _ K9 => px_gf (38 + n) 13 4 5 (.ref (40 + n)) rfl rfl hm rfl K9) ?_
      show px_Gx _ _ (56, [(3, .int (nI p)), (2, .int (nI v)), (1, .int (nI K)), (0, .ref (38 + n))], [.ref (40 + n), .int (nI v)], hp) _
      refine px_gx (fun _ K9 => px_a 1 (f' := (57, [(3, .int (nI p)), (2, .int (nI v)), (1, .int (nI K)), (0, .ref (38 + n))], [.int (nI p), .ref (40 + n), .int (nI v)], hp)) rfl K9) ?_
      refine px_gx (fun _ K9 => px_al (40 + n) (.int (nI (cs p))) rfl hz (Or.inl ⟨rfl, Or.inl rfl⟩) (nI_pos (by omega)) (by rw [nI_clamp (by omega)]; exact zp) K9) ?_
      show px_Gx _ _ (58, [(3, .int (nI p)), (2, .int (nI v)), (1, .int (nI K)), (0, .ref (38 + n))], [.int (nI (cs p)), .int (nI v)], hp) _
      refine px_gx (fun _ K9 => px_b2 true 84 rfl rfl (decide_eq_true (show nI v < nI (cs p) by rw [Int32.lt_iff_toInt_lt, nI_toInt (by omega), nI_toInt (by omega)]; omega)) K9) ?_
      show px_Gx _ _ (84, [(3, .int (nI p)), (2, .int (nI v)), (1, .int (nI K)), (0, .ref (38 + n))], [], hp) _
      refine px_gx (fun _ K9 => px_a 2 (f' := (34, [(3, .int ((nI p) + 1)), (2, .int (nI v)), (1, .int (nI K)), (0, .ref (38 + n))], [], hp)) rfl K9) ?_
      rw [z_s37 p (by omega)]
      exact ih (p + 1) (by omega) hp vs hm hz hv hl inv (z_b_c (z_Qs hno) hQ) Kn
    have es := z_sub (cs p) (by omega) v (by omega) h2
    obtain ⟨b, hb, cb⟩ := inv (v - cs p) (by omega)
    rcases cb with ⟨rfl, s1⟩ | ⟨rfl, s0⟩
    · 
        refine px_gx (fun _ K9 => px_a 2 (f' := (36, [(3, .int (nI p)), (2, .int (nI v)), (1, .int (nI K)), (0, .ref (38 + n))], [.ref (38 + n), .int (nI p)], hp)) rfl K9) ?_
        refine px_gx (fun _ K9 => px_gf (38 + n) 61 4 4 (.int (nI pc)) rfl rfl hm rfl K9) ?_
        show px_Gx _ _ (39, [(3, .int (nI p)), (2, .int (nI v)), (1, .int (nI K)), (0, .ref (38 + n))], [.int (nI pc), .int (nI p)], hp) _
        refine px_gx (fun _ K9 => px_b2 false 90 rfl rfl (decide_eq_false (show ¬ nI pc ≤ nI p by rw [Int32.le_iff_toInt_le, nI_toInt (by omega), nI_toInt (by omega)]; omega)) K9) ?_
        show px_Gx _ _ (42, [(3, .int (nI p)), (2, .int (nI v)), (1, .int (nI K)), (0, .ref (38 + n))], [], hp) _
        refine px_gx (fun _ K9 => px_a 1 (f' := (43, [(3, .int (nI p)), (2, .int (nI v)), (1, .int (nI K)), (0, .ref (38 + n))], [.ref (38 + n)], hp)) rfl K9) ?_
        refine px_gx (fun _ K9 => px_gf (38 + n) 13 4 5 (.ref (40 + n)) rfl rfl hm rfl K9) ?_
        show px_Gx _ _ (46, [(3, .int (nI p)), (2, .int (nI v)), (1, .int (nI K)), (0, .ref (38 + n))], [.ref (40 + n)], hp) _
        refine px_gx (fun _ K9 => px_a 1 (f' := (47, [(3, .int (nI p)), (2, .int (nI v)), (1, .int (nI K)), (0, .ref (38 + n))], [.int (nI p), .ref (40 + n)], hp)) rfl K9) ?_
        refine px_gx (fun _ K9 => px_al (40 + n) (.int (nI (cs p))) rfl hz (Or.inl ⟨rfl, Or.inl rfl⟩) (nI_pos (by omega)) (by rw [nI_clamp (by omega)]; exact zp) K9) ?_
        show px_Gx _ _ (48, [(3, .int (nI p)), (2, .int (nI v)), (1, .int (nI K)), (0, .ref (38 + n))], [.int (nI (cs p))], hp) _
        refine px_gx (fun _ K9 => px_b1 false 84 rfl rfl (decide_eq_false (show ¬ nI (cs p) ≤ nI 0 by rw [Int32.le_iff_toInt_le, nI_toInt (by omega), nI_toInt (by omega)]; omega)) K9) ?_
        show px_Gx _ _ (51, [(3, .int (nI p)), (2, .int (nI v)), (1, .int (nI K)), (0, .ref (38 + n))], [], hp) _
        refine px_gx (fun _ K9 => px_a 2 (f' := (53, [(3, .int (nI p)), (2, .int (nI v)), (1, .int (nI K)), (0, .ref (38 + n))], [.ref (38 + n), .int (nI v)], hp)) rfl K9) ?_
        refine px_gx (fun _ K9 => px_gf (38 + n) 13 4 5 (.ref (40 + n)) rfl rfl hm rfl K9) ?_
        show px_Gx _ _ (56, [(3, .int (nI p)), (2, .int (nI v)), (1, .int (nI K)), (0, .ref (38 + n))], [.ref (40 + n), .int (nI v)], hp) _
        refine px_gx (fun _ K9 => px_a 1 (f' := (57, [(3, .int (nI p)), (2, .int (nI v)), (1, .int (nI K)), (0, .ref (38 + n))], [.int (nI p), .ref (40 + n), .int (nI v)], hp)) rfl K9) ?_
        refine px_gx (fun _ K9 => px_al (40 + n) (.int (nI (cs p))) rfl hz (Or.inl ⟨rfl, Or.inl rfl⟩) (nI_pos (by omega)) (by rw [nI_clamp (by omega)]; exact zp) K9) ?_
        show px_Gx _ _ (58, [(3, .int (nI p)), (2, .int (nI v)), (1, .int (nI K)), (0, .ref (38 + n))], [.int (nI (cs p)), .int (nI v)], hp) _
        refine px_gx (fun _ K9 => px_b2 false 84 rfl rfl (decide_eq_false (show ¬ nI v < nI (cs p) by rw [Int32.lt_iff_toInt_lt, nI_toInt (by omega), nI_toInt (by omega)]; omega)) K9) ?_
        show px_Gx _ _ (61, [(3, .int (nI p)), (2, .int (nI v)), (1, .int (nI K)), (0, .ref (38 + n))], [], hp) _
        refine px_gx (fun _ K9 => px_a 1 (f' := (62, [(3, .int (nI p)), (2, .int (nI v)), (1, .int (nI K)), (0, .ref (38 + n))], [.ref (38 + n)], hp)) rfl K9) ?_
        refine px_gx (fun _ K9 => px_gf (38 + n) 48 4 20 (.ref (51 + n)) rfl rfl hm rfl K9) ?_
        show px_Gx _ _ (65, [(3, .int (nI p)), (2, .int (nI v)), (1, .int (nI K)), (0, .ref (38 + n))], [.ref (51 + n)], hp) _
        refine px_gx (fun _ K9 => px_a 2 (f' := (67, [(3, .int (nI p)), (2, .int (nI v)), (1, .int (nI K)), (0, .ref (38 + n))], [.ref (38 + n), .int (nI v), .ref (51 + n)], hp)) rfl K9) ?_
        refine px_gx (fun _ K9 => px_gf (38 + n) 13 4 5 (.ref (40 + n)) rfl rfl hm rfl K9) ?_
        show px_Gx _ _ (70, [(3, .int (nI p)), (2, .int (nI v)), (1, .int (nI K)), (0, .ref (38 + n))], [.ref (40 + n), .int (nI v), .ref (51 + n)], hp) _
        refine px_gx (fun _ K9 => px_a 1 (f' := (71, [(3, .int (nI p)), (2, .int (nI v)), (1, .int (nI K)), (0, .ref (38 + n))], [.int (nI p), .ref (40 + n), .int (nI v), .ref (51 + n)], hp)) rfl K9) ?_
        refine px_gx (fun _ K9 => px_al (40 + n) (.int (nI (cs p))) rfl hz (Or.inl ⟨rfl, Or.inl rfl⟩) (nI_pos (by omega)) (by rw [nI_clamp (by omega)]; exact zp) K9) ?_
        show px_Gx _ _ (72, [(3, .int (nI p)), (2, .int (nI v)), (1, .int (nI K)), (0, .ref (38 + n))], [.int (nI (cs p)), .int (nI v), .ref (51 + n)], hp) _
        refine px_gx (fun _ K9 => px_a 1 (f' := (73, [(3, .int (nI p)), (2, .int (nI v)), (1, .int (nI K)), (0, .ref (38 + n))], [.int ((nI v) - (nI (cs p))), .ref (51 + n)], hp)) rfl K9) ?_
        refine px_gx (fun _ K9 => px_al (51 + n) (.int 1) rfl hv (Or.inr (Or.inr (Or.inl ⟨rfl, rfl⟩))) (by rw [es]; exact nI_pos (by omega)) (by rw [es, nI_clamp (by omega)]; exact hb) K9) ?_
        show px_Gx _ _ (74, [(3, .int (nI p)), (2, .int (nI v)), (1, .int (nI K)), (0, .ref (38 + n))], [.int 1], hp) _
        refine px_gx (fun _ K9 => px_a 2 (f' := (78, [(3, .int (nI p)), (2, .int (nI v)), (1, .int (nI K)), (0, .ref (38 + n))], [.ref (38 + n)], hp)) rfl K9) ?_
        refine px_gx (fun _ K9 => px_gf (38 + n) 48 4 20 (.ref (51 + n)) rfl rfl hm rfl K9) ?_
        show px_Gx _ _ (81, [(3, .int (nI p)), (2, .int (nI v)), (1, .int (nI K)), (0, .ref (38 + n))], [.ref (51 + n)], hp) _
        refine px_gx (fun _ K9 => px_a 2 (f' := (83, [(3, .int (nI p)), (2, .int (nI v)), (1, .int (nI K)), (0, .ref (38 + n))], [.int 1, .int (nI v), .ref (51 + n)], hp)) rfl K9) ?_
        refine px_gx (fun _ K9 => px_zas (51 + n) rfl hv (by omega) (nI_pos (by omega)) (by rw [nI_clamp (by omega)]; exact hl) rfl K9) ?_
        have hf1__38___n_ : (hp.set (51 + n) (12, (vs.set (nI v).toNatClampNeg (.int 1))))[(38 + n)]? = some (4, [.int th, .int w, .int h, .ref (39 + n), .int (nI pc), .ref (40 + n), .ref (41 + n), .ref (42 + n), .int pl, .ref (43 + n), .ref (44 + n), .ref (45 + n), .ref (46 + n), .int fo, .ref (47 + n), .int le, .ref (48 + n), .int ru, .ref (49 + n), .ref (50 + n), .ref (51 + n)]) := px_ne hm (by omega)
        have hf1__40___n_ : (hp.set (51 + n) (12, (vs.set (nI v).toNatClampNeg (.int 1))))[(40 + n)]? = some (10, zs) := px_ne hz (by omega)
        have hf1__51___n_ : (hp.set (51 + n) (12, (vs.set (nI v).toNatClampNeg (.int 1))))[(51 + n)]? = some (12, (vs.set (nI v).toNatClampNeg (.int 1))) := px_self hv
        show px_Gx _ _ (84, [(3, .int (nI p)), (2, .int (nI v)), (1, .int (nI K)), (0, .ref (38 + n))], [], (hp.set (51 + n) (12, (vs.set (nI v).toNatClampNeg (.int 1))))) _
        refine px_gx (fun _ K9 => px_a 2 (f' := (34, [(3, .int ((nI p) + 1)), (2, .int (nI v)), (1, .int (nI K)), (0, .ref (38 + n))], [], (hp.set (51 + n) (12, (vs.set (nI v).toNatClampNeg (.int 1)))))) rfl K9) ?_
        rw [z_s37 p (by omega)]
        refine ih (p + 1) (by omega) _ _ hf1__38___n_ hf1__40___n_ hf1__51___n_ (by rw [List.length_set]; exact hl) (fun t ht => ?_) ?_ (fun hp' vs' k1 k2 k3 k4 k5 => Kn hp' vs' k1 k2 k3 (k4.trans List.length_set) k5)
        · rw [nI_clamp (by omega)]
          exact z_b_s ht (inv t ht)
        · rw [nI_clamp (by omega)]
          exact ⟨1, List.getElem?_set_self hl, Or.inl ⟨rfl, Or.inr ⟨p, by omega, h1, h2, s1⟩⟩⟩
    · have hno : ¬ (0 < cs p ∧ cs p ≤ v ∧ z_S cs pc (v - cs p)) := fun z => s0 z.2.2
      · 
        refine px_gx (fun _ K9 => px_a 2 (f' := (36, [(3, .int (nI p)), (2, .int (nI v)), (1, .int (nI K)), (0, .ref (38 + n))], [.ref (38 + n), .int (nI p)], hp)) rfl K9) ?_
        refine px_gx (fun _ K9 => px_gf (38 + n) 61 4 4 (.int (nI pc)) rfl rfl hm rfl K9) ?_
        show px_Gx _ _ (39, [(3, .int (nI p)), (2, .int (nI v)), (1, .int (nI K)), (0, .ref (38 + n))], [.int (nI pc), .int (nI p)], hp) _
        refine px_gx (fun _ K9 => px_b2 false 90 rfl rfl (decide_eq_false (show ¬ nI pc ≤ nI p by rw [Int32.le_iff_toInt_le, nI_toInt (by omega), nI_toInt (by omega)]; omega)) K9) ?_
        show px_Gx _ _ (42, [(3, .int (nI p)), (2, .int (nI v)), (1, .int (nI K)), (0, .ref (38 + n))], [], hp) _
        refine px_gx (fun _ K9 => px_a 1 (f' := (43, [(3, .int (nI p)), (2, .int (nI v)), (1, .int (nI K)), (0, .ref (38 + n))], [.ref (38 + n)], hp)) rfl K9) ?_
        refine px_gx (fun _ K9 => px_gf (38 + n) 13 4 5 (.ref (40 + n)) rfl rfl hm rfl K9) ?_
        show px_Gx _ _ (46, [(3, .int (nI p)), (2, .int (nI v)), (1, .int (nI K)), (0, .ref (38 + n))], [.ref (40 + n)], hp) _
        refine px_gx (fun _ K9 => px_a 1 (f' := (47, [(3, .int (nI p)), (2, .int (nI v)), (1, .int (nI K)), (0, .ref (38 + n))], [.int (nI p), .ref (40 + n)], hp)) rfl K9) ?_
        refine px_gx (fun _ K9 => px_al (40 + n) (.int (nI (cs p))) rfl hz (Or.inl ⟨rfl, Or.inl rfl⟩) (nI_pos (by omega)) (by rw [nI_clamp (by omega)]; exact zp) K9) ?_
        show px_Gx _ _ (48, [(3, .int (nI p)), (2, .int (nI v)), (1, .int (nI K)), (0, .ref (38 + n))], [.int (nI (cs p))], hp) _
        refine px_gx (fun _ K9 => px_b1 false 84 rfl rfl (decide_eq_false (show ¬ nI (cs p) ≤ nI 0 by rw [Int32.le_iff_toInt_le, nI_toInt (by omega), nI_toInt (by omega)]; omega)) K9) ?_
        show px_Gx _ _ (51, [(3, .int (nI p)), (2, .int (nI v)), (1, .int (nI K)), (0, .ref (38 + n))], [], hp) _
        refine px_gx (fun _ K9 => px_a 2 (f' := (53, [(3, .int (nI p)), (2, .int (nI v)), (1, .int (nI K)), (0, .ref (38 + n))], [.ref (38 + n), .int (nI v)], hp)) rfl K9) ?_
        refine px_gx (fun _ K9 => px_gf (38 + n) 13 4 5 (.ref (40 + n)) rfl rfl hm rfl K9) ?_
        show px_Gx _ _ (56, [(3, .int (nI p)), (2, .int (nI v)), (1, .int (nI K)), (0, .ref (38 + n))], [.ref (40 + n), .int (nI v)], hp) _
        refine px_gx (fun _ K9 => px_a 1 (f' := (57, [(3, .int (nI p)), (2, .int (nI v)), (1, .int (nI K)), (0, .ref (38 + n))], [.int (nI p), .ref (40 + n), .int (nI v)], hp)) rfl K9) ?_
        refine px_gx (fun _ K9 => px_al (40 + n) (.int (nI (cs p))) rfl hz (Or.inl ⟨rfl, Or.inl rfl⟩) (nI_pos (by omega)) (by rw [nI_clamp (by omega)]; exact zp) K9) ?_
        show px_Gx _ _ (58, [(3, .int (nI p)), (2, .int (nI v)), (1, .int (nI K)), (0, .ref (38 + n))], [.int (nI (cs p)), .int (nI v)], hp) _
        refine px_gx (fun _ K9 => px_b2 false 84 rfl rfl (decide_eq_false (show ¬ nI v < nI (cs p) by rw [Int32.lt_iff_toInt_lt, nI_toInt (by omega), nI_toInt (by omega)]; omega)) K9) ?_
        show px_Gx _ _ (61, [(3, .int (nI p)), (2, .int (nI v)), (1, .int (nI K)), (0, .ref (38 + n))], [], hp) _
        refine px_gx (fun _ K9 => px_a 1 (f' := (62, [(3, .int (nI p)), (2, .int (nI v)), (1, .int (nI K)), (0, .ref (38 + n))], [.ref (38 + n)], hp)) rfl K9) ?_
        refine px_gx (fun _ K9 => px_gf (38 + n) 48 4 20 (.ref (51 + n)) rfl rfl hm rfl K9) ?_
        show px_Gx _ _ (65, [(3, .int (nI p)), (2, .int (nI v)), (1, .int (nI K)), (0, .ref (38 + n))], [.ref (51 + n)], hp) _
        refine px_gx (fun _ K9 => px_a 2 (f' := (67, [(3, .int (nI p)), (2, .int (nI v)), (1, .int (nI K)), (0, .ref (38 + n))], [.ref (38 + n), .int (nI v), .ref (51 + n)], hp)) rfl K9) ?_
        refine px_gx (fun _ K9 => px_gf (38 + n) 13 4 5 (.ref (40 + n)) rfl rfl hm rfl K9) ?_
        show px_Gx _ _ (70, [(3, .int (nI p)), (2, .int (nI v)), (1, .int (nI K)), (0, .ref (38 + n))], [.ref (40 + n), .int (nI v), .ref (51 + n)], hp) _
        refine px_gx (fun _ K9 => px_a 1 (f' := (71, [(3, .int (nI p)), (2, .int (nI v)), (1, .int (nI K)), (0, .ref (38 + n))], [.int (nI p), .ref (40 + n), .int (nI v), .ref (51 + n)], hp)) rfl K9) ?_
        refine px_gx (fun _ K9 => px_al (40 + n) (.int (nI (cs p))) rfl hz (Or.inl ⟨rfl, Or.inl rfl⟩) (nI_pos (by omega)) (by rw [nI_clamp (by omega)]; exact zp) K9) ?_
        show px_Gx _ _ (72, [(3, .int (nI p)), (2, .int (nI v)), (1, .int (nI K)), (0, .ref (38 + n))], [.int (nI (cs p)), .int (nI v), .ref (51 + n)], hp) _
        refine px_gx (fun _ K9 => px_a 1 (f' := (73, [(3, .int (nI p)), (2, .int (nI v)), (1, .int (nI K)), (0, .ref (38 + n))], [.int ((nI v) - (nI (cs p))), .ref (51 + n)], hp)) rfl K9) ?_
        refine px_gx (fun _ K9 => px_al (51 + n) (.int 0) rfl hv (Or.inr (Or.inr (Or.inl ⟨rfl, rfl⟩))) (by rw [es]; exact nI_pos (by omega)) (by rw [es, nI_clamp (by omega)]; exact hb) K9) ?_
        show px_Gx _ _ (74, [(3, .int (nI p)), (2, .int (nI v)), (1, .int (nI K)), (0, .ref (38 + n))], [.int 0], hp) _
        refine px_gx (fun _ K9 => px_a 3 (f' := (34, [(3, .int ((nI p) + 1)), (2, .int (nI v)), (1, .int (nI K)), (0, .ref (38 + n))], [], hp)) rfl K9) ?_
        rw [z_s37 p (by omega)]
        exact ih (p + 1) (by omega) hp vs hm hz hv hl inv (z_b_c (z_Qs hno) hQ) Kn
set_option maxRecDepth 20000 in
theorem m_szo {d n pc K : Nat} {zs : List Value} {cs : Nat → Nat} {th w h pl fo le ru : Int32} (pc6 : pc ≤ 6) (hK36 : K ≤ 36) (Z : ∀ k, k < 6 → zs[k]? = some (.int (nI (cs k))) ∧ cs k ≤ 6) : ∀ m v, v + m = K + 1 → ∀ (hp : px_H) (vs : List Value) (e : px_L), (e = [] ∨ ∃ x3 : Int32, e = [(3, .int x3)]) → hp[38 + n]? = some (4, [.int th, .int w, .int h, .ref (39 + n), .int (nI pc), .ref (40 + n), .ref (41 + n), .ref (42 + n), .int pl, .ref (43 + n), .ref (44 + n), .ref (45 + n), .ref (46 + n), .int fo, .ref (47 + n), .int le, .ref (48 + n), .int ru, .ref (49 + n), .ref (50 + n), .ref (51 + n)]) → hp[40 + n]? = some (10, zs) → hp[51 + n]? = some (12, vs) → vs.length = 37 → (∀ t, t < v → z_b vs t (z_S cs pc t)) → px_Gx d 93 (12, (2, .int (nI v)) :: (e ++ [(1, .int (nI K)), (0, .ref (38 + n))]), [], hp) (fun o _ => (o = .inl (some (.int 1)) ∧ z_S cs pc K) ∨ (o = .inl (some (.int 0)) ∧ ¬ z_S cs pc K)) := by
  intro m
  induction m with
  | zero =>
    intro v hv0 hp vs e he hm hz hv hl inv
    obtain ⟨b, hb, cb⟩ := inv K (by omega)
    rcases cb with ⟨rfl, s1⟩ | ⟨rfl, s0⟩
    · refine ⟨_, hp, ?_, Or.inl ⟨rfl, s1⟩⟩
      rcases he with rfl | ⟨x3, rfl⟩
      · show px_Go _ _ (12, [(2, .int (nI v)), (1, .int (nI K)), (0, .ref (38 + n))], [], hp) _
        refine px_a 2 (f' := (14, [(2, .int (nI v)), (1, .int (nI K)), (0, .ref (38 + n))], [.int (nI K), .int (nI v)], hp)) rfl ?_
        refine px_b2 true 96 rfl rfl (decide_eq_true (show nI K < nI v by rw [Int32.lt_iff_toInt_lt, nI_toInt (by omega), nI_toInt (by omega)]; omega)) ?_
        show px_Go _ _ (96, [(2, .int (nI v)), (1, .int (nI K)), (0, .ref (38 + n))], [], hp) _
        refine px_a 1 (f' := (97, [(2, .int (nI v)), (1, .int (nI K)), (0, .ref (38 + n))], [.ref (38 + n)], hp)) rfl ?_
        refine px_gf (38 + n) 48 4 20 (.ref (51 + n)) rfl rfl hm rfl ?_
        show px_Go _ _ (100, [(2, .int (nI v)), (1, .int (nI K)), (0, .ref (38 + n))], [.ref (51 + n)], hp) _
        refine px_a 1 (f' := (101, [(2, .int (nI v)), (1, .int (nI K)), (0, .ref (38 + n))], [.int (nI K), .ref (51 + n)], hp)) rfl ?_
        refine px_al (51 + n) (.int 1) rfl hv (Or.inr (Or.inr (Or.inl ⟨rfl, rfl⟩))) (nI_pos (by omega)) (by rw [nI_clamp (by omega)]; exact hb) ?_
        show px_Go _ _ (102, [(2, .int (nI v)), (1, .int (nI K)), (0, .ref (38 + n))], [.int 1], hp) _
        exact px_ri rfl rfl rfl
      · show px_Go _ _ (12, [(2, .int (nI v)), (3, .int x3), (1, .int (nI K)), (0, .ref (38 + n))], [], hp) _
        refine px_a 2 (f' := (14, [(2, .int (nI v)), (3, .int x3), (1, .int (nI K)), (0, .ref (38 + n))], [.int (nI K), .int (nI v)], hp)) rfl ?_
        refine px_b2 true 96 rfl rfl (decide_eq_true (show nI K < nI v by rw [Int32.lt_iff_toInt_lt, nI_toInt (by omega), nI_toInt (by omega)]; omega)) ?_
        show px_Go _ _ (96, [(2, .int (nI v)), (3, .int x3), (1, .int (nI K)), (0, .ref (38 + n))], [], hp) _
        refine px_a 1 (f' := (97, [(2, .int (nI v)), (3, .int x3), (1, .int (nI K)), (0, .ref (38 + n))], [.ref (38 + n)], hp)) rfl ?_
        refine px_gf (38 + n) 48 4 20 (.ref (51 + n)) rfl rfl hm rfl ?_
        show px_Go _ _ (100, [(2, .int (nI v)), (3, .int x3), (1, .int (nI K)), (0, .ref (38 + n))], [.ref (51 + n)], hp) _
        refine px_a 1 (f' := (101, [(2, .int (nI v)), (3, .int x3), (1, .int (nI K)), (0, .ref (38 + n))], [.int (nI K), .ref (51 + n)], hp)) rfl ?_
        refine px_al (51 + n) (.int 1) rfl hv (Or.inr (Or.inr (Or.inl ⟨rfl, rfl⟩))) (nI_pos (by omega)) (by rw [nI_clamp (by omega)]; exact hb) ?_
        show px_Go _ _ (102, [(2, .int (nI v)), (3, .int x3), (1, .int (nI K)), (0, .ref (38 + n))], [.int 1], hp) _
        exact px_ri rfl rfl rfl
    · refine ⟨_, hp, ?_, Or.inr ⟨rfl, s0⟩⟩
      rcases he with rfl | ⟨x3, rfl⟩
      · show px_Go _ _ (12, [(2, .int (nI v)), (1, .int (nI K)), (0, .ref (38 + n))], [], hp) _
        refine px_a 2 (f' := (14, [(2, .int (nI v)), (1, .int (nI K)), (0, .ref (38 + n))], [.int (nI K), .int (nI v)], hp)) rfl ?_
        refine px_b2 true 96 rfl rfl (decide_eq_true (show nI K < nI v by rw [Int32.lt_iff_toInt_lt, nI_toInt (by omega), nI_toInt (by omega)]; omega)) ?_
        show px_Go _ _ (96, [(2, .int (nI v)), (1, .int (nI K)), (0, .ref (38 + n))], [], hp) _
        refine px_a 1 (f' := (97, [(2, .int (nI v)), (1, .int (nI K)), (0, .ref (38 + n))], [.ref (38 + n)], hp)) rfl ?_
        refine px_gf (38 + n) 48 4 20 (.ref (51 + n)) rfl rfl hm rfl ?_
        show px_Go _ _ (100, [(2, .int (nI v)), (1, .int (nI K)), (0, .ref (38 + n))], [.ref (51 + n)], hp) _
        refine px_a 1 (f' := (101, [(2, .int (nI v)), (1, .int (nI K)), (0, .ref (38 + n))], [.int (nI K), .ref (51 + n)], hp)) rfl ?_
        refine px_al (51 + n) (.int 0) rfl hv (Or.inr (Or.inr (Or.inl ⟨rfl, rfl⟩))) (nI_pos (by omega)) (by rw [nI_clamp (by omega)]; exact hb) ?_
        show px_Go _ _ (102, [(2, .int (nI v)), (1, .int (nI K)), (0, .ref (38 + n))], [.int 0], hp) _
        exact px_ri rfl rfl rfl
      · show px_Go _ _ (12, [(2, .int (nI v)), (3, .int x3), (1, .int (nI K)), (0, .ref (38 + n))], [], hp) _
        refine px_a 2 (f' := (14, [(2, .int (nI v)), (3, .int x3), (1, .int (nI K)), (0, .ref (38 + n))], [.int (nI K), .int (nI v)], hp)) rfl ?_
        refine px_b2 true 96 rfl rfl (decide_eq_true (show nI K < nI v by rw [Int32.lt_iff_toInt_lt, nI_toInt (by omega), nI_toInt (by omega)]; omega)) ?_
        show px_Go _ _ (96, [(2, .int (nI v)), (3, .int x3), (1, .int (nI K)), (0, .ref (38 + n))], [], hp) _
        refine px_a 1 (f' := (97, [(2, .int (nI v)), (3, .int x3), (1, .int (nI K)), (0, .ref (38 + n))], [.ref (38 + n)], hp)) rfl ?_
        refine px_gf (38 + n) 48 4 20 (.ref (51 + n)) rfl rfl hm rfl ?_
        show px_Go _ _ (100, [(2, .int (nI v)), (3, .int x3), (1, .int (nI K)), (0, .ref (38 + n))], [.ref (51 + n)], hp) _
        refine px_a 1 (f' := (101, [(2, .int (nI v)), (3, .int x3), (1, .int (nI K)), (0, .ref (38 + n))], [.int (nI K), .ref (51 + n)], hp)) rfl ?_
        refine px_al (51 + n) (.int 0) rfl hv (Or.inr (Or.inr (Or.inl ⟨rfl, rfl⟩))) (nI_pos (by omega)) (by rw [nI_clamp (by omega)]; exact hb) ?_
        show px_Go _ _ (102, [(2, .int (nI v)), (3, .int x3), (1, .int (nI K)), (0, .ref (38 + n))], [.int 0], hp) _
        exact px_ri rfl rfl rfl
  | succ m ih =>
    intro v hv0 hp vs e he hm hz hv hl inv
    have Kc : ∀ (hp' : px_H) (vs' : List Value), hp'[38 + n]? = some (4, [.int th, .int w, .int h, .ref (39 + n), .int (nI pc), .ref (40 + n), .ref (41 + n), .ref (42 + n), .int pl, .ref (43 + n), .ref (44 + n), .ref (45 + n), .ref (46 + n), .int fo, .ref (47 + n), .int le, .ref (48 + n), .int ru, .ref (49 + n), .ref (50 + n), .ref (51 + n)]) → hp'[40 + n]? = some (10, zs) → hp'[51 + n]? = some (12, vs') → vs'.length = 37 → (∀ t, t ≤ v → z_b vs' t (z_S cs pc t)) → px_Gx d 93 (90, [(3, .int (nI pc)), (2, .int (nI v)), (1, .int (nI K)), (0, .ref (38 + n))], [], hp') (fun o _ => (o = .inl (some (.int 1)) ∧ z_S cs pc K) ∨ (o = .inl (some (.int 0)) ∧ ¬ z_S cs pc K)) := by
      intro hp' vs' k1 k2 k3 k4 k5
      refine px_gx (fun _ K9 => px_a 2 (f' := (12, [(2, .int ((nI v) + 1)), (3, .int (nI pc)), (1, .int (nI K)), (0, .ref (38 + n))], [], hp')) rfl K9) ?_
      rw [z_s37 v (by omega)]
      exact ih (v + 1) (by omega) hp' vs' [(3, .int (nI pc))] (Or.inr ⟨_, rfl⟩) k1 k2 k3 k4 (fun t ht => k5 t (by omega))
    rcases he with rfl | ⟨x3, rfl⟩
    · 
      by_cases v0 : v = 0
      · show px_Gx _ _ (12, [(2, .int (nI v)), (1, .int (nI K)), (0, .ref (38 + n))], [], hp) _
        refine px_gx (fun _ K9 => px_a 2 (f' := (14, [(2, .int (nI v)), (1, .int (nI K)), (0, .ref (38 + n))], [.int (nI K), .int (nI v)], hp)) rfl K9) ?_
        refine px_gx (fun _ K9 => px_b2 false 96 rfl rfl (decide_eq_false (show ¬ nI K < nI v by rw [Int32.lt_iff_toInt_lt, nI_toInt (by omega), nI_toInt (by omega)]; omega)) K9) ?_
        show px_Gx _ _ (17, [(2, .int (nI v)), (1, .int (nI K)), (0, .ref (38 + n))], [], hp) _
        refine px_gx (fun _ K9 => px_a 1 (f' := (18, [(2, .int (nI v)), (1, .int (nI K)), (0, .ref (38 + n))], [.ref (38 + n)], hp)) rfl K9) ?_
        refine px_gx (fun _ K9 => px_gf (38 + n) 48 4 20 (.ref (51 + n)) rfl rfl hm rfl K9) ?_
        show px_Gx _ _ (21, [(2, .int (nI v)), (1, .int (nI K)), (0, .ref (38 + n))], [.ref (51 + n)], hp) _
        refine px_gx (fun _ K9 => px_a 2 (f' := (23, [(2, .int (nI v)), (1, .int (nI K)), (0, .ref (38 + n))], [.int (nI v), .int (nI v), .ref (51 + n)], hp)) rfl K9) ?_
        refine px_gx (fun _ K9 => px_b1 false 30 rfl rfl (decide_eq_false (fun z => z (by rw [v0]; rfl))) K9) ?_
        show px_Gx _ _ (26, [(2, .int (nI v)), (1, .int (nI K)), (0, .ref (38 + n))], [.int (nI v), .ref (51 + n)], hp) _
        refine px_gx (fun _ K9 => px_a 2 (f' := (31, [(2, .int (nI v)), (1, .int (nI K)), (0, .ref (38 + n))], [.int 1, .int (nI v), .ref (51 + n)], hp)) rfl K9) ?_
        refine px_gx (fun _ K9 => px_zas (51 + n) rfl hv (by omega) (nI_pos (by omega)) (by rw [nI_clamp (by omega)]; omega) rfl K9) ?_
        have hf1__38___n_ : (hp.set (51 + n) (12, (vs.set (nI v).toNatClampNeg (.int 1))))[(38 + n)]? = some (4, [.int th, .int w, .int h, .ref (39 + n), .int (nI pc), .ref (40 + n), .ref (41 + n), .ref (42 + n), .int pl, .ref (43 + n), .ref (44 + n), .ref (45 + n), .ref (46 + n), .int fo, .ref (47 + n), .int le, .ref (48 + n), .int ru, .ref (49 + n), .ref (50 + n), .ref (51 + n)]) := px_ne hm (by omega)
        have hf1__40___n_ : (hp.set (51 + n) (12, (vs.set (nI v).toNatClampNeg (.int 1))))[(40 + n)]? = some (10, zs) := px_ne hz (by omega)
        have hf1__51___n_ : (hp.set (51 + n) (12, (vs.set (nI v).toNatClampNeg (.int 1))))[(51 + n)]? = some (12, (vs.set (nI v).toNatClampNeg (.int 1))) := px_self hv
        show px_Gx _ _ (32, [(2, .int (nI v)), (1, .int (nI K)), (0, .ref (38 + n))], [], (hp.set (51 + n) (12, (vs.set (nI v).toNatClampNeg (.int 1))))) _
        refine px_gx (fun _ K9 => px_a 2 (f' := (34, [(3, .int 0), (2, .int (nI v)), (1, .int (nI K)), (0, .ref (38 + n))], [], (hp.set (51 + n) (12, (vs.set (nI v).toNatClampNeg (.int 1)))))) rfl K9) ?_
        refine m_szi (K := K) (v := v) pc6 (by omega) hK36 Z pc 0 (by omega) _ _ hf1__38___n_ hf1__40___n_ hf1__51___n_ (by rw [List.length_set]; omega) (fun t ht => ?_) ?_ (fun hp' vs' k1 k2 k3 k4 k5 => Kc hp' vs' k1 k2 k3 (k4.trans (List.length_set.trans hl)) k5)
        · rw [nI_clamp (by omega)]
          exact z_b_s ht (inv t ht)
        · rw [nI_clamp (by omega)]
          exact ⟨1, List.getElem?_set_self (by omega), Or.inl ⟨rfl, Or.inl v0⟩⟩
      · show px_Gx _ _ (12, [(2, .int (nI v)), (1, .int (nI K)), (0, .ref (38 + n))], [], hp) _
        refine px_gx (fun _ K9 => px_a 2 (f' := (14, [(2, .int (nI v)), (1, .int (nI K)), (0, .ref (38 + n))], [.int (nI K), .int (nI v)], hp)) rfl K9) ?_
        refine px_gx (fun _ K9 => px_b2 false 96 rfl rfl (decide_eq_false (show ¬ nI K < nI v by rw [Int32.lt_iff_toInt_lt, nI_toInt (by omega), nI_toInt (by omega)]; omega)) K9) ?_
        show px_Gx _ _ (17, [(2, .int (nI v)), (1, .int (nI K)), (0, .ref (38 + n))], [], hp) _
        refine px_gx (fun _ K9 => px_a 1 (f' := (18, [(2, .int (nI v)), (1, .int (nI K)), (0, .ref (38 + n))], [.ref (38 + n)], hp)) rfl K9) ?_
        refine px_gx (fun _ K9 => px_gf (38 + n) 48 4 20 (.ref (51 + n)) rfl rfl hm rfl K9) ?_
        show px_Gx _ _ (21, [(2, .int (nI v)), (1, .int (nI K)), (0, .ref (38 + n))], [.ref (51 + n)], hp) _
        refine px_gx (fun _ K9 => px_a 2 (f' := (23, [(2, .int (nI v)), (1, .int (nI K)), (0, .ref (38 + n))], [.int (nI v), .int (nI v), .ref (51 + n)], hp)) rfl K9) ?_
        refine px_gx (fun _ K9 => px_b1 true 30 rfl rfl (decide_eq_true (fun z => v0 ((nI_eq (a := v) (b := 0) (by omega) (by decide)).mp z))) K9) ?_
        show px_Gx _ _ (30, [(2, .int (nI v)), (1, .int (nI K)), (0, .ref (38 + n))], [.int (nI v), .ref (51 + n)], hp) _
        refine px_gx (fun _ K9 => px_a 1 (f' := (31, [(2, .int (nI v)), (1, .int (nI K)), (0, .ref (38 + n))], [.int 0, .int (nI v), .ref (51 + n)], hp)) rfl K9) ?_
        refine px_gx (fun _ K9 => px_zas (51 + n) rfl hv (by omega) (nI_pos (by omega)) (by rw [nI_clamp (by omega)]; omega) rfl K9) ?_
        have hf1__38___n_ : (hp.set (51 + n) (12, (vs.set (nI v).toNatClampNeg (.int 0))))[(38 + n)]? = some (4, [.int th, .int w, .int h, .ref (39 + n), .int (nI pc), .ref (40 + n), .ref (41 + n), .ref (42 + n), .int pl, .ref (43 + n), .ref (44 + n), .ref (45 + n), .ref (46 + n), .int fo, .ref (47 + n), .int le, .ref (48 + n), .int ru, .ref (49 + n), .ref (50 + n), .ref (51 + n)]) := px_ne hm (by omega)
        have hf1__40___n_ : (hp.set (51 + n) (12, (vs.set (nI v).toNatClampNeg (.int 0))))[(40 + n)]? = some (10, zs) := px_ne hz (by omega)
        have hf1__51___n_ : (hp.set (51 + n) (12, (vs.set (nI v).toNatClampNeg (.int 0))))[(51 + n)]? = some (12, (vs.set (nI v).toNatClampNeg (.int 0))) := px_self hv
        show px_Gx _ _ (32, [(2, .int (nI v)), (1, .int (nI K)), (0, .ref (38 + n))], [], (hp.set (51 + n) (12, (vs.set (nI v).toNatClampNeg (.int 0))))) _
        refine px_gx (fun _ K9 => px_a 2 (f' := (34, [(3, .int 0), (2, .int (nI v)), (1, .int (nI K)), (0, .ref (38 + n))], [], (hp.set (51 + n) (12, (vs.set (nI v).toNatClampNeg (.int 0)))))) rfl K9) ?_
        refine m_szi (K := K) (v := v) pc6 (by omega) hK36 Z pc 0 (by omega) _ _ hf1__38___n_ hf1__40___n_ hf1__51___n_ (by rw [List.length_set]; omega) (fun t ht => ?_) ?_ (fun hp' vs' k1 k2 k3 k4 k5 => Kc hp' vs' k1 k2 k3 (k4.trans (List.length_set.trans hl)) k5)
        · rw [nI_clamp (by omega)]
          exact z_b_s ht (inv t ht)
        · rw [nI_clamp (by omega)]
          exact ⟨0, List.getElem?_set_self (by omega), Or.inr ⟨rfl, fun z => by rcases z with z | ⟨j, z, -⟩; exact v0 z; exact absurd z (Nat.not_lt_zero j)⟩⟩
    · 
      by_cases v0 : v = 0
      · show px_Gx _ _ (12, [(2, .int (nI v)), (3, .int x3), (1, .int (nI K)), (0, .ref (38 + n))], [], hp) _
        refine px_gx (fun _ K9 => px_a 2 (f' := (14, [(2, .int (nI v)), (3, .int x3), (1, .int (nI K)), (0, .ref (38 + n))], [.int (nI K), .int (nI v)], hp)) rfl K9) ?_
        refine px_gx (fun _ K9 => px_b2 false 96 rfl rfl (decide_eq_false (show ¬ nI K < nI v by rw [Int32.lt_iff_toInt_lt, nI_toInt (by omega), nI_toInt (by omega)]; omega)) K9) ?_
        show px_Gx _ _ (17, [(2, .int (nI v)), (3, .int x3), (1, .int (nI K)), (0, .ref (38 + n))], [], hp) _
        refine px_gx (fun _ K9 => px_a 1 (f' := (18, [(2, .int (nI v)), (3, .int x3), (1, .int (nI K)), (0, .ref (38 + n))], [.ref (38 + n)], hp)) rfl K9) ?_
        refine px_gx (fun _ K9 => px_gf (38 + n) 48 4 20 (.ref (51 + n)) rfl rfl hm rfl K9) ?_
        show px_Gx _ _ (21, [(2, .int (nI v)), (3, .int x3), (1, .int (nI K)), (0, .ref (38 + n))], [.ref (51 + n)], hp) _
        refine px_gx (fun _ K9 => px_a 2 (f' := (23, [(2, .int (nI v)), (3, .int x3), (1, .int (nI K)), (0, .ref (38 + n))], [.int (nI v), .int (nI v), .ref (51 + n)], hp)) rfl K9) ?_
        refine px_gx (fun _ K9 => px_b1 false 30 rfl rfl (decide_eq_false (fun z => z (by rw [v0]; rfl))) K9) ?_
        show px_Gx _ _ (26, [(2, .int (nI v)), (3, .int x3), (1, .int (nI K)), (0, .ref (38 + n))], [.int (nI v), .ref (51 + n)], hp) _
        refine px_gx (fun _ K9 => px_a 2 (f' := (31, [(2, .int (nI v)), (3, .int x3), (1, .int (nI K)), (0, .ref (38 + n))], [.int 1, .int (nI v), .ref (51 + n)], hp)) rfl K9) ?_
        refine px_gx (fun _ K9 => px_zas (51 + n) rfl hv (by omega) (nI_pos (by omega)) (by rw [nI_clamp (by omega)]; omega) rfl K9) ?_
        have hf1__38___n_ : (hp.set (51 + n) (12, (vs.set (nI v).toNatClampNeg (.int 1))))[(38 + n)]? = some (4, [.int th, .int w, .int h, .ref (39 + n), .int (nI pc), .ref (40 + n), .ref (41 + n), .ref (42 + n), .int pl, .ref (43 + n), .ref (44 + n), .ref (45 + n), .ref (46 + n), .int fo, .ref (47 + n), .int le, .ref (48 + n), .int ru, .ref (49 + n), .ref (50 + n), .ref (51 + n)]) := px_ne hm (by omega)
        have hf1__40___n_ : (hp.set (51 + n) (12, (vs.set (nI v).toNatClampNeg (.int 1))))[(40 + n)]? = some (10, zs) := px_ne hz (by omega)
        have hf1__51___n_ : (hp.set (51 + n) (12, (vs.set (nI v).toNatClampNeg (.int 1))))[(51 + n)]? = some (12, (vs.set (nI v).toNatClampNeg (.int 1))) := px_self hv
        show px_Gx _ _ (32, [(2, .int (nI v)), (3, .int x3), (1, .int (nI K)), (0, .ref (38 + n))], [], (hp.set (51 + n) (12, (vs.set (nI v).toNatClampNeg (.int 1))))) _
        refine px_gx (fun _ K9 => px_a 2 (f' := (34, [(3, .int 0), (2, .int (nI v)), (1, .int (nI K)), (0, .ref (38 + n))], [], (hp.set (51 + n) (12, (vs.set (nI v).toNatClampNeg (.int 1)))))) rfl K9) ?_
        refine m_szi (K := K) (v := v) pc6 (by omega) hK36 Z pc 0 (by omega) _ _ hf1__38___n_ hf1__40___n_ hf1__51___n_ (by rw [List.length_set]; omega) (fun t ht => ?_) ?_ (fun hp' vs' k1 k2 k3 k4 k5 => Kc hp' vs' k1 k2 k3 (k4.trans (List.length_set.trans hl)) k5)
        · rw [nI_clamp (by omega)]
          exact z_b_s ht (inv t ht)
        · rw [nI_clamp (by omega)]
          exact ⟨1, List.getElem?_set_self (by omega), Or.inl ⟨rfl, Or.inl v0⟩⟩
      · show px_Gx _ _ (12, [(2, .int (nI v)), (3, .int x3), (1, .int (nI K)), (0, .ref (38 + n))], [], hp) _
        refine px_gx (fun _ K9 => px_a 2 (f' := (14, [(2, .int (nI v)), (3, .int x3), (1, .int (nI K)), (0, .ref (38 + n))], [.int (nI K), .int (nI v)], hp)) rfl K9) ?_
        refine px_gx (fun _ K9 => px_b2 false 96 rfl rfl (decide_eq_false (show ¬ nI K < nI v by rw [Int32.lt_iff_toInt_lt, nI_toInt (by omega), nI_toInt (by omega)]; omega)) K9) ?_
        show px_Gx _ _ (17, [(2, .int (nI v)), (3, .int x3), (1, .int (nI K)), (0, .ref (38 + n))], [], hp) _
        refine px_gx (fun _ K9 => px_a 1 (f' := (18, [(2, .int (nI v)), (3, .int x3), (1, .int (nI K)), (0, .ref (38 + n))], [.ref (38 + n)], hp)) rfl K9) ?_
        refine px_gx (fun _ K9 => px_gf (38 + n) 48 4 20 (.ref (51 + n)) rfl rfl hm rfl K9) ?_
        show px_Gx _ _ (21, [(2, .int (nI v)), (3, .int x3), (1, .int (nI K)), (0, .ref (38 + n))], [.ref (51 + n)], hp) _
        refine px_gx (fun _ K9 => px_a 2 (f' := (23, [(2, .int (nI v)), (3, .int x3), (1, .int (nI K)), (0, .ref (38 + n))], [.int (nI v), .int (nI v), .ref (51 + n)], hp)) rfl K9) ?_
        refine px_gx (fun _ K9 => px_b1 true 30 rfl rfl (decide_eq_true (fun z => v0 ((nI_eq (a := v) (b := 0) (by omega) (by decide)).mp z))) K9) ?_
        show px_Gx _ _ (30, [(2, .int (nI v)), (3, .int x3), (1, .int (nI K)), (0, .ref (38 + n))], [.int (nI v), .ref (51 + n)], hp) _
        refine px_gx (fun _ K9 => px_a 1 (f' := (31, [(2, .int (nI v)), (3, .int x3), (1, .int (nI K)), (0, .ref (38 + n))], [.int 0, .int (nI v), .ref (51 + n)], hp)) rfl K9) ?_
        refine px_gx (fun _ K9 => px_zas (51 + n) rfl hv (by omega) (nI_pos (by omega)) (by rw [nI_clamp (by omega)]; omega) rfl K9) ?_
        have hf1__38___n_ : (hp.set (51 + n) (12, (vs.set (nI v).toNatClampNeg (.int 0))))[(38 + n)]? = some (4, [.int th, .int w, .int h, .ref (39 + n), .int (nI pc), .ref (40 + n), .ref (41 + n), .ref (42 + n), .int pl, .ref (43 + n), .ref (44 + n), .ref (45 + n), .ref (46 + n), .int fo, .ref (47 + n), .int le, .ref (48 + n), .int ru, .ref (49 + n), .ref (50 + n), .ref (51 + n)]) := px_ne hm (by omega)
        have hf1__40___n_ : (hp.set (51 + n) (12, (vs.set (nI v).toNatClampNeg (.int 0))))[(40 + n)]? = some (10, zs) := px_ne hz (by omega)
        have hf1__51___n_ : (hp.set (51 + n) (12, (vs.set (nI v).toNatClampNeg (.int 0))))[(51 + n)]? = some (12, (vs.set (nI v).toNatClampNeg (.int 0))) := px_self hv
        show px_Gx _ _ (32, [(2, .int (nI v)), (3, .int x3), (1, .int (nI K)), (0, .ref (38 + n))], [], (hp.set (51 + n) (12, (vs.set (nI v).toNatClampNeg (.int 0))))) _
        refine px_gx (fun _ K9 => px_a 2 (f' := (34, [(3, .int 0), (2, .int (nI v)), (1, .int (nI K)), (0, .ref (38 + n))], [], (hp.set (51 + n) (12, (vs.set (nI v).toNatClampNeg (.int 0)))))) rfl K9) ?_
        refine m_szi (K := K) (v := v) pc6 (by omega) hK36 Z pc 0 (by omega) _ _ hf1__38___n_ hf1__40___n_ hf1__51___n_ (by rw [List.length_set]; omega) (fun t ht => ?_) ?_ (fun hp' vs' k1 k2 k3 k4 k5 => Kc hp' vs' k1 k2 k3 (k4.trans (List.length_set.trans hl)) k5)
        · rw [nI_clamp (by omega)]
          exact z_b_s ht (inv t ht)
        · rw [nI_clamp (by omega)]
          exact ⟨0, List.getElem?_set_self (by omega), Or.inr ⟨rfl, fun z => by rcases z with z | ⟨j, z, -⟩; exact v0 z; exact absurd z (Nat.not_lt_zero j)⟩⟩
set_option maxRecDepth 20000 in
theorem m_sizeX {d n N W V : Nat} {hp : px_H} {sh : Int64} {us : List Value} {th pn pl fo le ru : Int32} (eN : N = sh.toBitVec.toNat) (n36 : n ≤ 36) (hn : n = W * V) (hm : hp[38 + n]? = some (4, [.int th, .int (nI W), .int (nI V), .ref (39 + n), .int pn, .ref (40 + n), .ref (41 + n), .ref (42 + n), .int pl, .ref (43 + n), .ref (44 + n), .ref (45 + n), .ref (46 + n), .int fo, .ref (47 + n), .int le, .ref (48 + n), .int ru, .ref (49 + n), .ref (50 + n), .ref (51 + n)])) (hu : hp[39 + n]? = some (12, us)) (q1 : ∀ c, c < n → us[c]? = some (.int (if x_bt sh c = true then 1 else 0))) : px_Go (d + 1) 92 (0, [(0, .ref (38 + n))], [], hp) (.inl (some (.int (nI (z_c N n)))), hp) := by
  have hcl : px_Go d 72 (0, [(0, .ref (38 + n))], [], hp) (.inl (some (.int (nI n))), hp) := by
    have := p_cells (d := d) hm
    rw [pk_mul, ← hn] at this
    exact this
  obtain ⟨o, hp', g, rfl, rfl⟩ := m_szc (d := d) eN n36 hm hu q1 hcl n 0 (by omega)
  exact px_a 4 (f' := (4, [(2, .int (nI 0)), (1, .int (nI (z_c N 0))), (0, .ref (38 + n))], [], hp')) rfl g
set_option maxRecDepth 20000 in
theorem m_sizesX {d n N W V pc : Nat} {hp : px_H} {sh : Int64} {us zs vs : List Value} {cs : Nat → Nat} {th pl fo le ru : Int32} (eN : N = sh.toBitVec.toNat) (n36 : n ≤ 36) (hn : n = W * V) (pc6 : pc ≤ 6) (Z : ∀ k, k < 6 → zs[k]? = some (.int (nI (cs k))) ∧ cs k ≤ 6) (hm : hp[38 + n]? = some (4, [.int th, .int (nI W), .int (nI V), .ref (39 + n), .int (nI pc), .ref (40 + n), .ref (41 + n), .ref (42 + n), .int pl, .ref (43 + n), .ref (44 + n), .ref (45 + n), .ref (46 + n), .int fo, .ref (47 + n), .int le, .ref (48 + n), .int ru, .ref (49 + n), .ref (50 + n), .ref (51 + n)])) (hz : hp[40 + n]? = some (10, zs)) (hv : hp[51 + n]? = some (12, vs)) (hl : vs.length = 37) (hu : hp[39 + n]? = some (12, us)) (q1 : ∀ c, c < n → us[c]? = some (.int (if x_bt sh c = true then 1 else 0))) : px_Gx (d + 2) 93 (0, [(0, .ref (38 + n))], [], hp) (fun o _ => (o = .inl (some (.int 1)) ∧ z_S cs pc (z_c N n)) ∨ (o = .inl (some (.int 0)) ∧ ¬ z_S cs pc (z_c N n))) := by
  have kn := z_c_le N n
  refine px_gx (fun _ K9 => px_a 2 (f' := (2, [(0, .ref (38 + n))], [.int 0, .ref (38 + n)], hp)) rfl K9) ?_
  refine px_gx (fun _ K9 => px_pf (38 + n) 58 4 0 rfl rfl hm (by omega) (by simp) rfl rfl (by decide) K9) ?_
  have hf1__38___n_ : (hp.set (38 + n) (4, [.int 0, .int (nI W), .int (nI V), .ref (39 + n), .int (nI pc), .ref (40 + n), .ref (41 + n), .ref (42 + n), .int pl, .ref (43 + n), .ref (44 + n), .ref (45 + n), .ref (46 + n), .int fo, .ref (47 + n), .int le, .ref (48 + n), .int ru, .ref (49 + n), .ref (50 + n), .ref (51 + n)]))[(38 + n)]? = some (4, [.int 0, .int (nI W), .int (nI V), .ref (39 + n), .int (nI pc), .ref (40 + n), .ref (41 + n), .ref (42 + n), .int pl, .ref (43 + n), .ref (44 + n), .ref (45 + n), .ref (46 + n), .int fo, .ref (47 + n), .int le, .ref (48 + n), .int ru, .ref (49 + n), .ref (50 + n), .ref (51 + n)]) := px_self hm
  have hf1__40___n_ : (hp.set (38 + n) (4, [.int 0, .int (nI W), .int (nI V), .ref (39 + n), .int (nI pc), .ref (40 + n), .ref (41 + n), .ref (42 + n), .int pl, .ref (43 + n), .ref (44 + n), .ref (45 + n), .ref (46 + n), .int fo, .ref (47 + n), .int le, .ref (48 + n), .int ru, .ref (49 + n), .ref (50 + n), .ref (51 + n)]))[(40 + n)]? = some (10, zs) := px_ne hz (by omega)
  have hf1__51___n_ : (hp.set (38 + n) (4, [.int 0, .int (nI W), .int (nI V), .ref (39 + n), .int (nI pc), .ref (40 + n), .ref (41 + n), .ref (42 + n), .int pl, .ref (43 + n), .ref (44 + n), .ref (45 + n), .ref (46 + n), .int fo, .ref (47 + n), .int le, .ref (48 + n), .int ru, .ref (49 + n), .ref (50 + n), .ref (51 + n)]))[(51 + n)]? = some (12, vs) := px_ne hv (by omega)
  have hf1__39___n_ : (hp.set (38 + n) (4, [.int 0, .int (nI W), .int (nI V), .ref (39 + n), .int (nI pc), .ref (40 + n), .ref (41 + n), .ref (42 + n), .int pl, .ref (43 + n), .ref (44 + n), .ref (45 + n), .ref (46 + n), .int fo, .ref (47 + n), .int le, .ref (48 + n), .int ru, .ref (49 + n), .ref (50 + n), .ref (51 + n)]))[(39 + n)]? = some (12, us) := px_ne hu (by omega)
  show px_Gx _ _ (5, [(0, .ref (38 + n))], [], (hp.set (38 + n) (4, [.int 0, .int (nI W), .int (nI V), .ref (39 + n), .int (nI pc), .ref (40 + n), .ref (41 + n), .ref (42 + n), .int pl, .ref (43 + n), .ref (44 + n), .ref (45 + n), .ref (46 + n), .int fo, .ref (47 + n), .int le, .ref (48 + n), .int ru, .ref (49 + n), .ref (50 + n), .ref (51 + n)]))) _
  refine px_gx (fun _ K9 => px_a 1 (f' := (6, [(0, .ref (38 + n))], [.ref (38 + n)], (hp.set (38 + n) (4, [.int 0, .int (nI W), .int (nI V), .ref (39 + n), .int (nI pc), .ref (40 + n), .ref (41 + n), .ref (42 + n), .int pl, .ref (43 + n), .ref (44 + n), .ref (45 + n), .ref (46 + n), .int fo, .ref (47 + n), .int le, .ref (48 + n), .int ru, .ref (49 + n), .ref (50 + n), .ref (51 + n)])))) rfl K9) ?_
  have hsz := m_sizeX (d := d) eN n36 hn hf1__38___n_ hf1__39___n_ q1
  refine px_gx (fun _ K9 => px_cv (38 + n) (as := []) (rest := []) rfl rfl hf1__38___n_ rfl rfl rfl rfl (Nat.le_of_ble_eq_true rfl) (hsz) K9) ?_
  show px_Gx _ _ (9, [(0, .ref (38 + n))], [.int (nI (z_c N n))], (hp.set (38 + n) (4, [.int 0, .int (nI W), .int (nI V), .ref (39 + n), .int (nI pc), .ref (40 + n), .ref (41 + n), .ref (42 + n), .int pl, .ref (43 + n), .ref (44 + n), .ref (45 + n), .ref (46 + n), .int fo, .ref (47 + n), .int le, .ref (48 + n), .int ru, .ref (49 + n), .ref (50 + n), .ref (51 + n)]))) _
  refine px_gx (fun _ K9 => px_a 3 (f' := (12, [(2, .int 0), (1, .int (nI (z_c N n))), (0, .ref (38 + n))], [], (hp.set (38 + n) (4, [.int 0, .int (nI W), .int (nI V), .ref (39 + n), .int (nI pc), .ref (40 + n), .ref (41 + n), .ref (42 + n), .int pl, .ref (43 + n), .ref (44 + n), .ref (45 + n), .ref (46 + n), .int fo, .ref (47 + n), .int le, .ref (48 + n), .int ru, .ref (49 + n), .ref (50 + n), .ref (51 + n)])))) rfl K9) ?_
  exact m_szo pc6 (by omega) Z (z_c N n + 1) 0 (by omega) _ _ [] (Or.inl rfl) hf1__38___n_ hf1__40___n_ hf1__51___n_ hl (fun t ht => absurd ht (Nat.not_lt_zero t))
