theorem p_s512 : ∀ i, i < 512 → nI i + 1 = nI (i + 1) := by decide +kernel
theorem p_cmpge {a b : Nat} (ha : a < 2 ^ 36) (hb : b < 2 ^ 36) : 0 ≤ lg_cmp (lN a) (lN b) ↔ b ≤ a := by
  have e : ∀ {x y : Int64}, 0 ≤ lg_cmp x y ↔ y ≤ x := by
    intro x y
    unfold lg_cmp
    rw [Int64.le_iff_toInt_le]
    by_cases h1 : x > y
    · rw [if_pos h1]
      have h1' : y < x := h1
      rw [Int64.lt_iff_toInt_lt] at h1'
      exact ⟨fun _ => by omega, fun _ => by decide⟩
    · rw [if_neg h1]
      have h1' : ¬ y < x := h1
      rw [Int64.lt_iff_toInt_lt] at h1'
      by_cases h2 : x = y
      · rw [if_pos h2, h2]
        exact ⟨fun _ => Int.le_refl _, fun _ => by decide⟩
      · rw [if_neg h2]
        have : x.toInt ≠ y.toInt := fun z => h2 (Int64.toInt_inj.mp z)
        exact ⟨fun z => absurd z (by decide), fun z => by omega⟩
  rw [e, Int64.le_iff_toInt_le, p_lt ha, p_lt hb]
  omega
theorem p_inj {a b : Nat} (ha : a < 2 ^ 36) (hb : b < 2 ^ 36) (h : lN a = lN b) : a = b := by
  have := congrArg Int64.toInt h
  rw [p_lt ha, p_lt hb] at this
  omega
set_option maxRecDepth 20000 in
theorem m_adx {d n : Nat} {th w h pn fo le ru : Int32} {c S : Nat} {f : Nat → Nat} {a : Nat} (hc : c < 512) (ha : a ≤ c) (m1 : ∀ j, j < a → f j < S) (m2 : ∀ j, a ≤ j → j < c → S < f j) : ∀ t i, i = a + t → i ≤ c → ∀ (hp : px_H) (st : List Value) (hm : hp[38 + n]? = some (4, m_O n th w h pn (nI c) fo le ru)) (hs : hp[43 + n]? = some (11, st)) (lst : st.length = 512) (r1 : ∀ j, j < i → st[j]? = some (.long (lN (f j)))) (r2 : ∀ j, i < j → j < c + 1 → st[j]? = some (.long (lN (f (j - 1))))), px_Gx d 68 (53, [(4, .int (nI i)), (3, .int (nI a)), (0, .ref (38 + n)), (1, .long (lN S))], [], hp) (fun o hp' => o = .inl none ∧ ∃ (st' : List Value) (i : Nat), i ≤ c ∧ (∀ j, j < i → f j < S) ∧ (∀ j, i ≤ j → j < c → S < f j) ∧ hp'[38 + n]? = some (4, m_O n th w h pn (nI (c + 1)) fo le ru) ∧ hp'[43 + n]? = some (11, st') ∧ st'.length = 512 ∧ (∀ j, j < c + 1 → st'[j]? = some (.long (lN (pl_ins f i S j)))) ∧ ∀ a, a ≠ 38 + n → a ≠ 43 + n → hp'[a]? = hp[a]?) := by
  intro t
  induction t with
  | zero =>
    intro i hi hic hp st hm hs lst r1 r2
    obtain rfl : i = a := by omega
    refine px_gx (fun _ K9 => px_a 2 (f' := (56, [(4, .int (nI i)), (3, .int (nI i)), (0, .ref (38 + n)), (1, .long (lN S))], [.int (nI i), .int (nI i)], hp)) rfl K9) ?_
    refine px_gx (fun _ K9 => px_b2 true 81 rfl rfl (decide_eq_true (Int32.le_refl _)) K9) ?_
    show px_Gx _ _ (81, [(4, .int (nI i)), (3, .int (nI i)), (0, .ref (38 + n)), (1, .long (lN S))], [], hp) _
    refine px_gx (fun _ K9 => px_a 1 (f' := (82, [(4, .int (nI i)), (3, .int (nI i)), (0, .ref (38 + n)), (1, .long (lN S))], [.ref (38 + n)], hp)) rfl K9) ?_
    refine px_gx (fun _ K9 => px_gf (38 + n) 23 4 9 (.ref (43 + n)) rfl rfl hm rfl K9) ?_
    show px_Gx _ _ (85, [(4, .int (nI i)), (3, .int (nI i)), (0, .ref (38 + n)), (1, .long (lN S))], [.ref (43 + n)], hp) _
    refine px_gx (fun _ K9 => px_a 2 (f' := (87, [(4, .int (nI i)), (3, .int (nI i)), (0, .ref (38 + n)), (1, .long (lN S))], [.long (lN S), .int (nI i), .ref (43 + n)], hp)) rfl K9) ?_
    refine px_gx (fun _ K9 => px_las (43 + n) rfl hs (by omega) (nI_pos (by omega)) (by rw [nI_clamp (by omega)]; omega) K9) ?_
    have hf1__38___n_ : (hp.set (43 + n) (11, (st.set (nI i).toNatClampNeg (.long (lN S)))))[(38 + n)]? = some (4, [.int th, .int w, .int h, .ref (39 + n), .int pn, .ref (40 + n), .ref (41 + n), .ref (42 + n), .int (nI c), .ref (43 + n), .ref (44 + n), .ref (45 + n), .ref (46 + n), .int fo, .ref (47 + n), .int le, .ref (48 + n), .int ru, .ref (49 + n), .ref (50 + n), .ref (51 + n)]) := px_ne hm (by omega)
    have hf1__43___n_ : (hp.set (43 + n) (11, (st.set (nI i).toNatClampNeg (.long (lN S)))))[(43 + n)]? = some (11, (st.set (nI i).toNatClampNeg (.long (lN S)))) := px_self hs
    show px_Gx _ _ (88, [(4, .int (nI i)), (3, .int (nI i)), (0, .ref (38 + n)), (1, .long (lN S))], [], (hp.set (43 + n) (11, (st.set (nI i).toNatClampNeg (.long (lN S)))))) _
    refine px_gx (fun _ K9 => px_a 2 (f' := (90, [(4, .int (nI i)), (3, .int (nI i)), (0, .ref (38 + n)), (1, .long (lN S))], [.ref (38 + n), .ref (38 + n)], (hp.set (43 + n) (11, (st.set (nI i).toNatClampNeg (.long (lN S))))))) rfl K9) ?_
    refine px_gx (fun _ K9 => px_gf (38 + n) 80 4 8 (.int (nI c)) rfl rfl hf1__38___n_ rfl K9) ?_
    show px_Gx _ _ (93, [(4, .int (nI i)), (3, .int (nI i)), (0, .ref (38 + n)), (1, .long (lN S))], [.int (nI c), .ref (38 + n)], (hp.set (43 + n) (11, (st.set (nI i).toNatClampNeg (.long (lN S)))))) _
    refine px_gx (fun _ K9 => px_a 2 (f' := (95, [(4, .int (nI i)), (3, .int (nI i)), (0, .ref (38 + n)), (1, .long (lN S))], [.int ((nI c) + 1), .ref (38 + n)], (hp.set (43 + n) (11, (st.set (nI i).toNatClampNeg (.long (lN S))))))) rfl K9) ?_
    refine px_gx (fun _ K9 => px_pf (38 + n) 80 4 8 rfl rfl hf1__38___n_ (by omega) (by simp) rfl rfl (by decide) K9) ?_
    have hf2__38___n_ : (((hp.set (43 + n) (11, (st.set (nI i).toNatClampNeg (.long (lN S)))))).set (38 + n) (4, [.int th, .int w, .int h, .ref (39 + n), .int pn, .ref (40 + n), .ref (41 + n), .ref (42 + n), .int ((nI c) + 1), .ref (43 + n), .ref (44 + n), .ref (45 + n), .ref (46 + n), .int fo, .ref (47 + n), .int le, .ref (48 + n), .int ru, .ref (49 + n), .ref (50 + n), .ref (51 + n)]))[(38 + n)]? = some (4, [.int th, .int w, .int h, .ref (39 + n), .int pn, .ref (40 + n), .ref (41 + n), .ref (42 + n), .int ((nI c) + 1), .ref (43 + n), .ref (44 + n), .ref (45 + n), .ref (46 + n), .int fo, .ref (47 + n), .int le, .ref (48 + n), .int ru, .ref (49 + n), .ref (50 + n), .ref (51 + n)]) := px_self hf1__38___n_
    have hf2__43___n_ : (((hp.set (43 + n) (11, (st.set (nI i).toNatClampNeg (.long (lN S)))))).set (38 + n) (4, [.int th, .int w, .int h, .ref (39 + n), .int pn, .ref (40 + n), .ref (41 + n), .ref (42 + n), .int ((nI c) + 1), .ref (43 + n), .ref (44 + n), .ref (45 + n), .ref (46 + n), .int fo, .ref (47 + n), .int le, .ref (48 + n), .int ru, .ref (49 + n), .ref (50 + n), .ref (51 + n)]))[(43 + n)]? = some (11, (st.set (nI i).toNatClampNeg (.long (lN S)))) := px_ne hf1__43___n_ (by omega)
    show px_Gx _ _ (98, [(4, .int (nI i)), (3, .int (nI i)), (0, .ref (38 + n)), (1, .long (lN S))], [], (((hp.set (43 + n) (11, (st.set (nI i).toNatClampNeg (.long (lN S)))))).set (38 + n) (4, [.int th, .int w, .int h, .ref (39 + n), .int pn, .ref (40 + n), .ref (41 + n), .ref (42 + n), .int ((nI c) + 1), .ref (43 + n), .ref (44 + n), .ref (45 + n), .ref (46 + n), .int fo, .ref (47 + n), .int le, .ref (48 + n), .int ru, .ref (49 + n), .ref (50 + n), .ref (51 + n)]))) _
    refine ⟨_, _, px_e rfl rfl, rfl, _, i, ha, m1, m2, ?_, hf2__43___n_, by rw [List.length_set]; exact lst, ?_, ?_⟩
    · rw [← p_s512 c (by omega)]
      exact hf2__38___n_
    · intro j hj
      rw [nI_clamp (by omega)]
      rcases Nat.lt_trichotomy j i with z | z | z
      · rw [List.getElem?_set_ne (by omega), pl_i1 z]
        exact r1 j z
      · rw [z, List.getElem?_set_self (by omega), pl_i2]
      · rw [List.getElem?_set_ne (by omega), pl_i3 z]
        exact r2 j z hj
    · intro b h1 h2
      rw [List.getElem?_set_ne (Ne.symm h1), List.getElem?_set_ne (Ne.symm h2)]
  | succ t ih =>
    intro i0 hi hic hp st hm hs lst r1 r2
    obtain ⟨i, rfl⟩ : ∃ i, i0 = i + 1 := ⟨a + t, by omega⟩
    refine px_gx (fun _ K9 => px_a 2 (f' := (56, [(4, .int (nI (i + 1))), (3, .int (nI a)), (0, .ref (38 + n)), (1, .long (lN S))], [.int (nI a), .int (nI (i + 1))], hp)) rfl K9) ?_
    refine px_gx (fun _ K9 => px_b2 false 81 rfl rfl (decide_eq_false (show ¬ nI (i + 1) ≤ nI a by rw [Int32.le_iff_toInt_le, nI_toInt (by omega), nI_toInt (by omega)]; omega)) K9) ?_
    show px_Gx _ _ (59, [(4, .int (nI (i + 1))), (3, .int (nI a)), (0, .ref (38 + n)), (1, .long (lN S))], [], hp) _
    refine px_gx (fun _ K9 => px_a 1 (f' := (60, [(4, .int (nI (i + 1))), (3, .int (nI a)), (0, .ref (38 + n)), (1, .long (lN S))], [.ref (38 + n)], hp)) rfl K9) ?_
    refine px_gx (fun _ K9 => px_gf (38 + n) 23 4 9 (.ref (43 + n)) rfl rfl hm rfl K9) ?_
    show px_Gx _ _ (63, [(4, .int (nI (i + 1))), (3, .int (nI a)), (0, .ref (38 + n)), (1, .long (lN S))], [.ref (43 + n)], hp) _
    refine px_gx (fun _ K9 => px_a 2 (f' := (66, [(4, .int (nI (i + 1))), (3, .int (nI a)), (0, .ref (38 + n)), (1, .long (lN S))], [.ref (38 + n), .int (nI (i + 1)), .ref (43 + n)], hp)) rfl K9) ?_
    refine px_gx (fun _ K9 => px_gf (38 + n) 23 4 9 (.ref (43 + n)) rfl rfl hm rfl K9) ?_
    show px_Gx _ _ (69, [(4, .int (nI (i + 1))), (3, .int (nI a)), (0, .ref (38 + n)), (1, .long (lN S))], [.ref (43 + n), .int (nI (i + 1)), .ref (43 + n)], hp) _
    refine px_gx (fun _ K9 => px_a 3 (f' := (73, [(4, .int (nI (i + 1))), (3, .int (nI a)), (0, .ref (38 + n)), (1, .long (lN S))], [.int ((nI (i + 1)) - 1), .ref (43 + n), .int (nI (i + 1)), .ref (43 + n)], hp)) rfl K9) ?_
    refine px_gx (fun _ K9 => px_al (43 + n) (.long (lN (f i))) rfl hs (Or.inr (Or.inl ⟨rfl, rfl⟩)) (by rw [nI_pred]; exact nI_pos (by omega)) (by rw [nI_pred, nI_clamp (by omega)]; exact r1 i (by omega)) K9) ?_
    show px_Gx _ _ (74, [(4, .int (nI (i + 1))), (3, .int (nI a)), (0, .ref (38 + n)), (1, .long (lN S))], [.long (lN (f i)), .int (nI (i + 1)), .ref (43 + n)], hp) _
    refine px_gx (fun _ K9 => px_las (43 + n) rfl hs (by omega) (nI_pos (by omega)) (by rw [nI_clamp (by omega)]; omega) K9) ?_
    have hf1__38___n_ : (hp.set (43 + n) (11, (st.set (nI (i + 1)).toNatClampNeg (.long (lN (f i))))))[(38 + n)]? = some (4, [.int th, .int w, .int h, .ref (39 + n), .int pn, .ref (40 + n), .ref (41 + n), .ref (42 + n), .int (nI c), .ref (43 + n), .ref (44 + n), .ref (45 + n), .ref (46 + n), .int fo, .ref (47 + n), .int le, .ref (48 + n), .int ru, .ref (49 + n), .ref (50 + n), .ref (51 + n)]) := px_ne hm (by omega)
    have hf1__43___n_ : (hp.set (43 + n) (11, (st.set (nI (i + 1)).toNatClampNeg (.long (lN (f i))))))[(43 + n)]? = some (11, (st.set (nI (i + 1)).toNatClampNeg (.long (lN (f i))))) := px_self hs
    show px_Gx _ _ (75, [(4, .int (nI (i + 1))), (3, .int (nI a)), (0, .ref (38 + n)), (1, .long (lN S))], [], (hp.set (43 + n) (11, (st.set (nI (i + 1)).toNatClampNeg (.long (lN (f i))))))) _
    refine px_gx (fun _ K9 => px_a 2 (f' := (53, [(4, .int ((nI (i + 1)) + (-1))), (3, .int (nI a)), (0, .ref (38 + n)), (1, .long (lN S))], [], (hp.set (43 + n) (11, (st.set (nI (i + 1)).toNatClampNeg (.long (lN (f i)))))))) rfl K9) ?_
    rw [pk_m1]
    obtain ⟨o, hp', g, e, st', i', b1, b2, b3, b4, b5, b6, b7, b8⟩ := ih i (by omega) (by omega) _ _ hf1__38___n_ hf1__43___n_ (by rw [List.length_set]; exact lst) (fun j h => by rw [nI_clamp (by omega), List.getElem?_set_ne (by omega)]; exact r1 j (by omega)) (fun j h h' => by
      rw [nI_clamp (by omega)]
      by_cases e : j = i + 1
      · rw [e, List.getElem?_set_self (by omega)]
        rfl
      · rw [List.getElem?_set_ne (by omega)]
        exact r2 j (by omega) h')
    exact ⟨o, hp', g, e, st', i', b1, b2, b3, b4, b5, b6, b7, fun b h1 h2 => (b8 b h1 h2).trans (List.getElem?_set_ne (Ne.symm h2))⟩
/-- the model's places -/
def pl_N (n : Nat) (th w h pn fo le ru : Int32) (hp : px_H) (c : Nat) (D : Nat → Prop) : Prop := ∃ (st : List Value) (f : Nat → Nat), hp[38 + n]? = some (4, m_O n th w h pn (nI c) fo le ru) ∧ hp[43 + n]? = some (11, st) ∧ st.length = 512 ∧ (∀ j, j < c → st[j]? = some (.long (lN (f j)))) ∧ (∀ j, j < c → f j < 2 ^ 36) ∧ pl_L c f D
theorem pl_N_c {n : Nat} {th w h pn fo le ru : Int32} {hp : px_H} {c : Nat} {D D' : Nat → Prop} (g : pl_N n th w h pn fo le ru hp c D) (e : ∀ S, D S ↔ D' S) : pl_N n th w h pn fo le ru hp c D' := by
  obtain ⟨st, f, a1, a2, a3, a4, a5, a6⟩ := g
  exact ⟨st, f, a1, a2, a3, a4, a5, pl_L_c a6 e⟩
set_option maxRecDepth 20000 in
theorem m_ad1 {d n : Nat} {th w h pn fo le ru : Int32} {c S : Nat} {D : Nat → Prop} {hp : px_H} {st : List Value} {f : Nat → Nat} (hS : S < 2 ^ 36) (hc : c < 512) (hm : hp[38 + n]? = some (4, m_O n th w h pn (nI c) fo le ru)) (hs : hp[43 + n]? = some (11, st)) (lst : st.length = 512) (rep : ∀ j, j < c → st[j]? = some (.long (lN (f j)))) (hb : ∀ j, j < c → f j < 2 ^ 36) (hL : pl_L c f D) : ∀ t a, a + t = c → (∀ j, j < a → f j < S) → px_Gx d 68 (2, [(3, .int (nI a)), (0, .ref (38 + n)), (1, .long (lN S))], [], hp) (fun o hp' => o = .inl none ∧ (∃ c', c' ≤ c + 1 ∧ pl_N n th w h pn fo le ru hp' c' (fun T => D T ∨ T = S)) ∧ ∀ a, a ≠ 38 + n → a ≠ 43 + n → hp'[a]? = hp[a]?) := by
  have key : ∀ a, a ≤ c → (∀ j, j < a → f j < S) → (∀ j, a ≤ j → j < c → S < f j) → px_Gx d 68 (53, [(4, .int (nI c)), (3, .int (nI a)), (0, .ref (38 + n)), (1, .long (lN S))], [], hp) (fun o hp' => o = .inl none ∧ (∃ c', c' ≤ c + 1 ∧ pl_N n th w h pn fo le ru hp' c' (fun T => D T ∨ T = S)) ∧ ∀ a, a ≠ 38 + n → a ≠ 43 + n → hp'[a]? = hp[a]?) := by
    intro a ha m1 m2
    obtain ⟨o, hp', g, e, st', i', b1, b2, b3, b4, b5, b6, b7, b8⟩ := m_adx (d := d) hc ha m1 m2 (c - a) c (by omega) (Nat.le_refl c) hp st hm hs lst rep (fun j h h' => absurd h (by omega))
    refine ⟨o, hp', g, e, ⟨c + 1, Nat.le_refl _, st', _, b4, b5, b6, b7, ?_, pl_L_ins hL b1 b2 b3⟩, b8⟩
    intro j hj
    rcases Nat.lt_trichotomy j i' with z | z | z
    · rw [pl_i1 z]
      exact hb j (by omega)
    · rw [z, pl_i2]
      exact hS
    · rw [pl_i3 z]
      exact hb (j - 1) (by omega)
  intro t
  induction t with
  | zero =>
    intro a h m1
    obtain rfl : a = c := by omega
    refine px_gx (fun _ K9 => px_a 2 (f' := (4, [(3, .int (nI a)), (0, .ref (38 + n)), (1, .long (lN S))], [.ref (38 + n), .int (nI a)], hp)) rfl K9) ?_
    refine px_gx (fun _ K9 => px_gf (38 + n) 80 4 8 (.int (nI a)) rfl rfl hm rfl K9) ?_
    show px_Gx _ _ (7, [(3, .int (nI a)), (0, .ref (38 + n)), (1, .long (lN S))], [.int (nI a), .int (nI a)], hp) _
    refine px_gx (fun _ K9 => px_b2 true 27 rfl rfl (decide_eq_true (Int32.le_refl _)) K9) ?_
    show px_Gx _ _ (27, [(3, .int (nI a)), (0, .ref (38 + n)), (1, .long (lN S))], [], hp) _
    refine px_gx (fun _ K9 => px_a 2 (f' := (29, [(3, .int (nI a)), (0, .ref (38 + n)), (1, .long (lN S))], [.ref (38 + n), .int (nI a)], hp)) rfl K9) ?_
    refine px_gx (fun _ K9 => px_gf (38 + n) 80 4 8 (.int (nI a)) rfl rfl hm rfl K9) ?_
    show px_Gx _ _ (32, [(3, .int (nI a)), (0, .ref (38 + n)), (1, .long (lN S))], [.int (nI a), .int (nI a)], hp) _
    refine px_gx (fun _ K9 => px_b2 true 47 rfl rfl (decide_eq_true (Int32.le_refl _)) K9) ?_
    show px_Gx _ _ (47, [(3, .int (nI a)), (0, .ref (38 + n)), (1, .long (lN S))], [], hp) _
    refine px_gx (fun _ K9 => px_a 1 (f' := (48, [(3, .int (nI a)), (0, .ref (38 + n)), (1, .long (lN S))], [.ref (38 + n)], hp)) rfl K9) ?_
    refine px_gx (fun _ K9 => px_gf (38 + n) 80 4 8 (.int (nI a)) rfl rfl hm rfl K9) ?_
    show px_Gx _ _ (51, [(3, .int (nI a)), (0, .ref (38 + n)), (1, .long (lN S))], [.int (nI a)], hp) _
    refine px_gx (fun _ K9 => px_a 1 (f' := (53, [(4, .int (nI a)), (3, .int (nI a)), (0, .ref (38 + n)), (1, .long (lN S))], [], hp)) rfl K9) ?_
    exact key a (Nat.le_refl a) m1 (fun j h h' => absurd h (by omega))
  | succ t ih =>
    intro a h m1
    by_cases h1 : S ≤ f a
    · by_cases h2 : f a = S
      · 
        refine px_gx (fun _ K9 => px_a 2 (f' := (4, [(3, .int (nI a)), (0, .ref (38 + n)), (1, .long (lN S))], [.ref (38 + n), .int (nI a)], hp)) rfl K9) ?_
        refine px_gx (fun _ K9 => px_gf (38 + n) 80 4 8 (.int (nI c)) rfl rfl hm rfl K9) ?_
        show px_Gx _ _ (7, [(3, .int (nI a)), (0, .ref (38 + n)), (1, .long (lN S))], [.int (nI c), .int (nI a)], hp) _
        refine px_gx (fun _ K9 => px_b2 false 27 rfl rfl (decide_eq_false (show ¬ nI c ≤ nI a by rw [Int32.le_iff_toInt_le, nI_toInt (by omega), nI_toInt (by omega)]; omega)) K9) ?_
        show px_Gx _ _ (10, [(3, .int (nI a)), (0, .ref (38 + n)), (1, .long (lN S))], [], hp) _
        refine px_gx (fun _ K9 => px_a 1 (f' := (11, [(3, .int (nI a)), (0, .ref (38 + n)), (1, .long (lN S))], [.ref (38 + n)], hp)) rfl K9) ?_
        refine px_gx (fun _ K9 => px_gf (38 + n) 23 4 9 (.ref (43 + n)) rfl rfl hm rfl K9) ?_
        show px_Gx _ _ (14, [(3, .int (nI a)), (0, .ref (38 + n)), (1, .long (lN S))], [.ref (43 + n)], hp) _
        refine px_gx (fun _ K9 => px_a 1 (f' := (15, [(3, .int (nI a)), (0, .ref (38 + n)), (1, .long (lN S))], [.int (nI a), .ref (43 + n)], hp)) rfl K9) ?_
        refine px_gx (fun _ K9 => px_al (43 + n) (.long (lN (f a))) rfl hs (Or.inr (Or.inl ⟨rfl, rfl⟩)) (nI_pos (by omega)) (by rw [nI_clamp (by omega)]; exact rep a (by omega)) K9) ?_
        show px_Gx _ _ (16, [(3, .int (nI a)), (0, .ref (38 + n)), (1, .long (lN S))], [.long (lN (f a))], hp) _
        refine px_gx (fun _ K9 => px_a 2 (f' := (18, [(3, .int (nI a)), (0, .ref (38 + n)), (1, .long (lN S))], [.int (lg_cmp (lN (f a)) (lN S))], hp)) rfl K9) ?_
        refine px_gx (fun _ K9 => px_b1 true 27 rfl rfl (decide_eq_true ((p_cmpge (hb a (by omega)) hS).mpr h1)) K9) ?_
        show px_Gx _ _ (27, [(3, .int (nI a)), (0, .ref (38 + n)), (1, .long (lN S))], [], hp) _
        refine px_gx (fun _ K9 => px_a 2 (f' := (29, [(3, .int (nI a)), (0, .ref (38 + n)), (1, .long (lN S))], [.ref (38 + n), .int (nI a)], hp)) rfl K9) ?_
        refine px_gx (fun _ K9 => px_gf (38 + n) 80 4 8 (.int (nI c)) rfl rfl hm rfl K9) ?_
        show px_Gx _ _ (32, [(3, .int (nI a)), (0, .ref (38 + n)), (1, .long (lN S))], [.int (nI c), .int (nI a)], hp) _
        refine px_gx (fun _ K9 => px_b2 false 47 rfl rfl (decide_eq_false (show ¬ nI c ≤ nI a by rw [Int32.le_iff_toInt_le, nI_toInt (by omega), nI_toInt (by omega)]; omega)) K9) ?_
        show px_Gx _ _ (35, [(3, .int (nI a)), (0, .ref (38 + n)), (1, .long (lN S))], [], hp) _
        refine px_gx (fun _ K9 => px_a 1 (f' := (36, [(3, .int (nI a)), (0, .ref (38 + n)), (1, .long (lN S))], [.ref (38 + n)], hp)) rfl K9) ?_
        refine px_gx (fun _ K9 => px_gf (38 + n) 23 4 9 (.ref (43 + n)) rfl rfl hm rfl K9) ?_
        show px_Gx _ _ (39, [(3, .int (nI a)), (0, .ref (38 + n)), (1, .long (lN S))], [.ref (43 + n)], hp) _
        refine px_gx (fun _ K9 => px_a 1 (f' := (40, [(3, .int (nI a)), (0, .ref (38 + n)), (1, .long (lN S))], [.int (nI a), .ref (43 + n)], hp)) rfl K9) ?_
        refine px_gx (fun _ K9 => px_al (43 + n) (.long (lN (f a))) rfl hs (Or.inr (Or.inl ⟨rfl, rfl⟩)) (nI_pos (by omega)) (by rw [nI_clamp (by omega)]; exact rep a (by omega)) K9) ?_
        show px_Gx _ _ (41, [(3, .int (nI a)), (0, .ref (38 + n)), (1, .long (lN S))], [.long (lN (f a))], hp) _
        refine px_gx (fun _ K9 => px_a 2 (f' := (43, [(3, .int (nI a)), (0, .ref (38 + n)), (1, .long (lN S))], [.int (lg_cmp (lN (f a)) (lN S))], hp)) rfl K9) ?_
        refine px_gx (fun _ K9 => px_b1 false 47 rfl rfl (decide_eq_false (not_not_intro (x_cmp0.mpr (by rw [h2])))) K9) ?_
        show px_Gx _ _ (46, [(3, .int (nI a)), (0, .ref (38 + n)), (1, .long (lN S))], [], hp) _
        exact ⟨_, _, px_e rfl rfl, rfl, ⟨c, by omega, pl_N_c ⟨st, f, hm, hs, lst, rep, hb, hL⟩ (fun T => ⟨Or.inl, fun z => z.elim id (fun e => (hL.2 T).mpr ⟨a, by omega, h2.trans e.symm⟩)⟩)⟩, fun b _ _ => rfl⟩
      · 
        refine px_gx (fun _ K9 => px_a 2 (f' := (4, [(3, .int (nI a)), (0, .ref (38 + n)), (1, .long (lN S))], [.ref (38 + n), .int (nI a)], hp)) rfl K9) ?_
        refine px_gx (fun _ K9 => px_gf (38 + n) 80 4 8 (.int (nI c)) rfl rfl hm rfl K9) ?_
        show px_Gx _ _ (7, [(3, .int (nI a)), (0, .ref (38 + n)), (1, .long (lN S))], [.int (nI c), .int (nI a)], hp) _
        refine px_gx (fun _ K9 => px_b2 false 27 rfl rfl (decide_eq_false (show ¬ nI c ≤ nI a by rw [Int32.le_iff_toInt_le, nI_toInt (by omega), nI_toInt (by omega)]; omega)) K9) ?_
        show px_Gx _ _ (10, [(3, .int (nI a)), (0, .ref (38 + n)), (1, .long (lN S))], [], hp) _
        refine px_gx (fun _ K9 => px_a 1 (f' := (11, [(3, .int (nI a)), (0, .ref (38 + n)), (1, .long (lN S))], [.ref (38 + n)], hp)) rfl K9) ?_
        refine px_gx (fun _ K9 => px_gf (38 + n) 23 4 9 (.ref (43 + n)) rfl rfl hm rfl K9) ?_
        show px_Gx _ _ (14, [(3, .int (nI a)), (0, .ref (38 + n)), (1, .long (lN S))], [.ref (43 + n)], hp) _
        refine px_gx (fun _ K9 => px_a 1 (f' := (15, [(3, .int (nI a)), (0, .ref (38 + n)), (1, .long (lN S))], [.int (nI a), .ref (43 + n)], hp)) rfl K9) ?_
        refine px_gx (fun _ K9 => px_al (43 + n) (.long (lN (f a))) rfl hs (Or.inr (Or.inl ⟨rfl, rfl⟩)) (nI_pos (by omega)) (by rw [nI_clamp (by omega)]; exact rep a (by omega)) K9) ?_
        show px_Gx _ _ (16, [(3, .int (nI a)), (0, .ref (38 + n)), (1, .long (lN S))], [.long (lN (f a))], hp) _
        refine px_gx (fun _ K9 => px_a 2 (f' := (18, [(3, .int (nI a)), (0, .ref (38 + n)), (1, .long (lN S))], [.int (lg_cmp (lN (f a)) (lN S))], hp)) rfl K9) ?_
        refine px_gx (fun _ K9 => px_b1 true 27 rfl rfl (decide_eq_true ((p_cmpge (hb a (by omega)) hS).mpr h1)) K9) ?_
        show px_Gx _ _ (27, [(3, .int (nI a)), (0, .ref (38 + n)), (1, .long (lN S))], [], hp) _
        refine px_gx (fun _ K9 => px_a 2 (f' := (29, [(3, .int (nI a)), (0, .ref (38 + n)), (1, .long (lN S))], [.ref (38 + n), .int (nI a)], hp)) rfl K9) ?_
        refine px_gx (fun _ K9 => px_gf (38 + n) 80 4 8 (.int (nI c)) rfl rfl hm rfl K9) ?_
        show px_Gx _ _ (32, [(3, .int (nI a)), (0, .ref (38 + n)), (1, .long (lN S))], [.int (nI c), .int (nI a)], hp) _
        refine px_gx (fun _ K9 => px_b2 false 47 rfl rfl (decide_eq_false (show ¬ nI c ≤ nI a by rw [Int32.le_iff_toInt_le, nI_toInt (by omega), nI_toInt (by omega)]; omega)) K9) ?_
        show px_Gx _ _ (35, [(3, .int (nI a)), (0, .ref (38 + n)), (1, .long (lN S))], [], hp) _
        refine px_gx (fun _ K9 => px_a 1 (f' := (36, [(3, .int (nI a)), (0, .ref (38 + n)), (1, .long (lN S))], [.ref (38 + n)], hp)) rfl K9) ?_
        refine px_gx (fun _ K9 => px_gf (38 + n) 23 4 9 (.ref (43 + n)) rfl rfl hm rfl K9) ?_
        show px_Gx _ _ (39, [(3, .int (nI a)), (0, .ref (38 + n)), (1, .long (lN S))], [.ref (43 + n)], hp) _
        refine px_gx (fun _ K9 => px_a 1 (f' := (40, [(3, .int (nI a)), (0, .ref (38 + n)), (1, .long (lN S))], [.int (nI a), .ref (43 + n)], hp)) rfl K9) ?_
        refine px_gx (fun _ K9 => px_al (43 + n) (.long (lN (f a))) rfl hs (Or.inr (Or.inl ⟨rfl, rfl⟩)) (nI_pos (by omega)) (by rw [nI_clamp (by omega)]; exact rep a (by omega)) K9) ?_
        show px_Gx _ _ (41, [(3, .int (nI a)), (0, .ref (38 + n)), (1, .long (lN S))], [.long (lN (f a))], hp) _
        refine px_gx (fun _ K9 => px_a 2 (f' := (43, [(3, .int (nI a)), (0, .ref (38 + n)), (1, .long (lN S))], [.int (lg_cmp (lN (f a)) (lN S))], hp)) rfl K9) ?_
        refine px_gx (fun _ K9 => px_b1 true 47 rfl rfl (decide_eq_true (fun z => h2 (p_inj (hb a (by omega)) hS (x_cmp0.mp z)))) K9) ?_
        show px_Gx _ _ (47, [(3, .int (nI a)), (0, .ref (38 + n)), (1, .long (lN S))], [], hp) _
        refine px_gx (fun _ K9 => px_a 1 (f' := (48, [(3, .int (nI a)), (0, .ref (38 + n)), (1, .long (lN S))], [.ref (38 + n)], hp)) rfl K9) ?_
        refine px_gx (fun _ K9 => px_gf (38 + n) 80 4 8 (.int (nI c)) rfl rfl hm rfl K9) ?_
        show px_Gx _ _ (51, [(3, .int (nI a)), (0, .ref (38 + n)), (1, .long (lN S))], [.int (nI c)], hp) _
        refine px_gx (fun _ K9 => px_a 1 (f' := (53, [(4, .int (nI c)), (3, .int (nI a)), (0, .ref (38 + n)), (1, .long (lN S))], [], hp)) rfl K9) ?_
        refine key a (by omega) m1 (fun j h3 h4 => ?_)
        by_cases e : j = a
        · subst e
          omega
        · have := hL.1 a j (by omega) h4
          omega
    · 
      refine px_gx (fun _ K9 => px_a 2 (f' := (4, [(3, .int (nI a)), (0, .ref (38 + n)), (1, .long (lN S))], [.ref (38 + n), .int (nI a)], hp)) rfl K9) ?_
      refine px_gx (fun _ K9 => px_gf (38 + n) 80 4 8 (.int (nI c)) rfl rfl hm rfl K9) ?_
      show px_Gx _ _ (7, [(3, .int (nI a)), (0, .ref (38 + n)), (1, .long (lN S))], [.int (nI c), .int (nI a)], hp) _
      refine px_gx (fun _ K9 => px_b2 false 27 rfl rfl (decide_eq_false (show ¬ nI c ≤ nI a by rw [Int32.le_iff_toInt_le, nI_toInt (by omega), nI_toInt (by omega)]; omega)) K9) ?_
      show px_Gx _ _ (10, [(3, .int (nI a)), (0, .ref (38 + n)), (1, .long (lN S))], [], hp) _
      refine px_gx (fun _ K9 => px_a 1 (f' := (11, [(3, .int (nI a)), (0, .ref (38 + n)), (1, .long (lN S))], [.ref (38 + n)], hp)) rfl K9) ?_
      refine px_gx (fun _ K9 => px_gf (38 + n) 23 4 9 (.ref (43 + n)) rfl rfl hm rfl K9) ?_
      show px_Gx _ _ (14, [(3, .int (nI a)), (0, .ref (38 + n)), (1, .long (lN S))], [.ref (43 + n)], hp) _
      refine px_gx (fun _ K9 => px_a 1 (f' := (15, [(3, .int (nI a)), (0, .ref (38 + n)), (1, .long (lN S))], [.int (nI a), .ref (43 + n)], hp)) rfl K9) ?_
      refine px_gx (fun _ K9 => px_al (43 + n) (.long (lN (f a))) rfl hs (Or.inr (Or.inl ⟨rfl, rfl⟩)) (nI_pos (by omega)) (by rw [nI_clamp (by omega)]; exact rep a (by omega)) K9) ?_
      show px_Gx _ _ (16, [(3, .int (nI a)), (0, .ref (38 + n)), (1, .long (lN S))], [.long (lN (f a))], hp) _
      refine px_gx (fun _ K9 => px_a 2 (f' := (18, [(3, .int (nI a)), (0, .ref (38 + n)), (1, .long (lN S))], [.int (lg_cmp (lN (f a)) (lN S))], hp)) rfl K9) ?_
      refine px_gx (fun _ K9 => px_b1 false 27 rfl rfl (decide_eq_false (fun z => h1 ((p_cmpge (hb a (by omega)) hS).mp z))) K9) ?_
      show px_Gx _ _ (21, [(3, .int (nI a)), (0, .ref (38 + n)), (1, .long (lN S))], [], hp) _
      refine px_gx (fun _ K9 => px_a 2 (f' := (2, [(3, .int ((nI a) + 1)), (0, .ref (38 + n)), (1, .long (lN S))], [], hp)) rfl K9) ?_
      rw [p_s512 a (by omega)]
      exact ih (a + 1) (by omega) (fun j hj => by
        by_cases e : j = a
        · subst e
          omega
        · exact m1 j (by omega))
theorem m_addX {d n : Nat} {th w h pn fo le ru : Int32} {c S : Nat} {D : Nat → Prop} {hp : px_H} (hS : S < 2 ^ 36) (hc : c < 512) (G : pl_N n th w h pn fo le ru hp c D) : px_Gx d 68 (0, [(0, .ref (38 + n)), (1, .long (lN S))], [], hp) (fun o hp' => o = .inl none ∧ (∃ c', c' ≤ c + 1 ∧ pl_N n th w h pn fo le ru hp' c' (fun T => D T ∨ T = S)) ∧ ∀ a, a ≠ 38 + n → a ≠ 43 + n → hp'[a]? = hp[a]?) := by
  obtain ⟨st, f, hm, hs, lst, rep, hb, hL⟩ := G
  obtain ⟨o, hp', g, e⟩ := m_ad1 (d := d) hS hc hm hs lst rep hb hL c 0 (by omega) (fun j h => absurd h (Nat.not_lt_zero j))
  exact ⟨o, hp', px_a 2 (f' := (2, [(3, .int (nI 0)), (0, .ref (38 + n)), (1, .long (lN S))], [], hp)) rfl g, e⟩
