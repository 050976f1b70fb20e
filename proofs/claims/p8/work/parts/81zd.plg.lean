/-! sorted rows without twins -/
def pl_L (c : Nat) (f : Nat → Nat) (D : Nat → Prop) : Prop := (∀ i j, i < j → j < c → f i < f j) ∧ ∀ S, D S ↔ ∃ i, i < c ∧ f i = S
def pl_ins (f : Nat → Nat) (i S : Nat) : Nat → Nat := fun j => if j < i then f j else if j = i then S else f (j - 1)
theorem pl_i1 {f : Nat → Nat} {i S j : Nat} (h : j < i) : pl_ins f i S j = f j := if_pos h
theorem pl_i2 {f : Nat → Nat} {i S : Nat} : pl_ins f i S i = S := by
  unfold pl_ins
  rw [if_neg (Nat.lt_irrefl i), if_pos rfl]
theorem pl_i3 {f : Nat → Nat} {i S j : Nat} (h : i < j) : pl_ins f i S j = f (j - 1) := by
  unfold pl_ins
  rw [if_neg (by omega), if_neg (by omega)]
theorem pl_L_ins {c : Nat} {f : Nat → Nat} {D : Nat → Prop} {i S : Nat} (h : pl_L c f D) (hi : i ≤ c) (h1 : ∀ j, j < i → f j < S) (h2 : ∀ j, i ≤ j → j < c → S < f j) : pl_L (c + 1) (pl_ins f i S) (fun T => D T ∨ T = S) := by
  obtain ⟨m, e⟩ := h
  refine ⟨fun a b hab hb => ?_, fun T => ?_⟩
  · rcases Nat.lt_trichotomy a i with q | q | q
    · rw [pl_i1 q]
      rcases Nat.lt_trichotomy b i with z | z | z
      · rw [pl_i1 z]
        exact m a b hab (by omega)
      · rw [z, pl_i2]
        exact h1 a q
      · rw [pl_i3 z]
        by_cases y : a = b - 1
        · omega
        · exact m a (b - 1) (by omega) (by omega)
    · rw [q, pl_i2, pl_i3 (by omega)]
      exact h2 (b - 1) (by omega) (by omega)
    · rw [pl_i3 q, pl_i3 (by omega)]
      exact m (a - 1) (b - 1) (by omega) (by omega)
  · show (D T ∨ T = S) ↔ _
    rw [e T]
    constructor
    · rintro (⟨j, hj, rfl⟩ | rfl)
      · by_cases z : j < i
        · exact ⟨j, by omega, pl_i1 z⟩
        · exact ⟨j + 1, by omega, by rw [pl_i3 (by omega)]; rfl⟩
      · exact ⟨i, by omega, pl_i2⟩
    · rintro ⟨j, hj, rfl⟩
      rcases Nat.lt_trichotomy j i with z | z | z
      · exact Or.inl ⟨j, by omega, (pl_i1 z).symm⟩
      · subst z
        exact Or.inr pl_i2
      · exact Or.inl ⟨j - 1, by omega, (pl_i3 z).symm⟩
theorem pl_L_c {c : Nat} {f : Nat → Nat} {D D' : Nat → Prop} (h : pl_L c f D) (e : ∀ S, D S ↔ D' S) : pl_L c f D' := ⟨h.1, fun S => (e S).symm.trans (h.2 S)⟩
theorem pl_L_e {c c' : Nat} {f f' : Nat → Nat} {D : Nat → Prop} (h : pl_L c f D) (h' : pl_L c' f' D) : ∀ j, j < c → j < c' → f j = f' j := by
  intro j
  induction j using Nat.strongRecOn with
  | ind j ih =>
    intro h1 h2
    have a : f' j ≤ f j := by
      obtain ⟨m, hm, e⟩ := (h'.2 _).mp ((h.2 _).mpr ⟨j, h1, rfl⟩)
      by_cases z : m < j
      · have := ih m z (by omega) (by omega)
        have := h.1 m j z h1
        omega
      · by_cases y : m = j
        · rw [← e, y]; exact Nat.le_refl _
        · have := h'.1 j m (by omega) hm
          omega
    have b : f j ≤ f' j := by
      obtain ⟨m, hm, e⟩ := (h.2 _).mp ((h'.2 _).mpr ⟨j, h2, rfl⟩)
      by_cases z : m < j
      · have := ih m z (by omega) (by omega)
        have := h'.1 m j z h2
        omega
      · by_cases y : m = j
        · rw [← e, y]; exact Nat.le_refl _
        · have := h.1 j m (by omega) hm
          omega
    omega
theorem pl_L_u {c c' : Nat} {f f' : Nat → Nat} {D : Nat → Prop} (h : pl_L c f D) (h' : pl_L c' f' D) : c = c' ∧ ∀ j, j < c → f j = f' j := by
  have e : c = c' := by
    rcases Nat.lt_trichotomy c c' with z | z | z
    · obtain ⟨m, hm, e⟩ := (h.2 _).mp ((h'.2 _).mpr ⟨c, z, rfl⟩)
      have := pl_L_e h h' m hm (by omega)
      have := h'.1 m c hm z
      omega
    · exact z
    · obtain ⟨m, hm, e⟩ := (h'.2 _).mp ((h.2 _).mpr ⟨c', z, rfl⟩)
      have := pl_L_e h h' m (by omega) hm
      have := h.1 m c' hm z
      omega
  subst e
  exact ⟨rfl, fun j hj => pl_L_e h h' j hj hj⟩
/-! longs that are naturals -/
theorem p_lt {a : Nat} (h : a < 2 ^ 36) : (lN a).toInt = a := by
  show (lN a).toBitVec.toInt = a
  have e := wb_tn (n := a) (by omega)
  rw [BitVec.toInt_eq_toNat_of_lt (by rw [e]; omega), e]
theorem p_cmp {x y : Int64} : lg_cmp x y ≤ 0 ↔ x ≤ y := by
  unfold lg_cmp
  rw [Int64.le_iff_toInt_le]
  by_cases h1 : x > y
  · rw [if_pos h1]
    have h1' : y < x := h1
    rw [Int64.lt_iff_toInt_lt] at h1'
    exact ⟨fun z => absurd z (by decide), fun z => by omega⟩
  · rw [if_neg h1]
    have h1' : ¬ y < x := h1
    rw [Int64.lt_iff_toInt_lt] at h1'
    refine ⟨fun _ => by omega, fun _ => ?_⟩
    split <;> decide
theorem p_cmpN {a b : Nat} (ha : a < 2 ^ 36) (hb : b < 2 ^ 36) : lg_cmp (lN a) (lN b) ≤ 0 ↔ a ≤ b := by
  rw [p_cmp, Int64.le_iff_toInt_le, p_lt ha, p_lt hb]
  omega
theorem p_bt {S : Nat} (h : S < 2 ^ 36) (t : Nat) : x_bt (lN S) t = S.testBit t := by
  unfold x_bt
  rw [wb_tb, BitVec.getLsbD_ofNat]
  by_cases z : t < 64
  · rw [decide_eq_true z, Bool.true_and]
  · rw [decide_eq_false z, Bool.false_and, Nat.testBit_lt_two_pow (Nat.lt_of_lt_of_le h (Nat.pow_le_pow_right (n := 2) (by decide) (show 36 ≤ t by omega)))]
def pl_sub (ss : Int64) (S : Nat) : Prop := ∀ t, S.testBit t = true → x_bt ss t = true
theorem p_sub {S : Nat} {ss : Int64} (h : S < 2 ^ 36) : lN S &&& (ss ^^^ (-1)) = 0 ↔ pl_sub ss S := by
  have e : ∀ t, t < 64 → x_bt (lN S &&& (ss ^^^ (-1))) t = (S.testBit t && !x_bt ss t) := fun t ht => by
    rw [← p_bt h t]
    unfold x_bt
    rw [Int64.toBitVec_and, BitVec.getLsbD_and, Int64.toBitVec_xor, BitVec.getLsbD_xor, show (-1 : Int64).toBitVec = BitVec.allOnes 64 from rfl, BitVec.getLsbD_allOnes, decide_eq_true ht, Bool.xor_true]
  constructor
  · intro z t ht
    by_cases h64 : t < 64
    · have := e t h64
      rw [z, ht, Bool.true_and] at this
      cases q : x_bt ss t
      · rw [q] at this
        have w : x_bt 0 t = false := x_bt0 t
        rw [w] at this
        cases this
      · rfl
    · rw [Nat.testBit_lt_two_pow (Nat.lt_of_lt_of_le h (Nat.pow_le_pow_right (n := 2) (by decide) (show 36 ≤ t by omega)))] at ht
      cases ht
  · intro z
    apply Int64.toBitVec_inj.mp
    apply BitVec.eq_of_getLsbD_eq
    intro t ht
    have := e t ht
    show x_bt _ t = x_bt 0 t
    rw [this, x_bt0]
    cases q : S.testBit t
    · rfl
    · rw [z t q]
      rfl
theorem p_free : ∀ W, W < 7 → ∀ c, c < 5 → (nI W - nI c < 0 ↔ W < c) ∧ (c ≤ W → nI W - nI c = nI (W - c)) := by decide +kernel
/-- a form's cache -/
def pl_G (k W V N : Nat) (wc : Int32) (ss : Int64) (hp : px_H) (c : Nat) (D : Nat → Prop) : Prop := ∃ (st : List Value) (f : Nat → Nat), hp[10 + 3 * k]? = some (1, [.int (nI W), .int (nI V), .ref (11 + 3 * k), .ref (12 + 3 * k), .int (nI N), .int wc, .int (nI c), .long ss]) ∧ hp[12 + 3 * k]? = some (11, st) ∧ st.length = 160 ∧ (∀ j, j < c → st[j]? = some (.long (lN (f j)))) ∧ (∀ j, j < c → f j < 2 ^ 36) ∧ pl_L c f D
set_option maxRecDepth 20000 in
theorem c_insx {d k : Nat} {W V N : Nat} {wc : Int32} {ss : Int64} {c S : Nat} {f : Nat → Nat} {hp : px_H} {st : List Value} {i : Nat} (hc : c < 160) (hi : i ≤ c) (m1 : ∀ j, j < i → f j < S) (m2 : ∀ j, i ≤ j → j < c → S < f j) (hf : hp[10 + 3 * k]? = some (1, [.int (nI W), .int (nI V), .ref (11 + 3 * k), .ref (12 + 3 * k), .int (nI N), .int wc, .int (nI c), .long ss])) (hs : hp[12 + 3 * k]? = some (11, st)) (lst : st.length = 160) (r1 : ∀ j, j < i → st[j]? = some (.long (lN (f j)))) (r2 : ∀ j, i < j → j < c + 1 → st[j]? = some (.long (lN (f (j - 1))))) : px_Gx d 24 (55, [(3, .int (nI i)), (0, .ref (10 + 3 * k)), (1, .long (lN S))], [], hp) (fun o hp' => o = .inl none ∧ ∃ (st' : List Value) (i : Nat), i ≤ c ∧ (∀ j, j < i → f j < S) ∧ (∀ j, i ≤ j → j < c → S < f j) ∧ hp'[10 + 3 * k]? = some (1, [.int (nI W), .int (nI V), .ref (11 + 3 * k), .ref (12 + 3 * k), .int (nI N), .int wc, .int (nI (c + 1)), .long ss]) ∧ hp'[12 + 3 * k]? = some (11, st') ∧ st'.length = 160 ∧ (∀ j, j < c + 1 → st'[j]? = some (.long (lN (pl_ins f i S j)))) ∧ ∀ a, a ≠ 10 + 3 * k → a ≠ 12 + 3 * k → hp'[a]? = hp[a]?) := by
  refine px_gx (fun _ K9 => px_a 1 (f' := (56, [(3, .int (nI i)), (0, .ref (10 + 3 * k)), (1, .long (lN S))], [.ref (10 + 3 * k)], hp)) rfl K9) ?_
  refine px_gx (fun _ K9 => px_gf (10 + 3 * k) 22 1 3 (.ref (12 + 3 * k)) rfl rfl hf rfl K9) ?_
  show px_Gx _ _ (59, [(3, .int (nI i)), (0, .ref (10 + 3 * k)), (1, .long (lN S))], [.ref (12 + 3 * k)], hp) _
  refine px_gx (fun _ K9 => px_a 2 (f' := (61, [(3, .int (nI i)), (0, .ref (10 + 3 * k)), (1, .long (lN S))], [.long (lN S), .int (nI i), .ref (12 + 3 * k)], hp)) rfl K9) ?_
  refine px_gx (fun _ K9 => px_las (12 + 3 * k) rfl hs (by omega) (nI_pos (by omega)) (by rw [nI_clamp (by omega)]; omega) K9) ?_
  have hf1__10___3___k_ : (hp.set (12 + 3 * k) (11, (st.set (nI i).toNatClampNeg (.long (lN S)))))[(10 + 3 * k)]? = some (1, [.int (nI W), .int (nI V), .ref (11 + 3 * k), .ref (12 + 3 * k), .int (nI N), .int wc, .int (nI c), .long ss]) := px_ne hf (by omega)
  have hf1__12___3___k_ : (hp.set (12 + 3 * k) (11, (st.set (nI i).toNatClampNeg (.long (lN S)))))[(12 + 3 * k)]? = some (11, (st.set (nI i).toNatClampNeg (.long (lN S)))) := px_self hs
  show px_Gx _ _ (62, [(3, .int (nI i)), (0, .ref (10 + 3 * k)), (1, .long (lN S))], [], (hp.set (12 + 3 * k) (11, (st.set (nI i).toNatClampNeg (.long (lN S)))))) _
  refine px_gx (fun _ K9 => px_a 2 (f' := (64, [(3, .int (nI i)), (0, .ref (10 + 3 * k)), (1, .long (lN S))], [.ref (10 + 3 * k), .ref (10 + 3 * k)], (hp.set (12 + 3 * k) (11, (st.set (nI i).toNatClampNeg (.long (lN S))))))) rfl K9) ?_
  refine px_gx (fun _ K9 => px_gf (10 + 3 * k) 43 1 6 (.int (nI c)) rfl rfl hf1__10___3___k_ rfl K9) ?_
  show px_Gx _ _ (67, [(3, .int (nI i)), (0, .ref (10 + 3 * k)), (1, .long (lN S))], [.int (nI c), .ref (10 + 3 * k)], (hp.set (12 + 3 * k) (11, (st.set (nI i).toNatClampNeg (.long (lN S)))))) _
  refine px_gx (fun _ K9 => px_a 2 (f' := (69, [(3, .int (nI i)), (0, .ref (10 + 3 * k)), (1, .long (lN S))], [.int ((nI c) + 1), .ref (10 + 3 * k)], (hp.set (12 + 3 * k) (11, (st.set (nI i).toNatClampNeg (.long (lN S))))))) rfl K9) ?_
  refine px_gx (fun _ K9 => px_pf (10 + 3 * k) 43 1 6 rfl rfl hf1__10___3___k_ (by omega) (by simp) rfl rfl (by decide) K9) ?_
  have hf2__10___3___k_ : (((hp.set (12 + 3 * k) (11, (st.set (nI i).toNatClampNeg (.long (lN S)))))).set (10 + 3 * k) (1, [.int (nI W), .int (nI V), .ref (11 + 3 * k), .ref (12 + 3 * k), .int (nI N), .int wc, .int ((nI c) + 1), .long ss]))[(10 + 3 * k)]? = some (1, [.int (nI W), .int (nI V), .ref (11 + 3 * k), .ref (12 + 3 * k), .int (nI N), .int wc, .int ((nI c) + 1), .long ss]) := px_self hf1__10___3___k_
  have hf2__12___3___k_ : (((hp.set (12 + 3 * k) (11, (st.set (nI i).toNatClampNeg (.long (lN S)))))).set (10 + 3 * k) (1, [.int (nI W), .int (nI V), .ref (11 + 3 * k), .ref (12 + 3 * k), .int (nI N), .int wc, .int ((nI c) + 1), .long ss]))[(12 + 3 * k)]? = some (11, (st.set (nI i).toNatClampNeg (.long (lN S)))) := px_ne hf1__12___3___k_ (by omega)
  show px_Gx _ _ (72, [(3, .int (nI i)), (0, .ref (10 + 3 * k)), (1, .long (lN S))], [], (((hp.set (12 + 3 * k) (11, (st.set (nI i).toNatClampNeg (.long (lN S)))))).set (10 + 3 * k) (1, [.int (nI W), .int (nI V), .ref (11 + 3 * k), .ref (12 + 3 * k), .int (nI N), .int wc, .int ((nI c) + 1), .long ss]))) _
  refine ⟨_, _, px_e rfl rfl, rfl, _, i, hi, m1, m2, ?_, hf2__12___3___k_, by rw [List.length_set]; exact lst, ?_, ?_⟩
  · rw [← p_s16 c (by omega)]
    exact hf2__10___3___k_
  · intro j hj
    rw [nI_clamp (by omega)]
    rcases Nat.lt_trichotomy j i with z | z | z
    · rw [List.getElem?_set_ne (by omega), pl_i1 z]
      exact r1 j z
    · rw [z, List.getElem?_set_self (by omega), pl_i2]
    · rw [List.getElem?_set_ne (by omega), pl_i3 z]
      exact r2 j z hj
  · intro a h1 h2
    rw [List.getElem?_set_ne (Ne.symm h1), List.getElem?_set_ne (Ne.symm h2)]
set_option maxRecDepth 20000 in
theorem c_insl {d k : Nat} {W V N : Nat} {wc : Int32} {ss : Int64} {c S : Nat} {f : Nat → Nat} (hS : S < 2 ^ 36) (hc : c < 160) (hb : ∀ j, j < c → f j < 2 ^ 36) (hne : ∀ j, j < c → f j ≠ S) (mono : ∀ i j, i < j → j < c → f i < f j) : ∀ i, i ≤ c → ∀ (hp : px_H) (st : List Value) (hf : hp[10 + 3 * k]? = some (1, [.int (nI W), .int (nI V), .ref (11 + 3 * k), .ref (12 + 3 * k), .int (nI N), .int wc, .int (nI c), .long ss])) (hs : hp[12 + 3 * k]? = some (11, st)) (lst : st.length = 160) (r1 : ∀ j, j < i → st[j]? = some (.long (lN (f j)))) (r2 : ∀ j, i < j → j < c + 1 → st[j]? = some (.long (lN (f (j - 1))))) (m2 : ∀ j, i ≤ j → j < c → S < f j), px_Gx d 24 (18, [(3, .int (nI i)), (0, .ref (10 + 3 * k)), (1, .long (lN S))], [], hp) (fun o hp' => o = .inl none ∧ ∃ (st' : List Value) (i : Nat), i ≤ c ∧ (∀ j, j < i → f j < S) ∧ (∀ j, i ≤ j → j < c → S < f j) ∧ hp'[10 + 3 * k]? = some (1, [.int (nI W), .int (nI V), .ref (11 + 3 * k), .ref (12 + 3 * k), .int (nI N), .int wc, .int (nI (c + 1)), .long ss]) ∧ hp'[12 + 3 * k]? = some (11, st') ∧ st'.length = 160 ∧ (∀ j, j < c + 1 → st'[j]? = some (.long (lN (pl_ins f i S j)))) ∧ ∀ a, a ≠ 10 + 3 * k → a ≠ 12 + 3 * k → hp'[a]? = hp[a]?) := by
  intro i
  induction i with
  | zero =>
    intro hi hp st hf hs lst r1 r2 m2
    refine px_gx (fun _ K9 => px_a 1 (f' := (19, [(3, .int (nI 0)), (0, .ref (10 + 3 * k)), (1, .long (lN S))], [.int (nI 0)], hp)) rfl K9) ?_
    refine px_gx (fun _ K9 => px_b1 true 55 rfl rfl (decide_eq_true (show nI 0 ≤ 0 from by decide)) K9) ?_
    show px_Gx _ _ (55, [(3, .int (nI 0)), (0, .ref (10 + 3 * k)), (1, .long (lN S))], [], hp) _
    exact c_insx hc hi (fun j h => absurd h (Nat.not_lt_zero j)) m2 hf hs lst r1 r2
  | succ i ih =>
    intro hi hp st hf hs lst r1 r2 m2
    by_cases h1 : f i ≤ S
    · 
      refine px_gx (fun _ K9 => px_a 1 (f' := (19, [(3, .int (nI (i + 1))), (0, .ref (10 + 3 * k)), (1, .long (lN S))], [.int (nI (i + 1))], hp)) rfl K9) ?_
      refine px_gx (fun _ K9 => px_b1 false 55 rfl rfl (decide_eq_false (show ¬ nI (i + 1) ≤ 0 by rw [Int32.le_iff_toInt_le, nI_toInt (by omega)]; show ¬ ((i + 1 : Nat) : Int) ≤ 0; omega)) K9) ?_
      show px_Gx _ _ (22, [(3, .int (nI (i + 1))), (0, .ref (10 + 3 * k)), (1, .long (lN S))], [], hp) _
      refine px_gx (fun _ K9 => px_a 1 (f' := (23, [(3, .int (nI (i + 1))), (0, .ref (10 + 3 * k)), (1, .long (lN S))], [.ref (10 + 3 * k)], hp)) rfl K9) ?_
      refine px_gx (fun _ K9 => px_gf (10 + 3 * k) 22 1 3 (.ref (12 + 3 * k)) rfl rfl hf rfl K9) ?_
      show px_Gx _ _ (26, [(3, .int (nI (i + 1))), (0, .ref (10 + 3 * k)), (1, .long (lN S))], [.ref (12 + 3 * k)], hp) _
      refine px_gx (fun _ K9 => px_a 3 (f' := (29, [(3, .int (nI (i + 1))), (0, .ref (10 + 3 * k)), (1, .long (lN S))], [.int ((nI (i + 1)) - 1), .ref (12 + 3 * k)], hp)) rfl K9) ?_
      refine px_gx (fun _ K9 => px_al (12 + 3 * k) (.long (lN (f i))) rfl hs (Or.inr (Or.inl ⟨rfl, rfl⟩)) (by rw [nI_pred]; exact nI_pos (by omega)) (by rw [nI_pred, nI_clamp (by omega)]; exact r1 i (by omega)) K9) ?_
      show px_Gx _ _ (30, [(3, .int (nI (i + 1))), (0, .ref (10 + 3 * k)), (1, .long (lN S))], [.long (lN (f i))], hp) _
      refine px_gx (fun _ K9 => px_a 2 (f' := (32, [(3, .int (nI (i + 1))), (0, .ref (10 + 3 * k)), (1, .long (lN S))], [.int (lg_cmp (lN (f i)) (lN S))], hp)) rfl K9) ?_
      refine px_gx (fun _ K9 => px_b1 true 55 rfl rfl (decide_eq_true ((p_cmpN (hb i (by omega)) hS).mpr h1)) K9) ?_
      show px_Gx _ _ (55, [(3, .int (nI (i + 1))), (0, .ref (10 + 3 * k)), (1, .long (lN S))], [], hp) _
      refine c_insx hc hi (fun j h => ?_) m2 hf hs lst r1 r2
      have q := hne j (by omega)
      by_cases e : j = i
      · subst e
        omega
      · have := mono j i (by omega) (by omega)
        omega
    · 
      refine px_gx (fun _ K9 => px_a 1 (f' := (19, [(3, .int (nI (i + 1))), (0, .ref (10 + 3 * k)), (1, .long (lN S))], [.int (nI (i + 1))], hp)) rfl K9) ?_
      refine px_gx (fun _ K9 => px_b1 false 55 rfl rfl (decide_eq_false (show ¬ nI (i + 1) ≤ 0 by rw [Int32.le_iff_toInt_le, nI_toInt (by omega)]; show ¬ ((i + 1 : Nat) : Int) ≤ 0; omega)) K9) ?_
      show px_Gx _ _ (22, [(3, .int (nI (i + 1))), (0, .ref (10 + 3 * k)), (1, .long (lN S))], [], hp) _
      refine px_gx (fun _ K9 => px_a 1 (f' := (23, [(3, .int (nI (i + 1))), (0, .ref (10 + 3 * k)), (1, .long (lN S))], [.ref (10 + 3 * k)], hp)) rfl K9) ?_
      refine px_gx (fun _ K9 => px_gf (10 + 3 * k) 22 1 3 (.ref (12 + 3 * k)) rfl rfl hf rfl K9) ?_
      show px_Gx _ _ (26, [(3, .int (nI (i + 1))), (0, .ref (10 + 3 * k)), (1, .long (lN S))], [.ref (12 + 3 * k)], hp) _
      refine px_gx (fun _ K9 => px_a 3 (f' := (29, [(3, .int (nI (i + 1))), (0, .ref (10 + 3 * k)), (1, .long (lN S))], [.int ((nI (i + 1)) - 1), .ref (12 + 3 * k)], hp)) rfl K9) ?_
      refine px_gx (fun _ K9 => px_al (12 + 3 * k) (.long (lN (f i))) rfl hs (Or.inr (Or.inl ⟨rfl, rfl⟩)) (by rw [nI_pred]; exact nI_pos (by omega)) (by rw [nI_pred, nI_clamp (by omega)]; exact r1 i (by omega)) K9) ?_
      show px_Gx _ _ (30, [(3, .int (nI (i + 1))), (0, .ref (10 + 3 * k)), (1, .long (lN S))], [.long (lN (f i))], hp) _
      refine px_gx (fun _ K9 => px_a 2 (f' := (32, [(3, .int (nI (i + 1))), (0, .ref (10 + 3 * k)), (1, .long (lN S))], [.int (lg_cmp (lN (f i)) (lN S))], hp)) rfl K9) ?_
      refine px_gx (fun _ K9 => px_b1 false 55 rfl rfl (decide_eq_false (fun z => h1 ((p_cmpN (hb i (by omega)) hS).mp z))) K9) ?_
      show px_Gx _ _ (35, [(3, .int (nI (i + 1))), (0, .ref (10 + 3 * k)), (1, .long (lN S))], [], hp) _
      refine px_gx (fun _ K9 => px_a 1 (f' := (36, [(3, .int (nI (i + 1))), (0, .ref (10 + 3 * k)), (1, .long (lN S))], [.ref (10 + 3 * k)], hp)) rfl K9) ?_
      refine px_gx (fun _ K9 => px_gf (10 + 3 * k) 22 1 3 (.ref (12 + 3 * k)) rfl rfl hf rfl K9) ?_
      show px_Gx _ _ (39, [(3, .int (nI (i + 1))), (0, .ref (10 + 3 * k)), (1, .long (lN S))], [.ref (12 + 3 * k)], hp) _
      refine px_gx (fun _ K9 => px_a 2 (f' := (41, [(3, .int (nI (i + 1))), (0, .ref (10 + 3 * k)), (1, .long (lN S))], [.ref (10 + 3 * k), .int (nI (i + 1)), .ref (12 + 3 * k)], hp)) rfl K9) ?_
      refine px_gx (fun _ K9 => px_gf (10 + 3 * k) 22 1 3 (.ref (12 + 3 * k)) rfl rfl hf rfl K9) ?_
      show px_Gx _ _ (44, [(3, .int (nI (i + 1))), (0, .ref (10 + 3 * k)), (1, .long (lN S))], [.ref (12 + 3 * k), .int (nI (i + 1)), .ref (12 + 3 * k)], hp) _
      refine px_gx (fun _ K9 => px_a 3 (f' := (47, [(3, .int (nI (i + 1))), (0, .ref (10 + 3 * k)), (1, .long (lN S))], [.int ((nI (i + 1)) - 1), .ref (12 + 3 * k), .int (nI (i + 1)), .ref (12 + 3 * k)], hp)) rfl K9) ?_
      refine px_gx (fun _ K9 => px_al (12 + 3 * k) (.long (lN (f i))) rfl hs (Or.inr (Or.inl ⟨rfl, rfl⟩)) (by rw [nI_pred]; exact nI_pos (by omega)) (by rw [nI_pred, nI_clamp (by omega)]; exact r1 i (by omega)) K9) ?_
      show px_Gx _ _ (48, [(3, .int (nI (i + 1))), (0, .ref (10 + 3 * k)), (1, .long (lN S))], [.long (lN (f i)), .int (nI (i + 1)), .ref (12 + 3 * k)], hp) _
      refine px_gx (fun _ K9 => px_las (12 + 3 * k) rfl hs (by omega) (nI_pos (by omega)) (by rw [nI_clamp (by omega)]; omega) K9) ?_
      have hf1__10___3___k_ : (hp.set (12 + 3 * k) (11, (st.set (nI (i + 1)).toNatClampNeg (.long (lN (f i))))))[(10 + 3 * k)]? = some (1, [.int (nI W), .int (nI V), .ref (11 + 3 * k), .ref (12 + 3 * k), .int (nI N), .int wc, .int (nI c), .long ss]) := px_ne hf (by omega)
      have hf1__12___3___k_ : (hp.set (12 + 3 * k) (11, (st.set (nI (i + 1)).toNatClampNeg (.long (lN (f i))))))[(12 + 3 * k)]? = some (11, (st.set (nI (i + 1)).toNatClampNeg (.long (lN (f i))))) := px_self hs
      show px_Gx _ _ (49, [(3, .int (nI (i + 1))), (0, .ref (10 + 3 * k)), (1, .long (lN S))], [], (hp.set (12 + 3 * k) (11, (st.set (nI (i + 1)).toNatClampNeg (.long (lN (f i))))))) _
      refine px_gx (fun _ K9 => px_a 2 (f' := (18, [(3, .int ((nI (i + 1)) + (-1))), (0, .ref (10 + 3 * k)), (1, .long (lN S))], [], (hp.set (12 + 3 * k) (11, (st.set (nI (i + 1)).toNatClampNeg (.long (lN (f i)))))))) rfl K9) ?_
      rw [pk_m1]
      obtain ⟨o, hp', g, e, st', i', b1, b2, b3, b4, b5, b6, b7, b8⟩ := ih (by omega) _ _ hf1__10___3___k_ hf1__12___3___k_ (by rw [List.length_set]; exact lst) (fun j h => by rw [nI_clamp (by omega), List.getElem?_set_ne (by omega)]; exact r1 j (by omega)) (fun j h h' => by
        rw [nI_clamp (by omega)]
        by_cases e : j = i + 1
        · rw [e, List.getElem?_set_self (by omega)]
          rfl
        · rw [List.getElem?_set_ne (by omega)]
          exact r2 j (by omega) h') (fun j h h' => by
        by_cases e : j = i
        · subst e
          omega
        · exact m2 j (by omega) h')
      exact ⟨o, hp', g, e, st', i', b1, b2, b3, b4, b5, b6, b7, fun a h1 h2 => (b8 a h1 h2).trans (List.getElem?_set_ne (Ne.symm h2))⟩
set_option maxRecDepth 20000 in
theorem c_ins {d k : Nat} {hp : px_H} {W V N : Nat} {wc : Int32} {ss : Int64} {c S : Nat} {D : Nat → Prop} (hS : S < 2 ^ 36) (hc : c < 160) (hD : ¬ D S) (G : pl_G k W V N wc ss hp c D) : px_Gx d 24 (0, [(0, .ref (10 + 3 * k)), (1, .long (lN S))], [], hp) (fun o hp' => o = .inl none ∧ pl_G k W V N wc ss hp' (c + 1) (fun T => D T ∨ T = S) ∧ ∀ a, a ≠ 10 + 3 * k → a ≠ 12 + 3 * k → hp'[a]? = hp[a]?) := by
  obtain ⟨st, f, hf, hs, lst, rep, hb, hL⟩ := G
  refine px_gx (fun _ K9 => px_a 1 (f' := (1, [(0, .ref (10 + 3 * k)), (1, .long (lN S))], [.ref (10 + 3 * k)], hp)) rfl K9) ?_
  refine px_gx (fun _ K9 => px_gf (10 + 3 * k) 43 1 6 (.int (nI c)) rfl rfl hf rfl K9) ?_
  show px_Gx _ _ (4, [(0, .ref (10 + 3 * k)), (1, .long (lN S))], [.int (nI c)], hp) _
  refine px_gx (fun _ K9 => px_a 1 (f' := (5, [(0, .ref (10 + 3 * k)), (1, .long (lN S))], [.ref (10 + 3 * k), .int (nI c)], hp)) rfl K9) ?_
  refine px_gx (fun _ K9 => px_gf (10 + 3 * k) 22 1 3 (.ref (12 + 3 * k)) rfl rfl hf rfl K9) ?_
  show px_Gx _ _ (8, [(0, .ref (10 + 3 * k)), (1, .long (lN S))], [.ref (12 + 3 * k), .int (nI c)], hp) _
  refine px_gx (fun _ K9 => px_len_ (12 + 3 * k) rfl hs (by decide) (by decide) K9) ?_
  rw [show st.length.toInt32 = 160 by rw [lst]; rfl]
  show px_Gx _ _ (9, [(0, .ref (10 + 3 * k)), (1, .long (lN S))], [.int 160, .int (nI c)], hp) _
  refine px_gx (fun _ K9 => px_b2 true 13 rfl rfl (decide_eq_true (show nI c < 160 from nI_lt (b := 160) hc (by decide))) K9) ?_
  show px_Gx _ _ (13, [(0, .ref (10 + 3 * k)), (1, .long (lN S))], [], hp) _
  refine px_gx (fun _ K9 => px_a 1 (f' := (14, [(0, .ref (10 + 3 * k)), (1, .long (lN S))], [.ref (10 + 3 * k)], hp)) rfl K9) ?_
  refine px_gx (fun _ K9 => px_gf (10 + 3 * k) 43 1 6 (.int (nI c)) rfl rfl hf rfl K9) ?_
  show px_Gx _ _ (17, [(0, .ref (10 + 3 * k)), (1, .long (lN S))], [.int (nI c)], hp) _
  refine px_gx (fun _ K9 => px_a 1 (f' := (18, [(3, .int (nI c)), (0, .ref (10 + 3 * k)), (1, .long (lN S))], [], hp)) rfl K9) ?_
  obtain ⟨o, hp', g, e, st', i', b1, b2, b3, b4, b5, b6, b7, b8⟩ := c_insl (d := d) hS hc hb (fun j hj z => hD ((hL.2 S).mpr ⟨j, hj, z⟩)) hL.1 c (Nat.le_refl c) hp st hf hs lst rep (fun j h h' => absurd h (by omega)) (fun j h h' => absurd h (by omega))
  refine ⟨o, hp', g, e, ⟨st', _, b4, b5, b6, b7, ?_, pl_L_ins hL b1 b2 b3⟩, b8⟩
  intro j hj
  rcases Nat.lt_trichotomy j i' with z | z | z
  · rw [pl_i1 z]
    exact hb j (by omega)
  · rw [z, pl_i2]
    exact hS
  · rw [pl_i3 z]
    exact hb (j - 1) (by omega)
