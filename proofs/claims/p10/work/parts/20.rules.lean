/-! rules for pure runs: the goal first -/
def px_Go (d j : Nat) (f : px_F) (r : px_E) : Prop := ∃ n, px_run d n j f.1 f.2.1 f.2.2.1 f.2.2.2 = some r
theorem px_up : ∀ (n d j pc : Nat) (lv : px_L) (st : List Value) (hp : px_H) (r : px_E), px_run d n j pc lv st hp = some r → px_run d (n + 1) j pc lv st hp = some r
  | 0, d, j, pc, lv, st, hp, r, h => by
    unfold px_run at h
    cases h
  | n + 1, d, j, pc, lv, st, hp, r, h => by
    rw [px_run] at h ⊢
    cases hins : px_ins (px_tab j) pc with
    | none => rw [hins] at h; cases h
    | some i =>
      rw [hins] at h
      dsimp only at h ⊢
      cases hs : px_step j pc lv st hp i with
      | none => rw [hs] at h; cases h
      | some x =>
        rw [hs] at h
        rcases x with f | r' | q
        · exact px_up n d j _ _ _ _ r h
        · exact h
        · cases d with
          | zero => cases h
          | succ d' =>
            dsimp only at h ⊢
            cases hc : px_run d' n q.1 0 (lv_args 0 q.2.1) [] hp with
            | none => rw [hc] at h; cases h
            | some y =>
              rw [hc] at h
              rw [px_up n d' _ _ _ _ _ _ hc]
              obtain ⟨o, hp'⟩ := y
              cases o with
              | inl v => exact px_up n (d' + 1) j _ _ _ _ r h
              | inr E => exact h
theorem px_ups {n m d j pc : Nat} {lv : px_L} {st : List Value} {hp : px_H} {r : px_E} (h : px_run d n j pc lv st hp = some r) (hm : n ≤ m) : px_run d m j pc lv st hp = some r := by
  induction hm with
  | refl => exact h
  | step _ ih => exact px_up _ _ _ _ _ _ _ _ ih
theorem px_deep : ∀ (n d j pc : Nat) (lv : px_L) (st : List Value) (hp : px_H) (r : px_E), px_run d n j pc lv st hp = some r → px_run (d + 1) n j pc lv st hp = some r
  | 0, d, j, pc, lv, st, hp, r, h => by
    unfold px_run at h
    cases h
  | n + 1, d, j, pc, lv, st, hp, r, h => by
    rw [px_run] at h ⊢
    cases hins : px_ins (px_tab j) pc with
    | none => rw [hins] at h; cases h
    | some i =>
      rw [hins] at h
      dsimp only at h ⊢
      cases hs : px_step j pc lv st hp i with
      | none => rw [hs] at h; cases h
      | some x =>
        rw [hs] at h
        rcases x with f | r' | q
        · exact px_deep n d j _ _ _ _ r h
        · exact h
        · cases d with
          | zero => cases h
          | succ d' =>
            dsimp only at h ⊢
            cases hc : px_run d' n q.1 0 (lv_args 0 q.2.1) [] hp with
            | none => rw [hc] at h; cases h
            | some y =>
              rw [hc] at h
              rw [px_deep n d' _ _ _ _ _ _ hc]
              obtain ⟨o, hp'⟩ := y
              cases o with
              | inl v => exact px_deep n (d' + 1) j _ _ _ _ r h
              | inr E => exact h
theorem px_Go.deep {d d' j : Nat} {f : px_F} {r : px_E} (h : px_Go d j f r) (hd : d ≤ d') : px_Go d' j f r := by
  induction hd with
  | refl => exact h
  | step _ ih =>
    obtain ⟨n, hn⟩ := ih
    exact ⟨n, px_deep _ _ _ _ _ _ _ _ hn⟩
section RL
variable {d j pc : Nat} {lv : px_L} {st : List Value} {hp : px_H} {r : px_E}
theorem px_r {i : Instr} {f : px_F} (hi : px_ins (px_tab j) pc = some i) (hs : px_step j pc lv st hp i = some (.inl f)) (K : px_Go d j f r) : px_Go d j (pc, lv, st, hp) r := by
  obtain ⟨n, hn⟩ := K
  refine ⟨n + 1, ?_⟩
  show px_run d (n + 1) j pc lv st hp = some r
  unfold px_run
  simp only [hi, hs]
  exact hn
def px_adv (j : Nat) : Nat → px_F → Option px_F
  | 0, f => some f
  | k + 1, f => match px_ins (px_tab j) f.1 with
    | none => none
    | some i => match px_step j f.1 f.2.1 f.2.2.1 f.2.2.2 i with
      | some (.inl f') => px_adv j k f'
      | _ => none
theorem px_a (k : Nat) {f f' : px_F} (h : px_adv j k f = some f') (K : px_Go d j f' r) : px_Go d j f r := by
  induction k generalizing f with
  | zero => cases h; exact K
  | succ k ih =>
    unfold px_adv at h
    split at h
    · cases h
    · rename_i i hi
      split at h
      · rename_i f1 hs
        exact px_r (pc := f.1) (lv := f.2.1) (st := f.2.2.1) (hp := f.2.2.2) hi hs (ih h)
      · cases h
theorem px_e {i : Instr} (hi : px_ins (px_tab j) pc = some i) (hs : px_step j pc lv st hp i = some (.inr (.inl r))) : px_Go d j (pc, lv, st, hp) r := by
  refine ⟨1, ?_⟩
  show px_run d 1 j pc lv st hp = some r
  unfold px_run
  simp only [hi, hs]
theorem px_cl {i : Instr} {j' : Nat} {as rest : List Value} {v : Option Value} {hp' : px_H} (hi : px_ins (px_tab j) pc = some i) (hs : px_step j pc lv st hp i = some (.inr (.inr (j', as, rest)))) (hc : px_Go d j' (0, lv_args 0 as, [], hp) (.inl v, hp')) (K : px_Go (d + 1) j (pc + 3, lv, v.toList ++ rest, hp') r) : px_Go (d + 1) j (pc, lv, st, hp) r := by
  obtain ⟨n1, h1⟩ := hc
  obtain ⟨n2, h2⟩ := K
  refine ⟨max n1 n2 + 1, ?_⟩
  show px_run (d + 1) (max n1 n2 + 1) j pc lv st hp = some r
  unfold px_run
  have h1' : px_run d (max n1 n2) j' 0 (lv_args 0 as) [] hp = some (.inl v, hp') := px_ups h1 (Nat.le_max_left _ _)
  have h2' : px_run (d + 1) (max n1 n2) j (pc + 3) lv (v.toList ++ rest) hp' = some r := px_ups h2 (Nat.le_max_right _ _)
  simp only [hi, hs, h1']
  exact h2'
/-- a callee throws, and it goes on -/
theorem px_ct {i : Instr} {j' : Nat} {as rest : List Value} {E : String} {hp' : px_H} (hi : px_ins (px_tab j) pc = some i) (hs : px_step j pc lv st hp i = some (.inr (.inr (j', as, rest)))) (hc : px_Go d j' (0, lv_args 0 as, [], hp) (.inr E, hp')) (hk : px_kd j' ≠ 2) (hh : px_hd j pc E = none) (hhh : px_hh j = []) : px_Go (d + 1) j (pc, lv, st, hp) (.inr E, hp') := by
  obtain ⟨n1, h1⟩ := hc
  refine ⟨n1 + 1, ?_⟩
  show px_run (d + 1) (n1 + 1) j pc lv st hp = some (.inr E, hp')
  unfold px_run
  have h1' : px_run d n1 j' 0 (lv_args 0 as) [] hp = some (.inr E, hp') := h1
  simp only [hi, hs, h1', hk, hh, hhh, if_true, if_false]
/-- a callee throws, and it is caught -/
theorem px_cc {i : Instr} {j' : Nat} {as rest : List Value} {E : String} {hp' : px_H} {x : Int32} (hi : px_ins (px_tab j) pc = some i) (hs : px_step j pc lv st hp i = some (.inr (.inr (j', as, rest)))) (hc : px_Go d j' (0, lv_args 0 as, [], hp) (.inr E, hp')) (hk : px_kd j' ≠ 2) (hh : px_hd j pc E = some x) : px_Go (d + 1) j (pc, lv, st, hp) (.inl (some (.int x)), hp') := by
  obtain ⟨n1, h1⟩ := hc
  refine ⟨n1 + 1, ?_⟩
  show px_run (d + 1) (n1 + 1) j pc lv st hp = some (.inl (some (.int x)), hp')
  unfold px_run
  have h1' : px_run d n1 j' 0 (lv_args 0 as) [] hp = some (.inr E, hp') := h1
  simp only [hi, hs, h1', hk, hh, if_false]
/-! heap rules -/
theorem px_gf (a idx ci k : Nat) {q : Nat × Nat} {vs rs : List Value} (v : Value) (hi : px_ins (px_tab j) pc = some (.getfield idx)) (hl : px_lk px_fl_ (px_cn j) idx = some (ci, k, q)) (hh : hp[a]? = some (ci, vs)) (hv : vs[k]? = some v) (K : px_Go d j (pc + 3, lv, v :: rs, hp) r) : px_Go d j (pc, lv, .ref a :: rs, hp) r :=
  px_r hi (by simp only [px_step, px_getf, hl, hh, hv, if_true]; rfl) K
theorem px_pf (a idx ci k : Nat) {ps : Nat} {vs rs : List Value} {v : Value} (hi : px_ins (px_tab j) pc = some (.putfield idx)) (hl : px_lk px_fl_ (px_cn j) idx = some (ci, k, ps, 0)) (hh : hp[a]? = some (ci, vs)) (h8 : 8 ≤ a) (hk : k < vs.length) (hn : narrow (px_ft ci k) v = v) (hf : fits (px_ft ci k) v = true) (hfin : px_fin ci k = true → px_kd j = 2 ∧ px_cn j = ci)
    (K : px_Go d j (pc + 3, lv, rs, hp.set a (ci, vs.set k v)) r) : px_Go d j (pc, lv, v :: .ref a :: rs, hp) r :=
  px_r hi (by
    simp only [px_step, px_putf, hl, hh]
    rw [if_pos ⟨trivial, h8, hk, trivial, hn, hf, hfin⟩]
    rfl) K
theorem px_al (a : Nat) {i : Instr} {x : Int32} {t : Nat} {vs rs : List Value} (v : Value) (hi : px_ins (px_tab j) pc = some i) (hh : hp[a]? = some (t, vs)) (hok : (i = .iaload ∧ (t = 10 ∨ t = 20)) ∨ (i = .laload ∧ t = 11) ∨ (i = .baload ∧ t = 12) ∨ (i = .aaload ∧ (t = 13 ∨ t = 14))) (h0 : ¬ x < 0) (hv : vs[x.toNatClampNeg]? = some v) (K : px_Go d j (pc + 1, lv, v :: rs, hp) r) : px_Go d j (pc, lv, .int x :: .ref a :: rs, hp) r :=
  px_r hi (by
    rcases hok with ⟨rfl, rfl | rfl⟩ | ⟨rfl, rfl⟩ | ⟨rfl, rfl⟩ | ⟨rfl, rfl | rfl⟩ <;> simp [px_step, px_ald, hh, h0, hv, px_go]) K
theorem px_ias (a : Nat) {x y : Int32} {vs rs : List Value} (hi : px_ins (px_tab j) pc = some .iastore) (hh : hp[a]? = some (10, vs)) (h8 : 8 ≤ a) (h0 : ¬ x < 0) (hl : x.toNatClampNeg < vs.length) (K : px_Go d j (pc + 1, lv, rs, hp.set a (10, vs.set x.toNatClampNeg (.int y))) r) : px_Go d j (pc, lv, .int y :: .int x :: .ref a :: rs, hp) r :=
  px_r hi (by simp [px_step, px_iast, hh, h0, h8, hl, px_go, px_set]) K
theorem px_las (a : Nat) {x : Int32} {y : Int64} {vs rs : List Value} (hi : px_ins (px_tab j) pc = some .lastore) (hh : hp[a]? = some (11, vs)) (h8 : 8 ≤ a) (h0 : ¬ x < 0) (hl : x.toNatClampNeg < vs.length) (K : px_Go d j (pc + 1, lv, rs, hp.set a (11, vs.set x.toNatClampNeg (.long y))) r) : px_Go d j (pc, lv, .long y :: .int x :: .ref a :: rs, hp) r :=
  px_r hi (by simp [px_step, px_last, hh, h0, h8, hl, px_go, px_set]) K
theorem px_zas (a : Nat) {x y : Int32} {vs rs : List Value} (hi : px_ins (px_tab j) pc = some .bastore) (hh : hp[a]? = some (12, vs)) (h8 : 8 ≤ a) (h0 : ¬ x < 0) (hl : x.toNatClampNeg < vs.length) (hn : narrow .boolean (.int y) = .int y) (K : px_Go d j (pc + 1, lv, rs, hp.set a (12, vs.set x.toNatClampNeg (.int y))) r) : px_Go d j (pc, lv, .int y :: .int x :: .ref a :: rs, hp) r :=
  px_r hi (by simp [px_step, px_zast, hh, h0, h8, hl, hn, px_go, px_set]) K
theorem px_len_ (a : Nat) {t : Nat} {vs rs : List Value} (hi : px_ins (px_tab j) pc = some .arraylength) (hh : hp[a]? = some (t, vs)) (h1 : 10 ≤ t) (h2 : t ≤ 20) (K : px_Go d j (pc + 1, lv, .int vs.length.toInt32 :: rs, hp) r) : px_Go d j (pc, lv, .ref a :: rs, hp) r :=
  px_r hi (by simp [px_step, px_alen, hh, h1, h2, px_go]) K
/-! branches -/
theorem px_b1 {cond : ClassFile.Cond} {off : Int} {x : Int32} {rs : List Value} (b : Bool) (t : Nat) (hi : px_ins (px_tab j) pc = some (.ifCond cond off)) (ht : (pc : Int) + off = (t : Int)) (hb : px_c1 cond x = b) (K : px_Go d j (if b = true then t else pc + 3, lv, rs, hp) r) : px_Go d j (pc, lv, .int x :: rs, hp) r :=
  px_r hi (by
    have h0 : (0 : Int) ≤ (pc : Int) + off := by rw [ht]; exact Int.natCast_nonneg t
    have h1 : ((pc : Int) + off).toNat = t := by rw [ht]; exact Int.toNat_natCast t
    simp only [px_step, px_if, hb, h0, h1, if_true]
    cases b <;> rfl) K
theorem px_b2 {cond : ClassFile.Cond} {off : Int} {x y : Int32} {rs : List Value} (b : Bool) (t : Nat) (hi : px_ins (px_tab j) pc = some (.if_icmp cond off)) (ht : (pc : Int) + off = (t : Int)) (hb : px_c2 cond x y = b) (K : px_Go d j (if b = true then t else pc + 3, lv, rs, hp) r) : px_Go d j (pc, lv, .int y :: .int x :: rs, hp) r :=
  px_r hi (by
    have h0 : (0 : Int) ≤ (pc : Int) + off := by rw [ht]; exact Int.natCast_nonneg t
    have h1 : ((pc : Int) + off).toNat = t := by rw [ht]; exact Int.toNat_natCast t
    simp only [px_step, px_if, hb, h0, h1, if_true]
    cases b <;> rfl) K
/-! calls of an object's method -/
theorem px_cv (a : Nat) {idx j' ps t : Nat} {vs as rest : List Value} {v : Option Value} {hp' : px_H} (hi : px_ins (px_tab j) pc = some (.invokevirtual idx)) (hl : px_lk px_ml_ (px_cn j) idx = some (j', ps)) (hh : hp[a]? = some (t, vs)) (ht : t = px_cn j') (hkd : px_kd j' = 1) (hnp : px_np j' = as.length) (h8 : px_ok8 rest = true) (hlg : (lg_sl (.ref a :: as)).length ≤ px_ml j')
    (hc : px_Go d j' (0, lv_args 0 (.ref a :: as), [], hp) (.inl v, hp')) (K : px_Go (d + 1) j (pc + 3, lv, v.toList ++ rest, hp') r) : px_Go (d + 1) j (pc, lv, as.reverse ++ .ref a :: rest, hp) r := by
  refine px_cl (as := .ref a :: as) (rest := rest) hi ?_ hc K
  have e1 : (as.reverse ++ Value.ref a :: rest).drop (px_np j') = .ref a :: rest := by rw [hnp, ← List.length_reverse, List.drop_left]
  have e2 : (as.reverse ++ Value.ref a :: rest).take (px_np j') = as.reverse := by rw [hnp, ← List.length_reverse, List.take_left]
  have e3 : px_kd j' = 1 ∧ px_np j' ≤ (as.reverse ++ Value.ref a :: rest).length ∧ t = px_cn j' := ⟨hkd, by rw [hnp]; simp, ht⟩
  simp only [px_step, px_invv, hl, e1, hh, e2, List.reverse_reverse]
  rw [if_pos e3]
  simp only [px_call]
  rw [if_pos ⟨h8, hlg⟩]
theorem px_cvt (a : Nat) {idx j' ps t : Nat} {vs as rest : List Value} {E : String} {hp' : px_H} (hi : px_ins (px_tab j) pc = some (.invokevirtual idx)) (hl : px_lk px_ml_ (px_cn j) idx = some (j', ps)) (hh : hp[a]? = some (t, vs)) (ht : t = px_cn j') (hkd : px_kd j' = 1) (hnp : px_np j' = as.length) (h8 : px_ok8 rest = true) (hlg : (lg_sl (.ref a :: as)).length ≤ px_ml j')
    (hc : px_Go d j' (0, lv_args 0 (.ref a :: as), [], hp) (.inr E, hp')) (hH : px_hd j pc E = none) (hhh : px_hh j = []) : px_Go (d + 1) j (pc, lv, as.reverse ++ .ref a :: rest, hp) (.inr E, hp') := by
  refine px_ct (as := .ref a :: as) (rest := rest) hi ?_ hc (by rw [hkd]; decide) hH hhh
  have e1 : (as.reverse ++ Value.ref a :: rest).drop (px_np j') = .ref a :: rest := by rw [hnp, ← List.length_reverse, List.drop_left]
  have e2 : (as.reverse ++ Value.ref a :: rest).take (px_np j') = as.reverse := by rw [hnp, ← List.length_reverse, List.take_left]
  have e3 : px_kd j' = 1 ∧ px_np j' ≤ (as.reverse ++ Value.ref a :: rest).length ∧ t = px_cn j' := ⟨hkd, by rw [hnp]; simp, ht⟩
  simp only [px_step, px_invv, hl, e1, hh, e2, List.reverse_reverse]
  rw [if_pos e3]
  simp only [px_call]
  rw [if_pos ⟨h8, hlg⟩]
theorem px_cvc (a : Nat) {idx j' ps t : Nat} {vs as rest : List Value} {E : String} {hp' : px_H} {x : Int32} (hi : px_ins (px_tab j) pc = some (.invokevirtual idx)) (hl : px_lk px_ml_ (px_cn j) idx = some (j', ps)) (hh : hp[a]? = some (t, vs)) (ht : t = px_cn j') (hkd : px_kd j' = 1) (hnp : px_np j' = as.length) (h8 : px_ok8 rest = true) (hlg : (lg_sl (.ref a :: as)).length ≤ px_ml j')
    (hc : px_Go d j' (0, lv_args 0 (.ref a :: as), [], hp) (.inr E, hp')) (hH : px_hd j pc E = some x) : px_Go (d + 1) j (pc, lv, as.reverse ++ .ref a :: rest, hp) (.inl (some (.int x)), hp') := by
  refine px_cc (as := .ref a :: as) (rest := rest) hi ?_ hc (by rw [hkd]; decide) hH
  have e1 : (as.reverse ++ Value.ref a :: rest).drop (px_np j') = .ref a :: rest := by rw [hnp, ← List.length_reverse, List.drop_left]
  have e2 : (as.reverse ++ Value.ref a :: rest).take (px_np j') = as.reverse := by rw [hnp, ← List.length_reverse, List.take_left]
  have e3 : px_kd j' = 1 ∧ px_np j' ≤ (as.reverse ++ Value.ref a :: rest).length ∧ t = px_cn j' := ⟨hkd, by rw [hnp]; simp, ht⟩
  simp only [px_step, px_invv, hl, e1, hh, e2, List.reverse_reverse]
  rw [if_pos e3]
  simp only [px_call]
  rw [if_pos ⟨h8, hlg⟩]
end RL
theorem px_self {hp : px_H} {a : Nat} {c c' : px_C} (h : hp[a]? = some c) : (hp.set a c')[a]? = some c' := List.getElem?_set_self (List.getElem?_eq_some_iff.mp h).1
theorem px_ne {hp : px_H} {a b : Nat} {c : px_C} {x : Option px_C} (h : hp[b]? = x) (hne : a ≠ b) : (hp.set a c)[b]? = x := by rw [List.getElem?_set_ne hne]; exact h
theorem px_same {hp : px_H} {a : Nat} {c : px_C} (h : hp[a]? = some c) : hp.set a c = hp := by
  apply List.ext_getElem?
  intro k
  by_cases hk : k = a
  · subst hk
    rw [px_self h, h]
  · rw [List.getElem?_set_ne (Ne.symm hk)]
theorem px_vsame {vs : List Value} {k : Nat} {v : Value} (h : vs[k]? = some v) : vs.set k v = vs := by
  apply List.ext_getElem?
  intro i
  by_cases hi : i = k
  · subst hi
    rw [List.getElem?_set_self (List.getElem?_eq_some_iff.mp h).1, h]
  · rw [List.getElem?_set_ne (Ne.symm hi)]
