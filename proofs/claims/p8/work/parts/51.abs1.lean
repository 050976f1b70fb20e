/-! lemmas on locals, values, measures -/
theorem px_get_fl {lv : px_L} {p : Nat × Value → Bool} {k : Nat} {w : Value} (h : px_get lv k = some w) (hp : p (k, w) = true) : px_get (lv.filter p) k = some w := by
  induction lv with
  | nil => cases h
  | cons q r ih =>
    unfold px_get at h
    by_cases hq : q.1 = k
    · rw [if_pos hq] at h
      cases h
      have hq2 : p q = true := by
        have e : q = (k, q.2) := by rw [← hq]
        rw [e]; exact hp
      rw [List.filter_cons_of_pos hq2]
      unfold px_get
      rw [if_pos hq]
    · rw [if_neg hq] at h
      by_cases hpq : p q = true
      · rw [List.filter_cons_of_pos hpq]
        unfold px_get
        rw [if_neg hq]
        exact ih h
      · rw [List.filter_cons_of_neg hpq]
        exact ih h
theorem px_get_hd (lv : px_L) (i : Nat) (v : Value) : px_get ((i, v) :: lv) i = some v := by unfold px_get; rw [if_pos rfl]
theorem px_get_tl {lv : px_L} {i k : Nat} {v : Value} (h : i ≠ k) : px_get ((i, v) :: lv) k = px_get lv k := by
  conv => lhs; unfold px_get
  rw [if_neg h]
theorem px_s1_self (lv : px_L) (i : Nat) (v : Value) : px_get (px_s1 lv i v) i = some v := px_get_hd _ _ _
theorem px_s2_self (lv : px_L) (i : Nat) (v : Value) : px_get (px_s2 lv i v) i = some v := px_get_hd _ _ _
theorem px_s1_ne {lv : px_L} {i k : Nat} {v w : Value} (h : px_get lv k = some w) (hk : k ≠ i) (hw : w.category = 1 ∨ k + 1 ≠ i) : px_get (px_s1 lv i v) k = some w := by
  unfold px_s1
  rw [px_get_tl (Ne.symm hk)]
  apply px_get_fl h
  rcases hw with hw | hw
  · simp [hk, hw]
  · simp [hk, hw]
theorem px_s2_ne {lv : px_L} {i k : Nat} {v w : Value} (h : px_get lv k = some w) (hk : k ≠ i) (hk2 : k ≠ i + 1) (hw : w.category = 1 ∨ k + 1 ≠ i) : px_get (px_s2 lv i v) k = some w := by
  unfold px_s2
  rw [px_get_tl (Ne.symm hk)]
  apply px_get_fl h
  rcases hw with hw | hw
  · simp [hk, hk2, hw]
  · simp [hk, hk2, hw]
section PA
variable {n : Nat}
theorem pa_gl_get {lv : px_L} {l : List (Nat × pa_V)} {i : Nat} {A : pa_V} (h : pa_gl n lv l) (hg : pa_get l i = some A) : ∃ v, px_get lv i = some v ∧ pa_gv n A v := by
  induction l with
  | nil => cases hg
  | cons q r ih =>
    unfold pa_get at hg
    obtain ⟨h1, h2⟩ := h
    by_cases hq : q.1 = i
    · rw [if_pos hq] at hg
      cases hg
      rw [← hq]
      exact h1
    · rw [if_neg hq] at hg
      exact ih h2 hg
theorem pa_sub1_ok (hN : pa_N n) {A B : pa_V} {v : Value} (h : pa_sub1 A B = true) (hv : pa_gv n A v) : pa_gv n B v := by
  rcases A with x | x | x <;> rcases B with y | y | y <;> try (cases h; done)
  · unfold pa_sub1 at h
    simp only [Bool.and_eq_true] at h
    obtain ⟨z, rfl, h1, h2⟩ := hv
    exact ⟨z, rfl, Int.le_trans (pa_le_ok hN h.1) h1, Int.le_trans h2 (pa_le_ok hN h.2)⟩
  · exact hv
  · unfold pa_sub1 at h
    obtain ⟨a, rfl, h1, h2⟩ := hv
    have e : x.1 = y.1 := by simpa using h
    exact ⟨a, rfl, h1.trans e, e ▸ h2⟩
theorem pa_cat {A : pa_V} {v : Value} (hv : pa_gv n A v) : v.category = pa_ct A := by
  rcases A with x | x | x
  · obtain ⟨z, rfl, -⟩ := hv; rfl
  · obtain ⟨z, rfl⟩ := hv; rfl
  · obtain ⟨z, rfl, -⟩ := hv; rfl
theorem pa_top_ok (x : Int32) : pa_gv n pa_top (.int x) := ⟨x, rfl, by unfold pa_ev; have := Int32.le_toInt x; simp only [Int.zero_mul, Int.add_zero]; omega, by unfold pa_ev; have := Int32.toInt_lt x; simp only [Int.zero_mul, Int.add_zero]; omega⟩
theorem pa_i_ok (x : Int32) : pa_gv n (pa_i x.toInt x.toInt) (.int x) := ⟨x, rfl, by unfold pa_ev; simp, by unfold pa_ev; simp⟩
/-! locals after a store -/
theorem pa_gl_imp {lv lv' : px_L} {l : List (Nat × pa_V)} (h : pa_gl n lv l) (hk : ∀ q ∈ l, ∀ v, px_get lv q.1 = some v → pa_gv n q.2 v → px_get lv' q.1 = some v) : pa_gl n lv' l := by
  induction l with
  | nil => trivial
  | cons q r ih =>
    obtain ⟨⟨v, h1, h2⟩, h3⟩ := h
    exact ⟨⟨v, hk q List.mem_cons_self v h1 h2, h2⟩, ih h3 (fun p hp => hk p (List.mem_cons_of_mem _ hp))⟩
theorem pa_gl_fl {lv : px_L} {l : List (Nat × pa_V)} (p : Nat × pa_V → Bool) (h : pa_gl n lv l) : pa_gl n lv (l.filter p) := by
  induction l with
  | nil => trivial
  | cons q r ih =>
    obtain ⟨h1, h3⟩ := h
    by_cases hp : p q = true
    · rw [List.filter_cons_of_pos hp]; exact ⟨h1, ih h3⟩
    · rw [List.filter_cons_of_neg hp]; exact ih h3
theorem pa_cat1 {A : pa_V} {v : Value} (hv : pa_gv n A v) (hA : pa_isL A = false) : v.category = 1 := by
  rw [pa_cat hv]; unfold pa_ct; rw [hA]; rfl
theorem pa_put1 {lv : px_L} {l : List (Nat × pa_V)} {i : Nat} {A : pa_V} {v : Value} (h : pa_gl n lv l) (hv : pa_gv n A v) (hA : pa_isL A = false) : pa_gl n (px_s1 lv i v) (pa_put l i A) := by
  refine ⟨⟨v, px_s1_self _ _ _, hv⟩, ?_⟩
  refine pa_gl_imp (pa_gl_fl _ h) ?_
  intro q hq w h1 h2
  have hq2 := (List.mem_filter.mp hq).2
  simp only [hA, Bool.false_and, Bool.not_false, Bool.and_true, Bool.and_eq_true, Bool.not_eq_true', beq_eq_false_iff_ne, Bool.and_eq_false_imp, beq_iff_eq] at hq2
  refine px_s1_ne h1 hq2.1 ?_
  by_cases hz : q.1 + 1 = i
  · exact Or.inl (pa_cat1 h2 (hq2.2 hz))
  · exact Or.inr hz
theorem pa_put2 {lv : px_L} {l : List (Nat × pa_V)} {i : Nat} {v : Value} (h : pa_gl n lv l) (hv : pa_gv n pa_lg v) : pa_gl n (px_s2 lv i v) (pa_put l i pa_lg) := by
  refine ⟨⟨v, px_s2_self _ _ _, hv⟩, ?_⟩
  refine pa_gl_imp (pa_gl_fl _ h) ?_
  intro q hq w h1 h2
  have hq2 := (List.mem_filter.mp hq).2
  simp only [pa_lg, pa_isL, Bool.true_and, Bool.and_eq_true, Bool.not_eq_true', beq_eq_false_iff_ne, Bool.and_eq_false_imp, beq_iff_eq] at hq2
  refine px_s2_ne h1 hq2.1.1 hq2.2 ?_
  by_cases hz : q.1 + 1 = i
  · exact Or.inl (pa_cat1 h2 (hq2.1.2 hz))
  · exact Or.inr hz
/-! stacks -/
theorem pa_gs_imp {a0 : Nat} {lv lv' : px_L} {hp hp' : px_H} {f : pa_V → pa_V} : ∀ {l : List pa_V} {vs : List Value}, pa_gs n a0 lv hp l vs → (∀ A ∈ l, ∀ v, pa_gv n A v → pa_or a0 lv hp A v → pa_gv n (f A) v ∧ pa_or a0 lv' hp' (f A) v) → pa_gs n a0 lv' hp' (l.map f) vs
  | [], [], _, _ => trivial
  | [], _ :: _, h, _ => nomatch h
  | _ :: _, [], h, _ => nomatch h
  | A :: l, v :: vs, h, hf => ⟨hf A List.mem_cons_self v h.1.1 h.1.2, pa_gs_imp h.2 (fun B hB => hf B (List.mem_cons_of_mem _ hB))⟩
theorem pa_cl_gv {f : Nat → Bool} {A : pa_V} {v : Value} (h : pa_gv n A v) : pa_gv n (pa_cl f A) v := by
  rcases A with x | x | x
  · exact h
  · exact h
  · exact h
theorem pa_gs_len {a0 : Nat} {lv : px_L} {hp : px_H} : ∀ {l : List pa_V} {vs : List Value}, pa_gs n a0 lv hp l vs → vs.length = l.length
  | [], [], _ => rfl
  | [], _ :: _, h => nomatch h
  | _ :: _, [], h => nomatch h
  | _ :: l, _ :: vs, h => by rw [List.length_cons, List.length_cons, pa_gs_len h.2]
theorem pa_gs_cat {a0 : Nat} {lv : px_L} {hp : px_H} : ∀ {l : List pa_V} {vs : List Value}, pa_gs n a0 lv hp l vs → (vs.map fun v => v.category).sum = (l.map pa_ct).sum
  | [], [], _ => rfl
  | [], _ :: _, h => nomatch h
  | _ :: _, [], h => nomatch h
  | A :: l, v :: vs, h => by rw [List.map_cons, List.map_cons, List.sum_cons, List.sum_cons, pa_gs_cat h.2, pa_cat h.1.1]
theorem pa_gs_drop {a0 : Nat} {lv : px_L} {hp : px_H} : ∀ (k : Nat) {l : List pa_V} {vs : List Value}, pa_gs n a0 lv hp l vs → pa_gs n a0 lv hp (l.drop k) (vs.drop k)
  | 0, _, _, h => h
  | _ + 1, [], [], _ => trivial
  | _ + 1, [], _ :: _, h => nomatch h
  | _ + 1, _ :: _, [], h => nomatch h
  | k + 1, _ :: l, _ :: vs, h => pa_gs_drop k h.2
theorem pa_gs_fs {a0 : Nat} {lv : px_L} {hp : px_H} : ∀ {l : List pa_V} {vs : List Value}, pa_gs n a0 lv hp l vs → pa_gfs n l vs
  | [], [], _ => trivial
  | [], _ :: _, h => nomatch h
  | _ :: _, [], h => nomatch h
  | _ :: _, _ :: _, h => ⟨h.1.1, pa_gs_fs h.2⟩
theorem pa_gfs_take : ∀ (k : Nat) {l : List pa_V} {vs : List Value}, pa_gfs n l vs → pa_gfs n (l.take k) (vs.take k)
  | 0, _, _, _ => trivial
  | _ + 1, [], [], _ => trivial
  | _ + 1, [], _ :: _, h => nomatch h
  | _ + 1, _ :: _, [], h => nomatch h
  | k + 1, _ :: l, _ :: vs, h => ⟨h.1, pa_gfs_take k h.2⟩
theorem pa_gfs_app : ∀ {l m : List pa_V} {vs ws : List Value}, pa_gfs n l vs → pa_gfs n m ws → pa_gfs n (l ++ m) (vs ++ ws)
  | [], _, [], _, _, h => h
  | [], _, _ :: _, _, h, _ => nomatch h
  | _ :: _, _, [], _, h, _ => nomatch h
  | _ :: _, _, _ :: _, _, h, k => ⟨h.1, pa_gfs_app h.2 k⟩
theorem pa_gfs_rev : ∀ {l : List pa_V} {vs : List Value}, pa_gfs n l vs → pa_gfs n l.reverse vs.reverse
  | [], [], _ => trivial
  | [], _ :: _, h => nomatch h
  | _ :: _, [], h => nomatch h
  | A :: l, v :: vs, h => by
    rw [List.reverse_cons, List.reverse_cons]
    exact pa_gfs_app (pa_gfs_rev h.2) ⟨h.1, trivial⟩
theorem pa_sub2_ok (hN : pa_N n) : ∀ {l m : List pa_V} {vs : List Value}, pa_sub2 l m = true → pa_gfs n l vs → pa_gfs n m vs
  | [], [], [], _, _ => trivial
  | [], [], _ :: _, _, h => nomatch h
  | [], _ :: _, _, h, _ => nomatch h
  | _ :: _, [], _, h, _ => nomatch h
  | _ :: _, _ :: _, [], _, h => nomatch h
  | A :: l, B :: m, v :: vs, h, k => by
    unfold pa_sub2 at h
    simp only [Bool.and_eq_true] at h
    exact ⟨pa_sub1_ok hN h.1 k.1, pa_sub2_ok hN h.2 k.2⟩
theorem pa_gfs_get : ∀ {l : List pa_V} {vs : List Value} {k : Nat} {A : pa_V}, pa_gfs n l vs → l[k]? = some A → ∃ v, vs[k]? = some v ∧ pa_gv n A v
  | [], _, _, _, _, h => nomatch h
  | _ :: _, [], _, _, h, _ => nomatch h
  | B :: l, v :: vs, 0, A, h, hk => ⟨v, rfl, by cases hk; exact h.1⟩
  | B :: l, v :: vs, k + 1, A, h, hk => by
    obtain ⟨w, h1, h2⟩ := pa_gfs_get (k := k) h.2 (by simpa using hk)
    exact ⟨w, by simpa using h1, h2⟩
theorem pa_gfs_set : ∀ {l : List pa_V} {vs : List Value} {k : Nat} {A : pa_V} {v : Value}, pa_gfs n l vs → l[k]? = some A → pa_gv n A v → pa_gfs n l (vs.set k v)
  | [], _, _, _, _, _, h, _ => nomatch h
  | _ :: _, [], _, _, _, h, _, _ => nomatch h
  | B :: l, w :: vs, 0, A, v, h, hk, hv => ⟨by cases hk; exact hv, h.2⟩
  | B :: l, w :: vs, k + 1, A, v, h, hk, hv => ⟨h.1, pa_gfs_set (k := k) h.2 (by simpa using hk) hv⟩
end PA
