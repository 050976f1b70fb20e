/-! branches, arrays, fields, calls, ends -/
theorem px_c2n (c : ClassFile.Cond) (x y : Int32) (h : px_c2 c x y = false) : px_c2 (pa_neg c) x y = true := by
  cases c <;> simp only [px_c2, pa_neg, decide_eq_false_iff_not, decide_eq_true_eq, Decidable.not_not] at h ⊢ <;> first | exact h | exact Int32.not_lt.mp h | exact Int32.not_le.mp h
theorem px_c2s (c : ClassFile.Cond) (x y : Int32) (h : px_c2 c x y = true) : px_c2 (pa_swp c) y x = true := by
  cases c <;> simp only [px_c2, pa_swp, decide_eq_true_eq] at h ⊢ <;> first | exact h | exact h.symm | exact fun e => h e.symm
theorem px_c12 (c : ClassFile.Cond) (x : Int32) : px_c1 c x = px_c2 c x 0 := by cases c <;> rfl
section PD
variable {tb : pa_T} {n a0 : Nat} {env : List (Nat × pa_K)} {K : pa_K} {j pc : Nat} {lv : px_L} {st : List Value} {hp : px_H} {ins : Instr} {L : List (Nat × pa_S × pa_U)} {s : pa_S}
theorem pa_min_ok {a b : pa_B} {x : Int} (h1 : x ≤ pa_ev n a) (h2 : x ≤ pa_ev n b) : x ≤ pa_ev n (pa_min a b) := by
  unfold pa_min
  split
  · exact h1
  · split
    · exact h2
    · exact h1
theorem pa_max_ok {a b : pa_B} {x : Int} (h1 : pa_ev n a ≤ x) (h2 : pa_ev n b ≤ x) : pa_ev n (pa_max a b) ≤ x := by
  unfold pa_max
  split
  · exact h1
  · split
    · exact h2
    · exact h1
theorem pa_ref_ok {c : ClassFile.Cond} {X Y : pa_B × pa_B} {x y : Int32} (h : px_c2 c x y = true) (h1 : pa_ev n X.1 ≤ x.toInt) (h2 : x.toInt ≤ pa_ev n X.2) (h3 : pa_ev n Y.1 ≤ y.toInt) (h4 : y.toInt ≤ pa_ev n Y.2) : pa_ev n (pa_ref c X Y).1 ≤ x.toInt ∧ x.toInt ≤ pa_ev n (pa_ref c X Y).2 := by
  cases c
  · have e : x = y := of_decide_eq_true h
    subst e
    exact ⟨pa_max_ok h1 h3, pa_min_ok h2 h4⟩
  · have e : ¬ x = y := of_decide_eq_true h
    by_cases hY : Y.1 = Y.2
    · have ee : pa_ref .ne X Y = (if X.1 = Y.1 then (X.1.1 + 1, X.1.2) else X.1, if X.2 = Y.1 then (X.2.1 - 1, X.2.2) else X.2) := if_pos hY
      rw [ee]
      have e1 : ¬ x.toInt = y.toInt := fun z => e (Int32.toInt_inj.mp z)
      have e2 : y.toInt = pa_ev n Y.1 := by rw [← hY] at h4; omega
      refine ⟨?_, ?_⟩
      · show pa_ev n (if X.1 = Y.1 then (X.1.1 + 1, X.1.2) else X.1) ≤ _
        split
        · rename_i hX
          rw [pa_ev_c]
          rw [hX] at h1 ⊢
          omega
        · exact h1
      · show _ ≤ pa_ev n (if X.2 = Y.1 then (X.2.1 - 1, X.2.2) else X.2)
        split
        · rename_i hX
          rw [pa_ev_d]
          rw [hX] at h2 ⊢
          omega
        · exact h2
    · have ee : pa_ref .ne X Y = X := if_neg hY
      rw [ee]
      exact ⟨h1, h2⟩
  · have e : x < y := of_decide_eq_true h
    rw [Int32.lt_iff_toInt_lt] at e
    exact ⟨h1, pa_min_ok h2 (by rw [pa_ev_d]; omega)⟩
  · have e : y ≤ x := of_decide_eq_true h
    rw [Int32.le_iff_toInt_le] at e
    exact ⟨pa_max_ok h1 (by omega), h2⟩
  · have e : y < x := of_decide_eq_true h
    rw [Int32.lt_iff_toInt_lt] at e
    exact ⟨pa_max_ok h1 (by rw [pa_ev_c]; omega), h2⟩
  · have e : x ≤ y := of_decide_eq_true h
    rw [Int32.le_iff_toInt_le] at e
    exact ⟨h1, pa_min_ok h2 (by omega)⟩
def pa_orI (a0 : Nat) (lv : px_L) (hp : px_H) (o : Nat) (x : Int32) : Prop := o = 0 ∨ (o < 100 ∧ px_get lv (o - 1) = some (.int x)) ∨ (100 ≤ o ∧ pa_fd hp a0 (o - 100) = some (.int x))
theorem pa_gf_fl {l : List (Nat × pa_B × pa_B)} (p : Nat × pa_B × pa_B → Bool) (h : pa_gf n a0 hp l) : pa_gf n a0 hp (l.filter p) := by
  induction l with
  | nil => trivial
  | cons q r ih =>
    obtain ⟨h1, h3⟩ := h
    by_cases hp : p q = true
    · rw [List.filter_cons_of_pos hp]; exact ⟨h1, ih h3⟩
    · rw [List.filter_cons_of_neg hp]; exact ih h3
theorem pa_upd_ok {o : Nat} {x : Int32} {X : pa_B × pa_B} (hs : pa_ST n a0 s lv st hp) (ho : pa_orI a0 lv hp o x) (h1 : pa_ev n X.1 ≤ x.toInt) (h2 : x.toInt ≤ pa_ev n X.2) : pa_ST n a0 (pa_upd s o X) lv st hp := by
  unfold pa_upd
  by_cases h0 : o = 0
  · rw [if_pos h0]; exact hs
  · rw [if_neg h0]
    rcases ho with ho | ho | ho
    · exact absurd ho h0
    · rw [if_pos ho.1]
      exact ⟨⟨⟨_, ho.2, x, rfl, h1, h2⟩, pa_gl_fl _ hs.1⟩, hs.2⟩
    · rw [if_neg (by omega)]
      exact ⟨hs.1, hs.2.1, ⟨⟨x, ho.2, h1, h2⟩, pa_gf_fl _ hs.2.2.1⟩, hs.2.2.2⟩
theorem pa_emp_ok (hN : pa_N n) {X : pa_B × pa_B} {x : Int32} (h1 : pa_ev n X.1 ≤ x.toInt) (h2 : x.toInt ≤ pa_ev n X.2) : pa_emp X = false := by
  by_cases h : pa_emp X = true
  · have b := pa_le_ok hN h
    rw [pa_ev_c] at b
    omega
  · simpa using h
theorem pa_br_ok (hN : pa_N n) {pc' : Nat} {c : ClassFile.Cond} {X Y : pa_B × pa_B} {x y : Int32} {ox oy : Nat} (hs : pa_ST n a0 s lv st hp) (h : px_c2 c x y = true) (h1 : pa_ev n X.1 ≤ x.toInt) (h2 : x.toInt ≤ pa_ev n X.2) (h3 : pa_ev n Y.1 ≤ y.toInt) (h4 : y.toInt ≤ pa_ev n Y.2) (hox : pa_orI a0 lv hp ox x) (hoy : pa_orI a0 lv hp oy y) : ∃ q ∈ pa_br pc' s c X Y ox oy, q.1 = pc' ∧ q.2.2 = none ∧ pa_ST n a0 q.2.1 lv st hp := by
  have hx := pa_ref_ok (n := n) h h1 h2 h3 h4
  have hy := pa_ref_ok (n := n) (px_c2s c x y h) h3 h4 h1 h2
  unfold pa_br
  simp only [pa_emp_ok hN hx.1 hx.2, pa_emp_ok hN hy.1 hy.2, Bool.or_self, Bool.false_eq_true, if_false]
  exact ⟨_, List.mem_cons_self, rfl, rfl, pa_upd_ok (pa_upd_ok hs hox hx.1 hx.2) hoy hy.1 hy.2⟩
theorem pa_if_ok (hN : pa_N n) {off : Int} {c : ClassFile.Cond} {X Y : pa_B × pa_B} {x y : Int32} {ox oy : Nat} {vs : List Value} (H : pa_Hi n hp) (hs : pa_ST n a0 s lv vs hp) (h1 : pa_ev n X.1 ≤ x.toInt) (h2 : x.toInt ≤ pa_ev n X.2) (h3 : pa_ev n Y.1 ≤ y.toInt) (h4 : y.toInt ≤ pa_ev n Y.2) (hox : pa_orI a0 lv hp ox x) (hoy : pa_orI a0 lv hp oy y) (hx : px_step j pc lv st hp ins = px_if (px_c2 c x y) pc off lv vs hp) (ht : pa_if pc off s c X Y ox oy = some L) : pa_Ok tb n a0 env K j pc lv st hp ins L := by
  unfold pa_if at ht
  split at ht
  · rename_i h0
    cases ht
    by_cases hc : px_c2 c x y = true
    · obtain ⟨q, hq, e1, e2, e3⟩ := pa_br_ok hN (pc' := ((pc : Int) + off).toNat) hs hc h1 h2 h3 h4 hox hoy
      refine Or.inl ⟨(((pc : Int) + off).toNat, lv, vs, hp), ?_, q, List.mem_append_left _ hq, e1, e3, H, pa_Fr.refl _, rfl, by rw [e2]; rfl⟩
      rw [hx]
      unfold px_if
      rw [if_pos h0, if_pos hc]
      rfl
    · have hc' : px_c2 c x y = false := by simpa using hc
      obtain ⟨q, hq, e1, e2, e3⟩ := pa_br_ok hN (pc' := pc + 3) hs (px_c2n c x y hc') h1 h2 h3 h4 hox hoy
      refine Or.inl ⟨(pc + 3, lv, vs, hp), ?_, q, List.mem_append_right _ hq, e1, e3, H, pa_Fr.refl _, rfl, by rw [e2]; rfl⟩
      rw [hx]
      unfold px_if
      rw [if_pos h0, if_neg hc]
      rfl
  · cases ht
theorem pa_ori_gv {A : pa_V} {v : Value} {o : Nat} (h : pa_gv n A v) : pa_gv n (pa_ori A o) v := by
  rcases A with x | x | x
  · exact h
  · exact h
  · exact h
theorem pa_ori_or0 {A : pa_V} {v : Value} : pa_or a0 lv hp (pa_ori A 0) v := by
  rcases A with x | x | x
  · exact Or.inl rfl
  · trivial
  · exact Or.inl rfl
theorem pa_ix {x : Int32} {i : pa_B × pa_B × Nat} {len : pa_B} {m : Nat} (hN : pa_N n) (h1 : pa_ev n i.1 ≤ x.toInt) (h2 : x.toInt ≤ pa_ev n i.2.1) (c1 : pa_le (0, 0) i.1 = true) (c2 : pa_le i.2.1 (len.1 - 1, len.2) = true) (hl : (m : Int) = pa_ev n len) : ¬ x < 0 ∧ x.toNatClampNeg < m := by
  have b1 := pa_le_ok hN c1
  have b2 := pa_le_ok hN c2
  rw [pa_ev_0] at b1
  rw [pa_ev_d] at b2
  refine ⟨i32_nn (by omega), ?_⟩
  show x.toInt.toNat < m
  omega
theorem pa_ald_ok (hN : pa_N n) {ok : Nat → Bool} (hs : pa_ST n a0 s lv st hp) (H : pa_Hi n hp) (hx : px_step j pc lv st hp ins = px_ald ok pc lv st hp) (ht : pa_ald ok pc s = some L) : pa_Ok tb n a0 env K j pc lv st hp ins L := by
  obtain ⟨sl, ss, sf⟩ := s
  obtain ⟨hl, hss, hf, hq⟩ := hs
  unfold pa_ald at ht
  split at ht
  · rename_i i q r e
    change ss = _ at e
    subst e
    obtain ⟨v, w, vs, rfl, ⟨⟨x, rfl, x1, x2⟩, -⟩, ⟨⟨a, rfl, a1, a2⟩, -⟩, hr⟩ := pa_gs2 hss
    split at ht
    · rename_i t len e0 hrs
      split at ht
      · rename_i hc
        obtain ⟨ws, hh, hw⟩ := pa_Hi_get H a1 a2
        rw [hrs] at hh hw
        obtain ⟨hlen, hel⟩ := hw
        obtain ⟨i1, i2⟩ := pa_ix hN x1 x2 hc.2.1 hc.2.2 hlen
        obtain ⟨v, hv⟩ : ∃ v, ws[x.toNatClampNeg]? = some v := ⟨_, List.getElem?_eq_getElem i2⟩
        refine pa_ok1 (st' := v :: vs) H (hx.trans ?_) ht ⟨hl, ⟨⟨pa_ori_gv (hel v (List.mem_of_getElem? hv)), pa_ori_or0⟩, hr⟩, hf, hq⟩ rfl
        unfold px_ald
        simp only [hh, hc.1, i1, not_false_eq_true, true_and, if_true, hv]
      · cases ht
    · cases ht
  · cases ht
theorem pa_or_set {a k t : Nat} {ws : List Value} {w : Value} (ha : a ≠ a0) {A : pa_V} {v : Value} (h : pa_or a0 lv hp A v) : pa_or a0 lv (px_set hp a t ws k w) A v := by
  rcases A with x | x | x
  · rcases h with h | h | h
    · exact Or.inl h
    · exact Or.inr (Or.inl h)
    · refine Or.inr (Or.inr ⟨h.1, ?_⟩)
      rw [← h.2]
      unfold pa_fd px_set
      rw [List.getElem?_set_ne ha]
  · trivial
  · exact h
theorem pa_gs_id {lv' : px_L} {hp' : px_H} : ∀ {l : List pa_V} {vs : List Value}, pa_gs n a0 lv hp l vs → (∀ A v, pa_or a0 lv hp A v → pa_or a0 lv' hp' A v) → pa_gs n a0 lv' hp' l vs
  | [], [], _, _ => trivial
  | [], _ :: _, h, _ => nomatch h
  | _ :: _, [], h, _ => nomatch h
  | _ :: _, _ :: _, h, f => ⟨⟨h.1.1, f _ _ h.1.2⟩, pa_gs_id h.2 f⟩
theorem pa_gf_id {hp' : px_H} {l : List (Nat × pa_B × pa_B)} (h : pa_gf n a0 hp l) (hf : ∀ q ∈ l, pa_fd hp' a0 q.1 = pa_fd hp a0 q.1) : pa_gf n a0 hp' l := by
  induction l with
  | nil => trivial
  | cons q r ih =>
    obtain ⟨⟨x, h1, h2⟩, h3⟩ := h
    exact ⟨⟨x, by rw [hf q List.mem_cons_self]; exact h1, h2⟩, ih h3 (fun p hp => hf p (List.mem_cons_of_mem _ hp))⟩
theorem pa_fd_set {a k t i : Nat} {ws : List Value} {w : Value} (ha : a ≠ a0) : pa_fd (px_set hp a t ws k w) a0 i = pa_fd hp a0 i := by
  unfold pa_fd px_set
  rw [List.getElem?_set_ne ha]
/-- a store into an array -/
theorem pa_ast_ok (hN : pa_N n) {t0 : Nat} (ho : ∃ l, (pa_rs (pa_rg n a0)).2 = .inl l) (hs : pa_ST n a0 s lv st hp) (H : pa_Hi n hp)
    (hx : ∀ v x a r t ws, st = v :: .int x :: .ref a :: r → hp[a]? = some (t, ws) → t = t0 → 8 ≤ a → ¬ x < 0 → x.toNatClampNeg < ws.length → (∃ A, pa_gv n A v ∧ (∃ r e, pa_rs r = (t0, .inr e) ∧ pa_sub1 A e.2 = true) ∧ (t0 = 12 → pa_sub1 A (pa_i 0 1) = true)) → px_step j pc lv st hp ins = px_go (pc + 1) lv r (px_set hp a t ws x.toNatClampNeg v))
    (h10 : 10 ≤ t0) (ht : pa_ast t0 K.2.2.2 pc s = some L) : pa_Ok tb n a0 env K j pc lv st hp ins L := by
  obtain ⟨sl, ss, sf⟩ := s
  obtain ⟨hl, hss, hf, hq⟩ := hs
  unfold pa_ast at ht
  split at ht
  · rename_i A i q r e
    change ss = _ at e
    subst e
    obtain ⟨v, st1, rfl, ⟨hv, -⟩, hss1⟩ := pa_gs1 hss
    obtain ⟨w, u, vs, rfl, ⟨⟨x, rfl, x1, x2⟩, -⟩, ⟨⟨a, rfl, a1, a2⟩, -⟩, hr⟩ := pa_gs2 hss1
    split at ht
    · rename_i t len e0 hrs
      split at ht
      · rename_i hc
        obtain ⟨c1, c2, c3, c4, c5, c6, c7⟩ := hc
        obtain ⟨ws, hh, hw⟩ := pa_Hi_get H a1 a2
        rw [hrs] at hh hw
        obtain ⟨hlen, hel⟩ := hw
        obtain ⟨i1, i2⟩ := pa_ix hN x1 x2 c5 c6 hlen
        have ha8 : 8 ≤ a := pa_lo a1 c2 a2
        have hne : a ≠ a0 := by
          intro z
          obtain ⟨l, hl⟩ := ho
          rw [← z, a1, hrs] at hl
          cases hl
        cases ht
        refine Or.inl ⟨(pc + 1, lv, vs, px_set hp a t ws x.toNatClampNeg v), hx _ _ _ _ _ _ rfl hh c1 ha8 i1 i2 ⟨A, hv, ⟨q.1, (len, e0), by rw [hrs, c1], c3⟩, c4⟩, _, List.mem_cons_self, rfl, ⟨hl, pa_gs_id hr (fun _ _ h => pa_or_set hne h), pa_gf_id hf (fun _ _ => pa_fd_set hne), hq⟩, ?_, ?_, ?_, rfl⟩
        · refine pa_Hi_set H a1 a2 hh ?_ ?_
          · rw [hrs]
            exact pa_sub1_ok hN c3 hv
          · intro z
            rw [z] at a1
            have e8 : q.1 = 8 := a1.symm
            rw [e8] at hrs
            cases hrs
        · refine pa_Fr_set hh ?_
          rw [a1, if_neg (show ¬ t < 10 by omega)]
          exact c7
        · show (px_set hp a t ws x.toNatClampNeg v).length = hp.length
          unfold px_set
          rw [List.length_set]
      · cases ht
    · cases ht
  · cases ht
theorem pa_gtf_ok (hs : pa_ST n a0 s lv st hp) (H : pa_Hi n hp) {cn idx : Nat} (hx : px_step j pc lv st hp ins = px_getf cn idx pc lv st hp) (ht : pa_gtf cn idx pc s = some L) : pa_Ok tb n a0 env K j pc lv st hp ins L := by
  obtain ⟨sl, ss, sf⟩ := s
  obtain ⟨hl, hss, hf, hq⟩ := hs
  unfold pa_gtf at ht
  split at ht
  · rename_i q r e
    change ss = _ at e
    subst e
    obtain ⟨v, vs, rfl, ⟨⟨a, rfl, a1, a2⟩, hor⟩, hr⟩ := pa_gs1 hss
    split at ht
    · rename_i ci k x0 hlk
      split at ht
      · rename_i t l hrs
        split at ht
        · rename_i A hA
          split at ht
          · rename_i hc
            obtain ⟨ws, hh, hw⟩ := pa_Hi_get H a1 a2
            rw [hrs] at hh hw
            obtain ⟨v, hv, hg⟩ := pa_gfs_get hw hA
            have hst : px_step j pc lv (.ref a :: vs) hp ins = px_go (pc + 3) lv (v :: vs) hp := by
              rw [hx]
              unfold px_getf
              simp only [hlk, hh, hc, if_true, hv]
            split at ht
            · rename_i h1
              have ha : a = a0 := by
                rcases hor with z | z
                · exact absurd (h1.symm.trans z) (by decide)
                · cases z; rfl
              subst ha
              have hfd : pa_fd hp a k = some v := by rw [pa_fd_get hh]; exact hv
              split at ht
              · rename_i X hX
                obtain ⟨y, hy, y1, y2⟩ := pa_gf_get hf hX
                rw [hfd] at hy
                cases hy
                refine pa_ok1 H hst ht ⟨hl, ⟨⟨⟨y, rfl, y1, y2⟩, Or.inr (Or.inr ⟨by show 100 ≤ 100 + k; omega, ?_⟩)⟩, hr⟩, hf, hq⟩ rfl
                show pa_fd hp a (100 + k - 100) = _
                rw [Nat.add_sub_cancel_left]; exact hfd
              · refine pa_ok1 H hst ht ⟨hl, ⟨⟨pa_ori_gv hg, ?_⟩, hr⟩, hf, hq⟩ rfl
                rcases A with z | z | z
                · refine Or.inr (Or.inr ⟨by show 100 ≤ 100 + k; omega, ?_⟩)
                  show pa_fd hp a (100 + k - 100) = _
                  rw [Nat.add_sub_cancel_left]; exact hfd
                · trivial
                · exact Or.inl rfl
            · exact pa_ok1 H hst ht ⟨hl, ⟨⟨pa_ori_gv hg, pa_ori_or0⟩, hr⟩, hf, hq⟩ rfl
          · cases ht
        · cases ht
      · cases ht
    · cases ht
  · cases ht
theorem pa_ftok_ok (hN : pa_N n) {ty : FieldType} {A : pa_V} {v : Value} (h : pa_ftok ty A = true) (hv : pa_gv n A v) : narrow ty v = v ∧ fits ty v = true := by
  unfold pa_ftok at h
  split at h
  · split at h
    · obtain ⟨x, rfl, -⟩ := hv
      exact ⟨rfl, rfl⟩
    · cases h
  · rcases A with x | x | x
    · cases h
    · obtain ⟨x, rfl⟩ := hv
      exact ⟨rfl, rfl⟩
    · cases h
  · obtain ⟨x, rfl, h1, h2⟩ := pa_sub1_ok hN h hv
    unfold pa_ev at h1 h2
    simp only [Int.zero_mul, Int.add_zero] at h1 h2
    have e0 : (0 : Int32).toInt = 0 := rfl
    have e1 : (1 : Int32).toInt = 1 := rfl
    rcases (show x.toInt = 0 ∨ x.toInt = 1 by omega) with e | e
    · have : x = 0 := Int32.toInt_inj.mp (e.trans e0.symm)
      subst this
      exact ⟨rfl, rfl⟩
    · have : x = 1 := Int32.toInt_inj.mp (e.trans e1.symm)
      subst this
      exact ⟨rfl, rfl⟩
  · cases h
end PD
