/-! measures, subsumption, heaps -/
def pa_loc (lv : px_L) (i : Nat) : Int := match px_get lv i with
  | some (.int x) => x.toInt
  | _ => 0
def pa_sum (lv : px_L) : List (Nat × Int) → Int
  | [] => 0
  | q :: r => q.2 * pa_loc lv q.1 + pa_sum lv r
def pa_mv (n : Nat) (M : pa_W) (lv : px_L) : Int := pa_ev n M.1 + pa_sum lv M.2
def pa_uo (u : pa_U) (lv lv' : px_L) : Prop := match u with
  | none => lv' = lv
  | some (i, none) => ∀ k x, k ≠ i → k + 1000 ≠ i → k ≠ i + 1 → px_get lv k = some (.int x) → px_get lv' k = some (.int x)
  | some (i, some c) => (∀ k x, k ≠ i → px_get lv k = some (.int x) → px_get lv' k = some (.int x)) ∧ ∀ x, px_get lv i = some (.int x) → ∃ y, px_get lv' i = some (.int y) ∧ y.toInt = x.toInt + c
section PB
variable {n : Nat}
theorem pa_lin_ok {lv : px_L} {l : List (Nat × pa_V)} (h : pa_gl n lv l) : ∀ {cs : List (Nat × Int)} {b : pa_B}, pa_lin l cs = some b → pa_ev n b ≤ pa_sum lv cs
  | [], b, hb => by cases hb; unfold pa_ev pa_sum; simp
  | q :: r, b, hb => by
    unfold pa_lin at hb
    unfold pa_sum
    by_cases h0 : q.2 = 0
    · rw [if_pos h0] at hb
      rw [h0, Int.zero_mul, Int.zero_add]
      exact pa_lin_ok h hb
    · rw [if_neg h0] at hb
      split at hb
      · rename_i x b' hx hb'
        obtain ⟨v, hv, y, rfl, h1, h2⟩ := pa_gl_get h hx
        have ih := pa_lin_ok h hb'
        have hl : pa_loc lv q.1 = y.toInt := by unfold pa_loc; rw [hv]
        rw [hl]
        by_cases hc : 0 ≤ q.2
        · rw [if_pos hc] at hb
          cases hb
          have := Int.mul_le_mul_of_nonneg_left h1 hc
          unfold pa_ev at this ih ⊢
          simp only [Int.mul_add, Int.add_mul, Int.mul_assoc] at this ih ⊢
          omega
        · rw [if_neg hc] at hb
          cases hb
          have := Int.mul_le_mul_of_nonneg_left h2 (show 0 ≤ - q.2 by omega)
          rw [Int.neg_mul, Int.neg_mul] at this
          unfold pa_ev at this ih ⊢
          simp only [Int.mul_add, Int.add_mul, Int.mul_assoc] at this ih ⊢
          omega
      · cases hb
theorem pa_lin_int {lv : px_L} {l : List (Nat × pa_V)} (h : pa_gl n lv l) : ∀ {cs : List (Nat × Int)} {b : pa_B}, pa_lin l cs = some b → ∀ q ∈ cs, q.2 ≠ 0 → ∃ x, px_get lv q.1 = some (.int x)
  | [], _, _, _, hq, _ => nomatch hq
  | p :: r, b, hb, q, hq, hq0 => by
    unfold pa_lin at hb
    by_cases h0 : p.2 = 0
    · rw [if_pos h0] at hb
      rcases List.mem_cons.mp hq with rfl | hq
      · exact absurd h0 hq0
      · exact pa_lin_int h hb q hq hq0
    · rw [if_neg h0] at hb
      split at hb
      · rename_i x b' hx hb'
        rcases List.mem_cons.mp hq with rfl | hq
        · obtain ⟨v, hv, y, rfl, -⟩ := pa_gl_get h hx
          exact ⟨y, hv⟩
        · exact pa_lin_int h hb' q hq hq0
      · cases hb
theorem pa_loc_int {lv : px_L} {i : Nat} {x : Int32} (h : px_get lv i = some (.int x)) : pa_loc lv i = x.toInt := by unfold pa_loc; rw [h]
/-- sums of the two measures -/
theorem pa_zip_ok {lv lv' : px_L} {i : Nat} {c : Int} : ∀ {l m ds : List (Nat × Int)}, pa_zip l m = some ds → (∀ q ∈ l, q.2 ≠ 0 → pa_loc lv q.1 = pa_loc lv' q.1 - (if q.1 = i then c else 0)) → pa_sum lv l - pa_sum lv' m = pa_sum lv' ds - pa_co i l * c
  | [], [], _, h, _ => by cases h; simp [pa_sum, pa_co]
  | [], _ :: _, _, h, _ => nomatch h
  | _ :: _, [], _, h, _ => nomatch h
  | q :: l, p :: m, ds, h, hl => by
    unfold pa_zip at h
    by_cases hq : q.1 = p.1
    · rw [if_pos hq] at h
      split at h
      · rename_i r hr
        cases h
        have ih := pa_zip_ok (i := i) (c := c) hr (fun z hz => hl z (List.mem_cons_of_mem _ hz))
        unfold pa_sum pa_co
        rw [← hq]
        by_cases h0 : q.2 = 0
        · rw [h0]
          simp only [Int.zero_mul, Int.zero_add, Int.zero_sub, Int.neg_mul, ite_self]
          omega
        · have e := hl q List.mem_cons_self h0
          rw [e]
          show q.2 * (pa_loc lv' q.1 - if q.1 = i then c else 0) + pa_sum lv l - (p.2 * pa_loc lv' q.1 + pa_sum lv' m) = (q.2 - p.2) * pa_loc lv' q.1 + pa_sum lv' r - ((if q.1 = i then q.2 else 0) + pa_co i l) * c
          rw [Int.mul_sub, Int.sub_mul, Int.add_mul]
          have e2 : q.2 * (if q.1 = i then c else 0) = (if q.1 = i then q.2 else 0) * c := by
            by_cases hi : q.1 = i
            · rw [if_pos hi, if_pos hi]
            · rw [if_neg hi, if_neg hi, Int.mul_zero, Int.zero_mul]
          rw [e2]
          omega
      · cases h
    · rw [if_neg hq] at h
      cases h
theorem pa_edge_ok (hN : pa_N n) {M M' : pa_W} {u : pa_U} {s s' : pa_S} {lv lv' : px_L} (he : pa_edge M M' u s' = true) (hp : pa_pos M s = true) (h : pa_gl n lv s.1) (h' : pa_gl n lv' s'.1) (hu : pa_uo u lv lv') : pa_mv n M' lv' + 1 ≤ pa_mv n M lv ∧ 0 ≤ pa_mv n M lv := by
  unfold pa_pos at hp
  split at hp
  · rename_i b0 hb0
    have h0 := pa_le_ok hN hp
    have h0' := pa_lin_ok h hb0
    have hint := pa_lin_int h hb0
    unfold pa_edge at he
    split at he
    · rename_i ds hds
      split at he
      · rename_i b hb
        have h1 := pa_lin_ok h' hb
        have hpos : 0 ≤ pa_mv n M lv := by
          unfold pa_mv
          unfold pa_ev at h0 h0' ⊢
          simp only [Int.add_mul, Int.zero_mul] at h0
          omega
        refine ⟨?_, hpos⟩
        split at he
        · cases hu
          have hz := pa_zip_ok (lv := lv) (lv' := lv) (i := 0) (c := 0) hds (fun q _ _ => by simp)
          have hle := pa_le_ok hN he
          rw [Int.mul_zero] at hz
          unfold pa_mv
          unfold pa_ev at hle h1 ⊢
          simp only [Int.add_mul, Int.sub_mul, Int.zero_mul] at hle
          omega
        · rename_i i c
          obtain ⟨hu1, hu2⟩ := hu
          have hz := pa_zip_ok (lv := lv) (lv' := lv') (i := i) (c := c) hds (fun q hq hq0 => by
            obtain ⟨x, hx⟩ := hint q hq hq0
            by_cases hi : q.1 = i
            · rw [if_pos hi]
              obtain ⟨y, hy1, hy2⟩ := hu2 x (hi ▸ hx)
              rw [pa_loc_int hx, hi, pa_loc_int hy1, hy2]
              omega
            · rw [if_neg hi, pa_loc_int hx, pa_loc_int (hu1 _ _ hi hx)]
              omega)
          have hle := pa_le_ok hN he
          unfold pa_mv
          unfold pa_ev at hle h1 ⊢
          simp only [Int.add_mul, Int.sub_mul, Int.zero_mul] at hle
          omega
        · rename_i i
          simp only [Bool.and_eq_true] at he
          have hz := pa_zip_ok (lv := lv) (lv' := lv') (i := i) (c := 0) hds (fun q hq hq0 => by
            obtain ⟨x, hx⟩ := hint q hq hq0
            have hall := List.all_eq_true.mp he.2 q hq
            simp only [Bool.or_eq_true, Bool.and_eq_true, beq_iff_eq, Bool.not_eq_true', beq_eq_false_iff_ne] at hall
            rcases hall with hall | hall
            · exact absurd hall hq0
            · rw [pa_loc_int hx, pa_loc_int (hu _ _ hall.1.1 hall.1.2 hall.2 hx)]
              simp)
          have hle := pa_le_ok hN he.1
          rw [Int.mul_zero] at hz
          unfold pa_mv
          unfold pa_ev at hle h1 ⊢
          simp only [Int.add_mul, Int.sub_mul, Int.zero_mul] at hle
          omega
      · cases he
    · cases he
  · cases hp
/-! a state that says less -/
theorem pa_gf_get {a0 : Nat} {hp : px_H} {l : List (Nat × pa_B × pa_B)} {k : Nat} {x : pa_B × pa_B} (h : pa_gf n a0 hp l) (hg : pa_fget l k = some x) : ∃ y : Int32, pa_fd hp a0 k = some (.int y) ∧ pa_ev n x.1 ≤ y.toInt ∧ y.toInt ≤ pa_ev n x.2 := by
  induction l with
  | nil => cases hg
  | cons q r ih =>
    unfold pa_fget at hg
    obtain ⟨h1, h2⟩ := h
    by_cases hq : q.1 = k
    · rw [if_pos hq] at hg
      cases hg
      rw [← hq]
      exact h1
    · rw [if_neg hq] at hg
      exact ih h2 hg
theorem pa_ss_ok (hN : pa_N n) {a0 : Nat} {lv : px_L} {hp : px_H} : ∀ {l m : List pa_V} {vs : List Value}, pa_ss l m = true → pa_gs n a0 lv hp l vs → pa_gs n a0 lv hp m vs
  | [], [], [], _, _ => trivial
  | [], [], _ :: _, _, h => nomatch h
  | [], _ :: _, _, h, _ => nomatch h
  | _ :: _, [], _, h, _ => nomatch h
  | _ :: _, _ :: _, [], _, h => nomatch h
  | A :: l, B :: m, v :: vs, h, k => by
    unfold pa_ss at h
    simp only [Bool.and_eq_true] at h
    refine ⟨⟨pa_sub1_ok hN h.1.1 k.1.1, ?_⟩, pa_ss_ok hN h.2 k.2⟩
    have ho := k.1.2
    have hs := h.1.2
    have hb := h.1.1
    rcases A with x | x | x <;> rcases B with y | y | y <;> try (cases hb; done)
    · unfold pa_so at hs
      simp only [Bool.or_eq_true, beq_iff_eq] at hs
      rcases hs with hs | hs
      · exact Or.inl hs
      · obtain ⟨y1, y2, y3⟩ := y
        have hs' : y3 = x.2.2 := hs
        subst hs'
        exact ho
    · trivial
    · unfold pa_so at hs
      simp only [Bool.or_eq_true, Bool.and_eq_true, beq_iff_eq] at hs
      rcases hs with hs | hs
      · exact Or.inl hs
      · rcases ho with ho | ho
        · exact absurd (hs.1.symm.trans ho) (by decide)
        · exact Or.inr ho
theorem pa_sl_ok (hN : pa_N n) {lv : px_L} {l : List (Nat × pa_V)} (h : pa_gl n lv l) : ∀ {m : List (Nat × pa_V)}, pa_sl l m = true → pa_gl n lv m
  | [], _ => trivial
  | q :: m, hs => by
    unfold pa_sl at hs
    simp only [List.all_cons, Bool.and_eq_true] at hs
    obtain ⟨h1, h2⟩ := hs
    split at h1
    · rename_i A hA
      obtain ⟨v, hv, hg⟩ := pa_gl_get h hA
      exact ⟨⟨v, hv, pa_sub1_ok hN h1 hg⟩, pa_sl_ok hN h h2⟩
    · cases h1
theorem pa_sf_ok (hN : pa_N n) {a0 : Nat} {hp : px_H} {l : List (Nat × pa_B × pa_B)} (h : pa_gf n a0 hp l) : ∀ {m : List (Nat × pa_B × pa_B)}, pa_sf l m = true → pa_gf n a0 hp m
  | [], _ => trivial
  | q :: m, hs => by
    unfold pa_sf at hs
    simp only [List.all_cons, Bool.and_eq_true] at hs
    obtain ⟨h1, h2⟩ := hs
    split at h1
    · rename_i x hx
      simp only [Bool.and_eq_true] at h1
      obtain ⟨y, hy, e1, e2⟩ := pa_gf_get h hx
      exact ⟨⟨y, hy, Int.le_trans (pa_le_ok hN h1.1) e1, Int.le_trans e2 (pa_le_ok hN h1.2)⟩, pa_sf_ok hN h h2⟩
    · cases h1
def pa_sq (a0 : Nat) (lv : px_L) : Prop := ∀ a, ((0, .ref a) : Nat × Value) ∈ lv → a = a0
def pa_ST (n a0 : Nat) (s : pa_S) (lv : px_L) (st : List Value) (hp : px_H) : Prop := pa_gl n lv s.1 ∧ pa_gs n a0 lv hp s.2.1 st ∧ pa_gf n a0 hp s.2.2 ∧ pa_sq a0 lv
theorem pa_sS_ok (hN : pa_N n) {a0 : Nat} {s t : pa_S} {lv : px_L} {st : List Value} {hp : px_H} (h : pa_sS s t = true) (hs : pa_ST n a0 s lv st hp) : pa_ST n a0 t lv st hp := by
  unfold pa_sS at h
  simp only [Bool.and_eq_true] at h
  obtain ⟨h1, h2, h3, h4⟩ := hs
  exact ⟨pa_sl_ok hN h1 h.1.1, pa_ss_ok hN h.1.2 h2, pa_sf_ok hN h3 h.2, h4⟩
/-! heaps -/
theorem pa_Hi_get {hp : px_H} (H : pa_Hi n hp) {a r : Nat} (hr : pa_rg n a = r) (h9 : r ≠ 99) : pa_gc n (pa_rs r) hp[a]? := by
  rw [← hr]; exact H.1 a (by rw [hr]; exact h9)
theorem pa_fd_get {hp : px_H} {a k t : Nat} {vs : List Value} (h : hp[a]? = some (t, vs)) : pa_fd hp a k = vs[k]? := by unfold pa_fd; rw [h]
theorem pa_lo {a r : Nat} (hr : pa_rg n a = r) (h8 : 8 ≤ r) (h9 : r ≠ 99) : 8 ≤ a := by
  unfold pa_rg at hr
  repeat (split at hr <;> try omega)
/-- a write of one place, of a value that its region allows -/
theorem pa_Hi_set {hp : px_H} (H : pa_Hi n hp) {a r t k : Nat} {vs : List Value} {v : Value} (hr : pa_rg n a = r) (h9 : r ≠ 99) (hh : hp[a]? = some (t, vs)) (hv : match (pa_rs r).2 with
    | .inl l => ∃ A, l[k]? = some A ∧ pa_gv n A v
    | .inr q => pa_gv n q.2 v) (h01 : a = 8 → 2 ≤ k) : pa_Hi n (px_set hp a t vs k v) := by
  refine ⟨?_, ?_⟩
  rotate_left
  · obtain ⟨W, V, ws, w1, w2, w3, w4, w5, w6⟩ := H.2
    by_cases ha : a = 8
    · subst ha
      rw [hh] at w4
      cases w4
      have hk := h01 rfl
      refine ⟨W, V, vs.set k v, w1, w2, w3, px_self hh, ?_, ?_⟩
      · rw [List.getElem?_set_ne (by omega)]; exact w5
      · rw [List.getElem?_set_ne (by omega)]; exact w6
    · exact ⟨W, V, ws, w1, w2, w3, px_ne w4 ha, w5, w6⟩
  intro b hb
  unfold px_set
  by_cases hab : b = a
  · subst hab
    rw [px_self hh, hr]
    obtain ⟨ws, e, hws⟩ := pa_Hi_get H hr h9
    rw [hh] at e
    cases e
    refine ⟨_, rfl, ?_⟩
    split at hws
    · rename_i l hl
      rw [hl] at hv
      obtain ⟨A, hA, hAv⟩ := hv
      exact pa_gfs_set hws hA hAv
    · rename_i q hq
      rw [hq] at hv
      refine ⟨by rw [List.length_set]; exact hws.1, ?_⟩
      intro w hw
      rcases List.mem_or_eq_of_mem_set hw with h | h
      · exact hws.2 w h
      · rw [h]; exact hv
  · rw [List.getElem?_set_ne (Ne.symm hab)]
    exact H.1 b hb
theorem pa_Fr_set {M : pa_M} {hp : px_H} {a t k : Nat} {vs : List Value} {v : Value} (hh : hp[a]? = some (t, vs)) (hM : (pa_rg n a, if t < 10 then k else 0) ∈ M) : pa_Fr n M hp (px_set hp a t vs k v) := by
  intro b u ws hb
  unfold px_set
  by_cases hab : b = a
  · subst hab
    rw [hh] at hb
    cases hb
    refine ⟨_, px_self hh, List.length_set, ?_⟩
    intro i hi
    by_cases hik : i = k
    · subst hik; exact absurd hM hi
    · rw [List.getElem?_set_ne (Ne.symm hik)]
  · exact ⟨ws, px_ne hb (Ne.symm hab), rfl, fun _ _ => rfl⟩
end PB
