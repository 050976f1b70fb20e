/-! arithmetic -/
theorem i32_add {a b : Int32} (h1 : -2147483648 ≤ a.toInt + b.toInt) (h2 : a.toInt + b.toInt ≤ 2147483647) : (a + b).toInt = a.toInt + b.toInt := by
  rw [Int32.toInt_add]
  dsimp only [Int.bmod]
  split <;> omega
theorem i32_sub {a b : Int32} (h1 : -2147483648 ≤ a.toInt - b.toInt) (h2 : a.toInt - b.toInt ≤ 2147483647) : (a - b).toInt = a.toInt - b.toInt := by
  rw [Int32.toInt_sub]
  dsimp only [Int.bmod]
  split <;> omega
theorem i32_mul {a b : Int32} (h1 : -2147483648 ≤ a.toInt * b.toInt) (h2 : a.toInt * b.toInt ≤ 2147483647) : (a * b).toInt = a.toInt * b.toInt := by
  rw [Int32.toInt_mul]
  generalize a.toInt * b.toInt = p at *
  dsimp only [Int.bmod]
  split <;> omega
theorem i32_nn {x : Int32} (h : 0 ≤ x.toInt) : ¬ x < 0 := by
  rw [Int32.lt_iff_toInt_lt]
  have e0 : (0 : Int32).toInt = 0 := rfl
  omega
theorem i32_of {x : Int32} (h : 0 ≤ x.toInt) : ∃ j : Nat, j < 2 ^ 31 ∧ x = nI j ∧ x.toInt = (j : Int) := by
  obtain ⟨j, h1, h2⟩ := nI_of (i32_nn h)
  exact ⟨j, h1, h2, by rw [h2, nI_toInt h1]⟩
theorem i32_and {x y : Int32} (h : 0 ≤ y.toInt) : 0 ≤ (x &&& y).toInt ∧ (x &&& y).toInt ≤ y.toInt := by
  obtain ⟨j, h1, rfl, h3⟩ := i32_of h
  have hle : x.toBitVec.toNat &&& j ≤ j := Nat.and_le_right
  have e : x &&& nI j = nI (x.toBitVec.toNat &&& j) := by
    apply Int32.toBitVec_inj.mp
    apply BitVec.eq_of_toNat_eq
    rw [Int32.toBitVec_and, BitVec.toNat_and, pk_tn (by omega), pk_tn (by omega)]
  rw [e, nI_toInt (by omega), h3]
  omega
theorem i32_rem {x y : Int32} (hx : 0 ≤ x.toInt) (hy : 1 ≤ y.toInt) : 0 ≤ (x - x / y * y).toInt ∧ (x - x / y * y).toInt ≤ y.toInt - 1 := by
  obtain ⟨a, h1, rfl, h3⟩ := i32_of hx
  obtain ⟨b, h4, rfl, h6⟩ := i32_of (show 0 ≤ y.toInt by omega)
  have hb : 0 < b := by omega
  have := Nat.mod_lt a hb
  rw [pk_rem h1 hb h4, nI_toInt (by omega), h6]
  omega
theorem i32_div {x y : Int32} (hx : 0 ≤ x.toInt) (hy : 1 ≤ y.toInt) : 0 ≤ (x / y).toInt ∧ (x / y).toInt ≤ x.toInt := by
  obtain ⟨a, h1, rfl, h3⟩ := i32_of hx
  obtain ⟨b, h4, rfl, h6⟩ := i32_of (show 0 ≤ y.toInt by omega)
  have hb : 0 < b := by omega
  have := Nat.div_le_self a b
  rw [pk_div h1 hb h4, nI_toInt (by omega), h3]
  exact ⟨Int.natCast_nonneg _, Int.ofNat_le.mpr this⟩
/-! what a step comes to -/
def pa_Ok (tb : pa_T) (n a0 : Nat) (env : List (Nat × pa_K)) (K : pa_K) (j pc : Nat) (lv : px_L) (st : List Value) (hp : px_H) (i : Instr) (L : List (Nat × pa_S × pa_U)) : Prop :=
  (∃ f : px_F, px_step j pc lv st hp i = some (.inl f) ∧ ∃ q ∈ L, q.1 = f.1 ∧ pa_ST n a0 q.2.1 f.2.1 f.2.2.1 f.2.2.2 ∧ pa_Hi n f.2.2.2 ∧ pa_Fr n K.2.2.2 hp f.2.2.2 ∧ f.2.2.2.length = hp.length ∧ pa_uo q.2.2 lv f.2.1)
  ∨ (∃ r : px_E, px_step j pc lv st hp i = some (.inr (.inl r)) ∧ pa_Po n K hp r.1 r.2)
  ∨ (∃ (j' : Nat) (as rest : List Value) (k : pa_K), px_step j pc lv st hp i = some (.inr (.inr (j', as, rest))) ∧ (j', k) ∈ env ∧ pa_gfs n k.1 as ∧ px_kd j' ≠ 2 ∧ (k.2.2.1 = true → K.2.2.1 = true) ∧ (∀ q ∈ k.2.2.2, q ∈ K.2.2.2) ∧ ∀ v hp', pa_gr n k.2.1 v → pa_Ak n (pa_al tb j') as (.inl v) → pa_Hi n hp' → pa_Fr n k.2.2.2 hp hp' → ∃ q ∈ L, q.1 = pc + 3 ∧ q.2.2 = none ∧ pa_ST n a0 q.2.1 lv (v.toList ++ rest) hp')
section PC
variable {tb : pa_T} {n a0 : Nat} {env : List (Nat × pa_K)} {K : pa_K} {j pc : Nat} {lv : px_L} {st : List Value} {hp : px_H} {ins : Instr} {L : List (Nat × pa_S × pa_U)} {s : pa_S}
theorem pa_ok1 {pc' : Nat} {lv' : px_L} {st' : List Value} {s' : pa_S} {u : pa_U} (H : pa_Hi n hp) (h : px_step j pc lv st hp ins = px_go pc' lv' st' hp) (hL : some [(pc', s', u)] = some L) (hs : pa_ST n a0 s' lv' st' hp) (hu : pa_uo u lv lv') : pa_Ok tb n a0 env K j pc lv st hp ins L := by
  cases hL
  exact Or.inl ⟨(pc', lv', st', hp), h, _, List.mem_cons_self, rfl, hs, H, pa_Fr.refl _, rfl, hu⟩
theorem pa_sq_s1 {i : Nat} {v : Value} (h : pa_sq a0 lv) (hi : i ≠ 0) : pa_sq a0 (px_s1 lv i v) := by
  intro a ha
  unfold px_s1 at ha
  rcases List.mem_cons.mp ha with e | e
  · cases e; exact absurd rfl hi
  · exact h a (List.mem_filter.mp e).1
theorem pa_sq_s2 {i : Nat} {v : Value} (h : pa_sq a0 lv) (hi : i ≠ 0) : pa_sq a0 (px_s2 lv i v) := by
  intro a ha
  unfold px_s2 at ha
  rcases List.mem_cons.mp ha with e | e
  · cases e; exact absurd rfl hi
  · exact h a (List.mem_filter.mp e).1
theorem pa_gs_s1 {i : Nat} {v : Value} {l : List pa_V} {vs : List Value} (h : pa_gs n a0 lv hp l vs) : pa_gs n a0 (px_s1 lv i v) hp (l.map (pa_cl (fun o => o == i + 1))) vs := by
  refine pa_gs_imp h ?_
  intro A _ w hw ho
  refine ⟨pa_cl_gv hw, ?_⟩
  rcases A with x | x | x
  · obtain ⟨x1, x2, o⟩ := x
    obtain ⟨z, rfl, -⟩ := hw
    by_cases e : o = i + 1
    · have zz : pa_cl (fun o => o == i + 1) (.inl (x1, x2, o)) = .inl (x1, x2, 0) := by simp [pa_cl, e]
      rw [zz]; exact Or.inl rfl
    · have zz : pa_cl (fun o => o == i + 1) (.inl (x1, x2, o)) = .inl (x1, x2, o) := by simp [pa_cl, e]
      rw [zz]
      rcases ho with ho | ho | ho
      · exact Or.inl ho
      · change o < 100 ∧ px_get lv (o - 1) = some (.int z) at ho
        by_cases h0 : o = 0
        · exact Or.inl h0
        · exact Or.inr (Or.inl ⟨ho.1, px_s1_ne ho.2 (by show o - 1 ≠ i; omega) (Or.inl rfl)⟩)
      · exact Or.inr (Or.inr ho)
  · trivial
  · exact ho
theorem pa_gs_s2 {i : Nat} {v : Value} {l : List pa_V} {vs : List Value} (h : pa_gs n a0 lv hp l vs) : pa_gs n a0 (px_s2 lv i v) hp (l.map (pa_cl (fun o => o == i + 1 || o == i + 2))) vs := by
  refine pa_gs_imp h ?_
  intro A _ w hw ho
  refine ⟨pa_cl_gv hw, ?_⟩
  rcases A with x | x | x
  · obtain ⟨x1, x2, o⟩ := x
    obtain ⟨z, rfl, -⟩ := hw
    by_cases e : o = i + 1 ∨ o = i + 2
    · have zz : pa_cl (fun o => o == i + 1 || o == i + 2) (.inl (x1, x2, o)) = .inl (x1, x2, 0) := by rcases e with e | e <;> simp [pa_cl, e]
      rw [zz]; exact Or.inl rfl
    · have zz : pa_cl (fun o => o == i + 1 || o == i + 2) (.inl (x1, x2, o)) = .inl (x1, x2, o) := by
        have e2 : ¬ o = i + 1 ∧ ¬ o = i + 2 := by omega
        simp [pa_cl, e2.1, e2.2]
      rw [zz]
      rcases ho with ho | ho | ho
      · exact Or.inl ho
      · change o < 100 ∧ px_get lv (o - 1) = some (.int z) at ho
        by_cases h0 : o = 0
        · exact Or.inl h0
        · exact Or.inr (Or.inl ⟨ho.1, px_s2_ne ho.2 (by show o - 1 ≠ i; omega) (by show o - 1 ≠ i + 1; omega) (Or.inl rfl)⟩)
      · exact Or.inr (Or.inr ho)
  · trivial
  · exact ho
theorem pa_push {A : pa_V} {v : Value} (hs : pa_ST n a0 s lv st hp) {r : List pa_V} {vs : List Value} (hr : pa_gs n a0 lv hp r vs) (hA : pa_gv n A v) (ho : pa_or a0 lv hp A v) : pa_ST n a0 (s.1, A :: r, s.2.2) lv (v :: vs) hp :=
  ⟨hs.1, ⟨⟨hA, ho⟩, hr⟩, hs.2.2.1, hs.2.2.2⟩
theorem pa_ld_ok {t k i : Nat} (hs : pa_ST n a0 s lv st hp) (H : pa_Hi n hp) (hx : px_step j pc lv st hp ins = px_ld k t pc lv st hp i) (ht : pa_ld t k pc s i = some L) : pa_Ok tb n a0 env K j pc lv st hp ins L := by
  unfold pa_ld at ht
  split at ht
  · rename_i q hq
    split at ht
    · rename_i hc
      obtain ⟨v, hv, x, rfl, h1, h2⟩ := pa_gl_get hs.1 hq
      refine pa_ok1 H (hx.trans ?_) ht (pa_push hs hs.2.1 ⟨x, rfl, h1, h2⟩ (Or.inr (Or.inl ⟨by show i + 1 < 100; omega, hv⟩))) rfl
      unfold px_ld
      rw [hv]
      simp only [hc.1, if_true]
    · cases ht
  · rename_i q hq
    split at ht
    · rename_i hc
      obtain ⟨v, hv, x, rfl⟩ := pa_gl_get hs.1 hq
      refine pa_ok1 H (hx.trans ?_) ht (pa_push hs hs.2.1 ⟨x, rfl⟩ trivial) rfl
      unfold px_ld
      rw [hv]
      simp only [hc, if_true]
    · cases ht
  · rename_i q hq
    split at ht
    · rename_i hc
      obtain ⟨v, hv, x, rfl, h1, h2⟩ := pa_gl_get hs.1 hq
      refine pa_ok1 H (hx.trans ?_) ht (pa_push hs hs.2.1 ⟨x, rfl, h1, h2⟩ ?_) rfl
      · unfold px_ld
        rw [hv]
        simp only [hc, if_true]
      · by_cases h0 : i = 0
        · subst h0
          exact Or.inr (by rw [hs.2.2.2 x (px_get_mem hv)])
        · exact Or.inl (if_neg h0)
    · cases ht
  · cases ht
theorem pa_sv_ok {t k i : Nat} (hs : pa_ST n a0 s lv st hp) (H : pa_Hi n hp) (hx : px_step j pc lv st hp ins = px_sv k t (px_ml j) pc lv st hp i) (ht : pa_sv t k (px_ml j) pc s i = some L) : pa_Ok tb n a0 env K j pc lv st hp ins L := by
  obtain ⟨sl, ss, sf⟩ := s
  obtain ⟨hl, hss, hf, hq⟩ := hs
  unfold pa_sv at ht
  split at ht
  · rename_i q r e
    change ss = _ at e
    subst e
    cases st with
    | nil => exact nomatch hss
    | cons v vs =>
      obtain ⟨⟨⟨x, rfl, h1, h2⟩, -⟩, hr⟩ := hss
      split at ht
      · rename_i hc
        refine pa_ok1 H (hx.trans ?_) ht ⟨pa_put1 hl ⟨x, rfl, h1, h2⟩ rfl, pa_gs_s1 hr, hf, pa_sq_s1 hq hc.2.2⟩ ?_
        · unfold px_sv
          simp only [hc.1, hc.2.1, true_and, if_true]
        · intro m y _ h3 _ h5
          exact px_s1_ne h5 (by omega) (Or.inl rfl)
      · cases ht
  · rename_i q r e
    change ss = _ at e
    subst e
    cases st with
    | nil => exact nomatch hss
    | cons v vs =>
      obtain ⟨⟨⟨x, rfl⟩, -⟩, hr⟩ := hss
      split at ht
      · rename_i hc
        refine pa_ok1 H (hx.trans ?_) ht ⟨pa_put2 hl ⟨x, rfl⟩, pa_gs_s2 hr, hf, pa_sq_s2 hq hc.2.2⟩ ?_
        · unfold px_sv
          simp only [hc.1, hc.2.1, true_and, if_true]
        · intro m y h3 _ h4 h5
          exact px_s2_ne h5 h3 h4 (Or.inl rfl)
      · cases ht
  · rename_i q r e
    change ss = _ at e
    subst e
    cases st with
    | nil => exact nomatch hss
    | cons v vs =>
      obtain ⟨⟨⟨x, rfl, h1, h2⟩, -⟩, hr⟩ := hss
      split at ht
      · rename_i hc
        refine pa_ok1 H (hx.trans ?_) ht ⟨pa_put1 hl ⟨x, rfl, h1, h2⟩ rfl, pa_gs_s1 hr, hf, pa_sq_s1 hq hc.2.2⟩ ?_
        · unfold px_sv
          simp only [hc.1, hc.2.1, true_and, if_true]
        · intro m y _ h3 _ h5
          exact px_s1_ne h5 (by omega) (Or.inl rfl)
      · cases ht
  · cases ht
theorem pa_ev_add (a b : pa_B) : pa_ev n (a.1 + b.1, a.2 + b.2) = pa_ev n a + pa_ev n b := by
  unfold pa_ev
  simp only [Int.add_mul]
  omega
theorem pa_ev_sub (a b : pa_B) : pa_ev n (a.1 - b.1, a.2 - b.2) = pa_ev n a - pa_ev n b := by
  unfold pa_ev
  simp only [Int.sub_mul]
  omega
theorem pa_ev_c (a : pa_B) (c : Int) : pa_ev n (a.1 + c, a.2) = pa_ev n a + c := by
  unfold pa_ev
  simp only
  omega
theorem pa_ev_d (a : pa_B) (c : Int) : pa_ev n (a.1 - c, a.2) = pa_ev n a - c := by
  unfold pa_ev
  simp only
  omega
theorem pa_ev_0 (c : Int) : pa_ev n (c, 0) = c := by
  unfold pa_ev
  simp
theorem pa_inc_ok (hN : pa_N n) {i : Nat} {c : Int} (hs : pa_ST n a0 s lv st hp) (H : pa_Hi n hp) (hx : px_step j pc lv st hp ins = match px_get lv i with
    | some (.int x) => if i < px_ml j then px_go (pc + 3) (px_s1 lv i (.int (x + Int32.ofInt c))) st hp else none
    | _ => none) (ht : pa_inc pc (px_ml j) s i (Int32.ofInt c).toInt = some L) : pa_Ok tb n a0 env K j pc lv st hp ins L := by
  unfold pa_inc at ht
  split at ht
  · rename_i q hq
    split at ht
    · rename_i hc
      obtain ⟨v, hv, x, rfl, h1, h2⟩ := pa_gl_get hs.1 hq
      have b1 := pa_le_ok hN hc.2.2.1
      have b2 := pa_le_ok hN hc.2.2.2
      rw [pa_ev_0, pa_ev_c] at b1
      rw [pa_ev_0, pa_ev_c] at b2
      have hadd : (x + Int32.ofInt c).toInt = x.toInt + (Int32.ofInt c).toInt := i32_add (by omega) (by omega)
      refine pa_ok1 (lv' := px_s1 lv i (.int (x + Int32.ofInt c))) (st' := st) H (hx.trans ?_) ht ⟨pa_put1 hs.1 ⟨x + Int32.ofInt c, rfl, ?_, ?_⟩ rfl, pa_gs_s1 hs.2.1, hs.2.2.1, pa_sq_s1 hs.2.2.2 hc.2.1⟩ ⟨?_, ?_⟩
      · rw [hv]
        simp only [hc.1, if_true]
      · show pa_ev n (q.1.1 + _, q.1.2) ≤ _
        rw [pa_ev_c, hadd]; omega
      · show _ ≤ pa_ev n (q.2.1.1 + _, q.2.1.2)
        rw [pa_ev_c, hadd]; omega
      · intro k y hk hy
        exact px_s1_ne hy hk (Or.inl rfl)
      · intro y hy
        rw [hv] at hy
        cases hy
        exact ⟨_, px_s1_self _ _ _, hadd⟩
    · split at ht
      · rename_i hc
        obtain ⟨v, hv, x, rfl, h1, h2⟩ := pa_gl_get hs.1 hq
        refine pa_ok1 (lv' := px_s1 lv i (.int (x + Int32.ofInt c))) (st' := st) H (hx.trans ?_) ht ⟨pa_put1 hs.1 (pa_top_ok _) rfl, pa_gs_s1 hs.2.1, hs.2.2.1, pa_sq_s1 hs.2.2.2 hc.2⟩ ?_
        · rw [hv]
          simp only [hc.1, if_true]
        · intro k y _ hk _ hy
          exact px_s1_ne hy (by omega) (Or.inl rfl)
      · cases ht
  · cases ht
theorem pa_gs1 {A : pa_V} {r : List pa_V} (h : pa_gs n a0 lv hp (A :: r) st) : ∃ v vs, st = v :: vs ∧ (pa_gv n A v ∧ pa_or a0 lv hp A v) ∧ pa_gs n a0 lv hp r vs := by
  cases st with
  | nil => exact nomatch h
  | cons v vs => exact ⟨v, vs, rfl, h.1, h.2⟩
theorem pa_gs2 {A B : pa_V} {r : List pa_V} (h : pa_gs n a0 lv hp (A :: B :: r) st) : ∃ v w vs, st = v :: w :: vs ∧ (pa_gv n A v ∧ pa_or a0 lv hp A v) ∧ (pa_gv n B w ∧ pa_or a0 lv hp B w) ∧ pa_gs n a0 lv hp r vs := by
  obtain ⟨v, vs, rfl, h1, h2⟩ := pa_gs1 h
  obtain ⟨w, ws, rfl, h3, h4⟩ := pa_gs1 h2
  exact ⟨v, w, ws, rfl, h1, h3, h4⟩
/-- two ints -/
theorem pa_bin_ok {f : (pa_B × pa_B) → (pa_B × pa_B) → Option pa_V} {g : Int32 → Int32 → Int32} (hs : pa_ST n a0 s lv st hp) (H : pa_Hi n hp)
    (hf : ∀ X Y A x y, f X Y = some A → pa_ev n X.1 ≤ x.toInt → x.toInt ≤ pa_ev n X.2 → pa_ev n Y.1 ≤ y.toInt → y.toInt ≤ pa_ev n Y.2 → pa_gv n A (.int (g x y)) ∧ ∀ lo hi o, A = .inl (lo, hi, o) → o = 0)
    (hx : ∀ x y r, st = .int y :: .int x :: r → (∃ X Y A, f X Y = some A ∧ pa_ev n Y.1 ≤ y.toInt ∧ y.toInt ≤ pa_ev n Y.2) → px_step j pc lv st hp ins = px_go (pc + 1) lv (.int (g x y) :: r) hp) (ht : pa_bin pc s f = some L) : pa_Ok tb n a0 env K j pc lv st hp ins L := by
  obtain ⟨sl, ss, sf⟩ := s
  obtain ⟨hl, hss, hfs, hq⟩ := hs
  unfold pa_bin at ht
  split at ht
  · rename_i y x r e
    change ss = _ at e
    subst e
    obtain ⟨v, w, vs, rfl, ⟨⟨y', rfl, y1, y2⟩, -⟩, ⟨⟨x', rfl, x1, x2⟩, -⟩, hr⟩ := pa_gs2 hss
    · split at ht
      · rename_i A hA
        obtain ⟨g1, g2⟩ := hf _ _ _ _ _ hA x1 x2 y1 y2
        refine pa_ok1 H (hx _ _ _ rfl ⟨_, _, _, hA, y1, y2⟩) ht ⟨hl, ⟨⟨g1, ?_⟩, hr⟩, hfs, hq⟩ rfl
        rcases A with z | z | z
        · exact Or.inl (g2 _ _ _ rfl)
        · trivial
        · obtain ⟨_, hz, -⟩ := g1; cases hz
      · cases ht
  · cases ht
theorem pa_rng_ok (hN : pa_N n) {lo hi : pa_B} {x : Int32} (h : -2147483648 ≤ pa_ev n lo → pa_ev n hi ≤ 2147483647 → pa_ev n lo ≤ x.toInt ∧ x.toInt ≤ pa_ev n hi) : pa_gv n (pa_rng lo hi) (.int x) ∧ ∀ lo' hi' o, pa_rng lo hi = .inl (lo', hi', o) → o = 0 := by
  unfold pa_rng
  by_cases hc : (pa_le (-2147483648, 0) lo && pa_le hi (2147483647, 0)) = true
  · rw [if_pos hc]
    simp only [Bool.and_eq_true] at hc
    have b1 := pa_le_ok hN hc.1
    have b2 := pa_le_ok hN hc.2
    rw [pa_ev_0] at b1 b2
    obtain ⟨e1, e2⟩ := h b1 b2
    exact ⟨⟨x, rfl, e1, e2⟩, fun _ _ _ e => by cases e; rfl⟩
  · rw [if_neg hc]
    exact ⟨pa_top_ok x, fun _ _ _ e => by cases e; rfl⟩
theorem pa_add_ok (hN : pa_N n) : ∀ X Y A x y, pa_add X Y = some A → pa_ev n X.1 ≤ x.toInt → x.toInt ≤ pa_ev n X.2 → pa_ev n Y.1 ≤ y.toInt → y.toInt ≤ pa_ev n Y.2 → pa_gv n A (.int (x + y)) ∧ ∀ lo hi o, A = .inl (lo, hi, o) → o = 0 := by
  intro X Y A x y h h1 h2 h3 h4
  cases h
  refine pa_rng_ok hN ?_
  rw [pa_ev_add, pa_ev_add]
  intro b1 b2
  rw [i32_add (by omega) (by omega)]
  omega
theorem pa_sub_ok (hN : pa_N n) : ∀ X Y A x y, pa_sub X Y = some A → pa_ev n X.1 ≤ x.toInt → x.toInt ≤ pa_ev n X.2 → pa_ev n Y.1 ≤ y.toInt → y.toInt ≤ pa_ev n Y.2 → pa_gv n A (.int (x - y)) ∧ ∀ lo hi o, A = .inl (lo, hi, o) → o = 0 := by
  intro X Y A x y h h1 h2 h3 h4
  cases h
  refine pa_rng_ok hN ?_
  rw [pa_ev_sub, pa_ev_sub]
  intro b1 b2
  rw [i32_sub (by omega) (by omega)]
  omega
theorem pa_mul_ok : ∀ X Y A x y, pa_mul X Y = some A → pa_ev n X.1 ≤ x.toInt → x.toInt ≤ pa_ev n X.2 → pa_ev n Y.1 ≤ y.toInt → y.toInt ≤ pa_ev n Y.2 → pa_gv n A (.int (x * y)) ∧ ∀ lo hi o, A = .inl (lo, hi, o) → o = 0 := by
  intro X Y A x y h h1 h2 h3 h4
  unfold pa_mul at h
  split at h
  · rename_i hc
    obtain ⟨c1, c2, c3, c4, c5, c6, c7, c8, c9⟩ := hc
    cases h
    unfold pa_ev at h1 h2 h3 h4
    rw [c1] at h1
    rw [c2] at h2
    rw [c3] at h3
    rw [c4] at h4
    simp only [Int.zero_mul, Int.add_zero] at h1 h2 h3 h4
    have p0 : 0 ≤ x.toInt * y.toInt := Int.mul_nonneg (by omega) (by omega)
    have p1 : x.toInt * y.toInt ≤ X.2.1 * Y.2.1 := Int.mul_le_mul h2 h4 (by omega) (by omega)
    have e := i32_mul (a := x) (b := y) (by omega) (by omega)
    refine ⟨⟨_, rfl, ?_, ?_⟩, fun _ _ _ e => by cases e; rfl⟩
    · rw [pa_ev_0, e]; exact p0
    · rw [pa_ev_0, e]; exact p1
  · cases h
    exact ⟨pa_top_ok _, fun _ _ _ e => by cases e; rfl⟩
theorem pa_and_ok (hN : pa_N n) : ∀ X Y A x y, pa_and X Y = some A → pa_ev n X.1 ≤ x.toInt → x.toInt ≤ pa_ev n X.2 → pa_ev n Y.1 ≤ y.toInt → y.toInt ≤ pa_ev n Y.2 → pa_gv n A (.int (x &&& y)) ∧ ∀ lo hi o, A = .inl (lo, hi, o) → o = 0 := by
  intro X Y A x y h h1 h2 h3 h4
  unfold pa_and at h
  split at h
  · rename_i hc
    have b := pa_le_ok hN hc
    rw [pa_ev_0] at b
    have e := i32_and (x := x) (y := y) (by omega)
    cases h
    refine ⟨⟨_, rfl, ?_, ?_⟩, fun _ _ _ e => by cases e; rfl⟩
    · rw [pa_ev_0]; exact e.1
    · show _ ≤ pa_ev n Y.2; omega
  · cases h
    exact ⟨pa_top_ok _, fun _ _ _ e => by cases e; rfl⟩
theorem pa_rem_ok (hN : pa_N n) : ∀ X Y A x y, pa_rem X Y = some A → pa_ev n X.1 ≤ x.toInt → x.toInt ≤ pa_ev n X.2 → pa_ev n Y.1 ≤ y.toInt → y.toInt ≤ pa_ev n Y.2 → pa_gv n A (.int (x - x / y * y)) ∧ ∀ lo hi o, A = .inl (lo, hi, o) → o = 0 := by
  intro X Y A x y h h1 h2 h3 h4
  unfold pa_rem at h
  split at h
  · rename_i hy
    have b := pa_le_ok hN hy
    rw [pa_ev_0] at b
    split at h
    · rename_i hx
      have b2 := pa_le_ok hN hx
      rw [pa_ev_0] at b2
      have e := i32_rem (x := x) (y := y) (by omega) (by omega)
      cases h
      refine ⟨⟨_, rfl, ?_, ?_⟩, fun _ _ _ e => by cases e; rfl⟩
      · rw [pa_ev_0]; exact e.1
      · show _ ≤ pa_ev n (Y.2.1 - 1, Y.2.2)
        rw [pa_ev_d]; omega
    · cases h
      exact ⟨pa_top_ok _, fun _ _ _ e => by cases e; rfl⟩
  · cases h
theorem pa_div_ok (hN : pa_N n) : ∀ X Y A x y, pa_div X Y = some A → pa_ev n X.1 ≤ x.toInt → x.toInt ≤ pa_ev n X.2 → pa_ev n Y.1 ≤ y.toInt → y.toInt ≤ pa_ev n Y.2 → pa_gv n A (.int (x / y)) ∧ ∀ lo hi o, A = .inl (lo, hi, o) → o = 0 := by
  intro X Y A x y h h1 h2 h3 h4
  unfold pa_div at h
  split at h
  · rename_i hy
    have b := pa_le_ok hN hy
    rw [pa_ev_0] at b
    split at h
    · rename_i hx
      have b2 := pa_le_ok hN hx
      rw [pa_ev_0] at b2
      have e := i32_div (x := x) (y := y) (by omega) (by omega)
      cases h
      refine ⟨⟨_, rfl, ?_, ?_⟩, fun _ _ _ e => by cases e; rfl⟩
      · rw [pa_ev_0]; exact e.1
      · show _ ≤ pa_ev n X.2; omega
    · cases h
      exact ⟨pa_top_ok _, fun _ _ _ e => by cases e; rfl⟩
  · cases h
theorem pa_t2_ok (g : Int32 → Int32 → Int32) : ∀ X Y A x y, pa_t2 X Y = some A → pa_ev n X.1 ≤ x.toInt → x.toInt ≤ pa_ev n X.2 → pa_ev n Y.1 ≤ y.toInt → y.toInt ≤ pa_ev n Y.2 → pa_gv n A (.int (g x y)) ∧ ∀ lo hi o, A = .inl (lo, hi, o) → o = 0 := by
  intro X Y A x y h _ _ _ _
  cases h
  exact ⟨pa_top_ok _, fun _ _ _ e => by cases e; rfl⟩
theorem pa_nz (hN : pa_N n) {f : (pa_B × pa_B) → (pa_B × pa_B) → Option pa_V} (hf : ∀ X Y A, f X Y = some A → pa_le (1, 0) Y.1 = true) {y : Int32} (h : ∃ X Y A, f X Y = some A ∧ pa_ev n Y.1 ≤ y.toInt ∧ y.toInt ≤ pa_ev n Y.2) : ¬ y = 0 := by
  obtain ⟨X, Y, A, h1, h2, h3⟩ := h
  have b := pa_le_ok hN (hf _ _ _ h1)
  rw [pa_ev_0] at b
  intro e
  rw [e] at h2
  have e0 : (0 : Int32).toInt = 0 := rfl
  omega
end PC
