/-! WEAKENING: a run that needs some of the locals runs with more of them -/
def px_Sub : px_L → px_L → Prop
  | [], _ => True
  | q :: r, lv => px_get lv q.1 = some q.2 ∧ px_Sub r lv
theorem px_Sub_mem : ∀ {l lv : px_L}, px_Sub l lv → ∀ q ∈ l, px_get lv q.1 = some q.2
  | [], _, _, _, hq => nomatch hq
  | p :: r, lv, h, q, hq => by
    rcases List.mem_cons.mp hq with rfl | hq
    · exact h.1
    · exact px_Sub_mem h.2 q hq
theorem px_Sub_of : ∀ {l lv : px_L}, (∀ q ∈ l, px_get lv q.1 = some q.2) → px_Sub l lv
  | [], _, _ => trivial
  | p :: r, lv, h => ⟨h p List.mem_cons_self, px_Sub_of (fun q hq => h q (List.mem_cons_of_mem _ hq))⟩
theorem px_gm : ∀ {l : px_L} {i : Nat} {v : Value}, px_get l i = some v → (i, v) ∈ l
  | [], _, _, h => nomatch h
  | p :: r, i, v, h => by
    unfold px_get at h
    split at h
    · rename_i e
      obtain ⟨a, b⟩ := p
      cases h
      cases e
      exact List.mem_cons_self
    · exact List.mem_cons_of_mem _ (px_gm h)
theorem px_gflt {f : Nat × Value → Bool} : ∀ {l : px_L} {k : Nat} {u : Value}, px_get l k = some u → f (k, u) = true → px_get (l.filter f) k = some u
  | [], _, _, h, _ => nomatch h
  | p :: r, k, u, h, hf => by
    unfold px_get at h
    split at h
    · rename_i e
      obtain ⟨a, b⟩ := p
      cases h
      cases e
      rw [List.filter_cons_of_pos hf]
      unfold px_get
      rw [if_pos rfl]
    · rename_i e
      have ih := px_gflt h hf
      by_cases hp : f p = true
      · rw [List.filter_cons_of_pos hp]
        unfold px_get
        rw [if_neg e]
        exact ih
      · rw [List.filter_cons_of_neg hp]
        exact ih
theorem px_Sub.put {l lv : px_L} {i : Nat} {v : Value} {f : Nat × Value → Bool} (h : px_Sub l lv) (hf : ∀ q, f q = true → ¬ i = q.1) : px_Sub ((i, v) :: l.filter f) ((i, v) :: lv.filter f) := by
  refine px_Sub_of ?_
  intro q hq
  rcases List.mem_cons.mp hq with rfl | hq
  · unfold px_get
    rw [if_pos rfl]
  · obtain ⟨h1, h2⟩ := List.mem_filter.mp hq
    have h3 := px_Sub_mem h q h1
    unfold px_get
    rw [if_neg (hf q h2)]
    exact px_gflt h3 h2
theorem px_Sub.s1 {l lv : px_L} {i : Nat} {v : Value} (h : px_Sub l lv) : px_Sub (px_s1 l i v) (px_s1 lv i v) :=
  h.put (by
    intro q hq e
    subst e
    simp at hq)
theorem px_Sub.s2 {l lv : px_L} {i : Nat} {v : Value} (h : px_Sub l lv) : px_Sub (px_s2 l i v) (px_s2 lv i v) :=
  h.put (by
    intro q hq e
    subst e
    simp at hq)
def px_Rl (a b : Option px_N) : Prop := match a with
  | none => True
  | some (.inl f) => ∃ lv, b = some (.inl (f.1, lv, f.2.2)) ∧ px_Sub f.2.1 lv
  | some (.inr y) => b = some (.inr y)
theorem px_Rl_n {b : Option px_N} : px_Rl none b := trivial
theorem px_Rl_g {pc : Nat} {l lv : px_L} {st : List Value} {hp : px_H} (h : px_Sub l lv) : px_Rl (px_go pc l st hp) (px_go pc lv st hp) := ⟨lv, rfl, h⟩
theorem px_Rl_e {o : px_O} {hp : px_H} : px_Rl (px_end o hp) (px_end o hp) := rfl
theorem px_Rl_i {c : Prop} [Decidable c] {a b a' b' : Option px_N} (h1 : px_Rl a a') (h2 : px_Rl b b') : px_Rl (if c then a else b) (if c then a' else b') := by
  split
  · exact h1
  · exact h2
theorem px_Rl_c {j' : Nat} {as rest : List Value} : px_Rl (px_call j' as rest) (px_call j' as rest) := by
  unfold px_call
  exact px_Rl_i rfl trivial
/-- what is the same on both sides -/
def px_Rn (a : Option px_N) : Prop := match a with
  | some (.inl _) => False
  | _ => True
theorem px_Rl_n2 {a : Option px_N} (h : px_Rn a) : px_Rl a a := by
  rcases a with _ | f | y
  · exact trivial
  · exact h.elim
  · rfl
theorem px_Rn_c {j' : Nat} {as rest : List Value} : px_Rn (px_call j' as rest) := by
  unfold px_call
  split <;> exact trivial
theorem px_Rl_s {cn idx : Nat} {st : List Value} : px_Rl (match px_lk px_ml_ cn idx with
    | some (j', _) => match st.drop (px_np j') with
      | .ref a :: r => if px_kd j' = 2 ∧ px_np j' ≤ st.length then px_call j' (.ref a :: (st.take (px_np j')).reverse) r else none
      | _ => none
    | none => none) (match px_lk px_ml_ cn idx with
    | some (j', _) => match st.drop (px_np j') with
      | .ref a :: r => if px_kd j' = 2 ∧ px_np j' ≤ st.length then px_call j' (.ref a :: (st.take (px_np j')).reverse) r else none
      | _ => none
    | none => none) := by
  refine px_Rl_n2 ?_
  split
  · split
    · split
      · exact px_Rn_c
      · exact trivial
    · exact trivial
  · exact trivial
theorem px_Rl_v {cn idx : Nat} {st : List Value} {hp : px_H} : px_Rl (px_invv cn idx st hp) (px_invv cn idx st hp) := by
  refine px_Rl_n2 ?_
  unfold px_invv
  split
  · split
    · split
      · split
        · exact px_Rn_c
        · exact trivial
      · exact trivial
    · exact trivial
  · exact trivial
theorem px_Rl_ld {pc : Nat} {l lv : px_L} {st : List Value} {hp : px_H} (h : px_Sub l lv) {k t i : Nat} : px_Rl (px_ld k t pc l st hp i) (px_ld k t pc lv st hp i) := by
  unfold px_ld
  cases e : px_get l i with
  | none => exact trivial
  | some v =>
    rw [px_Sub_mem h _ (px_gm e)]
    cases v <;> first | exact trivial | exact px_Rl_i (px_Rl_g h) trivial
theorem px_Rl_inc {pc : Nat} {l lv : px_L} {st : List Value} {hp : px_H} (h : px_Sub l lv) {k nL : Nat} {c : Int32} : px_Rl ((match px_get l k with | some (.int x) => if k < nL then px_go (pc + 3) (px_s1 l k (.int (x + c))) st hp else none | _ => none)) ((match px_get lv k with | some (.int x) => if k < nL then px_go (pc + 3) (px_s1 lv k (.int (x + c))) st hp else none | _ => none)) := by
  cases e : px_get l k with
  | none => exact trivial
  | some v =>
    rw [px_Sub_mem h _ (px_gm e)]
    cases v <;> first | exact trivial | exact px_Rl_i (px_Rl_g h.s1) trivial
theorem px_Rl_sv {pc : Nat} {l lv : px_L} {st : List Value} {hp : px_H} (h : px_Sub l lv) {k t nL i : Nat} : px_Rl (px_sv k t nL pc l st hp i) (px_sv k t nL pc lv st hp i) := by
  unfold px_sv
  rcases st with _ | ⟨v, r⟩
  · exact trivial
  · cases v <;> first | exact trivial | exact px_Rl_i (px_Rl_g h.s1) trivial | exact px_Rl_i (px_Rl_g h.s2) trivial
theorem px_Rl_ii {pc : Nat} {l lv : px_L} {st : List Value} {hp : px_H} (h : px_Sub l lv) {f : Int32 → Int32 → Int32} : px_Rl (px_ii pc l st hp f) (px_ii pc lv st hp f) := by
  unfold px_ii
  split <;> first | exact px_Rl_g h | exact trivial
theorem px_Rl_ll {pc : Nat} {l lv : px_L} {st : List Value} {hp : px_H} (h : px_Sub l lv) {f : Int64 → Int64 → Int64} : px_Rl (px_ll pc l st hp f) (px_ll pc lv st hp f) := by
  unfold px_ll
  split <;> first | exact px_Rl_g h | exact trivial
theorem px_Rl_li {pc : Nat} {l lv : px_L} {st : List Value} {hp : px_H} (h : px_Sub l lv) {f : Int64 → Int32 → Int64} : px_Rl (px_li pc l st hp f) (px_li pc lv st hp f) := by
  unfold px_li
  split <;> first | exact px_Rl_g h | exact trivial
theorem px_Rl_iz {pc : Nat} {l lv : px_L} {st : List Value} {hp : px_H} (h : px_Sub l lv) {f : Int32 → Int32 → Int32} : px_Rl (px_iz pc l st hp f) (px_iz pc lv st hp f) := by
  unfold px_iz
  split <;> first | exact px_Rl_i trivial (px_Rl_g h) | exact trivial
theorem px_Rl_jmp {pc : Nat} {l lv : px_L} {st : List Value} {hp : px_H} (h : px_Sub l lv) {off : Int} : px_Rl (px_jmp pc off l st hp) (px_jmp pc off lv st hp) := by
  unfold px_jmp
  exact px_Rl_i (px_Rl_g h) trivial
theorem px_Rl_if {pc : Nat} {l lv : px_L} {st : List Value} {hp : px_H} (h : px_Sub l lv) {b : Bool} {off : Int} : px_Rl (px_if b pc off l st hp) (px_if b pc off lv st hp) := by
  unfold px_if
  exact px_Rl_i (px_Rl_i (px_Rl_g h) (px_Rl_g h)) trivial
theorem px_Rl_ald {pc : Nat} {l lv : px_L} {st : List Value} {hp : px_H} (h : px_Sub l lv) {ok : Nat → Bool} : px_Rl (px_ald ok pc l st hp) (px_ald ok pc lv st hp) := by
  unfold px_ald
  split
  · rename_i i a r
    try dsimp only
    cases hp[a]? with
    | none => exact trivial
    | some c =>
      obtain ⟨t, vs⟩ := c
      try dsimp only
      refine px_Rl_i ?_ trivial
      cases vs[i.toNatClampNeg]? with
      | none => exact trivial
      | some v => exact px_Rl_g h
  · exact trivial
theorem px_Rl_iast {pc : Nat} {l lv : px_L} {st : List Value} {hp : px_H} (h : px_Sub l lv)  : px_Rl (px_iast pc l st hp) (px_iast pc lv st hp) := by
  unfold px_iast
  split
  · rename_i x i a r
    try dsimp only
    cases hp[a]? with
    | none => exact trivial
    | some c =>
      obtain ⟨t, vs⟩ := c
      exact px_Rl_i (px_Rl_g h) trivial
  · exact trivial
theorem px_Rl_zast {pc : Nat} {l lv : px_L} {st : List Value} {hp : px_H} (h : px_Sub l lv)  : px_Rl (px_zast pc l st hp) (px_zast pc lv st hp) := by
  unfold px_zast
  split
  · rename_i x i a r
    try dsimp only
    cases hp[a]? with
    | none => exact trivial
    | some c =>
      obtain ⟨t, vs⟩ := c
      exact px_Rl_i (px_Rl_g h) trivial
  · exact trivial
theorem px_Rl_last {pc : Nat} {l lv : px_L} {st : List Value} {hp : px_H} (h : px_Sub l lv)  : px_Rl (px_last pc l st hp) (px_last pc lv st hp) := by
  unfold px_last
  split
  · rename_i x i a r
    try dsimp only
    cases hp[a]? with
    | none => exact trivial
    | some c =>
      obtain ⟨t, vs⟩ := c
      exact px_Rl_i (px_Rl_g h) trivial
  · exact trivial
theorem px_Rl_aast {pc : Nat} {l lv : px_L} {st : List Value} {hp : px_H} (h : px_Sub l lv)  : px_Rl (px_aast pc l st hp) (px_aast pc lv st hp) := by
  unfold px_aast
  split
  · rename_i b i a r
    try dsimp only
    cases hp[a]? with
    | none => exact trivial
    | some c =>
      obtain ⟨t, vs⟩ := c
      try dsimp only
      cases hp[b]? with
      | none => exact trivial
      | some c2 => exact px_Rl_i (px_Rl_g h) trivial
  · exact trivial
theorem px_Rl_alen {pc : Nat} {l lv : px_L} {st : List Value} {hp : px_H} (h : px_Sub l lv)  : px_Rl (px_alen pc l st hp) (px_alen pc lv st hp) := by
  unfold px_alen
  split
  · rename_i a r
    try dsimp only
    cases hp[a]? with
    | none => exact trivial
    | some c => exact px_Rl_i (px_Rl_g h) trivial
  · exact trivial
theorem px_Rl_newa {pc : Nat} {l lv : px_L} {st : List Value} {hp : px_H} (h : px_Sub l lv) {a : ArrayType} : px_Rl (px_newa a pc l st hp) (px_newa a pc lv st hp) := by
  unfold px_newa
  split
  · rename_i n r
    try dsimp only
    cases px_at_ a with
    | none => exact trivial
    | some c => exact px_Rl_i (px_Rl_g h) trivial
  · exact trivial
theorem px_Rl_anew {pc : Nat} {l lv : px_L} {st : List Value} {hp : px_H} (h : px_Sub l lv) {cn idx : Nat} : px_Rl (px_anew cn idx pc l st hp) (px_anew cn idx pc lv st hp) := by
  unfold px_anew
  split <;> first | exact px_Rl_i (px_Rl_g h) trivial | exact trivial
theorem px_Rl_mna {pc : Nat} {l lv : px_L} {st : List Value} {hp : px_H} (h : px_Sub l lv) {cn idx dims : Nat} : px_Rl (px_mna cn idx dims pc l st hp) (px_mna cn idx dims pc lv st hp) := by
  unfold px_mna
  split <;> first | exact px_Rl_i (px_Rl_g h) trivial | exact trivial
theorem px_Rl_new {j pc : Nat} {l lv : px_L} {st : List Value} {hp : px_H} (h : px_Sub l lv) {idx : Nat} : px_Rl (px_new j idx pc l st hp) (px_new j idx pc lv st hp) := by
  unfold px_new
  cases px_thr j pc with
  | some E => exact px_Rl_i px_Rl_e trivial
  | none =>
    try dsimp only
    cases px_lk px_cl_ (px_cn j) idx with
    | none => exact trivial
    | some q => exact px_Rl_g h
theorem px_Rl_getf {pc : Nat} {l lv : px_L} {st : List Value} {hp : px_H} (h : px_Sub l lv) {cn idx : Nat} : px_Rl (px_getf cn idx pc l st hp) (px_getf cn idx pc lv st hp) := by
  unfold px_getf
  split
  · rename_i a r
    try dsimp only
    cases px_lk px_fl_ cn idx with
    | none => exact trivial
    | some q =>
      obtain ⟨ci, k, q⟩ := q
      try dsimp only
      cases hp[a]? with
      | none => exact trivial
      | some c =>
        obtain ⟨t, vs⟩ := c
        try dsimp only
        refine px_Rl_i ?_ trivial
        cases vs[k]? with
        | none => exact trivial
        | some v => exact px_Rl_g h
  · exact trivial
theorem px_Rl_putf {j pc : Nat} {l lv : px_L} {st : List Value} {hp : px_H} (h : px_Sub l lv) {idx : Nat} : px_Rl (px_putf j idx pc l st hp) (px_putf j idx pc lv st hp) := by
  unfold px_putf
  split
  · rename_i v a r
    try dsimp only
    cases px_lk px_fl_ (px_cn j) idx with
    | none => exact trivial
    | some q =>
      obtain ⟨ci, k, q⟩ := q
      try dsimp only
      cases hp[a]? with
      | none => exact trivial
      | some c => exact px_Rl_i (px_Rl_g h) trivial
  · exact trivial
theorem px_Rl_gets {pc : Nat} {l lv : px_L} {st : List Value} {hp : px_H} (h : px_Sub l lv) {cn idx : Nat} : px_Rl (px_gets cn idx pc l st hp) (px_gets cn idx pc lv st hp) := by
  unfold px_gets
  cases px_lk px_sl_ cn idx with
  | none => exact trivial
  | some q => exact px_Rl_g h
theorem px_Rl_math {pc : Nat} {l lv : px_L} {st : List Value} {hp : px_H} (h : px_Sub l lv) {j' : Nat} : px_Rl (px_math j' pc l st hp) (px_math j' pc lv st hp) := by
  unfold px_math
  split <;> first | exact px_Rl_i (px_Rl_g h) trivial | exact trivial
theorem px_Rl_invs {pc : Nat} {l lv : px_L} {st : List Value} {hp : px_H} (h : px_Sub l lv) {cn idx : Nat} : px_Rl (px_invs cn idx pc l st hp) (px_invs cn idx pc lv st hp) := by
  unfold px_invs
  cases px_lk px_ml_ cn idx with
  | none => exact trivial
  | some q => exact px_Rl_i (px_Rl_math h) (px_Rl_i px_Rl_c trivial)
theorem px_Rl_invi {pc : Nat} {l lv : px_L} {st : List Value} {hp : px_H} (h : px_Sub l lv) {cn idx : Nat} : px_Rl (px_invi cn idx pc l st hp) (px_invi cn idx pc lv st hp) := by
  unfold px_invi
  cases px_lk px_oi_ cn idx with
  | some u =>
    try dsimp only
    split
    · exact px_Rl_i (px_Rl_g h) trivial
    · exact trivial
  | none => exact px_Rl_s
theorem px_Rl_sw {pc : Nat} {l lv : px_L} {st : List Value} {hp : px_H} (h : px_Sub l lv) {dflt lo hi : Int} {offs : Array Int} : px_Rl (px_sw dflt lo hi offs pc l st hp) (px_sw dflt lo hi offs pc lv st hp) := by
  unfold px_sw
  split
  · rename_i x r
    refine px_Rl_i (px_Rl_jmp h) ?_
    cases offs[(x.toInt - lo).toNat]? with
    | none => exact trivial
    | some off => exact px_Rl_jmp h
  · exact trivial
theorem px_Rl_step {j pc : Nat} {l lv : px_L} {st : List Value} {hp : px_H} (h : px_Sub l lv) {i : Instr} : px_Rl (px_step j pc l st hp i) (px_step j pc lv st hp i) := by
  cases i <;> simp only [px_step] <;> first
    | exact trivial
    | exact px_Rl_g h
    | exact px_Rl_ld h
    | exact px_Rl_inc h
    | exact px_Rl_sv h
    | exact px_Rl_ii h
    | exact px_Rl_iz h
    | exact px_Rl_ll h
    | exact px_Rl_li h
    | exact px_Rl_jmp h
    | exact px_Rl_ald h
    | exact px_Rl_iast h
    | exact px_Rl_zast h
    | exact px_Rl_last h
    | exact px_Rl_aast h
    | exact px_Rl_alen h
    | exact px_Rl_newa h
    | exact px_Rl_anew h
    | exact px_Rl_mna h
    | exact px_Rl_new h
    | exact px_Rl_getf h
    | exact px_Rl_putf h
    | exact px_Rl_gets h
    | exact px_Rl_invs h
    | exact px_Rl_v
    | exact px_Rl_invi h
    | exact px_Rl_sw h
    | (split <;> first | exact trivial | exact px_Rl_g h | exact px_Rl_i (px_Rl_g h) trivial | exact px_Rl_if h | (split <;> first | exact trivial | exact px_Rl_e | exact px_Rl_i px_Rl_e trivial))
    | (split
       · rename_i q _ e
         rw [e]
         exact px_Rl_g h
       · exact trivial)
theorem px_weakn : ∀ (n d j pc : Nat) (l lv : px_L) (st : List Value) (hp : px_H) (r : px_E), px_Sub l lv → px_run d n j pc l st hp = some r → px_run d n j pc lv st hp = some r
  | 0, _, _, _, _, _, _, _, _, _, h => by
    unfold px_run at h
    cases h
  | n + 1, d, j, pc, l, lv, st, hp, r, hs, h => by
    rw [px_run] at h ⊢
    cases hins : px_ins (px_tab j) pc with
    | none => rw [hins] at h; cases h
    | some i =>
      rw [hins] at h
      dsimp only at h ⊢
      have hR := px_Rl_step (j := j) (pc := pc) (st := st) (hp := hp) hs (i := i)
      cases e : px_step j pc l st hp i with
      | none => rw [e] at h; cases h
      | some x =>
        rw [e] at h hR
        rcases x with f | r' | q
        · obtain ⟨lv', e2, hs2⟩ := hR
          rw [e2]
          exact px_weakn n d j _ _ _ _ _ r hs2 h
        · have e2 : px_step j pc lv st hp i = some (.inr (.inl r')) := hR
          rw [e2]
          exact h
        · have e2 : px_step j pc lv st hp i = some (.inr (.inr q)) := hR
          rw [e2]
          cases d with
          | zero => cases h
          | succ d' =>
            dsimp only at h ⊢
            cases hc : px_run d' n q.1 0 (lv_args 0 q.2.1) [] hp with
            | none => rw [hc] at h; cases h
            | some y =>
              rw [hc] at h
              obtain ⟨o, hp'⟩ := y
              cases o with
              | inl v => exact px_weakn n (d' + 1) j _ _ _ _ _ r hs h
              | inr E => exact h
theorem px_weak {d j pc : Nat} {l lv : px_L} {st : List Value} {hp : px_H} {r : px_E} (hs : px_Sub l lv) (h : px_Go d j (pc, l, st, hp) r) : px_Go d j (pc, lv, st, hp) r := by
  obtain ⟨n, hn⟩ := h
  exact ⟨n, px_weakn _ _ _ _ _ _ _ _ _ hs hn⟩
theorem px_wk {d j pc : Nat} {lv : px_L} (l : px_L) {st : List Value} {hp : px_H} {P : px_O → px_H → Prop} (hs : px_Sub l lv) (h : px_Gx d j (pc, l, st, hp) P) : px_Gx d j (pc, lv, st, hp) P := by
  obtain ⟨o, hp', h1, h2⟩ := h
  exact ⟨o, hp', px_weak hs h1, h2⟩
