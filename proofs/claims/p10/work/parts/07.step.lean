/-! one step of the pure interpreter is one instruction of the machine's -/
def px_G (S0 : State) (D : va_G) (od : Nat → Nat) (p : Program) (l : Launch) (e : Env) (R : Room) (s : State) (m : MethodId) (args : Array Value) (below : List Frame) (meth : Method) (c : Code) (Q : State → Prop) (nL k0 z0 : Nat) (f : px_F) : Prop :=
  ∀ (H : Heap) (locs : List Loc) (ls : Array Slot) (cells slots : Nat), px_W S0 D od f.2.2.2 H → (∀ q ∈ locs, S0.heap.size ≤ q.base) → lv_has ls nL (px_rl (px_ad od S0.heap.size) f.2.1) → cells + k0 = f.2.2.2.length → slots + z0 = px_sz f.2.2.2 →
    W p l e R s m args below meth c H locs cells slots Q (F0 m f.1 ls (f.2.2.1.map (px_ren (px_ad od S0.heap.size))))
theorem px_ii_inv {pc : Nat} {lv : px_L} {st : List Value} {hp : px_H} {g : Int32 → Int32 → Int32} {n : px_N} (h : px_ii pc lv st hp g = some n) : ∃ x y r, st = .int y :: .int x :: r ∧ n = .inl (pc + 1, lv, .int (g x y) :: r, hp) := by
  unfold px_ii at h
  split at h
  · rename_i y x r
    exact ⟨x, y, r, rfl, (Option.some.inj h).symm⟩
  · cases h
theorem px_iz_inv {pc : Nat} {lv : px_L} {st : List Value} {hp : px_H} {g : Int32 → Int32 → Int32} {n : px_N} (h : px_iz pc lv st hp g = some n) : ∃ x y r, st = .int y :: .int x :: r ∧ ¬ y = 0 ∧ n = .inl (pc + 1, lv, .int (g x y) :: r, hp) := by
  unfold px_iz at h
  split at h
  · rename_i y x r
    split at h
    · cases h
    · rename_i hy
      exact ⟨x, y, r, rfl, hy, (Option.some.inj h).symm⟩
  · cases h
theorem px_ll_inv {pc : Nat} {lv : px_L} {st : List Value} {hp : px_H} {g : Int64 → Int64 → Int64} {n : px_N} (h : px_ll pc lv st hp g = some n) : ∃ x y r, st = .long y :: .long x :: r ∧ n = .inl (pc + 1, lv, .long (g x y) :: r, hp) := by
  unfold px_ll at h
  split at h
  · rename_i y x r
    exact ⟨x, y, r, rfl, (Option.some.inj h).symm⟩
  · cases h
theorem px_li_inv {pc : Nat} {lv : px_L} {st : List Value} {hp : px_H} {g : Int64 → Int32 → Int64} {n : px_N} (h : px_li pc lv st hp g = some n) : ∃ x y r, st = .int y :: .long x :: r ∧ n = .inl (pc + 1, lv, .long (g x y) :: r, hp) := by
  unfold px_li at h
  split at h
  · rename_i y x r
    exact ⟨x, y, r, rfl, (Option.some.inj h).symm⟩
  · cases h
theorem px_ld0 {k pc i : Nat} {lv : px_L} {st : List Value} {hp : px_H} {n : px_N} (h : px_ld k 0 pc lv st hp i = some n) : ∃ x, px_get lv i = some (.int x) ∧ n = .inl (pc + k, lv, .int x :: st, hp) := by
  unfold px_ld at h
  split at h
  · rename_i x hx
    exact ⟨x, hx, (Option.some.inj h).symm⟩
  · cases h
  · cases h
  · cases h
theorem px_ld1 {k pc i : Nat} {lv : px_L} {st : List Value} {hp : px_H} {n : px_N} (h : px_ld k 1 pc lv st hp i = some n) : ∃ x, px_get lv i = some (.long x) ∧ n = .inl (pc + k, lv, .long x :: st, hp) := by
  unfold px_ld at h
  split at h
  · cases h
  · rename_i x hx
    exact ⟨x, hx, (Option.some.inj h).symm⟩
  · cases h
  · cases h
theorem px_ld2 {k pc i : Nat} {lv : px_L} {st : List Value} {hp : px_H} {n : px_N} (h : px_ld k 2 pc lv st hp i = some n) : ∃ x, px_get lv i = some (.ref x) ∧ n = .inl (pc + k, lv, .ref x :: st, hp) := by
  unfold px_ld at h
  split at h
  · cases h
  · cases h
  · rename_i x hx
    exact ⟨x, hx, (Option.some.inj h).symm⟩
  · cases h
theorem px_sv0 {k nL pc i : Nat} {lv : px_L} {st : List Value} {hp : px_H} {n : px_N} (h : px_sv k 0 nL pc lv st hp i = some n) : ∃ x r, st = .int x :: r ∧ i < nL ∧ n = .inl (pc + k, px_s1 lv i (.int x), r, hp) := by
  unfold px_sv at h
  split at h
  · rename_i x r
    split at h
    · rename_i hq
      exact ⟨x, r, rfl, hq.2, (Option.some.inj h).symm⟩
    · cases h
  · simp at h
  · simp at h
  · cases h
theorem px_sv1 {k nL pc i : Nat} {lv : px_L} {st : List Value} {hp : px_H} {n : px_N} (h : px_sv k 1 nL pc lv st hp i = some n) : ∃ x r, st = .long x :: r ∧ i + 1 < nL ∧ n = .inl (pc + k, px_s2 lv i (.long x), r, hp) := by
  unfold px_sv at h
  split at h
  · simp at h
  · rename_i x r
    split at h
    · rename_i hq
      exact ⟨x, r, rfl, hq.2, (Option.some.inj h).symm⟩
    · cases h
  · simp at h
  · cases h
theorem px_sv2 {k nL pc i : Nat} {lv : px_L} {st : List Value} {hp : px_H} {n : px_N} (h : px_sv k 2 nL pc lv st hp i = some n) : ∃ x r, st = .ref x :: r ∧ i < nL ∧ n = .inl (pc + k, px_s1 lv i (.ref x), r, hp) := by
  unfold px_sv at h
  split at h
  · simp at h
  · simp at h
  · rename_i x r
    split at h
    · rename_i hq
      exact ⟨x, r, rfl, hq.2, (Option.some.inj h).symm⟩
    · cases h
  · cases h
theorem px_jmp_inv {pc : Nat} {off : Int} {lv : px_L} {st : List Value} {hp : px_H} {n : px_N} (h : px_jmp pc off lv st hp = some n) : ∃ t : Nat, (pc : Int) + off = (t : Int) ∧ n = .inl (t, lv, st, hp) := by
  unfold px_jmp at h
  split at h
  · rename_i hp0
    exact ⟨_, (Int.toNat_of_nonneg hp0).symm, (Option.some.inj h).symm⟩
  · cases h
theorem px_if_inv {b : Bool} {pc : Nat} {off : Int} {lv : px_L} {st : List Value} {hp : px_H} {n : px_N} (h : px_if b pc off lv st hp = some n) : ∃ t : Nat, (pc : Int) + off = (t : Int) ∧ (b = true → n = .inl (t, lv, st, hp)) ∧ (b = false → n = .inl (pc + 3, lv, st, hp)) := by
  unfold px_if at h
  split at h
  · rename_i hp0
    refine ⟨_, (Int.toNat_of_nonneg hp0).symm, fun hb => ?_, fun hb => ?_⟩
    · rw [if_pos hb] at h
      exact (Option.some.inj h).symm
    · rw [if_neg (by rw [hb]; decide)] at h
      exact (Option.some.inj h).symm
  · cases h
theorem px_ald_inv {ok : Nat → Bool} {pc : Nat} {lv : px_L} {st : List Value} {hp : px_H} {n : px_N} (h : px_ald ok pc lv st hp = some n) : ∃ i a r t vs v, st = .int i :: .ref a :: r ∧ hp[a]? = some (t, vs) ∧ ok t = true ∧ ¬ i < 0 ∧ vs[i.toNatClampNeg]? = some v ∧ n = .inl (pc + 1, lv, v :: r, hp) := by
  unfold px_ald at h
  split at h
  · rename_i i a r
    split at h
    · rename_i t vs hh
      split at h
      · rename_i hq
        split at h
        · rename_i v hv
          exact ⟨i, a, r, t, vs, v, rfl, hh, hq.1, hq.2, hv, (Option.some.inj h).symm⟩
        · cases h
      · cases h
    · cases h
  · cases h
theorem px_iast_inv {pc : Nat} {lv : px_L} {st : List Value} {hp : px_H} {n : px_N} (h : px_iast pc lv st hp = some n) : ∃ x i a r vs, st = .int x :: .int i :: .ref a :: r ∧ hp[a]? = some (10, vs) ∧ 8 ≤ a ∧ ¬ i < 0 ∧ i.toNatClampNeg < vs.length ∧ n = .inl (pc + 1, lv, r, px_set hp a 10 vs i.toNatClampNeg (.int x)) := by
  unfold px_iast at h
  split at h
  · rename_i x i a r
    split at h
    · rename_i t vs hh
      split at h
      · rename_i hq
        obtain ⟨rfl, h1, h2, h3⟩ := hq
        exact ⟨x, i, a, r, vs, rfl, hh, h1, h2, h3, (Option.some.inj h).symm⟩
      · cases h
    · cases h
  · cases h
theorem px_zast_inv {pc : Nat} {lv : px_L} {st : List Value} {hp : px_H} {n : px_N} (h : px_zast pc lv st hp = some n) : ∃ x i a r vs, st = .int x :: .int i :: .ref a :: r ∧ hp[a]? = some (12, vs) ∧ 8 ≤ a ∧ ¬ i < 0 ∧ i.toNatClampNeg < vs.length ∧ narrow .boolean (.int x) = .int x ∧ n = .inl (pc + 1, lv, r, px_set hp a 12 vs i.toNatClampNeg (.int x)) := by
  unfold px_zast at h
  split at h
  · rename_i x i a r
    split at h
    · rename_i t vs hh
      split at h
      · rename_i hq
        obtain ⟨rfl, h1, h2, h3, h4⟩ := hq
        exact ⟨x, i, a, r, vs, rfl, hh, h1, h2, h3, h4, (Option.some.inj h).symm⟩
      · cases h
    · cases h
  · cases h
theorem px_last_inv {pc : Nat} {lv : px_L} {st : List Value} {hp : px_H} {n : px_N} (h : px_last pc lv st hp = some n) : ∃ x i a r vs, st = .long x :: .int i :: .ref a :: r ∧ hp[a]? = some (11, vs) ∧ 8 ≤ a ∧ ¬ i < 0 ∧ i.toNatClampNeg < vs.length ∧ n = .inl (pc + 1, lv, r, px_set hp a 11 vs i.toNatClampNeg (.long x)) := by
  unfold px_last at h
  split at h
  · rename_i x i a r
    split at h
    · rename_i t vs hh
      split at h
      · rename_i hq
        obtain ⟨rfl, h1, h2, h3⟩ := hq
        exact ⟨x, i, a, r, vs, rfl, hh, h1, h2, h3, (Option.some.inj h).symm⟩
      · cases h
    · cases h
  · cases h
theorem px_aast_inv {pc : Nat} {lv : px_L} {st : List Value} {hp : px_H} {n : px_N} (h : px_aast pc lv st hp = some n) : ∃ b i a r vs us, st = .ref b :: .int i :: .ref a :: r ∧ hp[a]? = some (13, vs) ∧ hp[b]? = some (1, us) ∧ 8 ≤ a ∧ ¬ i < 0 ∧ i.toNatClampNeg < vs.length ∧ n = .inl (pc + 1, lv, r, px_set hp a 13 vs i.toNatClampNeg (.ref b)) := by
  unfold px_aast at h
  split at h
  · rename_i b i a r
    split at h
    · rename_i t vs hh
      split at h
      · rename_i u us hu
        split at h
        · rename_i hq
          obtain ⟨rfl, rfl, h1, h2, h3⟩ := hq
          exact ⟨b, i, a, r, vs, us, rfl, hh, hu, h1, h2, h3, (Option.some.inj h).symm⟩
        · cases h
      · cases h
    · cases h
  · cases h
theorem px_alen_inv {pc : Nat} {lv : px_L} {st : List Value} {hp : px_H} {n : px_N} (h : px_alen pc lv st hp = some n) : ∃ a r t vs, st = .ref a :: r ∧ hp[a]? = some (t, vs) ∧ 10 ≤ t ∧ t ≤ 20 ∧ n = .inl (pc + 1, lv, .int vs.length.toInt32 :: r, hp) := by
  unfold px_alen at h
  split at h
  · rename_i a r
    split at h
    · rename_i t vs hh
      split at h
      · rename_i hq
        exact ⟨a, r, t, vs, rfl, hh, hq.1, hq.2, (Option.some.inj h).symm⟩
      · cases h
    · cases h
  · cases h
theorem px_getf_inv {cn idx pc : Nat} {lv : px_L} {st : List Value} {hp : px_H} {n : px_N} (h : px_getf cn idx pc lv st hp = some n) : ∃ a r ci k ps ne vs v, st = .ref a :: r ∧ (cn, idx, ci, k, ps, ne) ∈ px_fl_ ∧ hp[a]? = some (ci, vs) ∧ vs[k]? = some v ∧ n = .inl (pc + 3, lv, v :: r, hp) := by
  unfold px_getf at h
  split at h
  · rename_i a r
    split at h
    · rename_i ci k q hq
      split at h
      · rename_i t vs hh
        split at h
        · rename_i ht
          subst ht
          split at h
          · rename_i v hv
            exact ⟨a, r, t, k, q.1, q.2, vs, v, rfl, px_lk_mem hq, hh, hv, (Option.some.inj h).symm⟩
          · cases h
        · cases h
      · cases h
    · cases h
  · cases h
theorem px_putf_inv {j idx pc : Nat} {lv : px_L} {st : List Value} {hp : px_H} {n : px_N} (h : px_putf j idx pc lv st hp = some n) : ∃ v a r ci k ps vs, st = v :: .ref a :: r ∧ (px_cn j, idx, ci, k, ps, 0) ∈ px_fl_ ∧ hp[a]? = some (ci, vs) ∧ 8 ≤ a ∧ k < vs.length ∧ narrow (px_ft ci k) v = v ∧ fits (px_ft ci k) v = true ∧ (px_fin ci k = true → px_kd j = 2 ∧ px_cn j = ci) ∧ n = .inl (pc + 3, lv, r, px_set hp a ci vs k v) := by
  unfold px_putf at h
  split at h
  · rename_i v a r
    split at h
    · rename_i ci k ps ne hq
      split at h
      · rename_i t vs hh
        split at h
        · rename_i ht
          obtain ⟨rfl, h1, h2, rfl, h3, h4, h5⟩ := ht
          exact ⟨v, a, r, t, k, ps, vs, rfl, px_lk_mem hq, hh, h1, h2, h3, h4, h5, (Option.some.inj h).symm⟩
        · cases h
      · cases h
    · cases h
  · cases h
theorem px_sz_set {hp : px_H} {a t i : Nat} {vs : List Value} {v : Value} (h : hp[a]? = some (t, vs)) : px_sz (px_set hp a t vs i v) = px_sz hp := by
  unfold px_sz px_set
  rw [List.map_set]
  have e : (hp.map (fun c => c.2.length))[a]? = some vs.length := by simp [h]
  simp only [List.length_set]
  congr 1
  apply List.ext_getElem?
  intro k
  by_cases hk : k = a
  · subst hk
    rw [List.getElem?_set_self', e]
    rfl
  · rw [List.getElem?_set_ne (Ne.symm hk)]
theorem px_sz_app (hp cs : px_H) : px_sz (hp ++ cs) = px_sz hp + px_sz cs := by
  unfold px_sz
  simp
