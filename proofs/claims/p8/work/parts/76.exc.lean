/-! which exceptions come: the index one, but for square -/
theorem px_thr_e {j pc : Nat} {lv : px_L} {st : List Value} {hp hp' : px_H} {i : Instr} {E : String} (h : px_step j pc lv st hp i = some (.inr (.inl (.inr E, hp')))) : px_thr j pc = some E := by
  cases i
  all_goals (simp only [px_step, px_call, px_jmp, px_if, px_sw, px_invs, px_invv, px_invi, px_math, px_gets, px_newa, px_anew, px_mna, px_new, px_ald, px_alen, px_getf, px_putf, px_iast, px_last, px_zast, px_aast, px_ii, px_iz, px_ll, px_li, px_ld, px_sv, px_go, px_end] at h; (repeat' split at h) <;> first | (cases h; done) | (cases h; assumption))
theorem px_call_e {j pc : Nat} {lv : px_L} {st : List Value} {hp : px_H} {i : Instr} {q : Nat × List Value × List Value} (h : px_step j pc lv st hp i = some (.inr (.inr q))) : ∃ idx ps, px_lk px_ml_ (px_cn j) idx = some (q.1, ps) := by
  cases i
  all_goals (simp only [px_step, px_call, px_jmp, px_if, px_sw, px_invs, px_invv, px_invi, px_math, px_gets, px_newa, px_anew, px_mna, px_new, px_ald, px_alen, px_getf, px_putf, px_iast, px_last, px_zast, px_aast, px_ii, px_iz, px_ll, px_li, px_ld, px_sv, px_go, px_end] at h; (repeat' split at h) <;> first | (cases h; done) | (cases h; exact ⟨_, _, by assumption⟩))
theorem px_ml_k5 : ∀ q ∈ px_ml_, q.1 ≠ 5 → q.2.2.1 ≠ 64 ∧ px_cn q.2.2.1 ≠ 5 := by decide +kernel
theorem px_thr_w {j pc : Nat} {E : String} (h : px_thr j pc = some E) : (E = "java/lang/ArrayIndexOutOfBoundsException" ∨ E = "java/lang/IllegalArgumentException") ∧ (j ≠ 64 → E = "java/lang/ArrayIndexOutOfBoundsException") := by
  unfold px_thr at h
  split at h
  · cases h; exact ⟨Or.inl rfl, fun _ => rfl⟩
  · split at h
    · cases h; exact ⟨Or.inl rfl, fun _ => rfl⟩
    · split at h
      · rename_i e
        cases h
        exact ⟨Or.inr rfl, fun q => absurd e.1 q⟩
      · cases h
theorem px_exc_w : ∀ (n d j pc : Nat) (lv : px_L) (st : List Value) (hp hp' : px_H) (E : String), px_run d n j pc lv st hp = some (.inr E, hp') → (E = "java/lang/ArrayIndexOutOfBoundsException" ∨ E = "java/lang/IllegalArgumentException") ∧ (j ≠ 64 → px_cn j ≠ 5 → E = "java/lang/ArrayIndexOutOfBoundsException")
  | 0, _, _, _, _, _, _, _, _, h => by
    unfold px_run at h
    cases h
  | n + 1, d, j, pc, lv, st, hp, hp', E, h => by
    unfold px_run at h
    split at h
    · cases h
    · split at h
      · cases h
      · exact px_exc_w n d j _ _ _ _ _ E h
      · rename_i r' hs
        cases h
        have := px_thr_w (px_thr_e hs)
        exact ⟨this.1, fun a _ => this.2 a⟩
      · rename_i q hs
        split at h
        · cases h
        · rename_i d'
          split at h
          · cases h
          · exact px_exc_w n (d' + 1) j _ _ _ _ _ E h
          · rename_i E' hp2 hc
            have h1 := px_exc_w n d' _ _ _ _ _ _ _ hc
            split at h
            · cases h
            · split at h
              · cases h
              · split at h
                · cases h
                  refine ⟨h1.1, fun _ hcn => ?_⟩
                  obtain ⟨idx, ps, hl⟩ := px_call_e hs
                  have := px_ml_k5 _ (px_lk_mem hl) hcn
                  exact h1.2 this.1 this.2
                · cases h
theorem px_exc_G {d j : Nat} {f : px_F} {E : String} {hp' : px_H} (h : px_Go d j f (.inr E, hp')) : (E = "java/lang/ArrayIndexOutOfBoundsException" ∨ E = "java/lang/IllegalArgumentException") ∧ (j ≠ 64 → px_cn j ≠ 5 → E = "java/lang/ArrayIndexOutOfBoundsException") := by
  obtain ⟨n, hn⟩ := h
  exact px_exc_w _ _ _ _ _ _ _ _ _ hn
