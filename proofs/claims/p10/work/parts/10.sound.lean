/-! the heap only grows -/
theorem px_grow {j pc : Nat} {lv : px_L} {st : List Value} {hp : px_H} {i : Instr} {f : px_F} (h : px_step j pc lv st hp i = some (.inl f)) : hp.length ≤ f.2.2.2.length ∧ px_sz hp ≤ px_sz f.2.2.2 := by
  have hgo : ∀ {pc' : Nat} {lv' : px_L} {st' : List Value} {f' : px_F}, px_go pc' lv' st' hp = some (.inl f') → hp.length ≤ f'.2.2.2.length ∧ px_sz hp ≤ px_sz f'.2.2.2 := by
    intro pc' lv' st' f' h
    cases h
    exact ⟨Nat.le_refl _, Nat.le_refl _⟩
  have happ : ∀ {pc' : Nat} {lv' : px_L} {st' : List Value} {cs : px_H} {f' : px_F}, px_go pc' lv' st' (hp ++ cs) = some (.inl f') → hp.length ≤ f'.2.2.2.length ∧ px_sz hp ≤ px_sz f'.2.2.2 := by
    intro pc' lv' st' cs f' h
    cases h
    refine ⟨?_, ?_⟩
    · show hp.length ≤ (hp ++ cs).length
      simp
    · show px_sz hp ≤ px_sz (hp ++ cs)
      rw [px_sz_app]
      omega
  have hset : ∀ {pc' : Nat} {lv' : px_L} {st' : List Value} {a t k : Nat} {vs : List Value} {v : Value} {f' : px_F}, hp[a]? = some (t, vs) → Sum.inl f' = (Sum.inl (pc', lv', st', px_set hp a t vs k v) : px_N) → hp.length ≤ f'.2.2.2.length ∧ px_sz hp ≤ px_sz f'.2.2.2 := by
    intro pc' lv' st' a t k vs v f' hh e
    cases e
    refine ⟨?_, ?_⟩
    · show hp.length ≤ (px_set hp a t vs k v).length
      simp [px_set]
    · show px_sz hp ≤ px_sz (px_set hp a t vs k v)
      rw [px_sz_set hh]
      exact Nat.le_refl _
  cases i
  case iastore => obtain ⟨_, _, _, _, _, _, hh, _, _, _, e0⟩ := px_iast_inv h; exact hset hh e0
  case lastore => obtain ⟨_, _, _, _, _, _, hh, _, _, _, e0⟩ := px_last_inv h; exact hset hh e0
  case bastore => obtain ⟨_, _, _, _, _, _, hh, _, _, _, _, e0⟩ := px_zast_inv h; exact hset hh e0
  case aastore => obtain ⟨_, _, _, _, _, _, _, hh, _, _, _, _, e0⟩ := px_aast_inv h; exact hset hh e0
  case putfield idx => obtain ⟨_, _, _, _, _, _, _, _, _, hh, _, _, _, _, _, e0⟩ := px_putf_inv h; exact hset hh e0
  all_goals (try (first | (cases h; exact ⟨Nat.le_refl _, Nat.le_refl _⟩) | (obtain ⟨x, y, z, e1, e0⟩ := px_ii_inv h; cases e0; exact ⟨Nat.le_refl _, Nat.le_refl _⟩) | (obtain ⟨x, y, z, e1, e2, e0⟩ := px_iz_inv h; cases e0; exact ⟨Nat.le_refl _, Nat.le_refl _⟩) | (obtain ⟨x, y, z, e1, e0⟩ := px_ll_inv h; cases e0; exact ⟨Nat.le_refl _, Nat.le_refl _⟩) | (obtain ⟨x, y, z, e1, e0⟩ := px_li_inv h; cases e0; exact ⟨Nat.le_refl _, Nat.le_refl _⟩) | (obtain ⟨x, hg, e0⟩ := px_ld0 h; cases e0; exact ⟨Nat.le_refl _, Nat.le_refl _⟩) | (obtain ⟨x, hg, e0⟩ := px_ld1 h; cases e0; exact ⟨Nat.le_refl _, Nat.le_refl _⟩) | (obtain ⟨x, hg, e0⟩ := px_ld2 h; cases e0; exact ⟨Nat.le_refl _, Nat.le_refl _⟩) | (obtain ⟨x, y, hg, hn, e0⟩ := px_sv0 h; cases e0; exact ⟨Nat.le_refl _, Nat.le_refl _⟩) | (obtain ⟨x, y, hg, hn, e0⟩ := px_sv1 h; cases e0; exact ⟨Nat.le_refl _, Nat.le_refl _⟩) | (obtain ⟨x, y, hg, hn, e0⟩ := px_sv2 h; cases e0; exact ⟨Nat.le_refl _, Nat.le_refl _⟩) | (obtain ⟨t, ht, e0⟩ := px_jmp_inv h; cases e0; exact ⟨Nat.le_refl _, Nat.le_refl _⟩)))
  all_goals (simp only [px_step, px_call, px_end, px_jmp, px_if, px_sw, px_invs, px_invv, px_invi, px_math, px_gets, px_newa, px_anew, px_mna, px_new, px_ald, px_alen, px_getf] at h; (repeat' split at h) <;> first | exact hgo h | exact happ h | cases h)
theorem px_grow_end {j pc : Nat} {lv : px_L} {st : List Value} {hp : px_H} {i : Instr} {r : px_E} (h : px_step j pc lv st hp i = some (.inr (.inl r))) : hp.length ≤ r.2.length ∧ px_sz hp ≤ px_sz r.2 := by
  have hgo : ∀ {pc' : Nat} {lv' : px_L} {st' : List Value} {hp' : px_H}, px_go pc' lv' st' hp' = some (.inr (.inl r)) → False := by
    intro pc' lv' st' hp' h
    cases h
  have hen : ∀ {o : px_O}, px_end o hp = some (.inr (.inl r)) → hp.length ≤ r.2.length ∧ px_sz hp ≤ px_sz r.2 := by
    intro o h
    cases h
    exact ⟨Nat.le_refl _, Nat.le_refl _⟩
  have hap : ∀ {o : px_O} {cs : px_H}, px_end o (hp ++ cs) = some (.inr (.inl r)) → hp.length ≤ r.2.length ∧ px_sz hp ≤ px_sz r.2 := by
    intro o cs h
    cases h
    refine ⟨?_, ?_⟩
    · show hp.length ≤ (hp ++ cs).length
      simp
    · show px_sz hp ≤ px_sz (hp ++ cs)
      rw [px_sz_app]
      omega
  cases i
  all_goals (simp only [px_step, px_call, px_jmp, px_if, px_sw, px_invs, px_invv, px_invi, px_math, px_gets, px_newa, px_anew, px_mna, px_new, px_ald, px_alen, px_getf, px_putf, px_iast, px_last, px_zast, px_aast, px_ii, px_iz, px_ll, px_li, px_ld, px_sv] at h; (repeat' split at h) <;> first | exact absurd h hgo | exact hen h | exact hap h | cases h)
theorem px_mono : ∀ (n d j pc : Nat) (lv : px_L) (st : List Value) (hp : px_H) (r : px_E), px_run d n j pc lv st hp = some r → hp.length ≤ r.2.length ∧ px_sz hp ≤ px_sz r.2
  | 0, d, j, pc, lv, st, hp, r, h => by
    unfold px_run at h
    cases h
  | n + 1, d, j, pc, lv, st, hp, r, h => by
    unfold px_run at h
    split at h
    · cases h
    · split at h
      · cases h
      · rename_i f hs
        have h1 := px_grow hs
        have h2 := px_mono n d j _ _ _ _ r h
        omega
      · rename_i r' hs
        cases h
        exact px_grow_end hs
      · rename_i q hs
        split at h
        · cases h
        · rename_i d'
          split at h
          · cases h
          · rename_i v hp' hc
            have h1 := px_mono n d' _ _ _ _ _ _ hc
            have h2 := px_mono n (d' + 1) j _ _ _ _ r h
            change hp.length ≤ hp'.length ∧ px_sz hp ≤ px_sz hp' at h1
            omega
          · rename_i E hp' hc
            have h1 := px_mono n d' _ _ _ _ _ _ hc
            change hp.length ≤ hp'.length ∧ px_sz hp ≤ px_sz hp' at h1
            split at h
            · cases h
            · split at h
              · cases h
                exact h1
              · split at h
                · cases h
                  exact h1
                · cases h
