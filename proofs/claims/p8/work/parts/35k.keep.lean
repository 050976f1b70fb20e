/-! tags and lengths of cells are kept -/
def px_sh (hp : px_H) : List (Nat × Nat) := hp.map (fun c => (c.1, c.2.length))
def px_Kp (hp hp' : px_H) : Prop := ∃ t, px_sh hp' = px_sh hp ++ t
theorem px_Kp.refl (hp : px_H) : px_Kp hp hp := ⟨[], by rw [List.append_nil]⟩
theorem px_Kp.trans {a b c : px_H} (h : px_Kp a b) (k : px_Kp b c) : px_Kp a c := by
  obtain ⟨t, ht⟩ := h
  obtain ⟨u, hu⟩ := k
  exact ⟨t ++ u, by rw [hu, ht, List.append_assoc]⟩
theorem px_Kp.app (hp cs : px_H) : px_Kp hp (hp ++ cs) := ⟨px_sh cs, by unfold px_sh; rw [List.map_append]⟩
theorem px_sh_set {hp : px_H} {a : Nat} {c c' : px_C} (h : hp[a]? = some c) (ht : c'.1 = c.1) (hl : c'.2.length = c.2.length) : px_sh (hp.set a c') = px_sh hp := by
  unfold px_sh
  rw [List.map_set]
  apply List.ext_getElem?
  intro k
  by_cases hk : k = a
  · subst hk
    rw [List.getElem?_set_self', List.getElem?_map, h]
    simp [ht, hl]
  · rw [List.getElem?_set_ne (Ne.symm hk)]
theorem px_Kp.set {hp : px_H} {a t k : Nat} {vs : List Value} {v : Value} (h : hp[a]? = some (t, vs)) : px_Kp hp (px_set hp a t vs k v) := ⟨[], by unfold px_set; rw [List.append_nil]; exact px_sh_set h rfl (by simp)⟩
theorem px_sh_len (hp : px_H) : (px_sh hp).length = hp.length := by unfold px_sh; rw [List.length_map]
theorem px_sh_sz (hp : px_H) : px_sz hp = ((px_sh hp).map (fun q => q.2)).sum := by unfold px_sz px_sh; rw [List.map_map]; rfl
theorem px_Kp.eq {hp hp' : px_H} (h : px_Kp hp hp') (hl : hp'.length = hp.length) : px_sh hp' = px_sh hp := by
  obtain ⟨t, ht⟩ := h
  have : (px_sh hp').length = (px_sh hp).length := by rw [px_sh_len, px_sh_len, hl]
  rw [ht, List.length_append] at this
  have h0 : t = [] := List.length_eq_zero_iff.mp (by omega)
  rw [ht, h0, List.append_nil]
theorem px_Kp.sz {hp hp' : px_H} (h : px_Kp hp hp') (hl : hp'.length = hp.length) : px_sz hp' = px_sz hp := by
  rw [px_sh_sz, px_sh_sz, h.eq hl]
theorem px_Kp.at {hp hp' : px_H} (h : px_Kp hp hp') {k : Nat} {c : px_C} (hk : hp[k]? = some c) : ∃ vs, hp'[k]? = some (c.1, vs) ∧ vs.length = c.2.length := by
  obtain ⟨t, ht⟩ := h
  have h1 : (px_sh hp)[k]? = some (c.1, c.2.length) := by unfold px_sh; rw [List.getElem?_map, hk]; rfl
  have h2 : (px_sh hp')[k]? = some (c.1, c.2.length) := by
    rw [ht, List.getElem?_append_left (List.getElem?_eq_some_iff.mp h1).1]; exact h1
  unfold px_sh at h2
  rw [List.getElem?_map] at h2
  cases hk' : hp'[k]? with
  | none => rw [hk'] at h2; cases h2
  | some x =>
    rw [hk'] at h2
    obtain ⟨x1, x2⟩ := x
    simp only [Option.map_some, Option.some.injEq, Prod.mk.injEq] at h2
    exact ⟨x2, by rw [h2.1], h2.2⟩
theorem px_keep_s {j pc : Nat} {lv : px_L} {st : List Value} {hp : px_H} {i : Instr} {f : px_F} (h : px_step j pc lv st hp i = some (.inl f)) : px_Kp hp f.2.2.2 := by
  have hgo : ∀ {pc' : Nat} {lv' : px_L} {st' : List Value} {f' : px_F}, px_go pc' lv' st' hp = some (.inl f') → px_Kp hp f'.2.2.2 := by
    intro pc' lv' st' f' h
    cases h
    exact px_Kp.refl _
  have happ : ∀ {pc' : Nat} {lv' : px_L} {st' : List Value} {cs : px_H} {f' : px_F}, px_go pc' lv' st' (hp ++ cs) = some (.inl f') → px_Kp hp f'.2.2.2 := by
    intro pc' lv' st' cs f' h
    cases h
    exact px_Kp.app _ _
  have hset : ∀ {pc' : Nat} {lv' : px_L} {st' : List Value} {a t k : Nat} {vs : List Value} {v : Value} {f' : px_F}, hp[a]? = some (t, vs) → Sum.inl f' = (Sum.inl (pc', lv', st', px_set hp a t vs k v) : px_N) → px_Kp hp f'.2.2.2 := by
    intro pc' lv' st' a t k vs v f' hh e
    cases e
    exact px_Kp.set hh
  cases i
  case iastore => obtain ⟨_, _, _, _, _, _, hh, _, _, _, e0⟩ := px_iast_inv h; exact hset hh e0
  case lastore => obtain ⟨_, _, _, _, _, _, hh, _, _, _, e0⟩ := px_last_inv h; exact hset hh e0
  case bastore => obtain ⟨_, _, _, _, _, _, hh, _, _, _, _, e0⟩ := px_zast_inv h; exact hset hh e0
  case aastore => obtain ⟨_, _, _, _, _, _, _, hh, _, _, _, _, e0⟩ := px_aast_inv h; exact hset hh e0
  case putfield idx => obtain ⟨_, _, _, _, _, _, _, _, _, hh, _, _, _, _, _, e0⟩ := px_putf_inv h; exact hset hh e0
  all_goals (try (first | (cases h; exact px_Kp.refl _) | (obtain ⟨x, y, z, e1, e0⟩ := px_ii_inv h; cases e0; exact px_Kp.refl _) | (obtain ⟨x, y, z, e1, e2, e0⟩ := px_iz_inv h; cases e0; exact px_Kp.refl _) | (obtain ⟨x, y, z, e1, e0⟩ := px_ll_inv h; cases e0; exact px_Kp.refl _) | (obtain ⟨x, y, z, e1, e0⟩ := px_li_inv h; cases e0; exact px_Kp.refl _) | (obtain ⟨x, hg, e0⟩ := px_ld0 h; cases e0; exact px_Kp.refl _) | (obtain ⟨x, hg, e0⟩ := px_ld1 h; cases e0; exact px_Kp.refl _) | (obtain ⟨x, hg, e0⟩ := px_ld2 h; cases e0; exact px_Kp.refl _) | (obtain ⟨x, y, hg, hn, e0⟩ := px_sv0 h; cases e0; exact px_Kp.refl _) | (obtain ⟨x, y, hg, hn, e0⟩ := px_sv1 h; cases e0; exact px_Kp.refl _) | (obtain ⟨x, y, hg, hn, e0⟩ := px_sv2 h; cases e0; exact px_Kp.refl _) | (obtain ⟨t, ht, e0⟩ := px_jmp_inv h; cases e0; exact px_Kp.refl _)))
  all_goals (simp only [px_step, px_call, px_end, px_jmp, px_if, px_sw, px_invs, px_invv, px_invi, px_math, px_gets, px_newa, px_anew, px_mna, px_new, px_ald, px_alen, px_getf] at h; (repeat' split at h) <;> first | exact hgo h | exact happ h | cases h)
theorem px_keep_e {j pc : Nat} {lv : px_L} {st : List Value} {hp : px_H} {i : Instr} {r : px_E} (h : px_step j pc lv st hp i = some (.inr (.inl r))) : px_Kp hp r.2 := by
  have hgo : ∀ {pc' : Nat} {lv' : px_L} {st' : List Value} {hp' : px_H}, px_go pc' lv' st' hp' = some (.inr (.inl r)) → False := by
    intro pc' lv' st' hp' h
    cases h
  have hen : ∀ {o : px_O}, px_end o hp = some (.inr (.inl r)) → px_Kp hp r.2 := by
    intro o h
    cases h
    exact px_Kp.refl _
  have hap : ∀ {o : px_O} {cs : px_H}, px_end o (hp ++ cs) = some (.inr (.inl r)) → px_Kp hp r.2 := by
    intro o cs h
    cases h
    exact px_Kp.app _ _
  cases i
  all_goals (simp only [px_step, px_call, px_jmp, px_if, px_sw, px_invs, px_invv, px_invi, px_math, px_gets, px_newa, px_anew, px_mna, px_new, px_ald, px_alen, px_getf, px_putf, px_iast, px_last, px_zast, px_aast, px_ii, px_iz, px_ll, px_li, px_ld, px_sv] at h; (repeat' split at h) <;> first | exact absurd h hgo | exact hen h | exact hap h | cases h)
theorem px_keep : ∀ (n d j pc : Nat) (lv : px_L) (st : List Value) (hp : px_H) (r : px_E), px_run d n j pc lv st hp = some r → px_Kp hp r.2
  | 0, d, j, pc, lv, st, hp, r, h => by
    unfold px_run at h
    cases h
  | n + 1, d, j, pc, lv, st, hp, r, h => by
    unfold px_run at h
    split at h
    · cases h
    · split at h
      · cases h
      · rename_i f hs
        have h1 := px_keep_s hs
        have h2 := px_keep n d j _ _ _ _ r h
        exact h1.trans h2
      · rename_i r' hs
        cases h
        exact px_keep_e hs
      · rename_i q hs
        split at h
        · cases h
        · rename_i d'
          split at h
          · cases h
          · rename_i v hp' hc
            have h1 := px_keep n d' _ _ _ _ _ _ hc
            have h2 := px_keep n (d' + 1) j _ _ _ _ r h
            change px_Kp hp hp' at h1
            exact h1.trans h2
          · rename_i E hp' hc
            have h1 := px_keep n d' _ _ _ _ _ _ hc
            change px_Kp hp hp' at h1
            split at h
            · cases h
            · split at h
              · cases h
                exact h1
              · split at h
                · cases h
                  exact h1
                · cases h
