/-! every run of a method with a good certificate -/
theorem pa_hdn {j pc : Nat} {E : String} (h : 11 < j) : px_hd j pc E = none := by
  unfold px_hd
  split
  · rw [if_neg (by omega)]
  · rw [if_neg (by omega)]
theorem pa_kept {d j pc : Nat} {lv : px_L} {st : List Value} {hp hp' : px_H} {o : px_O} (hG : px_Go d j (pc, lv, st, hp) (o, hp')) : px_Kp hp hp' := by
  obtain ⟨n, hn⟩ := hG
  exact px_keep n d j _ _ _ _ _ hn
section PG
variable {n : Nat}
theorem pa_pos_ok (hN : pa_N n) {M : pa_W} {s : pa_S} {lv : px_L} (hp : pa_pos M s = true) (h : pa_gl n lv s.1) : 0 ≤ pa_mv n M lv := by
  unfold pa_pos at hp
  split at hp
  · rename_i b0 hb0
    have h0 := pa_le_ok hN hp
    have h0' := pa_lin_ok h hb0
    unfold pa_mv
    unfold pa_ev at h0 h0' ⊢
    simp only [Int.add_mul, Int.zero_mul] at h0
    omega
  · cases hp
theorem pa_aget_mem {l : pa_A} {pc : Nat} {x : pa_S × pa_W} (h : pa_aget l pc = some x) : (pc, x) ∈ l := by
  induction l with
  | nil => cases h
  | cons q r ih =>
    unfold pa_aget at h
    by_cases hq : q.1 = pc
    · rw [if_pos hq] at h
      cases h
      rw [← hq]
      exact List.mem_cons_self
    · rw [if_neg hq] at h
      exact List.mem_cons_of_mem _ (ih h)
theorem pa_Po.step {K : pa_K} {hp hp1 hp' : px_H} {o : px_O} (hF : pa_Fr n K.2.2.2 hp hp1) (hl : hp1.length = hp.length) (hz : px_sz hp1 = px_sz hp) (h : pa_Po n K hp1 o hp') : pa_Po n K hp o hp' := by
  obtain ⟨h1, h2, h3⟩ := h
  refine ⟨h1, hF.trans h2, ?_⟩
  rcases h3 with ⟨v, e1, e2, e3⟩ | ⟨e0, E, e1, e2, e3⟩
  · exact Or.inl ⟨v, e1, e2, e3.trans hl⟩
  · exact Or.inr ⟨e0, E, e1, by rw [e2, hl], by rw [e3, hz]⟩
theorem pa_safe {tb : pa_T} (hN : pa_N n) {a0 : Nat} {env : List (Nat × pa_K)} {K : pa_K} {j d : Nat} {ann : pa_A} (hck : ann.all (pa_chk1 tb env K j ann) = true) (henv : ∀ q ∈ env, pa_Ct tb n q.1 q.2 d) (hj : 11 < j) (hh : px_hh j = []) (ho : ∃ l, (pa_rs (pa_rg n a0)).2 = .inl l) :
    ∀ (m pc : Nat) (x : pa_S × pa_W) (lv : px_L) (st : List Value) (hp : px_H), (pc, x) ∈ ann → pa_ST n a0 x.1 lv st hp → pa_Hi n hp → pa_mv n x.2 lv < (m : Int) → px_Gx (d + 1) j (pc, lv, st, hp) (pa_Po n K hp)
  | 0, pc, x, lv, st, hp, hx, hs, H, hm => by
    have h1 := List.all_eq_true.mp hck _ hx
    unfold pa_chk1 at h1
    split at h1
    · simp only [Bool.and_eq_true] at h1
      have := pa_pos_ok hN h1.1 hs.1
      omega
    · cases h1
  | m + 1, pc, x, lv, st, hp, hx, hs, H, hm => by
    have h1 := List.all_eq_true.mp hck _ hx
    unfold pa_chk1 at h1
    split at h1
    · rename_i i hi
      change px_ins (px_tab j) pc = some i at hi
      simp only [Bool.and_eq_true] at h1
      obtain ⟨hpos, h2⟩ := h1
      split at h2
      · rename_i L hL
        have hall := List.all_eq_true.mp h2
        have key : ∀ q ∈ L, ∀ (lv' : px_L) (st' : List Value) (hp1 : px_H), pa_ST n a0 q.2.1 lv' st' hp1 → pa_Hi n hp1 → pa_uo q.2.2 lv lv' → px_Gx (d + 1) j (q.1, lv', st', hp1) (pa_Po n K hp1) := by
          intro q hq lv' st' hp1 hs' H1 hu
          obtain ⟨t, ht, hedge⟩ := List.any_eq_true.mp (hall q hq)
          simp only [Bool.and_eq_true, beq_iff_eq] at hedge
          obtain ⟨⟨e1, e2⟩, e3⟩ := hedge
          have hlt := pa_edge_ok hN e3 hpos hs.1 hs'.1 hu
          obtain ⟨tpc, tx⟩ := t
          change tpc = q.1 at e1
          subst e1
          have hlt' : pa_mv n tx.2 lv' + 1 ≤ pa_mv n x.2 lv := hlt.1
          exact pa_safe hN hck henv hj hh ho m q.1 tx lv' st' hp1 ht (pa_sS_ok hN e2 hs') H1 (by omega)
        rcases pa_step hN ho i hs H hL with ⟨f, hst, q, hq, e1, e2, e3, e4, e5, e6⟩ | ⟨r, hst, hP⟩ | ⟨j', as, rest, k, hst, hmem, hargs, hk2, hthr, hM, hnext⟩
        · obtain ⟨fpc, flv, fst, fhp⟩ := f
          change q.1 = fpc at e1
          subst e1
          obtain ⟨o, hp', hg, hP⟩ := key q hq flv fst fhp e2 e3 e6
          refine ⟨o, hp', px_r hi hst hg, pa_Po.step e4 e5 ?_ hP⟩
          have hkp : px_Kp hp fhp := px_keep_s hst
          exact hkp.sz e5
        · exact ⟨r.1, r.2, px_e hi hst, hP⟩
        · obtain ⟨o, hp1, hg, ⟨hH1, hF1, hend⟩, hAk⟩ := henv _ hmem as hp H hargs
          rcases hend with ⟨v, rfl, hv, hlen⟩ | ⟨ht, E, rfl, hlen, hsz⟩
          · obtain ⟨q, hq, e1, e2, e3⟩ := hnext v hp1 hv hAk hH1 hF1
            have hkey := key q hq lv _ hp1 e3 hH1 (by rw [e2]; rfl)
            rw [e1] at hkey
            obtain ⟨o, hp', hg2, hP⟩ := hkey
            refine ⟨o, hp', px_cl hi hst hg hg2, pa_Po.step (hF1.mono hM) hlen ?_ hP⟩
            exact (pa_kept hg).sz hlen
          · exact ⟨.inr E, hp1, px_ct hi hst hg hk2 (pa_hdn hj) hh, hH1, hF1.mono hM, Or.inr ⟨hthr ht, E, rfl, hlen, hsz⟩⟩
      · cases h2
    · cases h1
theorem pa_args_ok : ∀ (i : Nat) {l : List pa_V} {vs : List Value}, pa_gfs n l vs → ∀ lv0 : px_L, (∀ q ∈ lv0, q.1 < i) → pa_gl n (lv0 ++ lv_args i vs) (pa_args i l)
  | _, [], [], _, _, _ => trivial
  | _, [], _ :: _, h, _, _ => nomatch h
  | _, _ :: _, [], h, _, _ => nomatch h
  | i, A :: l, v :: vs, h, lv0, h0 => by
    have hget : ∀ (lv0 : px_L), (∀ q ∈ lv0, q.1 < i) → ∀ r : px_L, px_get (lv0 ++ (i, v) :: r) i = some v := by
      intro lv0 h0 r
      induction lv0 with
      | nil => exact px_get_hd _ _ _
      | cons q t ih =>
        have hq := h0 q List.mem_cons_self
        show px_get (q :: (t ++ (i, v) :: r)) i = some v
        unfold px_get
        rw [if_neg (by omega)]
        exact ih (fun p hp => h0 p (List.mem_cons_of_mem _ hp))
    refine ⟨⟨v, hget lv0 h0 _, h.1⟩, ?_⟩
    have hc : (if v.category = 2 then i + 2 else i + 1) = (if pa_isL A = true then i + 2 else i + 1) := by
      rw [pa_cat h.1]
      unfold pa_ct
      cases pa_isL A <;> rfl
    have ih := pa_args_ok (if pa_isL A = true then i + 2 else i + 1) h.2 (lv0 ++ [(i, v)]) (by
      intro q hq
      rcases List.mem_append.mp hq with hq | hq
      · have := h0 q hq
        split <;> omega
      · have : q = (i, v) := by simpa using hq
        rw [this]
        show i < _
        split <;> omega)
    rw [List.append_assoc] at ih
    show pa_gl n (lv0 ++ (i, v) :: lv_args (if v.category = 2 then i + 2 else i + 1) vs) _
    rw [hc]
    exact ih
theorem lv_args_lo : ∀ (i : Nat) (vs : List Value), ∀ q ∈ lv_args i vs, i ≤ q.1
  | _, [], _, h => nomatch h
  | i, v :: vs, q, h => by
    rcases List.mem_cons.mp h with h | h
    · rw [h]; exact Nat.le_refl _
    · have := lv_args_lo _ vs q h
      split at this <;> omega
/-- a method with a good certificate keeps its contract -/
theorem pa_ok {tb : pa_T} (hN : pa_N n) {env : List (Nat × pa_K)} {K : pa_K} {j d : Nat} {ann : pa_A} (hck : pa_chk tb env K j ann = true) (henv : ∀ q ∈ env, pa_Ct tb n q.1 q.2 d) (hj : 11 < j) (hh : px_hh j = []) (hal : pa_al tb j = []) : pa_Ct tb n j K (d + 1) := by
  intro as hp H ha
  unfold pa_chk at hck
  simp only [Bool.and_eq_true] at hck
  obtain ⟨⟨h1, h2⟩, h3⟩ := hck
  split at h3
  · rename_i t ht
    obtain ⟨a0, ho, hsq⟩ : ∃ a0, (∃ l, (pa_rs (pa_rg n a0)).2 = .inl l) ∧ pa_sq a0 (lv_args 0 as) := by
      obtain ⟨KA, K2⟩ := K
      change pa_gfs n KA as at ha
      rcases as with _ | ⟨v, vs⟩
      · exact ⟨8, ⟨_, rfl⟩, fun a h => nomatch h⟩
      · rcases KA with _ | ⟨A, l⟩
        · exact nomatch ha
        · have hrest : ∀ a, ((0, .ref a) : Nat × Value) ∈ lv_args (if v.category = 2 then 0 + 2 else 0 + 1) vs → False := by
            intro a h
            have hlo := lv_args_lo _ _ _ h
            change (if v.category = 2 then 0 + 2 else 0 + 1) ≤ 0 at hlo
            split at hlo <;> omega
          rcases A with x | x | x
          · obtain ⟨z, rfl, -⟩ := ha.1
            refine ⟨8, ⟨_, rfl⟩, fun a h => ?_⟩
            rcases List.mem_cons.mp h with h | h
            · cases h
            · exact (hrest a h).elim
          · obtain ⟨z, rfl⟩ := ha.1
            refine ⟨8, ⟨_, rfl⟩, fun a h => ?_⟩
            rcases List.mem_cons.mp h with h | h
            · cases h
            · exact (hrest a h).elim
          · obtain ⟨z, rfl, z1, z2⟩ := ha.1
            refine ⟨z, ?_, fun a h => ?_⟩
            · unfold pa_obj at h2
              simp only at h2
              split at h2
              · rename_i l hl
                exact ⟨l, by rw [z1]; exact hl⟩
              · cases h2
            · rcases List.mem_cons.mp h with h | h
              · cases h; rfl
              · exact (hrest a h).elim
    have hst : pa_ST n a0 (pa_args 0 K.1, [], []) (lv_args 0 as) [] hp := ⟨pa_args_ok 0 ha [] (fun _ h => nomatch h), trivial, trivial, hsq⟩
    have hs := pa_sS_ok hN h3 hst
    obtain ⟨o, hp', hg, hP⟩ := pa_safe hN h1 henv hj hh ho ((pa_mv n t.2 (lv_args 0 as)).toNat + 1) 0 t _ _ _ (pa_aget_mem ht) hs H (by omega)
    exact ⟨o, hp', hg, hP, Or.inl hal⟩
  · cases h3
end PG
