/-! writes of fields, calls, ends, the whole -/
section PE
variable {tb : pa_T} {n a0 : Nat} {env : List (Nat × pa_K)} {K : pa_K} {j pc : Nat} {lv : px_L} {st : List Value} {hp : px_H} {ins : Instr} {L : List (Nat × pa_S × pa_U)} {s : pa_S}
theorem pa_fd_self {t k i : Nat} {ws : List Value} {w : Value} (hh : hp[a0]? = some (t, ws)) (hi : i ≠ k) : pa_fd (px_set hp a0 t ws k w) a0 i = pa_fd hp a0 i := by
  unfold pa_fd px_set
  rw [px_self hh, hh]
  show (ws.set k w)[i]? = ws[i]?
  rw [List.getElem?_set_ne (Ne.symm hi)]
theorem pa_cl_no {f : Nat → Bool} {x : pa_B × pa_B × Nat} (h : f x.2.2 = false) : pa_cl f (.inl x) = .inl x := by
  obtain ⟨a, b, o⟩ := x
  change f o = false at h
  simp [pa_cl, h]
theorem pa_cl_yes {f : Nat → Bool} {x : pa_B × pa_B × Nat} (h : f x.2.2 = true) : pa_cl f (.inl x) = .inl (x.1, x.2.1, 0) := by
  obtain ⟨a, b, o⟩ := x
  change f o = true at h
  simp [pa_cl, h]
theorem pa_ptf_ok (hN : pa_N n) {idx : Nat} (hs : pa_ST n a0 s lv st hp) (H : pa_Hi n hp) (hx : px_step j pc lv st hp ins = px_putf j idx pc lv st hp) (ht : pa_ptf j idx pc K.2.2.2 s = some L) : pa_Ok tb n a0 env K j pc lv st hp ins L := by
  obtain ⟨sl, ss, sf⟩ := s
  obtain ⟨hl, hss, hf, hq⟩ := hs
  unfold pa_ptf at ht
  split at ht
  · rename_i A q r e
    change ss = _ at e
    subst e
    obtain ⟨v, w, vs, rfl, ⟨hv, -⟩, ⟨⟨a, rfl, a1, a2⟩, hor⟩, hr⟩ := pa_gs2 hss
    split at ht
    · rename_i ci k ps nest hlk
      split at ht
      · rename_i t l hrs
        split at ht
        · rename_i B hB
          split at ht
          · rename_i hc
            obtain ⟨c1, c10, c2, c3, c4, c5, c6, c7⟩ := hc
            obtain ⟨ws, hh, hw⟩ := pa_Hi_get H a1 a2
            rw [hrs] at hh hw
            obtain ⟨v0, hv0, -⟩ := pa_gfs_get hw hB
            have hk : k < ws.length := (List.getElem?_eq_some_iff.mp hv0).1
            obtain ⟨n1, n2⟩ := pa_ftok_ok hN c5 hv
            have ha8 : 8 ≤ a := pa_lo a1 c2 a2
            have hst : px_step j pc lv (v :: .ref a :: vs) hp ins = px_go (pc + 3) lv vs (px_set hp a t ws k v) := by
              rw [hx]
              unfold px_putf
              simp only [hlk, hh]
              rw [if_pos ⟨c1, ha8, hk, c3, n1, n2, fun z => by rw [c4] at z; cases z⟩]
            have hHi : pa_Hi n (px_set hp a t ws k v) := by
              refine pa_Hi_set H a1 a2 hh ?_ ?_
              · rw [hrs]
                exact ⟨B, hB, pa_sub1_ok hN c6 hv⟩
              · intro z
                rw [z] at a1
                have e8 : q.1 = 8 := a1.symm
                rw [e8] at hrs
                have e3 : t = 3 := by cases hrs; rfl
                rw [← c1, e3] at c4
                rcases (show k = 0 ∨ k = 1 ∨ 2 ≤ k by omega) with e | e | e
                · rw [e] at c4; cases c4
                · rw [e] at c4; cases c4
                · exact e
            have hFr : pa_Fr n K.2.2.2 hp (px_set hp a t ws k v) := by
              refine pa_Fr_set hh ?_
              rw [a1, if_pos c10]
              exact c7
            have hln : (px_set hp a t ws k v).length = hp.length := by
              unfold px_set
              rw [List.length_set]
            cases ht
            refine Or.inl ⟨(pc + 3, lv, vs, px_set hp a t ws k v), hst, _, List.mem_cons_self, rfl, ⟨hl, ?_, ?_, hq⟩, hHi, hFr, hln, rfl⟩
            · refine pa_gs_imp hr ?_
              intro C _ u hu ho
              refine ⟨pa_cl_gv hu, ?_⟩
              rcases C with x | x | x
              · by_cases h1 : q.2 = 1
                · have ha : a = a0 := by
                    rcases hor with z | z
                    · exact absurd (h1.symm.trans z) (by decide)
                    · cases z; rfl
                  by_cases ho2 : x.2.2 = 100 + k
                  · rw [pa_cl_yes (by simp [h1, ho2])]; exact Or.inl rfl
                  · rw [pa_cl_no (by simp [h1, ho2])]
                    rcases ho with z | z | z
                    · exact Or.inl z
                    · exact Or.inr (Or.inl z)
                    · refine Or.inr (Or.inr ⟨z.1, ?_⟩)
                      subst ha
                      rw [pa_fd_self hh (by omega)]
                      exact z.2
                · by_cases ho2 : 100 ≤ x.2.2
                  · rw [pa_cl_yes (by simp [h1, ho2])]; exact Or.inl rfl
                  · rw [pa_cl_no (by simp [h1]; omega)]
                    rcases ho with z | z | z
                    · exact Or.inl z
                    · exact Or.inr (Or.inl z)
                    · exact absurd z.1 ho2
              · trivial
              · exact ho
            · show pa_gf n a0 _ (if q.2 = 1 then _ else [])
              by_cases h1 : q.2 = 1
              · rw [if_pos h1]
                have ha : a = a0 := by
                  rcases hor with z | z
                  · exact absurd (h1.symm.trans z) (by decide)
                  · cases z; rfl
                subst ha
                have hrest : pa_gf n a (px_set hp a t ws k v) (sf.filter (fun z => !(z.1 == k))) := by
                  refine pa_gf_id (pa_gf_fl _ hf) ?_
                  intro z hz
                  have := (List.mem_filter.mp hz).2
                  exact pa_fd_self hh (by simpa using this)
                have hself : pa_fd (px_set hp a t ws k v) a k = some v := by
                  unfold pa_fd px_set
                  rw [px_self hh]
                  exact List.getElem?_set_self hk
                split
                · obtain ⟨x, rfl, x1, x2⟩ := hv
                  exact ⟨⟨x, hself, x1, x2⟩, hrest⟩
                · exact hrest
              · rw [if_neg h1]; trivial
          · cases ht
        · cases ht
      · cases ht
    · cases ht
  · cases ht
theorem pa_lgsl : ∀ {l : List pa_V} {vs : List Value}, pa_gfs n l vs → (lg_sl vs).length = (l.map pa_ct).sum
  | [], [], _ => rfl
  | [], _ :: _, h => nomatch h
  | _ :: _, [], h => nomatch h
  | A :: l, v :: vs, h => by
    have ih := pa_lgsl h.2
    unfold lg_sl at ih ⊢
    rw [List.flatMap_cons, List.length_append, ih, List.map_cons, List.sum_cons, pa_cat h.1]
    unfold pa_ct
    cases pa_isL A <;> rfl
theorem pa_ok8 {r : List pa_V} {vs : List Value} (h : pa_gs n a0 lv hp r vs) (hc : (r.map pa_ct).sum ≤ 8) : px_ok8 vs = true := by
  unfold px_ok8
  rw [pa_gs_cat h]
  exact decide_eq_true hc
theorem pa_rfn_ok (hN : pa_N n) : ∀ {l m : List pa_V} {as : List Value} {s : pa_S} {vs : List Value}, pa_gs n a0 lv hp l as → pa_gfs n m as → pa_ST n a0 s lv vs hp → ∃ s', pa_rfn l m s = some s' ∧ pa_ST n a0 s' lv vs hp
  | [], m, as, s, vs, _, _, h => ⟨s, by cases m <;> rfl, h⟩
  | A :: l, [], [], _, _, h, _, _ => nomatch h
  | _ :: _, [], _ :: _, _, _, _, h, _ => nomatch h
  | A :: l, B :: m, [], _, _, h, _, _ => nomatch h
  | A :: l, B :: m, v :: as, s, vs, h, k, hs => by
    rcases A with x | x | x
    · rcases B with y | y | y
      · obtain ⟨⟨⟨z, rfl, z1, z2⟩, zo⟩, h2⟩ := h
        obtain ⟨⟨z', e', y1, y2⟩, k2⟩ := k
        cases e'
        have b1 : pa_ev n (pa_max x.1 y.1) ≤ z.toInt := pa_max_ok z1 y1
        have b2 : z.toInt ≤ pa_ev n (pa_min x.2.1 y.2.1) := pa_min_ok z2 y2
        have he := pa_emp_ok hN (X := (pa_max x.1 y.1, pa_min x.2.1 y.2.1)) b1 b2
        have hor : pa_orI a0 lv hp (if x.2.2 < 100 then x.2.2 else 0) z := by
          by_cases h100 : x.2.2 < 100
          · rw [if_pos h100]; exact zo
          · rw [if_neg h100]; exact Or.inl rfl
        obtain ⟨s', e1, e2⟩ := pa_rfn_ok hN h2 k2 (pa_upd_ok (X := (pa_max x.1 y.1, pa_min x.2.1 y.2.1)) hs hor b1 b2)
        exact ⟨s', by unfold pa_rfn; rw [if_neg (by rw [he]; decide)]; exact e1, e2⟩
      · obtain ⟨s', e1, e2⟩ := pa_rfn_ok hN h.2 k.2 hs
        exact ⟨s', e1, e2⟩
      · obtain ⟨s', e1, e2⟩ := pa_rfn_ok hN h.2 k.2 hs
        exact ⟨s', e1, e2⟩
    · obtain ⟨s', e1, e2⟩ := pa_rfn_ok hN h.2 k.2 hs
      exact ⟨s', by rcases B with y | y | y <;> exact e1, e2⟩
    · obtain ⟨s', e1, e2⟩ := pa_rfn_ok hN h.2 k.2 hs
      exact ⟨s', by rcases B with y | y | y <;> exact e1, e2⟩
theorem pa_alts_ok (hN : pa_N n) {as : List Value} {aas : List pa_V} {ar : List pa_V} {rest : List Value} {l0 : List (Nat × pa_V)} {hp' : px_H} {v : Value} (hl : pa_gl n lv l0) (hq : pa_sq a0 lv) (ha : pa_gs n a0 lv hp aas as) (hr : pa_gs n a0 lv hp' ar rest) : ∀ {l : List (pa_V × List pa_V)}, (∃ q ∈ l, pa_gv n q.1 v ∧ pa_gfs n q.2 as) → ∃ q ∈ pa_alts pc aas ar l0 l, q.1 = pc + 3 ∧ q.2.2 = none ∧ pa_ST n a0 q.2.1 lv (v :: rest) hp'
  | [], h => by obtain ⟨q, hq, -⟩ := h; exact nomatch hq
  | p :: l, h => by
    obtain ⟨q, hqm, h1, h2⟩ := h
    unfold pa_alts
    rcases List.mem_cons.mp hqm with rfl | hqm
    · obtain ⟨s', e1, e2⟩ := pa_rfn_ok hN (vs := []) (s := (l0, [], [])) ha h2 ⟨hl, trivial, trivial, hq⟩
      rw [e1]
      exact ⟨_, List.mem_append_left _ List.mem_cons_self, rfl, rfl, e2.1, ⟨⟨pa_ori_gv h1, pa_ori_or0⟩, hr⟩, trivial, hq⟩
    · obtain ⟨r, hr1, hr2⟩ := pa_alts_ok hN hl hq ha hr (l := l) ⟨q, hqm, h1, h2⟩
      exact ⟨r, List.mem_append_right _ hr1, hr2⟩
theorem pa_gs_take : ∀ (k : Nat) {l : List pa_V} {vs : List Value}, pa_gs n a0 lv hp l vs → pa_gs n a0 lv hp (l.take k) (vs.take k)
  | 0, _, _, _ => trivial
  | _ + 1, [], [], _ => trivial
  | _ + 1, [], _ :: _, h => nomatch h
  | _ + 1, _ :: _, [], h => nomatch h
  | k + 1, _ :: l, _ :: vs, h => ⟨h.1, pa_gs_take k h.2⟩
theorem pa_gs_app : ∀ {l m : List pa_V} {vs ws : List Value}, pa_gs n a0 lv hp l vs → pa_gs n a0 lv hp m ws → pa_gs n a0 lv hp (l ++ m) (vs ++ ws)
  | [], _, [], _, _, h => h
  | [], _, _ :: _, _, h, _ => nomatch h
  | _ :: _, _, [], _, h, _ => nomatch h
  | _ :: _, _, _ :: _, _, h, k => ⟨h.1, pa_gs_app h.2 k⟩
theorem pa_gs_rev : ∀ {l : List pa_V} {vs : List Value}, pa_gs n a0 lv hp l vs → pa_gs n a0 lv hp l.reverse vs.reverse
  | [], [], _ => trivial
  | [], _ :: _, h => nomatch h
  | _ :: _, [], h => nomatch h
  | A :: l, v :: vs, h => by
    rw [List.reverse_cons, List.reverse_cons]
    exact pa_gs_app (pa_gs_rev h.2) ⟨h.1, trivial⟩
theorem pa_call_ok (hN : pa_N n) {j' : Nat} {as : List Value} {aas arest : List pa_V} {rest : List Value} (hl : pa_gl n lv s.1) (hq : pa_sq a0 lv) (hg : pa_gs n a0 lv hp aas as) (hr : pa_gs n a0 lv hp arest rest) (hx : px_step j pc lv st hp ins = px_call j' as rest) (ht : pa_call tb env K.2.2.2 K.2.2.1 j' pc aas arest s = some L) : pa_Ok tb n a0 env K j pc lv st hp ins L := by
  have ha := pa_gs_fs hg
  unfold pa_call at ht
  split at ht
  · rename_i q0 k hfind
    split at ht
    · rename_i hc
      obtain ⟨c1, c2, c3, c4, c5, c6⟩ := hc
      have hm := List.mem_of_find?_eq_some hfind
      have hj : q0 = j' := by simpa using List.find?_some hfind
      subst hj
      refine Or.inr (Or.inr ⟨q0, as, rest, k, ?_, hm, pa_sub2_ok hN c1 ha, c6, c4, ?_, ?_⟩)
      · rw [hx]
        unfold px_call
        rw [if_pos ⟨pa_ok8 hr c2, by rw [pa_lgsl ha]; exact c3⟩]
      · intro q hqm
        have := List.all_eq_true.mp c5 q hqm
        simpa using this
      · intro v hp' hv hAk _ _
        have hrest : pa_gs n a0 lv hp' (arest.map (pa_cl (fun o => decide (100 ≤ o)))) rest := by
          refine pa_gs_imp hr ?_
          intro C _ u hu ho
          refine ⟨pa_cl_gv hu, ?_⟩
          rcases C with x | x | x
          · by_cases ho2 : 100 ≤ x.2.2
            · rw [pa_cl_yes (by simp [ho2])]; exact Or.inl rfl
            · rw [pa_cl_no (by simp; omega)]
              rcases ho with z | z | z
              · exact Or.inl z
              · exact Or.inr (Or.inl z)
              · exact absurd z.1 ho2
          · trivial
          · exact ho
        split at ht
        · cases ht
          refine ⟨_, List.mem_cons_self, rfl, rfl, hl, ?_, trivial, hq⟩
          unfold pa_gr at hv
          split at hv
          · rename_i hk
            rw [hk]
            exact hrest
          · rename_i A u hk
            rw [hk]
            exact ⟨⟨pa_ori_gv hv, pa_ori_or0⟩, hrest⟩
          · exact hv.elim
        · rename_i hne
          split at ht
          · rename_i hsome
            cases ht
            rcases hAk with e | hAk
            · exact absurd e hne
            · unfold pa_gr at hv
              split at hv
              · rename_i hk
                rw [hk] at hsome
                cases hsome
              · rename_i A u hk
                exact pa_alts_ok hN hl hq hg hrest (hAk u rfl)
              · exact hv.elim
          · cases ht
    · cases ht
  · cases ht
theorem pa_mx_ok (hN : pa_N n) {j' : Nat} {X Y : pa_B × pa_B} {x y : Int32} (h1 : pa_ev n X.1 ≤ x.toInt) (h2 : x.toInt ≤ pa_ev n X.2) (h3 : pa_ev n Y.1 ≤ y.toInt) (h4 : y.toInt ≤ pa_ev n Y.2) : pa_gv n (pa_mx j' X Y) (.int (if j' = 2 then (if x < y then y else x) else (if y < x then y else x))) ∧ ∀ v, pa_or a0 lv hp (pa_mx j' X Y) v := by
  unfold pa_mx
  by_cases hj : j' = 2
  · rw [if_pos hj, if_pos hj]
    refine ⟨⟨_, rfl, ?_, ?_⟩, fun _ => Or.inl rfl⟩
    · by_cases hxy : x < y
      · rw [if_pos hxy]
        rw [Int32.lt_iff_toInt_lt] at hxy
        exact pa_max_ok (by omega) h3
      · rw [if_neg hxy]
        rw [Int32.lt_iff_toInt_lt] at hxy
        exact pa_max_ok h1 (by omega)
    · show _ ≤ pa_ev n (if pa_le X.2 Y.2 = true then Y.2 else if pa_le Y.2 X.2 = true then X.2 else (2147483647, 0))
      have tl : (if x < y then y else x).toInt ≤ 2147483647 := by have := Int32.toInt_lt (if x < y then y else x); omega
      have tx : (if x < y then y else x).toInt = x.toInt ∧ y.toInt ≤ x.toInt ∨ (if x < y then y else x).toInt = y.toInt ∧ x.toInt ≤ y.toInt := by
        by_cases hxy : x < y
        · rw [if_pos hxy]
          rw [Int32.lt_iff_toInt_lt] at hxy
          exact Or.inr ⟨rfl, by omega⟩
        · rw [if_neg hxy]
          rw [Int32.lt_iff_toInt_lt] at hxy
          exact Or.inl ⟨rfl, by omega⟩
      generalize (if x < y then y else x).toInt = z at tl tx ⊢
      by_cases hc : pa_le X.2 Y.2 = true
      · rw [if_pos hc]
        have b := pa_le_ok hN hc
        omega
      · rw [if_neg hc]
        by_cases hd : pa_le Y.2 X.2 = true
        · rw [if_pos hd]
          have b := pa_le_ok hN hd
          omega
        · rw [if_neg hd, pa_ev_0]; exact tl
  · rw [if_neg hj, if_neg hj]
    refine ⟨⟨_, rfl, ?_, ?_⟩, fun _ => Or.inl rfl⟩
    · show pa_ev n (if pa_le X.1 Y.1 = true then X.1 else if pa_le Y.1 X.1 = true then Y.1 else (-2147483648, 0)) ≤ _
      have tl : -2147483648 ≤ (if y < x then y else x).toInt := by have := Int32.le_toInt (if y < x then y else x); omega
      have tx : (if y < x then y else x).toInt = x.toInt ∧ x.toInt ≤ y.toInt ∨ (if y < x then y else x).toInt = y.toInt ∧ y.toInt ≤ x.toInt := by
        by_cases hxy : y < x
        · rw [if_pos hxy]
          rw [Int32.lt_iff_toInt_lt] at hxy
          exact Or.inr ⟨rfl, by omega⟩
        · rw [if_neg hxy]
          rw [Int32.lt_iff_toInt_lt] at hxy
          exact Or.inl ⟨rfl, by omega⟩
      generalize (if y < x then y else x).toInt = z at tl tx ⊢
      by_cases hc : pa_le X.1 Y.1 = true
      · rw [if_pos hc]
        have b := pa_le_ok hN hc
        omega
      · rw [if_neg hc]
        by_cases hd : pa_le Y.1 X.1 = true
        · rw [if_pos hd]
          have b := pa_le_ok hN hd
          omega
        · rw [if_neg hd, pa_ev_0]; exact tl
    · by_cases hxy : y < x
      · rw [if_pos hxy]
        rw [Int32.lt_iff_toInt_lt] at hxy
        exact pa_min_ok (by omega) h4
      · rw [if_neg hxy]
        rw [Int32.lt_iff_toInt_lt] at hxy
        exact pa_min_ok h2 (by omega)
theorem pa_invs_ok (hN : pa_N n) {cn idx : Nat} (hs : pa_ST n a0 s lv st hp) (H : pa_Hi n hp) (hx : px_step j pc lv st hp ins = px_invs cn idx pc lv st hp) (ht : pa_inv tb env K.2.2.2 K.2.2.1 cn idx pc true s = some L) : pa_Ok tb n a0 env K j pc lv st hp ins L := by
  unfold pa_inv at ht
  split at ht
  · rename_i j' ps hlk
    rw [if_pos rfl] at ht
    unfold px_invs at hx
    rw [hlk] at hx
    split at ht
    · rename_i hj
      split at ht
      · rename_i y x r e
        split at ht
        · rename_i hc
          obtain ⟨sl, ss, sf⟩ := s
          obtain ⟨hl, hss, hf, hq⟩ := hs
          change ss = _ at e
          subst e
          obtain ⟨v, w, vs, rfl, ⟨⟨y', rfl, y1, y2⟩, -⟩, ⟨⟨x', rfl, x1, x2⟩, -⟩, hr⟩ := pa_gs2 hss
          obtain ⟨g1, g2⟩ := pa_mx_ok (a0 := a0) (lv := lv) (hp := hp) hN (j' := j') (X := (x.1, x.2.1)) (Y := (y.1, y.2.1)) x1 x2 y1 y2
          refine pa_ok1 (st' := _ :: vs) H ?_ ht ⟨hl, ⟨⟨g1, g2 _⟩, hr⟩, hf, hq⟩ rfl
          rw [hx]
          simp only [hj, if_true]
          unfold px_math
          simp only [pa_ok8 hr hc, if_true]
        · cases ht
      · cases ht
    · rename_i hj
      split at ht
      · rename_i hc
        have hlen := pa_gs_len hs.2.1
        refine pa_call_ok hN hs.1 hs.2.2.2 (pa_gs_rev (pa_gs_take (px_np j') hs.2.1)) (pa_gs_drop (px_np j') hs.2.1) ?_ ht
        rw [hx]
        simp only [hj, if_false]
        rw [if_pos ⟨hc.1, by rw [hlen]; exact hc.2⟩]
      · cases ht
  · cases ht
theorem pa_invv_ok (hN : pa_N n) {cn idx : Nat} (hs : pa_ST n a0 s lv st hp) (H : pa_Hi n hp) (hx : px_step j pc lv st hp ins = px_invv cn idx st hp) (ht : pa_inv tb env K.2.2.2 K.2.2.1 cn idx pc false s = some L) : pa_Ok tb n a0 env K j pc lv st hp ins L := by
  unfold pa_inv at ht
  split at ht
  · rename_i j' ps hlk
    rw [if_neg (by decide)] at ht
    unfold px_invv at hx
    rw [hlk] at hx
    split at ht
    · rename_i q r e
      split at ht
      · rename_i hc
        have hd := pa_gs_drop (px_np j') hs.2.1
        rw [e] at hd
        obtain ⟨v, vs, e2, ⟨⟨a, rfl, a1, a2⟩, hor⟩, hr⟩ := pa_gs1 hd
        obtain ⟨ws, hh, -⟩ := pa_Hi_get H a1 a2
        have hlen := pa_gs_len hs.2.1
        refine pa_call_ok hN hs.1 hs.2.2.2 (as := .ref a :: (st.take (px_np j')).reverse) (aas := .inr (.inr q) :: (s.2.1.take (px_np j')).reverse) ⟨⟨⟨a, rfl, a1, a2⟩, hor⟩, pa_gs_rev (pa_gs_take (px_np j') hs.2.1)⟩ hr ?_ ht
        rw [hx]
        simp only [e2, hh]
        rw [if_pos ⟨hc.1, by rw [hlen]; exact hc.2.1, hc.2.2⟩]
      · cases ht
    · cases ht
  · cases ht
theorem pa_end_ok {v : Option Value} (H : pa_Hi n hp) (hx : px_step j pc lv st hp ins = px_end (.inl v) hp) (hv : pa_gr n K.2.1 v) : pa_Ok tb n a0 env K j pc lv st hp ins L :=
  Or.inr (Or.inl ⟨(.inl v, hp), hx, H, pa_Fr.refl _, Or.inl ⟨v, rfl, hv, rfl⟩⟩)
theorem pa_thr_ok {E : String} (H : pa_Hi n hp) (hx : px_step j pc lv st hp ins = px_end (.inr E) (hp ++ [(30, List.replicate 6 .null)])) (hk : K.2.2.1 = true) : pa_Ok tb n a0 env K j pc lv st hp ins L := by
  refine Or.inr (Or.inl ⟨(.inr E, hp ++ [(30, List.replicate 6 Value.null)]), hx, ?_, ?_, Or.inr ⟨hk, E, rfl, ?_, ?_⟩⟩)
  · refine ⟨?_, ?_⟩
    rotate_left
    · obtain ⟨W, V, ws, w1, w2, w3, w4, w5, w6⟩ := H.2
      refine ⟨W, V, ws, w1, w2, w3, ?_, w5, w6⟩
      show (hp ++ _)[(8 : Nat)]? = _
      rw [List.getElem?_append_left (List.getElem?_eq_some_iff.mp w4).1]
      exact w4
    intro a ha
    obtain ⟨vs, h1, h2⟩ := H.1 a ha
    refine ⟨vs, ?_, h2⟩
    show (hp ++ _)[a]? = _
    rw [List.getElem?_append_left (List.getElem?_eq_some_iff.mp h1).1]
    exact h1
  · intro a t vs h
    refine ⟨vs, ?_, rfl, fun _ _ => rfl⟩
    show (hp ++ _)[a]? = _
    rw [List.getElem?_append_left (List.getElem?_eq_some_iff.mp h).1]
    exact h
  · show (hp ++ _).length = _
    rw [List.length_append]; rfl
  · show px_sz (hp ++ _) = _
    rw [px_sz_app]; rfl
end PE
