set_option maxRecDepth 100000 in
theorem px_hh_v : ∀ j, j < 102 → px_kd j ≠ 0 → px_hh j = [] := by decide +kernel
set_option maxRecDepth 100000 in
theorem px_ml_23 : ∀ q ∈ px_ml_, px_kd q.2.2.1 ≠ 0 → q.2.2.1 ≠ 2 ∧ q.2.2.1 ≠ 3 := by decide +kernel
theorem px_call_mk {j' : Nat} {as rest : List Value} {n : px_N} (h : px_call j' as rest = some n) : n = .inr (.inr (j', as, rest)) ∧ px_ok8 rest = true ∧ (lg_sl as).length ≤ px_ml j' := by
  unfold px_call at h
  split at h
  · rename_i hq
    exact ⟨(Option.some.inj h).symm, hq⟩
  · cases h
theorem px_callinv {j pc : Nat} {lv : px_L} {st : List Value} {hp : px_H} {i : Instr} {q : Nat × List Value × List Value} (h : px_step j pc lv st hp i = some (.inr (.inr q))) :
    ∃ idx ps, (px_cn j, idx, q.1, ps) ∈ px_ml_ ∧ px_ok8 q.2.2 = true ∧ (lg_sl q.2.1).length ≤ px_ml q.1 ∧
    ((i = .invokestatic idx ∧ px_kd q.1 = 0 ∧ q.1 ≠ 2 ∧ q.1 ≠ 3 ∧ st = q.2.1.reverse ++ q.2.2 ∧ q.2.1.length = px_np q.1) ∨
     (∃ a as vs, i = .invokevirtual idx ∧ px_kd q.1 = 1 ∧ q.2.1 = .ref a :: as ∧ st = as.reverse ++ .ref a :: q.2.2 ∧ as.length = px_np q.1 ∧ hp[a]? = some (px_cn q.1, vs)) ∨
     (∃ a as, i = .invokespecial idx ∧ px_kd q.1 = 2 ∧ q.2.1 = .ref a :: as ∧ st = as.reverse ++ .ref a :: q.2.2 ∧ as.length = px_np q.1)) := by
  cases i
  case invokestatic idx =>
    simp only [px_step, px_invs] at h
    split at h
    · rename_i j' ps hq
      split at h
      · simp only [px_math, px_go] at h
        split at h
        · split at h <;> cases h
        · cases h
      · rename_i h23
        split at h
        · rename_i hk
          obtain ⟨e0, h8, hl⟩ := px_call_mk h
          cases e0
          refine ⟨idx, ps, px_lk_mem hq, h8, hl, Or.inl ⟨rfl, hk.1, fun z => h23 (Or.inl z), fun z => h23 (Or.inr z), ?_, ?_⟩⟩
          · show st = (st.take (px_np j')).reverse.reverse ++ st.drop (px_np j')
            rw [List.reverse_reverse, List.take_append_drop]
          · show (st.take (px_np j')).reverse.length = px_np j'
            rw [List.length_reverse, List.length_take]
            omega
        · cases h
    · cases h
  case invokevirtual idx =>
    simp only [px_step, px_invv] at h
    split at h
    · rename_i j' ps hq
      split at h
      · rename_i a r hdr
        split at h
        · rename_i t vs hh
          split at h
          · rename_i hk
            obtain ⟨e0, h8, hl⟩ := px_call_mk h
            cases e0
            obtain ⟨k1, k2, rfl⟩ := hk
            refine ⟨idx, ps, px_lk_mem hq, h8, hl, Or.inr (Or.inl ⟨a, (st.take (px_np j')).reverse, vs, rfl, k1, rfl, ?_, ?_, hh⟩)⟩
            · show st = (st.take (px_np j')).reverse.reverse ++ .ref a :: r
              rw [List.reverse_reverse, ← hdr, List.take_append_drop]
            · show (st.take (px_np j')).reverse.length = px_np j'
              rw [List.length_reverse, List.length_take]
              omega
          · cases h
        · cases h
      · cases h
    · cases h
  case invokespecial idx =>
    simp only [px_step, px_invi] at h
    split at h
    · simp only [px_go] at h
      split at h
      · split at h <;> cases h
      · cases h
    · split at h
      · rename_i j' ps hq
        split at h
        · rename_i a r hdr
          split at h
          · rename_i hk
            obtain ⟨e0, h8, hl⟩ := px_call_mk h
            cases e0
            refine ⟨idx, ps, px_lk_mem hq, h8, hl, Or.inr (Or.inr ⟨a, (st.take (px_np j')).reverse, rfl, hk.1, rfl, ?_, ?_⟩)⟩
            · show st = (st.take (px_np j')).reverse.reverse ++ .ref a :: r
              rw [List.reverse_reverse, ← hdr, List.take_append_drop]
            · show (st.take (px_np j')).reverse.length = px_np j'
              rw [List.length_reverse, List.length_take]
              omega
          · cases h
        · cases h
      · cases h
  all_goals (exfalso; simp only [px_step, px_go, px_end, px_jmp, px_if, px_sw, px_math, px_gets, px_newa, px_anew, px_mna, px_new, px_ald, px_alen, px_getf, px_putf, px_iast, px_last, px_zast, px_aast, px_ii, px_iz, px_ll, px_li, px_ld, px_sv] at h; (repeat' split at h) <;> cases h)
section PXR
variable {l : Launch} {S0 : State} {A0 : Array Value} {D : va_G} {od sa : Nat → Nat} {p : Program} {e : Env} {R : Room} {s : State} {m : MethodId} {args : Array Value} {below : List Frame} {meth : Method} {c : Code} {j d k0 z0 mc ms : Nat}
theorem px_lgl (ad : Nat → Nat) (vs : List Value) : (lg_sl (vs.map (px_ren ad))).length = (lg_sl vs).length := by
  induction vs with
  | nil => rfl
  | cons v vs ih =>
    have e1 : lg_sl ((v :: vs).map (px_ren ad)) = (if (px_ren ad v).category = 2 then [.val (px_ren ad v), .second] else [.val (px_ren ad v)]) ++ lg_sl (vs.map (px_ren ad)) := rfl
    have e2 : lg_sl (v :: vs) = (if v.category = 2 then [.val v, .second] else [.val v]) ++ lg_sl vs := rfl
    rw [e1, e2, List.length_append, List.length_append, ih, px_cat]
    split <;> rfl
/-- a method's contract, out of its body's run -/
theorem px_met (C : px_Cx l S0 A0 D od sa) {j' : Nat} {as : List Value} {hp : px_H} {r : px_E} (hj : j' < 102) (hj6 : j' ≠ 6) (hj2 : j' ≠ 2) (hj3 : j' ≠ 3) (hlg : (lg_sl as).length ≤ px_ml j')
    (IH : ∀ (p : Program) (e : Env) (R : Room) (s : State) (m : MethodId) (args : Array Value) (below : List Frame) (meth : Method) (c : Code), px_B S0 j' d hp.length p R s m meth c → mc ≤ R.cells → ms ≤ R.slots →
      px_G S0 D od p l e R s m args below meth c (vx_MQ below (px_Qc S0 D od r) (px_XC S0 D od r) args s mc ms (px_A S0)) (px_ml j') hp.length (px_sz hp) (0, lv_args 0 as, [], hp)) :
    vx_Met l (px_y j') (px_ws j') (px_rm d mc ms) (px_Pc S0 D od as hp) (px_Qc S0 D od r) (px_XC S0 D od r) mc ms (px_A S0) := by
  have body : ∀ (p : Program) (e : Env) (s : State) (m : MethodId) (args : Array Value) (below : List Frame) (meth : Method) (c : Code) (s₁ : State), BodyLoose p l (px_y j') (headSpec (px_ws j') (px_rm d mc ms)) (px_c j') (px_ml j') (px_rt j') e s m args below meth c s₁ → c.maxLocals = px_ml j' → c.exceptionTable.toList = tableOf (px_hh j') → px_Pc S0 D od as hp args s →
      W p l e (headSpec (px_ws j') (px_rm d mc ms)).room s m args below meth c s.heap [] 0 0 (vx_MQ below (px_Qc S0 D od r) (px_XC S0 D od r) args s mc ms (px_A S0)) (entryFrame m args (px_ml j')) := by
    intro p e s m args below meth c s₁ B hml het hP
    obtain ⟨rfl, hw, hW0⟩ := hP
    have hown : s.vm.findClass (px_R (px_cn j')) = some m.cls := by rw [← (px_in_ok j' hj).2]; exact findClass_of_methodNamed B.named
    have hnm : px_kd j' = 2 → meth.name = "<init>" := fun z => ((name_of_methodNamed B.named B.method).1).trans (px_in5 j' hj z).1
    have hB : px_B S0 j' d hp.length p (px_rm d mc ms) s m meth c := ⟨B.exec, B.bytes, hml, hown, B.returns, B.notSynchronized, hnm, hW0, het, Nat.le_refl _, Nat.le_refl _, hw.2.1, hw.1, hw.2.2.1⟩
    rw [lg_entry_eq]
    refine IH p e (px_rm d mc ms) s m _ below meth c hB (Nat.le_refl _) (Nat.le_refl _) s.heap [] _ 0 0 hw (fun q hq => nomatch hq) ?_ (Nat.zero_add _) (Nat.zero_add _)
    rw [← px_rl_args]
    exact lv_entry _ (by rw [px_lgl]; exact hlg)
  by_cases hh : px_hh j' = []
  · refine vx_ofW (px_in4 j' hj hj2 hj3) (cc := px_c j') (maxL := px_ml j') (ret := px_rt j') (ws' := []) (by unfold px_ws; rw [if_pos hh]) ?_
    intro p e s m args below meth c s₁ B hml ht hP
    refine body p e s m args below meth c s₁ B hml ?_ hP
    rw [hh]
    cases hx : c.exceptionTable.toList with
    | nil => rfl
    | cons x xs => exact (ht x (by rw [hx]; exact List.mem_cons_self)).elim
  · refine vx_ofWH (px_in4 j' hj hj2 hj3) (cc := px_c j') (maxL := px_ml j') (ret := px_rt j') (hh := px_hh j') (ws' := []) (by unfold px_ws; rw [if_neg hh]) ?_
    intro p e s m args below meth c s₁ B hml hP
    refine body p e s m args below meth c s₁ B hml ?_ hP
    exact vx_table (x := px_y j') B (atoms_spec (ws := px_ws j') B.pre _ (by unfold px_ws; rw [if_neg hh]; exact List.mem_cons_self))
/-- the call itself -/
theorem px_callrun (C : px_Cx l S0 A0 D od sa) (B : px_B S0 j (d + 1) k0 p R s m meth c) {pc : Nat} {lv : px_L} {st : List Value} {hp : px_H} {i : Instr} {q : Nat × List Value × List Value} {r : px_E} {H : Heap} {locs : List Loc} {ls : Array Slot} {cells slots : Nat}
    (hd : decode (px_c j) pc = .ok (i, px_len pc i)) (h : px_step j pc lv st hp i = some (.inr (.inr q))) (w1 : px_W S0 D od hp H) (w3 : lv_has ls (px_ml j) (px_rl (px_ad od S0.heap.size) lv))
    (hM : vx_Met l (px_y q.1) (px_ws q.1) (px_rm d mc ms) (px_Pc S0 D od q.2.1 hp) (px_Qc S0 D od r) (px_XC S0 D od r) mc ms (px_A S0)) (hk : px_kd q.1 = 2 → ∀ E, r.1 ≠ .inr E) (hf : cells + mc ≤ R.cells ∧ slots + ms ≤ R.slots) :
    vx_Run p l e R s m args below meth c H locs cells slots mc ms (F0 m pc ls (st.map (px_ren (px_ad od S0.heap.size)))) (q.2.2.map (px_ren (px_ad od S0.heap.size))) (px_Qc S0 D od r (q.2.1.map (px_ren (px_ad od S0.heap.size))).toArray) (px_XC S0 D od r) (px_A S0) := by
  obtain ⟨hx, hb, hml, hown, hrt, hlk, hnm, hW0, het, hfr, hlo, hsz, hk8, hold⟩ := id B
  obtain ⟨idx, ps, hlink, h8, hlg, hcase⟩ := px_callinv h
  obtain ⟨hj, hj6⟩ := px_ml_lt _ hlink
  change q.1 < 102 at hj
  change q.1 ≠ 6 at hj6
  have hlinkw := px_ml_ok _ hlink
  have hlw : (Cond.methodLink (px_R (px_cn j)) idx (px_y q.1)).before args s = true := px_word C.1 hW0 (px_in hlinkw rfl)
  obtain ⟨n1, n2, n3⟩ := px_in3 q.1 hj
  have hini : (Cond.initialized (px_y q.1).cls).before args s = true := by rw [(px_in_ok q.1 hj).2]; exact px_word C.1 hW0 (px_in (px_in_ok q.1 hj).1 rfl)
  have hlen : ∀ sig, parseMethodDescriptor (px_y q.1).desc = some sig → px_np q.1 = sig.parameters.length := fun sig hs => by
    have h2 := px_in2 q.1 hj
    rw [hs] at h2
    exact (Option.some.inj h2).symm
  have hpcw := px_pc_ok q.1 hj hj6
  have hws : ∀ w ∈ px_ws q.1, ∀ (a' : Array Value) (U : State), s.WarmedH U.vm → w.before a' U = true := by
    intro w hw a' U hU
    have hw' := List.mem_singleton.mp hw
    subst hw'
    refine px_word C.1 (State.WarmedH.trans hW0 hU) (px_in hpcw ?_)
    split <;> rfl
  have h8' : (q.2.2.map fun v => v.category).sum ≤ 8 := of_decide_eq_true h8
  rw [← px_cats (px_ad od S0.heap.size)] at h8'
  have hbl : FrameBlind (px_Pc S0 D od q.2.1 hp) := fun a U g mk z => z
  have hpre : ∀ U : State, U.heap = H → s.WarmedH U.vm → px_Pc S0 D od q.2.1 hp (q.2.1.map (px_ren (px_ad od S0.heap.size))).toArray U := fun U hU hW => ⟨rfl, by rw [hU]; exact w1, State.WarmedH.trans hW0 hW⟩
  have hfr2 : (px_rm d mc ms).frames + 1 ≤ R.frames := by show d + 7 + 1 ≤ _; omega
  have hlo2 : 8 + (px_ml q.1 + 11) + (px_rm d mc ms).locals ≤ R.locals := by show 8 + (px_ml q.1 + 11) + (60 * d + 120) ≤ _; omega
  have S : CallFix p m c (px_c j) (px_ml j) s args [] (px_R (px_cn j)) := ⟨hx, hb, hml, hown, fun w hw => nomatch hw⟩
  rcases hcase with ⟨rfl, k1, k2, k3, hst, hal⟩ | ⟨a, as, vs, rfl, k1, hq1, hst, hal, hh⟩ | ⟨a, as, rfl, k1, hq1, hst, hal⟩
  · have hstk : (F0 m pc ls (st.map (px_ren (px_ad od S0.heap.size)))).stack = (q.2.1.map (px_ren (px_ad od S0.heap.size))).reverse ++ q.2.2.map (px_ren (px_ad od S0.heap.size)) := by
      show st.map _ = _
      rw [hst, List.map_append, List.map_reverse]
    have hstat : (Cond.static (px_y q.1)).before args s = true := px_word C.1 hW0 (px_in (px_k0_ok q.1 hj hj6 k1) rfl)
    by_cases hhq : px_hh q.1 = []
    · have hcm : Cond.code (px_y q.1) (px_c q.1) (px_ml q.1) (px_rt q.1) ∈ px_ws q.1 := by unfold px_ws; rw [if_pos hhq]; exact List.mem_cons_self
      exact vx_runS (n := px_np q.1) S hM ⟨⟨rfl, rfl, hfr2, hlo2, hws, hcm, hws _ hcm args s (State.WarmedH.refl s), hini, ⟨n1, n2⟩, hlen, hlw⟩, hstat⟩ ⟨hbl, hpre⟩ rfl (by rw [List.length_map]; exact hal) w3.1 hstk (lv_room h8') hd hf
    · have hcm : Cond.codeWith (px_y q.1) (px_c q.1) (px_ml q.1) (px_rt q.1) (px_hh q.1) ∈ px_ws q.1 := by unfold px_ws; rw [if_neg hhq]; exact List.mem_cons_self
      exact vx_runSX (n := px_np q.1) S hM ⟨⟨rfl, rfl, hfr2, hlo2, hws, hcm⟩, hws _ hcm args s (State.WarmedH.refl s), hini, ⟨n1, n2⟩, hlen, hlw, hstat⟩ ⟨hbl, hpre⟩ rfl (by rw [List.length_map]; exact hal) w3.1 hstk (lv_room h8') hd hf
  · have hhq := px_hh_v q.1 hj (by rw [k1]; decide)
    have hcm : Cond.code (px_y q.1) (px_c q.1) (px_ml q.1) (px_rt q.1) ∈ px_ws q.1 := by unfold px_ws; rw [if_pos hhq]; exact List.mem_cons_self
    obtain ⟨s1, s2⟩ := px_k2_ok q.1 hj k1 hj6
    have hstk : (F0 m pc ls (st.map (px_ren (px_ad od S0.heap.size)))).stack = (as.map (px_ren (px_ad od S0.heap.size))).reverse ++ .ref (px_ad od S0.heap.size a) :: q.2.2.map (px_ren (px_ad od S0.heap.size)) := by
      show st.map _ = _
      rw [hst, List.map_append, List.map_reverse, List.map_cons]
      rfl
    have hargs : (q.2.1.map (px_ren (px_ad od S0.heap.size))) = .ref (px_ad od S0.heap.size a) :: as.map (px_ren (px_ad od S0.heap.size)) := by
      rw [hq1, List.map_cons]
      rfl
    obtain ⟨cell, q1, q2, q3, -⟩ := (w1.2.2.2 a _ hh).1 s2
    have hkn := u_Kn_moved hW0.alike (C.2.1 _ s2)
    rw [hargs] at hpre ⊢
    exact vx_runV (n := px_np q.1) (C := px_R (px_cn q.1)) S hM ⟨⟨rfl, rfl, hfr2, hlo2, hws, hcm, hws _ hcm args s (State.WarmedH.refl s), hini, ⟨n1, n2⟩, hlen, hlw⟩, px_word C.1 hW0 (px_in (px_k1_ok q.1 hj (by rw [k1]; decide) hj6) rfl), px_word C.1 hW0 (px_in s1 rfl)⟩ ⟨hbl, ⟨cell, q1, by rw [q3]; rfl, by rw [q2]; exact hkn.2.1⟩, hpre⟩ rfl (by rw [List.length_map]; exact hal) w3.1 hstk (lv_room h8') hd hf
  · have hhq := px_hh_v q.1 hj (by rw [k1]; decide)
    obtain ⟨i1, i2, i3⟩ := px_in5 q.1 hj k1
    have hcm : Cond.code (px_y q.1) (px_c q.1) (px_ml q.1) none ∈ px_ws q.1 := by unfold px_ws; rw [if_pos hhq, i2]; exact List.mem_cons_self
    have hstk : (F0 m pc ls (st.map (px_ren (px_ad od S0.heap.size)))).stack = (as.map (px_ren (px_ad od S0.heap.size))).reverse ++ .ref (px_ad od S0.heap.size a) :: q.2.2.map (px_ren (px_ad od S0.heap.size)) := by
      show st.map _ = _
      rw [hst, List.map_append, List.map_reverse, List.map_cons]
      rfl
    have hargs : (q.2.1.map (px_ren (px_ad od S0.heap.size))) = .ref (px_ad od S0.heap.size a) :: as.map (px_ren (px_ad od S0.heap.size)) := by
      rw [hq1, List.map_cons]
      rfl
    have hMet : Met l (px_y q.1) (px_ws q.1) (px_rm d mc ms) (px_Pc S0 D od q.2.1 hp) (px_Qc S0 D od r) mc ms (px_A S0) := by
      intro p e h1 h2 h3 s m args below h4 h5 h6 h7
      obtain ⟨n, o, a1, a2, a3, a4⟩ := hM p e h1 h2 h3 s m args below h4 h5 h6 h7
      refine ⟨n, o, a1, a2, a3, ?_⟩
      rcases a4 with a4 | ⟨q9, -, E, ce, L, hxc, -⟩
      · exact a4
      · exact absurd hxc.1 (hk k1 E)
    rw [hargs] at hpre ⊢
    have hrun := va_runI (n := px_np q.1) S hMet ⟨⟨rfl, rfl, hfr2, hlo2, hws, hcm, hws _ hcm args s (State.WarmedH.refl s), hini, ⟨n1, n2⟩, hlen, hlw⟩, i1, px_word C.1 hW0 (px_in (px_k1_ok q.1 hj (by rw [k1]; decide) hj6) rfl)⟩ ⟨hbl, hpre⟩ (g := F0 m pc ls (st.map (px_ren (px_ad od S0.heap.size)))) (p := p) (e := e) (below := below) (meth := meth) (locs := locs) (cells := cells) (slots := slots) rfl (by rw [List.length_map]; exact hal) w3.1 hstk (lv_room h8') hd hf
    intro T hT X
    exact Or.inl (hrun T hT X)
end PXR
