/-! ends, calls, and the soundness of a run -/
def px_Qc (S0 : State) (D : va_G) (od : Nat → Nat) (r : px_E) : Array Value → State → Outcome → State → Prop := fun _ _ o t => ∃ v, r.1 = .inl v ∧ o = .returned (v.map (px_ren (px_ad od S0.heap.size))) ∧ px_W S0 D od r.2 t.heap
def px_XC (S0 : State) (D : va_G) (od : Nat → Nat) (r : px_E) : String → State → State → Prop := fun E _ t => r.1 = .inr E ∧ px_W S0 D od r.2 t.heap
def px_ws (j : Nat) : List Cond := [if px_hh j = [] then .code (px_y j) (px_c j) (px_ml j) (px_rt j) else .codeWith (px_y j) (px_c j) (px_ml j) (px_rt j) (px_hh j)]
def px_Pc (S0 : State) (D : va_G) (od : Nat → Nat) (as : List Value) (hp : px_H) : Array Value → State → Prop := fun a U => a = (as.map (px_ren (px_ad od S0.heap.size))).toArray ∧ px_W S0 D od hp U.heap ∧ S0.WarmedH U.vm
def px_rm (d mc ms : Nat) : Room := { frames := d + 7, cells := mc, slots := ms, locals := 60 * d + 120 }
section PXE
variable {l : Launch} {S0 : State} {A0 : Array Value} {D : va_G} {od sa : Nat → Nat} {p : Program} {e : Env} {R : Room} {s : State} {m : MethodId} {args : Array Value} {below : List Frame} {meth : Method} {c : Code} {j d k0 z0 mc ms : Nat}
theorem px_zq (C : px_Cx l S0 A0 D od sa) (B : px_B S0 j d k0 p R s m meth c) : vx_Zq Bundle.tN "UNASSIGNED_STACK" Bundle.steD (px_A S0) s s.heap ∧ vx_Zq Bundle.tN "SUPPRESSED_SENTINEL" Bundle.listD (px_A S0) s s.heap := by
  obtain ⟨hx, hb, hml, hown, hrt, hlk, hnm, hW0, het, hfr, hlo, hsz, hk8, hold⟩ := id B
  obtain ⟨-, -, -, -, -, h1, h2, -⟩ := C
  exact ⟨(vx_Zq.moved hW0.alike h1).kept (fun a ha _ => hold a ha), (vx_Zq.moved hW0.alike h2).kept (fun a ha _ => hold a ha)⟩
/-- 'throw new ..' -/
theorem px_thr_sound (C : px_Cx l S0 A0 D od sa) (B : px_B S0 j d k0 p R s m meth c) {pc : Nat} {lv : px_L} {st : List Value} {hp : px_H} {r : px_E} {cls text : String} {names : List String} {ik is ic t0 : Nat} (hcn : px_cn j = 3) (hhh : px_hh j = [])
    (hcls : Bundle.fit cls = true) (hnames : ∀ n ∈ names, Bundle.fit n = true) (hnl : names.length ≤ 3) (hk : Cond.classLink RX3 ik cls ∈ px_PT) (hini : Cond.initialized cls ∈ px_PT) (hstr : vk_R RX3 is text t0 S0) (hat : ∀ w ∈ vx_atS RX3 ic cls names, w ∈ lw_tbl ∧ px_gw w = true ∧ vx_ot w = true)
    (d0 : decode (px_c j) pc = .ok (.new ik, 3)) (d3 : decode (px_c j) (pc + 3) = .ok (.dup, 1)) (d4 : decode (px_c j) (pc + 4) = .ok (.ldc is, 2)) (d6 : decode (px_c j) (pc + 6) = .ok (.invokespecial ic, 3)) (d9 : decode (px_c j) (pc + 9) = .ok (.athrow, 1))
    (h8 : px_ok8 st = true) (hr : r = (.inr cls, hp ++ [(30, List.replicate 6 .null)])) (hmc : k0 + mc = r.2.length) (hms : z0 + ms = px_sz r.2) (hRc : mc ≤ R.cells) (hRs : ms ≤ R.slots) :
    px_G S0 D od p l e R s m args below meth c (vx_MQ below (px_Qc S0 D od r) (px_XC S0 D od r) args s mc ms (px_A S0)) (px_ml j) k0 z0 (pc, lv, st, hp) := by
  obtain ⟨hU, hN⟩ := px_zq C B
  obtain ⟨hx, hb, hml, hown, hrt, hlk, hnm, hW0, het, hfr, hlo, hsz, hk8, hold⟩ := id B
  intro H locs ls cells slots w1 w2 w3 w4 w5
  change px_W S0 D od hp H at w1
  change lv_has ls (px_ml j) (px_rl (px_ad od S0.heap.size) lv) at w3
  change cells + k0 = hp.length at w4
  change slots + z0 = px_sz hp at w5
  subst hr
  have e1 : (hp ++ [(30, List.replicate 6 Value.null)]).length = hp.length + 1 := by simp
  have e2 : px_sz (hp ++ [(30, List.replicate 6 Value.null)]) = px_sz hp + 6 := by rw [px_sz_app]; simp [px_sz]
  change k0 + mc = (hp ++ [(30, List.replicate 6 Value.null)]).length at hmc
  change z0 + ms = px_sz (hp ++ [(30, List.replicate 6 Value.null)]) at hms
  rw [e1] at hmc
  rw [e2] at hms
  have hw1 := w1.1
  have hw2 := w1.2.1
  rw [hcn] at hown
  have h8' : (st.map fun v => v.category).sum ≤ 8 := of_decide_eq_true h8
  rw [← px_cats (px_ad od S0.heap.size)] at h8'
  refine px_throwS (A := px_A S0) (own := RX3) (cls := cls) (text := text) (names := names) (ik := ik) (is := is) (ic := ic) (sa := t0) hx hb C.2.2.2.2.2.2.2.2.2.2.1 hown hcls hnames (px_word C.1 hW0 hk) (px_word C.1 hW0 hini) (vk_R.warm hW0 hstr) (fun w hw => px_ow hW0 (C.1 w (hat w hw).1) (hat w hw).2.1) ?_ hU hN ⟨by omega, fun q hq hA => ?_, w2⟩ (w3.1.trans hml.symm) d0 d3 d4 d6 d9 ?_ (by omega) (by show (List.map (fun v => v.category) (st.map (px_ren (px_ad od S0.heap.size)))).sum + _ ≤ _; omega) (by omega) (by omega) hlk ?_ w2 (by omega) (by omega)
  · intro w hw
    rcases List.mem_cons.mp hw with rfl | hw
    · rfl
    · rcases List.mem_cons.mp hw with rfl | hw
      · rfl
      · exact (hat w hw).2.2
  · have hq0 : q < S0.heap.size := Nat.not_le.mp hA
    rw [w1.2.2.1 q hq0, hold q hq0]
  · rw [het, hhh]
    intro x hx
    cases hx
  · intro t hvm hs hq
    refine ⟨rfl, w1.app C.2.2.2.1 _ (fun i c hc => ?_) (by rw [hs]; rfl) hq⟩
    have hi : i = 0 := by
      have := (List.getElem?_eq_some_iff.mp hc).1
      simp at this; exact this
    subst hi
    cases hc
    exact ⟨fun h => absurd h (by show ¬ (30 : Nat) < 5; decide), fun _ h => absurd h (by show ¬ (30 : Nat) ≤ 20; decide), Or.inr (by show (10 : Nat) ≤ 30; decide)⟩
set_option maxRecDepth 100000 in
set_option maxHeartbeats 1000000 in
/-- a step that ends the method -/
theorem px_se (C : px_Cx l S0 A0 D od sa) (B : px_B S0 j d k0 p R s m meth c) {pc : Nat} {lv : px_L} {st : List Value} {hp : px_H} {i : Instr} {r : px_E} (hd : decode (px_c j) pc = .ok (i, px_len pc i)) (h : px_step j pc lv st hp i = some (.inr (.inl r)))
    (hmc : k0 + mc = r.2.length) (hms : z0 + ms = px_sz r.2) (hRc : mc ≤ R.cells) (hRs : ms ≤ R.slots) :
    px_G S0 D od p l e R s m args below meth c (vx_MQ below (px_Qc S0 D od r) (px_XC S0 D od r) args s mc ms (px_A S0)) (px_ml j) k0 z0 (pc, lv, st, hp) := by
  obtain ⟨hx, hb, hml, hown, hrt, hlk, hnm, hW0, het, hfr, hlo, hsz, hk8, hold⟩ := id B
  cases i
  case ireturn =>
    simp only [px_step, px_end] at h
    split at h
    · rename_i v
      split at h
      · rename_i ty hty
        split at h
        · rename_i hn
          cases h
          intro H locs ls cells slots w1 w2 w3 w4 w5
          have c1 : cells = mc := by change cells + k0 = hp.length at w4; change k0 + mc = hp.length at hmc; omega
          have c2 : slots = ms := by change slots + z0 = px_sz hp at w5; change z0 + ms = px_sz hp at hms; omega
          subst c1
          subst c2
          exact vx_ret (W.zret hx hb (hrt.trans hty) hn (fun t ht hW => ⟨some (.int v), rfl, rfl, by rw [ht]; exact w1⟩) w2 hd hlk)
        · cases h
      · cases h
    · cases h
  case lreturn =>
    simp only [px_step, px_end] at h
    split at h
    · rename_i v
      split at h
      · rename_i hty
        cases h
        intro H locs ls cells slots w1 w2 w3 w4 w5
        have c1 : cells = mc := by change cells + k0 = hp.length at w4; change k0 + mc = hp.length at hmc; omega
        have c2 : slots = ms := by change slots + z0 = px_sz hp at w5; change z0 + ms = px_sz hp at hms; omega
        subst c1
        subst c2
        exact vx_ret (W.lret hx hb (hrt.trans hty) (fun t ht hW => ⟨some (.long v), rfl, rfl, by rw [ht]; exact w1⟩) w2 hd hlk)
      · cases h
    · cases h
  case areturn =>
    simp only [px_step, px_end] at h
    split at h
    · rename_i a
      split at h
      · rename_i nm hty
        cases h
        intro H locs ls cells slots w1 w2 w3 w4 w5
        have c1 : cells = mc := by change cells + k0 = hp.length at w4; change k0 + mc = hp.length at hmc; omega
        have c2 : slots = ms := by change slots + z0 = px_sz hp at w5; change z0 + ms = px_sz hp at hms; omega
        subst c1
        subst c2
        exact vx_ret (W.aret hx hb (hrt.trans hty) (Or.inl ⟨nm, rfl⟩) (Or.inr ⟨_, rfl⟩) (fun t ht hW => ⟨some (.ref a), rfl, rfl, by rw [ht]; exact w1⟩) w2 hd hlk)
      · cases h
    · cases h
  case return_ =>
    simp only [px_step, px_end] at h
    split at h
    · split at h
      · rename_i hty
        cases h
        intro H locs ls cells slots w1 w2 w3 w4 w5
        have c1 : cells = mc := by change cells + k0 = hp.length at w4; change k0 + mc = hp.length at hmc; omega
        have c2 : slots = ms := by change slots + z0 = px_sz hp at w5; change z0 + ms = px_sz hp at hms; omega
        subst c1
        subst c2
        exact vx_ret (W.vret hx hb (hrt.trans hty) (fun t ht hW => ⟨none, rfl, rfl, by rw [ht]; exact w1⟩) w2 hd hlk)
      · cases h
    · cases h
  case new idx =>
    simp only [px_step, px_new] at h
    split at h
    · rename_i E hE
      split at h
      · rename_i h8
        simp only [px_end] at h
        have hr : r = (.inr E, hp ++ [(30, List.replicate 6 .null)]) := by cases h; rfl
        unfold px_thr at hE
        split at hE
        · rename_i hj
          obtain ⟨rfl, rfl⟩ := hj
          cases hE
          exact px_thr_sound C B (cls := px_xA) (names := px_nA) (text := "there is no such piece") rfl rfl (by decide +kernel) (by decide +kernel) (by decide) (px_in (i := 459) rfl rfl) (px_in (i := 49) rfl rfl) C.2.2.2.2.2.2.2.2.1 px_xA_ok (px_dec 49 (12, .new 162) (px_ins_mem rfl)) (px_dec 49 (15, .dup) (px_ins_mem rfl)) (px_dec 49 (16, .ldc 167) (px_ins_mem rfl)) (px_dec 49 (18, .invokespecial 166) (px_ins_mem rfl)) (px_dec 49 (21, .athrow) (px_ins_mem rfl)) h8 hr hmc hms hRc hRs
        · split at hE
          · rename_i hj
            obtain ⟨rfl, rfl⟩ := hj
            cases hE
            exact px_thr_sound C B (cls := px_xA) (names := px_nA) (text := "there is no such cell") rfl rfl (by decide +kernel) (by decide +kernel) (by decide) (px_in (i := 459) rfl rfl) (px_in (i := 49) rfl rfl) C.2.2.2.2.2.2.2.1 px_xA_ok (px_dec 53 (24, .new 162) (px_ins_mem rfl)) (px_dec 53 (27, .dup) (px_ins_mem rfl)) (px_dec 53 (28, .ldc 164) (px_ins_mem rfl)) (px_dec 53 (30, .invokespecial 166) (px_ins_mem rfl)) (px_dec 53 (33, .athrow) (px_ins_mem rfl)) h8 hr hmc hms hRc hRs
          · split at hE
            · rename_i hj
              obtain ⟨rfl, rfl⟩ := hj
              cases hE
              exact px_thr_sound C B (cls := px_xI) (names := px_nI) (text := "x or y is not 0 .. 3") rfl rfl (by decide +kernel) (by decide +kernel) (by decide) (px_in (i := 475) rfl rfl) (px_in (i := 51) rfl rfl) C.2.2.2.2.2.2.2.2.2.1 px_xI_ok (px_dec 64 (25, .new 79) (px_ins_mem rfl)) (px_dec 64 (28, .dup) (px_ins_mem rfl)) (px_dec 64 (29, .ldc 81) (px_ins_mem rfl)) (px_dec 64 (31, .invokespecial 83) (px_ins_mem rfl)) (px_dec 64 (34, .athrow) (px_ins_mem rfl)) h8 hr hmc hms hRc hRs
            · cases hE
      · cases h
    · split at h <;> cases h
  case ldc_w idx => simp only [px_step, px_go] at h; split at h <;> cases h
  case ldc2_w idx => simp only [px_step, px_go] at h; split at h <;> cases h
  case iinc k n => simp only [px_step, px_go] at h; split at h <;> (try split at h) <;> cases h
  all_goals (try (first | (cases h; done) | (obtain ⟨x, y, z, e1, e0⟩ := px_ii_inv h; cases e0; done) | (obtain ⟨x, y, z, e1, e2, e0⟩ := px_iz_inv h; cases e0; done) | (obtain ⟨x, y, z, e1, e0⟩ := px_ll_inv h; cases e0; done) | (obtain ⟨x, y, z, e1, e0⟩ := px_li_inv h; cases e0; done) | (obtain ⟨x, hg, e0⟩ := px_ld0 h; cases e0; done) | (obtain ⟨x, hg, e0⟩ := px_ld1 h; cases e0; done) | (obtain ⟨x, hg, e0⟩ := px_ld2 h; cases e0; done) | (obtain ⟨x, y, hg, hn, e0⟩ := px_sv0 h; cases e0; done) | (obtain ⟨x, y, hg, hn, e0⟩ := px_sv1 h; cases e0; done) | (obtain ⟨x, y, hg, hn, e0⟩ := px_sv2 h; cases e0; done) | (obtain ⟨t, ht, e0⟩ := px_jmp_inv h; cases e0; done)))
  case iaload => obtain ⟨_, _, _, _, _, _, _, _, _, _, _, e0⟩ := px_ald_inv h; cases e0
  case laload => obtain ⟨_, _, _, _, _, _, _, _, _, _, _, e0⟩ := px_ald_inv h; cases e0
  case baload => obtain ⟨_, _, _, _, _, _, _, _, _, _, _, e0⟩ := px_ald_inv h; cases e0
  case aaload => obtain ⟨_, _, _, _, _, _, _, _, _, _, _, e0⟩ := px_ald_inv h; cases e0
  case iastore => obtain ⟨_, _, _, _, _, _, _, _, _, _, e0⟩ := px_iast_inv h; cases e0
  case lastore => obtain ⟨_, _, _, _, _, _, _, _, _, _, e0⟩ := px_last_inv h; cases e0
  case bastore => obtain ⟨_, _, _, _, _, _, _, _, _, _, _, e0⟩ := px_zast_inv h; cases e0
  case aastore => obtain ⟨_, _, _, _, _, _, _, _, _, _, _, _, e0⟩ := px_aast_inv h; cases e0
  case arraylength => obtain ⟨_, _, _, _, _, _, _, _, e0⟩ := px_alen_inv h; cases e0
  case getfield idx => obtain ⟨_, _, _, _, _, _, _, _, _, _, _, _, e0⟩ := px_getf_inv h; cases e0
  case putfield idx => obtain ⟨_, _, _, _, _, _, _, _, _, _, _, _, _, _, _, e0⟩ := px_putf_inv h; cases e0
  all_goals (simp only [px_step, px_go, px_call, px_end, px_jmp, px_if, px_sw, px_invs, px_invv, px_invi, px_math, px_gets, px_newa, px_anew, px_mna] at h; (repeat' split at h) <;> cases h)
end PXE
