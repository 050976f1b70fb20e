section PXZ
variable {l : Launch} {S0 : State} {A0 : Array Value} {D : va_G} {od sa : Nat → Nat} {p : Program} {e : Env} {R : Room} {s : State} {m : MethodId} {args : Array Value} {below : List Frame} {meth : Method} {c : Code} {j d k0 z0 mc ms : Nat}
/-- caught in a method of the law: it answers x -/
theorem px_hand (B : px_B S0 j d k0 p R s m meth c) {pc hpc k : Nat} {E nm : String} {ce : Cell} {q : Addr} {H : Heap} {locs : List Loc} {ls : Array Slot} {rest : List Value} {lv : px_L} {hp : px_H} {x : Int32} {n : Int} {pre suf : List ExceptionTableEntry} {z : ExceptionTableEntry} {ia : Instr} {la : Nat}
    (hcn : px_cn j = 5) (hsplit : tableOf (px_hh j) = pre ++ z :: suf) (hpass : ∀ y ∈ pre, covers y pc = false ∨ (y.catchType ≠ 0 ∧ ∃ nm : String, (Cond.classLink RL y.catchType nm).before args s = true ∧ va_Nc E nm s)) (hz : covers z pc = true) (h0 : z.catchType ≠ 0)
    (hlink : (Cond.classLink RL z.catchType nm).before args s = true) (hcast : (Cond.castable E nm).before args s = true) (hcell : H[q]? = some ce) (hv : ce.vm = .none) (hcl : s.vm.findClass E = some ce.cls)
    (hhp : z.handlerPc = hpc) (hia : (ia = .astore k ∧ la = 2) ∨ (∃ kf : Fin 4, ia = .astore_n kf ∧ (kf : Nat) = k ∧ la = 1)) (dA : decode (px_c j) hpc = .ok (ia, la)) (dB : decode (px_c j) (hpc + la) = .ok (.iconst n, 1)) (dC : decode (px_c j) (hpc + la + 1) = .ok (.ireturn, 1)) (hk : k < px_ml j) (hret : px_rt j = some .int) (hn : Int32.ofInt n = x)
    (w1 : px_W S0 D od hp H) (w2 : ∀ q ∈ locs, S0.heap.size ≤ q.base) (w3 : lv_has ls (px_ml j) (px_rl (px_ad od S0.heap.size) lv)) :
    vx_W p l e R s m args below meth c H locs mc ms (vx_MQ below (px_Qc S0 D od (.inl (some (.int x)), hp)) (px_XC S0 D od (.inl (some (.int x)), hp)) args s mc ms (px_A S0)) (F0 m pc ls rest) q := by
  obtain ⟨hx, hb, hml, hown, hrt, hlk, hnm, hW0, het, hfr, hlo, hsz, hk8, hold⟩ := id B
  rw [hcn] at hown
  refine vx_catch (own := RL) hown pre z suf (by rw [het]; exact hsplit) hpass hz h0 hlink hcast hcell hv hcl ?_
  rw [hhp]
  have fin : ∀ ls' : Array Slot, W p l e R s m args below meth c H locs mc ms (vx_MQ below (px_Qc S0 D od (.inl (some (.int x)), hp)) (px_XC S0 D od (.inl (some (.int x)), hp)) args s mc ms (px_A S0)) (F0 m (hpc + la) ls' []) := fun ls' =>
    lv_iconst hx hb dB hn (vx_ret (W.zret hx hb (hrt.trans hret) rfl (fun t ht hW => ⟨some (.int x), rfl, rfl, by rw [ht]; exact w1⟩) w2 dC hlk))
  rcases hia with ⟨rfl, rfl⟩ | ⟨kf, rfl, hkf, rfl⟩
  · exact lv_astore hx hb dA w3 hk rfl (fun ls' _ => fin ls')
  · exact lv_astore_n hx hb dA hkf w3 hk rfl (fun ls' _ => fin ls')
set_option maxRecDepth 100000 in
theorem px_caught (C : px_Cx l S0 A0 D od sa) (B : px_B S0 j d k0 p R s m meth c) {pc : Nat} {E : String} {ce : Cell} {q : Addr} {H : Heap} {locs : List Loc} {ls : Array Slot} {rest : List Value} {lv : px_L} {hp : px_H} {x : Int32} (h : px_hd j pc E = some x)
    (hcell : H[q]? = some ce) (hv : ce.vm = .none) (hcl : s.vm.findClass E = some ce.cls) (w1 : px_W S0 D od hp H) (w2 : ∀ q ∈ locs, S0.heap.size ≤ q.base) (w3 : lv_has ls (px_ml j) (px_rl (px_ad od S0.heap.size) lv)) :
    vx_W p l e R s m args below meth c H locs mc ms (vx_MQ below (px_Qc S0 D od (.inl (some (.int x)), hp)) (px_XC S0 D od (.inl (some (.int x)), hp)) args s mc ms (px_A S0)) (F0 m pc ls rest) q := by
  have hW0 := B.2.2.2.2.2.2.2.1
  have lA : (Cond.classLink RL 13 px_xA).before args s = true := px_word C.1 hW0 (px_in (i := 376) rfl rfl)
  have lI : (Cond.classLink RL 19 px_xI).before args s = true := px_word C.1 hW0 (px_in (i := 465) rfl rfl)
  have cA : (Cond.castable px_xA px_xA).before args s = true := px_ow hW0 (C.1 _ (List.mem_of_getElem? (i := 426) rfl)) rfl
  have cI : (Cond.castable px_xI px_xI).before args s = true := px_ow hW0 (C.1 _ (List.mem_of_getElem? (i := 477) rfl)) rfl
  have nc : va_Nc px_xI px_xA s := by
    obtain ⟨a, b, h1, h2, h3⟩ := C.2.2.2.2.2.2.2.2.2.2.2
    refine ⟨a, b, by rw [hW0.alike.findClass]; exact h1, by rw [hW0.alike.findClass]; exact h2, ?_⟩
    rw [hW0.alike.assignable]; exact h3
  unfold px_hd at h
  split at h
  · rename_i hE
    subst hE
    split at h
    · rename_i hj
      obtain ⟨hj, hpc⟩ := hj
      cases h
      rcases hj with rfl | rfl | rfl | rfl | rfl | rfl
      · exact px_hand B (pre := []) (suf := []) (z := ⟨0, 19, 22, 13⟩) (k := 5) (ia := .astore 5) (la := 2) (n := 1) rfl rfl (fun y hy => nomatch hy) (by simp [covers]; omega) (by decide) lA cA hcell hv hcl rfl (Or.inl ⟨rfl, rfl⟩) (px_dec 5 (22, .astore 5) (px_ins_mem rfl)) (px_dec 5 (24, .iconst 1) (px_ins_mem rfl)) (px_dec 5 (25, .ireturn) (px_ins_mem rfl)) (by decide) rfl rfl w1 w2 w3
      · exact px_hand B (pre := []) (suf := []) (z := ⟨0, 19, 22, 13⟩) (k := 5) (ia := .astore 5) (la := 2) (n := 1) rfl rfl (fun y hy => nomatch hy) (by simp [covers]; omega) (by decide) lA cA hcell hv hcl rfl (Or.inl ⟨rfl, rfl⟩) (px_dec 7 (22, .astore 5) (px_ins_mem rfl)) (px_dec 7 (24, .iconst 1) (px_ins_mem rfl)) (px_dec 7 (25, .ireturn) (px_ins_mem rfl)) (by decide) rfl rfl w1 w2 w3
      · exact px_hand B (pre := []) (suf := []) (z := ⟨0, 12, 15, 13⟩) (k := 5) (ia := .astore 5) (la := 2) (n := 1) rfl rfl (fun y hy => nomatch hy) (by simp [covers]; omega) (by decide) lA cA hcell hv hcl rfl (Or.inl ⟨rfl, rfl⟩) (px_dec 8 (15, .astore 5) (px_ins_mem rfl)) (px_dec 8 (17, .iconst 1) (px_ins_mem rfl)) (px_dec 8 (18, .ireturn) (px_ins_mem rfl)) (by decide) rfl rfl w1 w2 w3
      · exact px_hand B (pre := []) (suf := []) (z := ⟨0, 9, 12, 13⟩) (k := 3) (ia := .astore_n 3) (la := 1) (n := 1) rfl rfl (fun y hy => nomatch hy) (by simp [covers]; omega) (by decide) lA cA hcell hv hcl rfl (Or.inr ⟨3, rfl, rfl, rfl⟩) (px_dec 9 (12, .astore_n 3) (px_ins_mem rfl)) (px_dec 9 (13, .iconst 1) (px_ins_mem rfl)) (px_dec 9 (14, .ireturn) (px_ins_mem rfl)) (by decide) rfl rfl w1 w2 w3
      · exact px_hand B (pre := []) (suf := [⟨0, 19, 26, 19⟩]) (z := ⟨0, 19, 22, 13⟩) (k := 5) (ia := .astore 5) (la := 2) (n := 1) rfl rfl (fun y hy => nomatch hy) (by simp [covers]; omega) (by decide) lA cA hcell hv hcl rfl (Or.inl ⟨rfl, rfl⟩) (px_dec 10 (22, .astore 5) (px_ins_mem rfl)) (px_dec 10 (24, .iconst 1) (px_ins_mem rfl)) (px_dec 10 (25, .ireturn) (px_ins_mem rfl)) (by decide) rfl rfl w1 w2 w3
      · exact px_hand B (pre := []) (suf := []) (z := ⟨0, 10, 13, 13⟩) (k := 4) (ia := .astore 4) (la := 2) (n := 1) rfl rfl (fun y hy => nomatch hy) (by simp [covers]; omega) (by decide) lA cA hcell hv hcl rfl (Or.inl ⟨rfl, rfl⟩) (px_dec 11 (13, .astore 4) (px_ins_mem rfl)) (px_dec 11 (15, .iconst 1) (px_ins_mem rfl)) (px_dec 11 (16, .ireturn) (px_ins_mem rfl)) (by decide) rfl rfl w1 w2 w3
    · cases h
  · split at h
    · rename_i hj
      obtain ⟨rfl, rfl, hpc⟩ := hj
      cases h
      refine px_hand B (pre := [⟨0, 19, 22, 13⟩]) (suf := []) (z := ⟨0, 19, 26, 19⟩) (k := 5) (ia := .astore 5) (la := 2) (n := 2) rfl rfl (fun y hy => Or.inr ?_) (by simp [covers]; omega) (by decide) lI cI hcell hv hcl rfl (Or.inl ⟨rfl, rfl⟩) (px_dec 10 (26, .astore 5) (px_ins_mem rfl)) (px_dec 10 (28, .iconst 2) (px_ins_mem rfl)) (px_dec 10 (29, .ireturn) (px_ins_mem rfl)) (by decide) rfl rfl w1 w2 w3
      have := List.mem_singleton.mp hy
      subst this
      exact ⟨by decide, px_xA, lA, nc⟩
    · cases h
/-- THE SOUNDNESS OF A RUN -/
theorem px_sound (C : px_Cx l S0 A0 D od sa) : ∀ (n d j pc : Nat) (lv : px_L) (st : List Value) (hp : px_H) (r : px_E), px_run d n j pc lv st hp = some r →
    ∀ (p : Program) (e : Env) (R : Room) (s : State) (m : MethodId) (args : Array Value) (below : List Frame) (meth : Method) (c : Code) (k0 z0 mc ms : Nat), px_B S0 j d k0 p R s m meth c → k0 + mc = r.2.length → z0 + ms = px_sz r.2 → mc ≤ R.cells → ms ≤ R.slots →
    px_G S0 D od p l e R s m args below meth c (vx_MQ below (px_Qc S0 D od r) (px_XC S0 D od r) args s mc ms (px_A S0)) (px_ml j) k0 z0 (pc, lv, st, hp)
  | 0, d, j, pc, lv, st, hp, r, h => by
    unfold px_run at h
    cases h
  | n + 1, d, j, pc, lv, st, hp, r, h => by
    intro p e R s m args below meth c k0 z0 mc ms B hmc hms hRc hRs
    unfold px_run at h
    split at h
    · cases h
    · rename_i i hins
      have hd : decode (px_c j) pc = .ok (i, px_len pc i) := px_dec j (pc, i) (px_ins_mem hins)
      split at h
      · cases h
      · rename_i f hs
        have hm := px_mono n d j _ _ _ _ r h
        have ih := px_sound C n d j _ _ _ _ r h p e R s m args below meth c k0 z0 mc ms B hmc hms hRc hRs
        exact px_st C B hd hs (by omega) (by omega) ih
      · rename_i r' hs
        cases h
        exact px_se C B hd hs hmc hms hRc hRs
      · rename_i q hs
        obtain ⟨idx, ps, hlink, h8, hlg, hcase⟩ := px_callinv hs
        obtain ⟨hj, hj6⟩ := px_ml_lt _ hlink
        change q.1 < 102 at hj
        change q.1 ≠ 6 at hj6
        have h23 : q.1 ≠ 2 ∧ q.1 ≠ 3 := by
          rcases hcase with ⟨-, -, k2, k3, -⟩ | ⟨_, _, _, -, k1, -⟩ | ⟨_, _, -, k1, -⟩
          · exact ⟨k2, k3⟩
          · exact px_ml_23 _ hlink (by show px_kd q.1 ≠ 0; rw [k1]; decide)
          · exact px_ml_23 _ hlink (by show px_kd q.1 ≠ 0; rw [k1]; decide)
        have hlen3 : px_len pc i = 3 := by
          rcases hcase with ⟨rfl, -⟩ | ⟨_, _, _, rfl, -⟩ | ⟨_, _, rfl, -⟩ <;> rfl
        obtain ⟨hx, hb, hml, hown, hrt, hlk, hnm, hW0, het, hfr, hlo, hsz, hk8, hold⟩ := id B
        split at h
        · cases h
        · rename_i d'
          split at h
          · cases h
          · rename_i v hp' hc
            have hg1 := px_mono n d' q.1 _ _ _ _ _ hc
            change hp.length ≤ hp'.length ∧ px_sz hp ≤ px_sz hp' at hg1
            have hg2 := px_mono n (d' + 1) j _ _ _ _ r h
            obtain ⟨mc', hmc'⟩ : ∃ x, hp.length + x = hp'.length := ⟨hp'.length - hp.length, by omega⟩
            obtain ⟨ms', hms'⟩ : ∃ x, px_sz hp + x = px_sz hp' := ⟨px_sz hp' - px_sz hp, by omega⟩
            have hM := px_met (mc := mc') (ms := ms') (r := (.inl v, hp')) C hj hj6 h23.1 h23.2 hlg (fun p e R s m args below meth c B9 h1 h2 => px_sound C n d' q.1 0 (lv_args 0 q.2.1) [] hp (.inl v, hp') hc p e R s m args below meth c hp.length (px_sz hp) mc' ms' B9 hmc' hms' h1 h2)
            have ih := px_sound C n (d' + 1) j (pc + 3) lv (v.toList ++ q.2.2) hp' r h p e R s m args below meth c k0 z0 mc ms B hmc hms hRc hRs
            intro H locs ls cells slots w1 w2 w3 w4 w5
            change px_W S0 D od hp H at w1
            change lv_has ls (px_ml j) (px_rl (px_ad od S0.heap.size) lv) at w3
            change cells + k0 = hp.length at w4
            change slots + z0 = px_sz hp at w5
            have hrun := px_callrun (e := e) (args := args) (below := below) (locs := locs) (ls := ls) (cells := cells) (slots := slots) C B hd hs w1 w3 hM (fun _ E => nofun) ⟨by omega, by omega⟩
            intro T hT X
            rcases hrun T hT X with ⟨v', st₀, t, T', L, h0, X', hL, e1, e2, ⟨v2, hv2, ho, hw⟩, go⟩ | ⟨q9, st₀, t, T', L, E, ce, h0, X', hL, e1, e2, hxc, -⟩
            · cases hv2
              cases ho
              rw [← e1] at hw
              have hK := ih T'.heap (locs ++ L) ls (cells + mc') (slots + ms') hw (fun y hy => (List.mem_append.mp hy).elim (w2 y) (hL y)) w3 (by show cells + mc' + k0 = hp'.length; omega) (by show slots + ms' + z0 = px_sz hp'; omega)
              obtain ⟨t2, a1, b1⟩ := hK T' rfl X'
              refine ⟨t2, go t2 ?_, b1⟩
              have es : (v.map (px_ren (px_ad od S0.heap.size))).toList ++ q.2.2.map (px_ren (px_ad od S0.heap.size)) = (v.toList ++ q.2.2).map (px_ren (px_ad od S0.heap.size)) := by
                cases v <;> rfl
              show Steps p.tables e below (T'.setTop (F0 m (pc + 3) ls ((v.map (px_ren (px_ad od S0.heap.size))).toList ++ q.2.2.map (px_ren (px_ad od S0.heap.size))))) t2
              rw [es]
              exact a1
            · cases hxc.1
          · rename_i E hp' hc
            have hg1 := px_mono n d' q.1 _ _ _ _ _ hc
            change hp.length ≤ hp'.length ∧ px_sz hp ≤ px_sz hp' at hg1
            split at h
            · cases h
            · rename_i hkd
              obtain ⟨mc', hmc'⟩ : ∃ x, hp.length + x = hp'.length := ⟨hp'.length - hp.length, by omega⟩
              obtain ⟨ms', hms'⟩ : ∃ x, px_sz hp + x = px_sz hp' := ⟨px_sz hp' - px_sz hp, by omega⟩
              have hM := px_met (mc := mc') (ms := ms') (r := (.inr E, hp')) C hj hj6 h23.1 h23.2 hlg (fun p e R s m args below meth c B9 h1 h2 => px_sound C n d' q.1 0 (lv_args 0 q.2.1) [] hp (.inr E, hp') hc p e R s m args below meth c hp.length (px_sz hp) mc' ms' B9 hmc' hms' h1 h2)
              have hr2 : r.2 = hp' := by
                split at h
                · cases h; rfl
                · split at h
                  · cases h; rfl
                  · cases h
              rw [hr2] at hmc hms
              intro H locs ls cells slots w1 w2 w3 w4 w5
              change px_W S0 D od hp H at w1
              change lv_has ls (px_ml j) (px_rl (px_ad od S0.heap.size) lv) at w3
              change cells + k0 = hp.length at w4
              change slots + z0 = px_sz hp at w5
              have c1 : cells + mc' = mc := by omega
              have c2 : slots + ms' = ms := by omega
              have hrun := px_callrun (e := e) (args := args) (below := below) (locs := locs) (ls := ls) (cells := cells) (slots := slots) C B hd hs w1 w3 hM (fun z => absurd z hkd) ⟨by omega, by omega⟩
              intro T hT X
              rcases hrun T hT X with ⟨v', st₀, t, T', L, h0, X', hL, e1, e2, ⟨v2, hv2, -⟩, -⟩ | ⟨q9, st₀, t, T', L, E9, ce, h0, X', hL, e1, e2, ⟨hE, hw⟩, hce, hcv, hcl, st9⟩
              · cases hv2
              · cases hE
                rw [← e1] at hw hce
                rw [c1, c2] at X'
                have hlocs : ∀ y ∈ locs ++ L, S0.heap.size ≤ y.base := fun y hy => (List.mem_append.mp hy).elim (w2 y) (hL y)
                split at h
                · rename_i x hhd
                  cases h
                  obtain ⟨t2, a1, b1⟩ := px_caught (mc := mc) (ms := ms) C B hhd hce hcv hcl hw hlocs w3 T' rfl X'
                  exact ⟨t2, st9.trans a1, b1⟩
                · split at h
                  · rename_i hhh
                    cases h
                    obtain ⟨t2, a1, b1⟩ := vx_out (mc := mc) (ms := ms) (cells := mc) (slots := ms) (pc := pc) (ls := ls) (rest := q.2.2.map (px_ren (px_ad od S0.heap.size))) (Qc := px_Qc S0 D od (.inr E, hp')) (XC := px_XC S0 D od (.inr E, hp')) (free := px_A S0) (by rw [het, hhh]; intro x hx; cases hx) hlk hce hcv hcl (fun t9 ht9 _ => ⟨rfl, by rw [ht9]; exact hw⟩) hlocs (Nat.le_refl _) (Nat.le_refl _) T' rfl X'
                    exact ⟨t2, st9.trans a1, b1⟩
                  · cases h
end PXZ
