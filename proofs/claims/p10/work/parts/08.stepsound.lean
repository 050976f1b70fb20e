section PXS
variable {l : Launch} {S0 : State} {A0 : Array Value} {D : va_G} {od sa : Nat → Nat} {p : Program} {e : Env} {R : Room} {s : State} {m : MethodId} {args : Array Value} {below : List Frame} {meth : Method} {c : Code} {Q : State → Prop} {j d k0 z0 : Nat}
theorem px_ren_dv (ad : Nat → Nat) (ty : FieldType) : px_ren ad (defaultValue ty) = defaultValue ty := by cases ty <;> rfl
theorem px_B.arr {cell : Cell} {ty : FieldType} (B : px_B S0 j d k0 p R s m meth c) (h : S0.isArrayOf cell ty) : s.isArrayOf cell ty := State.isArrayOf_alike B.2.2.2.2.2.2.2.1.alike h
theorem px_B.arr' {cell : Cell} {ty : FieldType} (B : px_B S0 j d k0 p R s m meth c) (h : s.isArrayOf cell ty) : S0.isArrayOf cell ty := State.isArrayOf_alike B.2.2.2.2.2.2.2.1.alike.symm h
theorem px_Cx.odl (C : px_Cx l S0 A0 D od sa) : ∀ k, k < 8 → od k < S0.heap.size := C.2.2.2.1
theorem px_Cx.w (C : px_Cx l S0 A0 D od sa) (B : px_B S0 j d k0 p R s m meth c) {w : Cond} (hw : w ∈ px_PT) : w.before args s = true := px_word C.1 B.2.2.2.2.2.2.2.1 hw
theorem px_Cx.kn (C : px_Cx l S0 A0 D od sa) (B : px_B S0 j d k0 p R s m meth c) {t : Nat} (ht : t < 5) : u_Kn s (px_R t) (px_T t) (px_nf t) (D.1 t) (D.2 t) := u_Kn_moved B.2.2.2.2.2.2.2.1.alike (C.2.1 t ht)
theorem px_Cx.hts (C : px_Cx l S0 A0 D od sa) (B : px_B S0 j d k0 p R s m meth c) : ∀ w ∈ px_PT, w.before args s = true := fun _ hw => C.w B hw
theorem px_Cx.apart (C : px_Cx l S0 A0 D od sa) (B : px_B S0 j d k0 p R s m meth c) {t : Nat} (ht : t < 5) : ∀ x y, x < px_nf t → y < px_nf t → x ≠ y → D.2 t x ≠ D.2 t y := by
  intro x y hx hy hne
  obtain ⟨hS, -⟩ := C.kn B ht
  obtain ⟨_, _, _, fa, hia, ea⟩ := hS x hx
  obtain ⟨_, _, _, fb, hib, eb⟩ := hS y hy
  rw [← ea, ← eb]
  refine u_apart (u_lays (args := #[]) (C.hts B) (px_lay_ok t ht) hx) (u_lays (args := #[]) (C.hts B) (px_lay_ok t ht) hy) hia hib ?_
  rw [(State.fieldFound?_type hia (px_ty_ok t ht x hx)).1, (State.fieldFound?_type hib (px_ty_ok t ht y hy)).1]
  exact px_nm_ok t ht x hx y hy hne
theorem px_new_base {a : Nat} (ha : 8 ≤ a) {locs : List Loc} {k : Nat} (h : ∀ q ∈ locs, S0.heap.size ≤ q.base) : ∀ q ∈ locs ++ [(⟨px_ad od S0.heap.size a, k⟩ : Loc)], S0.heap.size ≤ q.base := by
  intro q hq
  rcases List.mem_append.mp hq with h1 | h1
  · exact h q h1
  · rw [List.mem_singleton.mp h1]
    show S0.heap.size ≤ px_ad od S0.heap.size a
    rw [px_ad_new ha]
    omega
/-- a store into an array's cell -/
theorem px_put_ar (C : px_Cx l S0 A0 D od sa) {hp : px_H} {H H1 : Heap} {a t i : Nat} {vs : List Value} {v : Value} (w1 : px_W S0 D od hp H) (ha : 8 ≤ a) (ht : 10 ≤ t) (ht2 : t ≤ 14) (hh : hp[a]? = some (t, vs)) {cell : Cell}
    (q2 : S0.isArrayOf cell (px_ty t)) (q3 : cell.vm ≠ .unknown) (q4 : cell.slots = (vs.map (px_ren (px_ad od S0.heap.size))).toArray) (q5 : t = 13 → cell.cls = D.1 13)
    (e1 : H1[px_ad od S0.heap.size a]? = some (cell.setSlot i (px_ren (px_ad od S0.heap.size) v))) (e2 : H1.size = H.size) (e3 : ∀ q, q ≠ px_ad od S0.heap.size a → H1[q]? = H[q]?) : px_W S0 D od (px_set hp a t vs i v) H1 := by
  refine w1.set C.odl ha ⟨fun h => absurd h (by show ¬ t < 5; omega), fun _ _ => ?_, Or.inr ht⟩ e2 e3
  exact ⟨_, e1, q2, q3, fun _ => px_wr q4 i v, q5, fun z => absurd z (by show ¬ t = 20; omega)⟩
set_option maxHeartbeats 4000000 in
theorem px_st (C : px_Cx l S0 A0 D od sa) (B : px_B S0 j d k0 p R s m meth c) {pc : Nat} {lv : px_L} {st : List Value} {hp : px_H} {i : Instr} {f : px_F} (hd : decode (px_c j) pc = .ok (i, px_len pc i)) (h : px_step j pc lv st hp i = some (.inl f))
    (hr1 : f.2.2.2.length ≤ k0 + R.cells) (hr2 : px_sz f.2.2.2 ≤ z0 + R.slots) (K : px_G S0 D od p l e R s m args below meth c Q (px_ml j) k0 z0 f) : px_G S0 D od p l e R s m args below meth c Q (px_ml j) k0 z0 (pc, lv, st, hp) := by
  obtain ⟨hx, hb, hml, hown, hrt, hlk, hnm, hW0, het, hfr, hlo, hsz⟩ := id B
  intro H locs ls cells slots w1 w2 w3 w4 w5
  change px_W S0 D od hp H at w1
  change lv_has ls (px_ml j) (px_rl (px_ad od S0.heap.size) lv) at w3
  change cells + k0 = hp.length at w4
  change slots + z0 = px_sz hp at w5
  cases i
  case iconst n =>
    cases h
    exact lv_iconst hx hb hd rfl (K H locs ls cells slots w1 w2 w3 w4 w5)
  case bipush n =>
    cases h
    exact lv_bipush hx hb hd rfl (K H locs ls cells slots w1 w2 w3 w4 w5)
  case sipush n =>
    cases h
    exact lv_sipush hx hb hd rfl (K H locs ls cells slots w1 w2 w3 w4 w5)
  case lconst n =>
    cases h
    exact lv_lconst hx hb hd rfl (K H locs ls cells slots w1 w2 w3 w4 w5)
  case ldc_w idx =>
    simp only [px_step] at h
    split at h
    · rename_i v ps hq
      cases h
      exact lv_ldcw hx hb hown (C.w B (px_in (px_ki_ok _ (px_lk_mem hq)) rfl)) hd (K H locs ls cells slots w1 w2 w3 w4 w5)
    · cases h
  case ldc2_w idx =>
    simp only [px_step] at h
    split at h
    · rename_i v ps hq
      cases h
      exact lv_ldc2 hx hb hown (C.w B (px_in (px_kl_ok _ (px_lk_mem hq)) rfl)) hd (K H locs ls cells slots w1 w2 w3 w4 w5)
    · cases h
  case iload_n k =>
    obtain ⟨x, hg, e0⟩ := px_ld0 h
    cases e0
    exact lv_iload_n hx hb hd rfl (px_rl_at hg w3) (K H locs ls cells slots w1 w2 w3 w4 w5)
  case iload k =>
    obtain ⟨x, hg, e0⟩ := px_ld0 h
    cases e0
    exact lv_iload hx hb hd (px_rl_at hg w3) (K H locs ls cells slots w1 w2 w3 w4 w5)
  case istore_n k =>
    obtain ⟨x, r, e1, hn, e0⟩ := px_sv0 h
    subst e1
    cases e0
    exact lv_istore_n hx hb hd rfl w3 hn (px_rl_s1 _ lv _ (.int x)) (fun ls' h' => K H locs ls' cells slots w1 w2 h' w4 w5)
  case istore k =>
    obtain ⟨x, r, e1, hn, e0⟩ := px_sv0 h
    subst e1
    cases e0
    exact lv_istore hx hb hd w3 hn (px_rl_s1 _ lv _ (.int x)) (fun ls' h' => K H locs ls' cells slots w1 w2 h' w4 w5)
  case lload_n k =>
    obtain ⟨x, hg, e0⟩ := px_ld1 h
    cases e0
    exact lv_lload_n hx hb hd rfl (px_rl_at hg w3) (K H locs ls cells slots w1 w2 w3 w4 w5)
  case lload k =>
    obtain ⟨x, hg, e0⟩ := px_ld1 h
    cases e0
    exact lv_lload hx hb hd (px_rl_at hg w3) (K H locs ls cells slots w1 w2 w3 w4 w5)
  case lstore_n k =>
    obtain ⟨x, r, e1, hn, e0⟩ := px_sv1 h
    subst e1
    cases e0
    exact lv_lstore_n hx hb hd rfl w3 hn (px_rl_s2 _ lv _ (.long x)) (fun ls' h' => K H locs ls' cells slots w1 w2 h' w4 w5)
  case lstore k =>
    obtain ⟨x, r, e1, hn, e0⟩ := px_sv1 h
    subst e1
    cases e0
    exact lv_lstore hx hb hd w3 hn (px_rl_s2 _ lv _ (.long x)) (fun ls' h' => K H locs ls' cells slots w1 w2 h' w4 w5)
  case aload_n k =>
    obtain ⟨x, hg, e0⟩ := px_ld2 h
    cases e0
    exact lv_aload_n hx hb hd rfl (px_rl_at hg w3) (K H locs ls cells slots w1 w2 w3 w4 w5)
  case aload k =>
    obtain ⟨x, hg, e0⟩ := px_ld2 h
    cases e0
    exact lv_aload hx hb hd (px_rl_at hg w3) (K H locs ls cells slots w1 w2 w3 w4 w5)
  case astore_n k =>
    obtain ⟨x, r, e1, hn, e0⟩ := px_sv2 h
    subst e1
    cases e0
    exact lv_astore_n hx hb hd rfl w3 hn (px_rl_s1 _ lv _ (.ref x)) (fun ls' h' => K H locs ls' cells slots w1 w2 h' w4 w5)
  case astore k =>
    obtain ⟨x, r, e1, hn, e0⟩ := px_sv2 h
    subst e1
    cases e0
    exact lv_astore hx hb hd w3 hn (px_rl_s1 _ lv _ (.ref x)) (fun ls' h' => K H locs ls' cells slots w1 w2 h' w4 w5)
  case iinc k n =>
    simp only [px_step] at h
    split at h
    · rename_i x hg
      split at h
      · rename_i hn
        cases h
        obtain ⟨q, hq⟩ := List.getElem?_of_mem (List.mem_map.mpr ⟨(k, .int x), px_get_mem hg, rfl⟩ : (k, px_ren (px_ad od S0.heap.size) (.int x)) ∈ px_rl (px_ad od S0.heap.size) lv)
        exact lv_iinc hx hb hd w3 hq rfl hn (px_rl_s1 _ lv _ (.int (x + Int32.ofInt n))) (fun ls' h' => K H locs ls' cells slots w1 w2 h' w4 w5)
      · cases h
    · cases h
  case iadd =>
    obtain ⟨x, y, r, e1, e0⟩ := px_ii_inv h
    subst e1
    cases e0
    exact lv_iadd hx hb hd (K H locs ls cells slots w1 w2 w3 w4 w5)
  case isub =>
    obtain ⟨x, y, r, e1, e0⟩ := px_ii_inv h
    subst e1
    cases e0
    exact lv_isub hx hb hd (K H locs ls cells slots w1 w2 w3 w4 w5)
  case imul =>
    obtain ⟨x, y, r, e1, e0⟩ := px_ii_inv h
    subst e1
    cases e0
    exact lv_imul hx hb hd (K H locs ls cells slots w1 w2 w3 w4 w5)
  case iand =>
    obtain ⟨x, y, r, e1, e0⟩ := px_ii_inv h
    subst e1
    cases e0
    exact lv_iand hx hb hd (K H locs ls cells slots w1 w2 w3 w4 w5)
  case ior =>
    obtain ⟨x, y, r, e1, e0⟩ := px_ii_inv h
    subst e1
    cases e0
    exact lv_ior hx hb hd (K H locs ls cells slots w1 w2 w3 w4 w5)
  case ishl =>
    obtain ⟨x, y, r, e1, e0⟩ := px_ii_inv h
    subst e1
    cases e0
    exact lv_ishl hx hb hd (K H locs ls cells slots w1 w2 w3 w4 w5)
  case ishr =>
    obtain ⟨x, y, r, e1, e0⟩ := px_ii_inv h
    subst e1
    cases e0
    exact lv_ishr hx hb hd (K H locs ls cells slots w1 w2 w3 w4 w5)
  case iushr =>
    obtain ⟨x, y, r, e1, e0⟩ := px_ii_inv h
    subst e1
    cases e0
    exact lv_iushr hx hb hd rfl (K H locs ls cells slots w1 w2 w3 w4 w5)
  case idiv =>
    obtain ⟨x, y, r, e1, hy, e0⟩ := px_iz_inv h
    subst e1
    cases e0
    exact lv_idiv hx hb hd hy (K H locs ls cells slots w1 w2 w3 w4 w5)
  case irem =>
    obtain ⟨x, y, r, e1, hy, e0⟩ := px_iz_inv h
    subst e1
    cases e0
    exact lv_irem hx hb hd hy (K H locs ls cells slots w1 w2 w3 w4 w5)
  case ladd =>
    obtain ⟨x, y, r, e1, e0⟩ := px_ll_inv h
    subst e1
    cases e0
    exact lv_ladd hx hb hd (K H locs ls cells slots w1 w2 w3 w4 w5)
  case lsub =>
    obtain ⟨x, y, r, e1, e0⟩ := px_ll_inv h
    subst e1
    cases e0
    exact lv_lsub hx hb hd (K H locs ls cells slots w1 w2 w3 w4 w5)
  case land =>
    obtain ⟨x, y, r, e1, e0⟩ := px_ll_inv h
    subst e1
    cases e0
    exact lv_land hx hb hd (K H locs ls cells slots w1 w2 w3 w4 w5)
  case lor =>
    obtain ⟨x, y, r, e1, e0⟩ := px_ll_inv h
    subst e1
    cases e0
    exact lv_lor hx hb hd (K H locs ls cells slots w1 w2 w3 w4 w5)
  case lxor =>
    obtain ⟨x, y, r, e1, e0⟩ := px_ll_inv h
    subst e1
    cases e0
    exact lv_lxor hx hb hd (K H locs ls cells slots w1 w2 w3 w4 w5)
  case lshl =>
    obtain ⟨x, y, r, e1, e0⟩ := px_li_inv h
    subst e1
    cases e0
    exact lv_lshl hx hb hd rfl (K H locs ls cells slots w1 w2 w3 w4 w5)
  case lshr =>
    obtain ⟨x, y, r, e1, e0⟩ := px_li_inv h
    subst e1
    cases e0
    exact lv_lshr hx hb hd rfl (K H locs ls cells slots w1 w2 w3 w4 w5)
  case lushr =>
    obtain ⟨x, y, r, e1, e0⟩ := px_li_inv h
    subst e1
    cases e0
    exact lv_lushr hx hb hd rfl (K H locs ls cells slots w1 w2 w3 w4 w5)
  case ineg =>
    simp only [px_step] at h
    split at h
    · rename_i x r
      cases h
      exact lv_ineg hx hb hd (K H locs ls cells slots w1 w2 w3 w4 w5)
    · cases h
  case lneg =>
    simp only [px_step] at h
    split at h
    · rename_i x r
      cases h
      exact lv_lneg hx hb hd (K H locs ls cells slots w1 w2 w3 w4 w5)
    · cases h
  case i2l =>
    simp only [px_step] at h
    split at h
    · rename_i x r
      cases h
      exact lv_i2l hx hb hd rfl (K H locs ls cells slots w1 w2 w3 w4 w5)
    · cases h
  case l2i =>
    simp only [px_step] at h
    split at h
    · rename_i x r
      cases h
      exact lv_l2i hx hb hd rfl (K H locs ls cells slots w1 w2 w3 w4 w5)
    · cases h
  case lcmp =>
    simp only [px_step] at h
    split at h
    · rename_i y x r
      cases h
      exact W.lcmp hx hb hd (K H locs ls cells slots w1 w2 w3 w4 w5)
    · cases h
  case dup =>
    simp only [px_step] at h
    split at h
    · rename_i v r
      split at h
      · rename_i hv
        cases h
        exact lv_dup hx hb hd ((px_cat _ v).trans hv) (K H locs ls cells slots w1 w2 w3 w4 w5)
      · cases h
    · cases h
  case pop =>
    simp only [px_step] at h
    split at h
    · rename_i v r
      split at h
      · rename_i hv
        cases h
        exact lv_pop hx hb hd ((px_cat _ v).trans hv) (K H locs ls cells slots w1 w2 w3 w4 w5)
      · cases h
    · cases h
  case dup2 =>
    simp only [px_step] at h
    split at h
    · rename_i v w r
      split at h
      · rename_i hv
        cases h
        exact lv_dup2_11 hx hb hd ((px_cat _ v).trans hv.1) ((px_cat _ w).trans hv.2) (K H locs ls cells slots w1 w2 w3 w4 w5)
      · cases h
    · cases h
  case ifCond cond off =>
    simp only [px_step] at h
    split at h
    · rename_i x r
      obtain ⟨t, ht, hT, hF⟩ := px_if_inv h
      cases cond
      case eq =>
        refine lv_if_eq hx hb hd ht (fun q => ?_) (fun q => ?_)
        · cases hT (decide_eq_true q)
          exact K H locs ls cells slots w1 w2 w3 w4 w5
        · cases hF (decide_eq_false q)
          exact K H locs ls cells slots w1 w2 w3 w4 w5
      case ne =>
        refine lv_if_ne hx hb hd ht (fun q => ?_) (fun q => ?_)
        · cases hT (decide_eq_true q)
          exact K H locs ls cells slots w1 w2 w3 w4 w5
        · cases hF (decide_eq_false (not_not_intro q))
          exact K H locs ls cells slots w1 w2 w3 w4 w5
      case lt =>
        refine lv_if_lt hx hb hd ht (fun q => ?_) (fun q => ?_)
        · cases hT (decide_eq_true q)
          exact K H locs ls cells slots w1 w2 w3 w4 w5
        · cases hF (decide_eq_false q)
          exact K H locs ls cells slots w1 w2 w3 w4 w5
      case ge =>
        refine lv_if_ge hx hb hd ht (fun q => ?_) (fun q => ?_)
        · cases hT (decide_eq_true q)
          exact K H locs ls cells slots w1 w2 w3 w4 w5
        · cases hF (decide_eq_false q)
          exact K H locs ls cells slots w1 w2 w3 w4 w5
      case gt =>
        refine lv_if_gt hx hb hd ht (fun q => ?_) (fun q => ?_)
        · cases hT (decide_eq_true q)
          exact K H locs ls cells slots w1 w2 w3 w4 w5
        · cases hF (decide_eq_false q)
          exact K H locs ls cells slots w1 w2 w3 w4 w5
      case le =>
        refine lv_if_le hx hb hd ht (fun q => ?_) (fun q => ?_)
        · cases hT (decide_eq_true q)
          exact K H locs ls cells slots w1 w2 w3 w4 w5
        · cases hF (decide_eq_false q)
          exact K H locs ls cells slots w1 w2 w3 w4 w5
    · cases h
  case if_icmp cond off =>
    simp only [px_step] at h
    split at h
    · rename_i y x r
      obtain ⟨t, ht, hT, hF⟩ := px_if_inv h
      cases cond
      case eq =>
        refine lv_icmp_eq hx hb hd ht (fun q => ?_) (fun q => ?_)
        · cases hT (decide_eq_true q)
          exact K H locs ls cells slots w1 w2 w3 w4 w5
        · cases hF (decide_eq_false q)
          exact K H locs ls cells slots w1 w2 w3 w4 w5
      case ne =>
        refine lv_icmp_ne hx hb hd ht (fun q => ?_) (fun q => ?_)
        · cases hT (decide_eq_true q)
          exact K H locs ls cells slots w1 w2 w3 w4 w5
        · cases hF (decide_eq_false (not_not_intro q))
          exact K H locs ls cells slots w1 w2 w3 w4 w5
      case lt =>
        refine lv_icmp_lt hx hb hd ht (fun q => ?_) (fun q => ?_)
        · cases hT (decide_eq_true q)
          exact K H locs ls cells slots w1 w2 w3 w4 w5
        · cases hF (decide_eq_false q)
          exact K H locs ls cells slots w1 w2 w3 w4 w5
      case ge =>
        refine lv_icmp_ge hx hb hd ht (fun q => ?_) (fun q => ?_)
        · cases hT (decide_eq_true q)
          exact K H locs ls cells slots w1 w2 w3 w4 w5
        · cases hF (decide_eq_false q)
          exact K H locs ls cells slots w1 w2 w3 w4 w5
      case gt =>
        refine lv_icmp_gt hx hb hd ht (fun q => ?_) (fun q => ?_)
        · cases hT (decide_eq_true q)
          exact K H locs ls cells slots w1 w2 w3 w4 w5
        · cases hF (decide_eq_false q)
          exact K H locs ls cells slots w1 w2 w3 w4 w5
      case le =>
        refine lv_icmp_le hx hb hd ht (fun q => ?_) (fun q => ?_)
        · cases hT (decide_eq_true q)
          exact K H locs ls cells slots w1 w2 w3 w4 w5
        · cases hF (decide_eq_false q)
          exact K H locs ls cells slots w1 w2 w3 w4 w5
    · cases h
  case goto off =>
    obtain ⟨t, ht, e0⟩ := px_jmp_inv h
    cases e0
    exact lv_goto hx hb hd ht (K H locs ls cells slots w1 w2 w3 w4 w5)
  case tableswitch dflt lo hi offs =>
    simp only [px_step, px_sw] at h
    split at h
    · rename_i x r
      split at h
      · rename_i hq
        obtain ⟨t, ht, e0⟩ := px_jmp_inv h
        cases e0
        exact lv_tableOut hx hb hd hq ht (K H locs ls cells slots w1 w2 w3 w4 w5)
      · rename_i hq
        split at h
        · rename_i off ho
          obtain ⟨t, ht, e0⟩ := px_jmp_inv h
          cases e0
          exact lv_tableIn hx hb hd (fun z => hq (Or.inl z)) (fun z => hq (Or.inr z)) ho ht (K H locs ls cells slots w1 w2 w3 w4 w5)
        · cases h
    · cases h
  case iaload =>
    obtain ⟨x, a, r, t, vs, v, e1, hh, hok, hi, hv, e0⟩ := px_ald_inv h
    subst e1
    cases e0
    obtain ⟨-, har, -⟩ := w1.2.2.2 a _ hh
    have ht : t = 10 ∨ t = 20 := by simpa using hok
    rcases ht with rfl | rfl
    · obtain ⟨cell, q1, q2, q3, q4, -⟩ := (har (show (10 : Nat) ≤ 10 by decide) (show (10 : Nat) ≤ 20 by decide)).rd
      obtain ⟨q5, q6⟩ := q4 _ _ hv
      exact W.iald hx hb q1 (B.arr q2) q3 (fun z => z.elim hi q6) q5 rfl rfl hd (K H locs ls cells slots w1 w2 w3 w4 w5)
    · obtain ⟨cell, q1, q2, q3, q4, -⟩ := (har (show (10 : Nat) ≤ 20 by decide) (show (20 : Nat) ≤ 20 by decide)).rd
      obtain ⟨q5, q6⟩ := q4 _ _ hv
      exact W.iald hx hb q1 (B.arr q2) q3 (fun z => z.elim hi q6) q5 rfl rfl hd (K H locs ls cells slots w1 w2 w3 w4 w5)
  case laload =>
    obtain ⟨x, a, r, t, vs, v, e1, hh, hok, hi, hv, e0⟩ := px_ald_inv h
    subst e1
    cases e0
    obtain ⟨-, har, -⟩ := w1.2.2.2 a _ hh
    have ht : t = 11 := by simpa using hok
    subst ht
    obtain ⟨cell, q1, q2, q3, q4, -⟩ := (har (show (10 : Nat) ≤ 11 by decide) (show (11 : Nat) ≤ 20 by decide)).rd
    obtain ⟨q5, q6⟩ := q4 _ _ hv
    exact W.lald hx hb q1 (B.arr q2) q3 (fun z => z.elim hi q6) q5 rfl rfl hd (K H locs ls cells slots w1 w2 w3 w4 w5)
  case baload =>
    obtain ⟨x, a, r, t, vs, v, e1, hh, hok, hi, hv, e0⟩ := px_ald_inv h
    subst e1
    cases e0
    obtain ⟨-, har, -⟩ := w1.2.2.2 a _ hh
    have ht : t = 12 := by simpa using hok
    subst ht
    obtain ⟨cell, q1, q2, q3, q4, -⟩ := (har (show (10 : Nat) ≤ 12 by decide) (show (12 : Nat) ≤ 20 by decide)).rd
    obtain ⟨q5, q6⟩ := q4 _ _ hv
    exact W.zald hx hb q1 (B.arr q2) q3 (fun z => z.elim hi q6) q5 rfl rfl hd (K H locs ls cells slots w1 w2 w3 w4 w5)
  case aaload =>
    obtain ⟨x, a, r, t, vs, v, e1, hh, hok, hi, hv, e0⟩ := px_ald_inv h
    subst e1
    cases e0
    obtain ⟨-, har, -⟩ := w1.2.2.2 a _ hh
    have ht : t = 13 ∨ t = 14 := by simpa using hok
    rcases ht with rfl | rfl
    · obtain ⟨cell, q1, q2, q3, q4, -⟩ := (har (show (10 : Nat) ≤ 13 by decide) (show (13 : Nat) ≤ 20 by decide)).rd
      obtain ⟨q5, q6⟩ := q4 _ _ hv
      exact W.aald hx hb q1 (B.arr q2) rfl q3 (fun z => z.elim hi q6) q5 rfl rfl hd (K H locs ls cells slots w1 w2 w3 w4 w5)
    · obtain ⟨cell, q1, q2, q3, q4, -⟩ := (har (show (10 : Nat) ≤ 14 by decide) (show (14 : Nat) ≤ 20 by decide)).rd
      obtain ⟨q5, q6⟩ := q4 _ _ hv
      exact W.aald hx hb q1 (B.arr q2) rfl q3 (fun z => z.elim hi q6) q5 rfl rfl hd (K H locs ls cells slots w1 w2 w3 w4 w5)
  case iastore =>
    obtain ⟨x, i, a, r, vs, e1, hh, ha, hi, hl, e0⟩ := px_iast_inv h
    subst e1
    cases e0
    obtain ⟨-, har, -⟩ := w1.2.2.2 a _ hh
    obtain ⟨cell, q1, q2, q3, q40, q5, -⟩ := har (show (10 : Nat) ≤ 10 by decide) (show (10 : Nat) ≤ 20 by decide)
    have q4 := q40 (show (10 : Nat) ≠ 20 by decide)
    have q6 : ¬ cell.slots.size ≤ i.toNatClampNeg := by rw [q4]; simp; omega
    refine W.iast hx hb q1 (B.arr q2) q3 (fun z => z.elim hi q6) rfl rfl hd (fun H1 e1 e2 e3 => ?_)
    exact K H1 _ ls cells slots (px_put_ar C w1 ha (by decide) (by decide) hh q2 q3 q4 q5 (v := .int x) e1 e2 e3) (px_new_base ha w2) w3 (by rw [w4]; simp [px_set]) (by rw [w5]; exact (px_sz_set hh).symm)
  case lastore =>
    obtain ⟨x, i, a, r, vs, e1, hh, ha, hi, hl, e0⟩ := px_last_inv h
    subst e1
    cases e0
    obtain ⟨-, har, -⟩ := w1.2.2.2 a _ hh
    obtain ⟨cell, q1, q2, q3, q40, q5, -⟩ := har (show (10 : Nat) ≤ 11 by decide) (show (11 : Nat) ≤ 20 by decide)
    have q4 := q40 (show (11 : Nat) ≠ 20 by decide)
    have q6 : ¬ cell.slots.size ≤ i.toNatClampNeg := by rw [q4]; simp; omega
    refine W.last hx hb q1 (B.arr q2) q3 (fun z => z.elim hi q6) rfl rfl hd (fun H1 e1 e2 e3 => ?_)
    exact K H1 _ ls cells slots (px_put_ar C w1 ha (by decide) (by decide) hh q2 q3 q4 q5 (v := .long x) e1 e2 e3) (px_new_base ha w2) w3 (by rw [w4]; simp [px_set]) (by rw [w5]; exact (px_sz_set hh).symm)
  case bastore =>
    obtain ⟨x, i, a, r, vs, e1, hh, ha, hi, hl, hnw, e0⟩ := px_zast_inv h
    subst e1
    cases e0
    obtain ⟨-, har, -⟩ := w1.2.2.2 a _ hh
    obtain ⟨cell, q1, q2, q3, q40, q5, -⟩ := har (show (10 : Nat) ≤ 12 by decide) (show (12 : Nat) ≤ 20 by decide)
    have q4 := q40 (show (12 : Nat) ≠ 20 by decide)
    have q6 : ¬ cell.slots.size ≤ i.toNatClampNeg := by rw [q4]; simp; omega
    refine W.zast hx hb q1 (B.arr q2) q3 (fun z => z.elim hi q6) rfl rfl hd (fun H1 e1 e2 e3 => ?_)
    rw [hnw] at e1
    exact K H1 _ ls cells slots (px_put_ar C w1 ha (by decide) (by decide) hh q2 q3 q4 q5 (v := .int x) e1 e2 e3) (px_new_base ha w2) w3 (by rw [w4]; simp [px_set]) (by rw [w5]; exact (px_sz_set hh).symm)
  case aastore =>
    obtain ⟨b, i, a, r, vs, us, e1, hh, hu, ha, hi, hl, e0⟩ := px_aast_inv h
    subst e1
    cases e0
    obtain ⟨-, har, -⟩ := w1.2.2.2 a _ hh
    obtain ⟨cell, q1, q2, q3, q40, q5, -⟩ := har (show (10 : Nat) ≤ 13 by decide) (show (13 : Nat) ≤ 20 by decide)
    have q4 := q40 (show (13 : Nat) ≠ 20 by decide)
    obtain ⟨cb, o1, o2, o3, -⟩ := (w1.2.2.2 b _ hu).1 (show (1 : Nat) < 5 by decide)
    obtain ⟨kA, comp, f1, f2, f3, -⟩ := C.2.2.1
    obtain ⟨kA1, f1s, fe⟩ := hW0.alike.2.2 _ _ f1
    obtain ⟨-, hfc, kC, hkC, hkind⟩ := C.kn B (t := 1) (by decide)
    have hcp : D.1 1 = comp := Option.some.inj (hfc.symm.trans (by rw [hW0.alike.findClass]; exact f3))
    have q6 : i.toNatClampNeg < cell.slots.size := by rw [q4]; simp; exact hl
    refine W.aast (t := .object "ColourSums$Form") (k := kA1) (comp := comp) (kv := kC) (kcomp := kC) (cv := cb) hx hb q1 (fun q => q2.1 q) q3 (by rw [q5 rfl]; exact f1s) (by rw [fe]; exact f2) rfl (by rw [← hcp]; exact hkC) ⟨hi, q6⟩ o1 (fun q => by rw [o3]; exact fun z => by cases z) (by rw [o2]; exact hkC) (by rw [o2, hcp]; exact px_asg _ _) rfl rfl hd (fun H1 e1 e2 e3 => ?_)
    exact K H1 _ ls cells slots (px_put_ar C w1 ha (by decide) (by decide) hh q2 q3 q4 q5 (v := .ref b) e1 e2 e3) (px_new_base ha w2) w3 (by rw [w4]; simp [px_set]) (by rw [w5]; exact (px_sz_set hh).symm)
  case arraylength =>
    obtain ⟨a, r, t, vs, e1, hh, h1, h2, e0⟩ := px_alen_inv h
    subst e1
    cases e0
    obtain ⟨-, har, -⟩ := w1.2.2.2 a _ hh
    obtain ⟨cell, q1, q2, q3, -, q5⟩ := (har h1 h2).rd
    exact W.alen hx hb q1 (B.arr q2) q5 rfl rfl hd (K H locs ls cells slots w1 w2 w3 w4 w5)
  case getfield idx =>
    obtain ⟨a, r, ci, k, ps, ne, vs, v, e1, hq, hh, hv, e0⟩ := px_getf_inv h
    subst e1
    cases e0
    obtain ⟨h5, hk, hps⟩ := px_fl_ok _ hq
    obtain ⟨cell, q1, q2, q3, -, q4⟩ := (w1.2.2.2 a _ hh).1 h5
    obtain ⟨hS, hfc, kC, hkC, hkind⟩ := C.kn B h5
    obtain ⟨cf, kf, fi, fd, hfi, hsl⟩ := hS k hk
    rw [px_dcl_ok ci h5 k hk] at hfi
    have hst := (u_facts hfc hkC (by have := u_lays (args := args) (C.hts B) (px_lay_ok ci h5) hk; rw [px_dcl_ok ci h5 k hk] at this; exact this) hfi).1
    by_cases hne : ne = 0
    · subst hne
      refine W.getf hx hb hown (C.w B (px_in hps rfl)) hfi hst q1 (by rw [q3]; exact fun z => by cases z) (by rw [hsl]; exact q4 k v hv) rfl rfl hd (K H locs ls cells slots w1 w2 w3 w4 w5)
    · simp only [hne, if_false] at hps
      refine va_Wgetf hx hb hown (va_any rfl (va_Nw.warmF hW0 (va_any rfl (C.1 _ (List.mem_of_getElem? hps))))) hfi hst q1 (by rw [q3]; exact fun z => by cases z) (by rw [hsl]; exact q4 k v hv) rfl rfl hd (K H locs ls cells slots w1 w2 w3 w4 w5)
  case putfield idx =>
    obtain ⟨v, a, r, ci, k, ps, vs, e1, hq, hh, ha, hkl, hnar, hfit, hfin, e0⟩ := px_putf_inv h
    subst e1
    cases e0
    obtain ⟨h5, hk, hps⟩ := px_fl_ok _ hq
    obtain ⟨cell, q1, q2, q3, qn, q4⟩ := (w1.2.2.2 a _ hh).1 h5
    obtain ⟨hS, hfc, kC, hkC, hkind⟩ := C.kn B h5
    obtain ⟨cf, kf, fi, fd, hfi, hsl⟩ := hS k hk
    have hdc := px_dcl_ok ci h5 k hk
    have hlay := C.hts B (args := args) _ (px_lay_ok ci h5 _ (u_in_lay hk))
    have hst := (u_facts hfc hkC (u_lays (args := args) (C.hts B) (px_lay_ok ci h5) hk) hfi).1
    obtain ⟨v0, hv0⟩ : ∃ v0, vs[k]? = some v0 := ⟨_, List.getElem?_eq_getElem hkl⟩
    have hlt : fd.slot < cell.slots.size := by rw [hsl]; exact k2_hasslot (q4 k v0 hv0)
    have key : ∀ H1 : Heap, H1[px_ad od S0.heap.size a]? = some (cell.setSlot fd.slot (px_ren (px_ad od S0.heap.size) v)) → H1.size = H.size → (∀ q, q ≠ px_ad od S0.heap.size a → H1[q]? = H[q]?) →
        W p l e R s m args below meth c H1 (locs ++ [⟨px_ad od S0.heap.size a, fd.slot⟩]) cells slots Q (F0 m (pc + 3) ls (r.map (px_ren (px_ad od S0.heap.size)))) := by
      intro H1 e1 e2 e3
      refine K H1 _ ls cells slots (w1.set C.odl ha (c' := (ci, vs.set k v)) ⟨fun _ => ?_, fun z => absurd h5 (by show ¬ ci < 5; have : 10 ≤ ci := z; omega), Or.inl h5⟩ e2 e3) (px_new_base ha w2) w3 (by rw [w4]; simp [px_set]) (by rw [w5]; exact (px_sz_set hh).symm)
      refine ⟨_, e1, q2, q3, by simpa using qn, fun x w hw => ?_⟩
      have hxl : x < vs.length := by
        have := (List.getElem?_eq_some_iff.mp hw).1
        simpa using this
      by_cases hxk : x = k
      · subst hxk
        have hw' : (vs.set x v)[x]? = some w := hw
        rw [List.getElem?_set_self hkl] at hw'
        cases hw'
        rw [← hsl]
        exact Cell.slots_setSlot_self _ hlt
      · have hw' : (vs.set k v)[x]? = some w := hw
        rw [List.getElem?_set_ne (Ne.symm hxk)] at hw'
        rw [slot_ne _ _ (by rw [hsl]; exact C.apart B h5 k x hk (by rw [← qn]; exact hxl) (Ne.symm hxk))]
        exact q4 x w hw'
    have hlink : (Cond.fieldLink (px_R (px_cn j)) idx (px_R ci) (px_T ci k).2.1 (px_T ci k).2.2.1).before args s = true := C.w B (px_in hps rfl)
    by_cases hf : (px_T ci k).2.2.2 = true
    · have hfin' := hfin ((px_fin_eq ci k).trans hf)
      unfold u_lay at hlay
      rw [if_pos hf] at hlay
      have h6 := u_fits hfc hkC hkind (Or.inr hlay) hfi (px_ty_ok ci h5 k hk) (px_nar (ad := px_ad od S0.heap.size) hnar) (px_fit (ad := px_ad od S0.heap.size) hfit)
      have hcf : m.cls = cf := by
        obtain ⟨_, _, c', _, _, _, -, -, hf', -, -, -, hown2, -⟩ := Cond.laysFinal_spec hlay
        have e1 : c' = cf := by have := hfi.symm.trans hf'; simp at this; exact this.1.symm
        rw [hdc, ← hfin'.2] at hown2
        rw [← e1]; exact Option.some.inj (hown.symm.trans hown2)
      rw [hdc] at hfi
      exact W.putFinK hx hb hown hlink hfi hst hcf (hnm hfin'.1) (by rw [q2]; exact h6) q1 q3 hlt rfl rfl hd key
    · unfold u_lay at hlay
      rw [if_neg hf] at hlay
      have h6 := u_store hfc hkC hkind hlay hfi (px_ty_ok ci h5 k hk) (px_nar (ad := px_ad od S0.heap.size) hnar) (px_fit (ad := px_ad od S0.heap.size) hfit)
      rw [hdc] at hfi
      exact W.putK hx hb (f := fd) ⟨hown, hlink, ⟨_, _, _, hfi⟩, hst⟩ (by rw [q2]; exact h6) q1 q3 hlt rfl rfl hd key
  case getstatic idx =>
    simp only [px_step, px_gets] at h
    split at h
    · rename_i n ps hq
      cases h
      obtain ⟨n1, n2, hps⟩ := px_sl_ok _ (px_lk_mem hq)
      obtain ⟨cf, kf, fi, fd, a, cell, z1, z2, z3, z4, z5, z6, z7, z8⟩ := va_Z.moved hW0.alike (C.2.2.2.2.1 n n1 n2)
      have hn : px_ad od S0.heap.size n = od n := px_ad_old (Nat.lt_of_le_of_lt (show n ≤ 6 from n2) (by decide))
      refine W.gets hx hb hown (C.w B (px_in hps rfl)) z1 z2 z3 z4 (by rw [w1.2.2.1 a (Nat.not_le.mp z8)]; exact z5) (fun z => by rw [z] at z6; cases z6) z7 rfl hd ?_
      rw [← hn]
      exact K H locs ls cells slots w1 w2 w3 w4 w5
    · cases h
  case newarray at_ =>
    simp only [px_step, px_newa] at h
    split at h
    · rename_i n r
      split at h
      · rename_i t z hz
        split at h
        · rename_i hn
          cases h
          have hty : px_ty t = newarray.typeOf at_ ∧ 10 ≤ t ∧ t ≤ 12 ∧ z = defaultValue (newarray.typeOf at_) ∧ Cond.arrayClass (newarray.typeOf at_) ∈ px_PT ∧ (∀ ad, px_ren ad z = z) ∧ componentBytes (newarray.typeOf at_) ≤ 8 := by
            cases at_ <;> simp only [px_at_] at hz <;> cases hz
            · exact ⟨rfl, by decide, by decide, rfl, px_in (i := 128) rfl rfl, fun _ => rfl, by decide⟩
            · exact ⟨rfl, by decide, by decide, rfl, px_in (i := 102) rfl rfl, fun _ => rfl, by decide⟩
            · exact ⟨rfl, by decide, by decide, rfl, px_in (i := 103) rfl rfl, fun _ => rfl, by decide⟩
          obtain ⟨t1, t2, t3, t4, t5, t6, t7⟩ := hty
          have hl1 : (hp ++ [(t, List.replicate n.toNatClampNeg z)]).length ≤ k0 + R.cells := hr1
          have hl2 : px_sz (hp ++ [(t, List.replicate n.toNatClampNeg z)]) ≤ z0 + R.slots := hr2
          rw [px_sz_app] at hl2
          simp [px_sz] at hl1 hl2
          refine W.newa hx hb (C.w B t5) rfl hd rfl hn.1 (Nat.le_trans (Nat.mul_le_mul hn.2 t7) (by decide)) (by omega) (by simp only [px_sz] at w5; omega) (fun cA kA comp h1 h2 h3 => ?_)
          have hw := w1.app (H1 := H.push { cls := cA, slots := Array.replicate n.toNatClampNeg (defaultValue (newarray.typeOf at_)), vm := .none }) C.odl [(t, List.replicate n.toNatClampNeg z)] (fun i c hc => by
            have hi : i = 0 := by
              have := (List.getElem?_eq_some_iff.mp hc).1
              simp at this; exact this
            subst hi
            cases hc
            refine ⟨fun h => absurd h (by show ¬ t < 5; omega), fun _ _ => ⟨{ cls := cA, slots := Array.replicate n.toNatClampNeg (defaultValue (newarray.typeOf at_)), vm := .none }, by simp, B.arr' ⟨fun k z => (by cases z), kA, h2, comp, by rw [t1]; exact h3⟩, fun z => (by cases z), fun _ => ?_, fun z => absurd z (by show ¬ t = 13; omega), fun z => absurd z (by show ¬ t = 20; omega)⟩, Or.inr t2⟩
            rw [← t4]
            simp [t6]) (by simp) (fun q hq => by rw [Array.getElem?_push, if_neg (Nat.ne_of_lt hq)])
          have hK := K _ locs ls (cells + 1) (slots + n.toNatClampNeg) hw w2 w3 (by simp; omega) (by rw [px_sz_app]; simp [px_sz] at w5 ⊢; omega)
          rw [List.map_cons] at hK
          simp only [px_ren, w1.hpl] at hK
          exact hK
        · cases h
      · cases h
    · cases h
  case anewarray idx =>
    simp only [px_step, px_anew] at h
    split at h
    · rename_i n r
      split at h
      · rename_i hn
        cases h
        obtain ⟨n1, rfl, n3, n4⟩ := hn
        have hl1 : (hp ++ [(13, List.replicate n.toNatClampNeg Value.null)]).length ≤ k0 + R.cells := hr1
        have hl2 : px_sz (hp ++ [(13, List.replicate n.toNatClampNeg Value.null)]) ≤ z0 + R.slots := hr2
        rw [px_sz_app] at hl2
        simp [px_sz] at hl1 hl2
        have hown3 : s.vm.findClass RX3 = some m.cls := by rw [n1] at hown; exact hown
        refine W.anew (C := "ColourSums$Form") hx hb hown3 (C.w B (px_in (i := 68) rfl rfl)) (va_AO.use (va_AO.moved hW0.alike (va_AO.of (C.1 _ (List.mem_of_getElem? (i := 69) rfl))))) rfl hd rfl n3 (by omega) (by omega) (by simp only [px_sz] at w5; omega) (fun cA kA comp h1 h2 h3 h4 => ?_)
        have hw := w1.app (H1 := H.push { cls := cA, slots := Array.replicate n.toNatClampNeg .null, vm := .none }) C.odl [(13, List.replicate n.toNatClampNeg Value.null)] (fun i c hc => by
          have hi : i = 0 := by
            have := (List.getElem?_eq_some_iff.mp hc).1
            simp at this; exact this
          subst hi
          cases hc
          refine ⟨fun h => absurd h (by show ¬ (13 : Nat) < 5; decide), fun _ _ => ⟨{ cls := cA, slots := Array.replicate n.toNatClampNeg .null, vm := .none }, by simp, B.arr' ⟨fun k z => (by cases z), kA, h2, comp, h3⟩, fun z => (by cases z), fun _ => ?_, fun _ => ?_, fun z => absurd z (by show ¬ (13 : Nat) = 20; decide)⟩, Or.inr (by show (10 : Nat) ≤ 13; decide)⟩
          · simp [px_ren]
          · obtain ⟨_, _, _, _, _, f4⟩ := C.2.2.1
            exact Option.some.inj ((h1.symm.trans (by rw [hW0.alike.findClass]; exact f4)))) (by simp) (fun q hq => by rw [Array.getElem?_push, if_neg (Nat.ne_of_lt hq)])
        have hK := K _ locs ls (cells + 1) (slots + n.toNatClampNeg) hw w2 w3 (by simp; omega) (by rw [px_sz_app]; simp [px_sz] at w5 ⊢; omega)
        rw [List.map_cons] at hK
        simp only [px_ren, w1.hpl] at hK
        exact hK
      · cases h
    · cases h
  case new idx =>
    simp only [px_step, px_new] at h
    split at h
    · split at h <;> cases h
    · split at h
      · rename_i t ps hq
        cases h
        obtain ⟨h5, hps⟩ := px_cl_ok _ (px_lk_mem hq)
        obtain ⟨i1, i2⟩ := px_inst_ok t h5
        obtain ⟨d1, d2⟩ := px_df_ok t h5
        have hl1 : (hp ++ [(t, px_df t)]).length ≤ k0 + R.cells := hr1
        have hl2 : px_sz (hp ++ [(t, px_df t)]) ≤ z0 + R.slots := hr2
        rw [px_sz_app] at hl2
        simp [px_sz, d1] at hl1 hl2
        have hkn := C.kn B h5
        refine W.newcK hx hb hown (C.w B (px_in hps rfl)) (C.w B i1) (C.w B i2) rfl hd (by omega) (by simp only [px_sz] at w5; omega) hkn.2.1 rfl (fun H1 kC h1 h2 h3 h4 => ?_)
        obtain ⟨cell, b1, b2, b3, b4⟩ := u_born (px_ft t) (args := args) (C.hts B) (px_lay_ok t h5) hkn h1 h2 (px_ty_ok t h5)
        have hw := w1.app (H1 := H1) C.odl [(t, px_df t)] (fun i c hc => by
          have hi : i = 0 := by
            have := (List.getElem?_eq_some_iff.mp hc).1
            simp at this; exact this
          subst hi
          cases hc
          refine ⟨fun _ => ⟨cell, b1, b2, b3, d1, fun x v hv => ?_⟩, fun z => absurd h5 (by show ¬ t < 5; have : 10 ≤ t := z; omega), Or.inl h5⟩
          have hx9 : x < px_nf t := by rw [← d1]; exact (List.getElem?_eq_some_iff.mp hv).1
          have hv' : (px_df t)[x]? = some v := hv
          rw [d2 x hx9] at hv'
          cases hv'
          rw [b4 x hx9]
          rw [px_ren_dv]) (by rw [h3]; rfl) (fun q hq => h4 q hq)
        have hK := K _ locs ls (cells + 1) (slots + px_nf t) hw w2 w3 (by simp; omega) (by rw [px_sz_app]; simp [px_sz, d1] at w5 ⊢; omega)
        rw [List.map_cons] at hK
        simp only [px_ren, w1.hpl] at hK
        exact hK
      · cases h
  case invokestatic idx =>
    simp only [px_step, px_invs] at h
    split at h
    · rename_i j' ps hq
      have hlk2 := px_ml_ok _ (px_lk_mem hq)
      split at h
      · rename_i hj
        simp only [px_math] at h
        split at h
        · rename_i y x r
          split at h
          · rename_i h8
            cases h
            have h8' : (r.map fun v => v.category).sum ≤ 8 := of_decide_eq_true h8
            rw [← px_cats (px_ad od S0.heap.size)] at h8'
            rcases hj with rfl | rfl
            · exact va_mmax hx hb (hml.trans w3.1.symm) hown (C.w B (px_in hlk2 rfl)) (C.w B (px_in (px_k0_ok 2 (by decide) (by decide) rfl) rfl)) (C.w B (px_in (px_in_ok 2 (by decide)).1 rfl)) (C.w B (px_in (px_pc_ok 2 (by decide) (by decide)) rfl)) (by omega) (by omega) (by have : hp.length ≤ k0 + R.cells := hr1; omega) (by have : px_sz hp ≤ z0 + R.slots := hr2; omega) hd (K H locs ls cells slots w1 w2 w3 w4 w5)
            · exact va_mmin hx hb (hml.trans w3.1.symm) hown (C.w B (px_in hlk2 rfl)) (C.w B (px_in (px_k0_ok 3 (by decide) (by decide) rfl) rfl)) (C.w B (px_in (px_in_ok 3 (by decide)).1 rfl)) (C.w B (px_in (px_pc_ok 3 (by decide) (by decide)) rfl)) (by omega) (by omega) (by have : hp.length ≤ k0 + R.cells := hr1; omega) (by have : px_sz hp ≤ z0 + R.slots := hr2; omega) hd (K H locs ls cells slots w1 w2 w3 w4 w5)
          · cases h
        · cases h
      · split at h
        · simp only [px_call] at h
          split at h <;> cases h
        · cases h
    · cases h
  case invokespecial idx =>
    simp only [px_step, px_invi] at h
    split at h
    · rename_i ps hq
      split at h
      · rename_i a r
        split at h
        · rename_i h8
          cases h
          have h8' : (r.map fun v => v.category).sum ≤ 8 := of_decide_eq_true h8
          rw [← px_cats (px_ad od S0.heap.size)] at h8'
          exact W.objInit hx hb hown (C.w B (px_in (px_oi_ok _ (px_lk_mem hq)) rfl)) (C.w B (px_in (i := 60) rfl rfl)) (C.w B (px_in (i := 61) rfl rfl)) rfl (w3.1.trans hml.symm) rfl hd (by omega) (by show 2 * 0 + _ + 12 ≤ _; omega) (K H locs ls cells slots w1 w2 w3 w4 w5)
        · cases h
      · cases h
    · split at h
      · split at h
        · split at h
          · simp only [px_call] at h
            split at h <;> cases h
          · cases h
        · cases h
      · cases h
  case multianewarray idx dims =>
    exact px_mna_sound C B hd h hr1 hr2 K H locs ls cells slots w1 w2 w3 w4 w5
  case invokevirtual idx =>
    simp only [px_step, px_invv] at h
    split at h
    · split at h
      · split at h
        · split at h
          · simp only [px_call] at h
            split at h <;> cases h
          · cases h
        · cases h
      · cases h
    · cases h
  case ireturn =>
    simp only [px_step, px_end] at h
    split at h
    · split at h
      · split at h <;> cases h
      · cases h
    · cases h
  case lreturn =>
    simp only [px_step, px_end] at h
    split at h
    · split at h <;> cases h
    · cases h
  case areturn =>
    simp only [px_step, px_end] at h
    split at h
    · split at h <;> cases h
    · cases h
  case return_ =>
    simp only [px_step, px_end] at h
    split at h
    · split at h <;> cases h
    · cases h
  all_goals (cases h)
end PXS
