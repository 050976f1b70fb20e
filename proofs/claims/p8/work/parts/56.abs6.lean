/-! every step, every run -/
section PF
variable {tb : pa_T} {n a0 : Nat} {env : List (Nat × pa_K)} {K : pa_K} {j pc : Nat} {lv : px_L} {st : List Value} {hp : px_H} {L : List (Nat × pa_S × pa_U)} {s : pa_S}
theorem pa_ll_ok {ins : Instr} {f : Int64 → Int64 → Int64} (hs : pa_ST n a0 s lv st hp) (H : pa_Hi n hp) (hx : px_step j pc lv st hp ins = px_ll pc lv st hp f) (ht : pa_ll pc s = some L) : pa_Ok tb n a0 env K j pc lv st hp ins L := by
  obtain ⟨sl, ss, sf⟩ := s
  obtain ⟨hl, hss, hf, hq⟩ := hs
  unfold pa_ll at ht
  split at ht
  · rename_i u1 u2 r e
    change ss = _ at e
    subst e
    obtain ⟨v, w, vs, rfl, ⟨⟨x, rfl⟩, -⟩, ⟨⟨y, rfl⟩, -⟩, hr⟩ := pa_gs2 hss
    exact pa_ok1 (st' := _ :: vs) H hx ht ⟨hl, ⟨⟨⟨_, rfl⟩, trivial⟩, hr⟩, hf, hq⟩ rfl
  · cases ht
theorem pa_li_ok {ins : Instr} {f : Int64 → Int32 → Int64} (hs : pa_ST n a0 s lv st hp) (H : pa_Hi n hp) (hx : px_step j pc lv st hp ins = px_li pc lv st hp f) (ht : pa_li pc s = some L) : pa_Ok tb n a0 env K j pc lv st hp ins L := by
  obtain ⟨sl, ss, sf⟩ := s
  obtain ⟨hl, hss, hf, hq⟩ := hs
  unfold pa_li at ht
  split at ht
  · rename_i u1 u2 r e
    change ss = _ at e
    subst e
    obtain ⟨v, w, vs, rfl, ⟨⟨x, rfl, -⟩, -⟩, ⟨⟨y, rfl⟩, -⟩, hr⟩ := pa_gs2 hss
    exact pa_ok1 (st' := _ :: vs) H hx ht ⟨hl, ⟨⟨⟨_, rfl⟩, trivial⟩, hr⟩, hf, hq⟩ rfl
  · cases ht
theorem pa_nz_div {X Y : pa_B × pa_B} {A : pa_V} (h : pa_div X Y = some A) : pa_le (1, 0) Y.1 = true := by
  unfold pa_div at h
  split at h
  · assumption
  · cases h
theorem pa_nz_rem {X Y : pa_B × pa_B} {A : pa_V} (h : pa_rem X Y = some A) : pa_le (1, 0) Y.1 = true := by
  unfold pa_rem at h
  split at h
  · assumption
  · cases h
theorem pa_t10 {r : Nat} {e : pa_B × pa_V} (h : pa_rs r = (10, .inr e)) : ∃ q, e.2 = .inl q := by
  unfold pa_rs at h
  split at h <;> cases h <;> exact ⟨_, rfl⟩
theorem pa_t11 {r : Nat} {e : pa_B × pa_V} (h : pa_rs r = (11, .inr e)) : e.2 = pa_lg := by
  unfold pa_rs at h
  split at h <;> cases h <;> rfl
theorem pa_step (hN : pa_N n) (ho : ∃ l, (pa_rs (pa_rg n a0)).2 = .inl l) (i : Instr) (hs : pa_ST n a0 s lv st hp) (H : pa_Hi n hp) (ht : pa_tr tb env K j pc i s = some L) : pa_Ok tb n a0 env K j pc lv st hp i L := by
  cases i
  case iconst c => exact pa_ok1 H rfl ht (pa_push hs hs.2.1 (pa_i_ok _) (Or.inl rfl)) rfl
  case bipush c => exact pa_ok1 H rfl ht (pa_push hs hs.2.1 (pa_i_ok _) (Or.inl rfl)) rfl
  case sipush c => exact pa_ok1 H rfl ht (pa_push hs hs.2.1 (pa_i_ok _) (Or.inl rfl)) rfl
  case lconst c => exact pa_ok1 (st' := .long (Int64.ofNat (c : Nat)) :: st) H rfl ht (pa_push hs hs.2.1 ⟨_, rfl⟩ trivial) rfl
  case ldc_w idx =>
    unfold pa_tr at ht
    simp only at ht
    split at ht
    · rename_i q hq
      refine pa_ok1 (st' := .int q.1 :: st) H ?_ ht (pa_push hs hs.2.1 (pa_top_ok _) (Or.inl rfl)) rfl
      simp only [px_step, hq]
    · cases ht
  case ldc2_w idx =>
    unfold pa_tr at ht
    simp only at ht
    split at ht
    · rename_i q hq
      refine pa_ok1 (st' := .long q.1 :: st) H ?_ ht (pa_push hs hs.2.1 ⟨_, rfl⟩ trivial) rfl
      simp only [px_step, hq]
    · cases ht
  case iload_n k => exact pa_ld_ok hs H rfl ht
  case iload k => exact pa_ld_ok hs H rfl ht
  case lload_n k => exact pa_ld_ok hs H rfl ht
  case lload k => exact pa_ld_ok hs H rfl ht
  case aload_n k => exact pa_ld_ok hs H rfl ht
  case aload k => exact pa_ld_ok hs H rfl ht
  case istore_n k => exact pa_sv_ok hs H rfl ht
  case istore k => exact pa_sv_ok hs H rfl ht
  case lstore_n k => exact pa_sv_ok hs H rfl ht
  case lstore k => exact pa_sv_ok hs H rfl ht
  case astore_n k => exact pa_sv_ok hs H rfl ht
  case astore k => exact pa_sv_ok hs H rfl ht
  case iinc k c => exact pa_inc_ok hN hs H rfl ht
  case iadd => exact pa_bin_ok (g := fun x y => x + y) hs H (pa_add_ok hN) (fun x y r e _ => by rw [e]; rfl) ht
  case isub => exact pa_bin_ok (g := fun x y => x - y) hs H (pa_sub_ok hN) (fun x y r e _ => by rw [e]; rfl) ht
  case imul => exact pa_bin_ok (g := fun x y => x * y) hs H pa_mul_ok (fun x y r e _ => by rw [e]; rfl) ht
  case iand => exact pa_bin_ok (g := fun x y => x &&& y) hs H (pa_and_ok hN) (fun x y r e _ => by rw [e]; rfl) ht
  case ior => exact pa_bin_ok (g := fun x y => x ||| y) hs H (pa_t2_ok _) (fun x y r e _ => by rw [e]; rfl) ht
  case ishl => exact pa_bin_ok (g := fun x y => x <<< (y &&& 31)) hs H (pa_t2_ok _) (fun x y r e _ => by rw [e]; rfl) ht
  case ishr => exact pa_bin_ok (g := fun x y => x >>> (y &&& 31)) hs H (pa_t2_ok _) (fun x y r e _ => by rw [e]; rfl) ht
  case iushr => exact pa_bin_ok (g := fun x y => (x.toUInt32 >>> (y.toUInt32 &&& Int32.toUInt32 31)).toInt32) hs H (pa_t2_ok _) (fun x y r e _ => by rw [e]; rfl) ht
  case idiv => exact pa_bin_ok (g := fun x y => x / y) hs H (pa_div_ok hN) (fun x y r e hz => by
      have h0 := pa_nz hN (f := pa_div) (fun X Y A h => pa_nz_div h) hz
      rw [e]
      simp only [px_step, px_iz, h0, if_false]) ht
  case irem => exact pa_bin_ok (g := fun x y => x - x / y * y) hs H (pa_rem_ok hN) (fun x y r e hz => by
      have h0 := pa_nz hN (f := pa_rem) (fun X Y A h => pa_nz_rem h) hz
      rw [e]
      simp only [px_step, px_iz, h0, if_false]) ht
  case ladd => exact pa_ll_ok hs H rfl ht
  case lsub => exact pa_ll_ok hs H rfl ht
  case land => exact pa_ll_ok hs H rfl ht
  case lor => exact pa_ll_ok hs H rfl ht
  case lxor => exact pa_ll_ok hs H rfl ht
  case lshl => exact pa_li_ok hs H rfl ht
  case lshr => exact pa_li_ok hs H rfl ht
  case lushr => exact pa_li_ok hs H rfl ht
  case ineg =>
    obtain ⟨sl, ss, sf⟩ := s
    obtain ⟨hl, hss, hf, hq⟩ := hs
    unfold pa_tr at ht
    simp only at ht
    split at ht
    · obtain ⟨v, vs, rfl, ⟨⟨x, rfl, -⟩, -⟩, hr⟩ := pa_gs1 hss
      exact pa_ok1 (st' := .int (-x) :: vs) H rfl ht ⟨hl, ⟨⟨pa_top_ok _, Or.inl rfl⟩, hr⟩, hf, hq⟩ rfl
    · cases ht
  case lneg =>
    obtain ⟨sl, ss, sf⟩ := s
    obtain ⟨hl, hss, hf, hq⟩ := hs
    unfold pa_tr at ht
    simp only at ht
    split at ht
    · obtain ⟨v, vs, rfl, ⟨⟨x, rfl⟩, -⟩, hr⟩ := pa_gs1 hss
      exact pa_ok1 (st' := .long (-x) :: vs) H rfl ht ⟨hl, ⟨⟨⟨_, rfl⟩, trivial⟩, hr⟩, hf, hq⟩ rfl
    · cases ht
  case i2l =>
    obtain ⟨sl, ss, sf⟩ := s
    obtain ⟨hl, hss, hf, hq⟩ := hs
    unfold pa_tr at ht
    simp only at ht
    split at ht
    · obtain ⟨v, vs, rfl, ⟨⟨x, rfl, -⟩, -⟩, hr⟩ := pa_gs1 hss
      exact pa_ok1 (st' := .long x.toInt64 :: vs) H rfl ht ⟨hl, ⟨⟨⟨_, rfl⟩, trivial⟩, hr⟩, hf, hq⟩ rfl
    · cases ht
  case l2i =>
    obtain ⟨sl, ss, sf⟩ := s
    obtain ⟨hl, hss, hf, hq⟩ := hs
    unfold pa_tr at ht
    simp only at ht
    split at ht
    · obtain ⟨v, vs, rfl, ⟨⟨x, rfl⟩, -⟩, hr⟩ := pa_gs1 hss
      exact pa_ok1 (st' := .int x.toInt32 :: vs) H rfl ht ⟨hl, ⟨⟨pa_top_ok _, Or.inl rfl⟩, hr⟩, hf, hq⟩ rfl
    · cases ht
  case lcmp =>
    obtain ⟨sl, ss, sf⟩ := s
    obtain ⟨hl, hss, hf, hq⟩ := hs
    unfold pa_tr at ht
    simp only at ht
    split at ht
    · obtain ⟨v, w, vs, rfl, ⟨⟨x, rfl⟩, -⟩, ⟨⟨y, rfl⟩, -⟩, hr⟩ := pa_gs2 hss
      exact pa_ok1 (st' := .int (lg_cmp y x) :: vs) H rfl ht ⟨hl, ⟨⟨pa_top_ok _, Or.inl rfl⟩, hr⟩, hf, hq⟩ rfl
    · cases ht
  case dup =>
    obtain ⟨sl, ss, sf⟩ := s
    obtain ⟨hl, hss, hf, hq⟩ := hs
    unfold pa_tr at ht
    simp only at ht
    split at ht
    · split at ht
      · rename_i hc
        obtain ⟨v, vs, rfl, hv, hr⟩ := pa_gs1 hss
        refine pa_ok1 (st' := v :: v :: vs) H ?_ ht ⟨hl, ⟨hv, hv, hr⟩, hf, hq⟩ rfl
        simp only [px_step, pa_cat1 hv.1 hc, if_true]
      · cases ht
    · cases ht
  case pop =>
    obtain ⟨sl, ss, sf⟩ := s
    obtain ⟨hl, hss, hf, hq⟩ := hs
    unfold pa_tr at ht
    simp only at ht
    split at ht
    · split at ht
      · rename_i hc
        obtain ⟨v, vs, rfl, hv, hr⟩ := pa_gs1 hss
        refine pa_ok1 (st' := vs) H ?_ ht ⟨hl, hr, hf, hq⟩ rfl
        simp only [px_step, pa_cat1 hv.1 hc, if_true]
      · cases ht
    · cases ht
  case dup2 =>
    obtain ⟨sl, ss, sf⟩ := s
    obtain ⟨hl, hss, hf, hq⟩ := hs
    unfold pa_tr at ht
    simp only at ht
    split at ht
    · split at ht
      · rename_i hc
        obtain ⟨v, w, vs, rfl, hv, hw, hr⟩ := pa_gs2 hss
        refine pa_ok1 (st' := v :: w :: v :: w :: vs) H ?_ ht ⟨hl, ⟨hv, hw, hv, hw, hr⟩, hf, hq⟩ rfl
        simp only [px_step, pa_cat1 hv.1 hc.1, pa_cat1 hw.1 hc.2, and_self, if_true]
      · cases ht
    · cases ht
  case ifCond c off =>
    obtain ⟨sl, ss, sf⟩ := s
    obtain ⟨hl, hss, hf, hq⟩ := hs
    unfold pa_tr at ht
    simp only at ht
    split at ht
    · rename_i x r
      obtain ⟨v, vs, rfl, ⟨⟨y, rfl, y1, y2⟩, yo⟩, hr⟩ := pa_gs1 hss
      exact pa_if_ok (s := (sl, r, sf)) hN (c := c) (X := (x.1, x.2.1)) (Y := ((0, 0), (0, 0))) (x := y) (y := 0) (ox := x.2.2) (oy := 0) (vs := vs) H ⟨hl, hr, hf, hq⟩ y1 y2 (by show pa_ev n (0, 0) ≤ _; rw [pa_ev_0]; decide) (by show _ ≤ pa_ev n (0, 0); rw [pa_ev_0]; decide) yo (Or.inl rfl) (by rw [← px_c12]; rfl) ht
    · cases ht
  case if_icmp c off =>
    obtain ⟨sl, ss, sf⟩ := s
    obtain ⟨hl, hss, hf, hq⟩ := hs
    unfold pa_tr at ht
    simp only at ht
    split at ht
    · rename_i y x r
      obtain ⟨v, w, vs, rfl, ⟨⟨y', rfl, y1, y2⟩, yo⟩, ⟨⟨x', rfl, x1, x2⟩, xo⟩, hr⟩ := pa_gs2 hss
      refine pa_if_ok (s := (sl, r, sf)) hN (c := c) (X := (x.1, x.2.1)) (Y := (y.1, y.2.1)) (x := x') (y := y') (ox := x.2.2) (vs := vs) H ⟨hl, hr, hf, hq⟩ x1 x2 y1 y2 xo ?_ rfl ht
      split
      · exact Or.inl rfl
      · exact yo
    · cases ht
  case goto off =>
    unfold pa_tr at ht
    simp only at ht
    split at ht
    · rename_i h0
      refine pa_ok1 (lv' := lv) (st' := st) H ?_ ht hs rfl
      simp only [px_step, px_jmp, h0, if_true]
    · cases ht
  case tableswitch dflt lo hi offs =>
    obtain ⟨sl, ss, sf⟩ := s
    obtain ⟨hl, hss, hf, hq⟩ := hs
    unfold pa_tr at ht
    simp only at ht
    split at ht
    · rename_i x r
      split at ht
      · rename_i hc
        obtain ⟨c1, c2, c3⟩ := hc
        obtain ⟨v, vs, rfl, ⟨⟨y, rfl, y1, y2⟩, -⟩, hr⟩ := pa_gs1 hss
        cases ht
        have hst : ∃ z, z ∈ dflt :: offs.toList ∧ 0 ≤ (pc : Int) + z ∧ px_step j pc lv (.int y :: vs) hp (.tableswitch dflt lo hi offs) = px_go ((pc : Int) + z).toNat lv vs hp := by
          simp only [px_step, px_sw]
          by_cases hy : y.toInt < lo ∨ hi < y.toInt
          · rw [if_pos hy]
            exact ⟨dflt, List.mem_cons_self, c1, by unfold px_jmp; rw [if_pos c1]⟩
          · rw [if_neg hy]
            have hlt : (y.toInt - lo).toNat < offs.size := by omega
            rw [Array.getElem?_eq_getElem hlt]
            have hmem : offs[(y.toInt - lo).toNat] ∈ offs.toList := Array.getElem_mem_toList hlt
            have h0 : 0 ≤ (pc : Int) + offs[(y.toInt - lo).toNat] := by
              have := List.all_eq_true.mp c2 _ hmem
              simpa using this
            exact ⟨_, List.mem_cons_of_mem _ hmem, h0, by simp only; unfold px_jmp; rw [if_pos h0]⟩
        obtain ⟨z, hz, h0, hst⟩ := hst
        exact Or.inl ⟨(((pc : Int) + z).toNat, lv, vs, hp), hst, _, List.mem_map.mpr ⟨z, hz, rfl⟩, rfl, ⟨hl, hr, hf, hq⟩, H, pa_Fr.refl _, rfl, rfl⟩
      · cases ht
    · cases ht
  case iaload => exact pa_ald_ok hN hs H rfl ht
  case laload => exact pa_ald_ok hN hs H rfl ht
  case baload => exact pa_ald_ok hN hs H rfl ht
  case aaload => exact pa_ald_ok hN hs H rfl ht
  case iastore =>
    refine pa_ast_ok hN ho hs H ?_ (by decide) ht
    intro v x a r t ws e hh t1 h8 h0 hl hA
    obtain ⟨A, hA, ⟨r9, e9, hr9, hs9⟩, -⟩ := hA
    have hint : ∃ y, v = .int y := by
      have hz := pa_sub1_ok hN hs9 hA
      have : ∃ q, e9.2 = .inl q := pa_t10 hr9
      obtain ⟨q, hq⟩ := this
      rw [hq] at hz
      obtain ⟨y, hy, -⟩ := hz
      exact ⟨y, hy⟩
    obtain ⟨y, rfl⟩ := hint
    rw [e]
    simp only [px_step, px_iast, hh, t1, h8, h0, hl, not_false_eq_true, and_self, if_true]
  case lastore =>
    refine pa_ast_ok hN ho hs H ?_ (by decide) ht
    intro v x a r t ws e hh t1 h8 h0 hl hA
    obtain ⟨A, hA, ⟨r9, e9, hr9, hs9⟩, -⟩ := hA
    have hint : ∃ y, v = .long y := by
      have hz := pa_sub1_ok hN hs9 hA
      have : e9.2 = pa_lg := pa_t11 hr9
      rw [this] at hz
      exact hz
    obtain ⟨y, rfl⟩ := hint
    rw [e]
    simp only [px_step, px_last, hh, t1, h8, h0, hl, not_false_eq_true, and_self, if_true]
  case bastore =>
    refine pa_ast_ok hN ho hs H ?_ (by decide) ht
    intro v x a r t ws e hh t1 h8 h0 hl hA
    obtain ⟨A, hA, -, hb⟩ := hA
    have hf := pa_ftok_ok (n := n) hN (ty := .boolean) (A := A) (hb rfl) hA
    obtain ⟨y, rfl, -⟩ := pa_sub1_ok hN (hb rfl) hA
    rw [e]
    simp only [px_step, px_zast, hh, t1, h8, h0, hl, hf.1, not_false_eq_true, and_self, if_true]
  case arraylength =>
    obtain ⟨sl, ss, sf⟩ := s
    obtain ⟨hl, hss, hf, hq⟩ := hs
    unfold pa_tr at ht
    simp only at ht
    split at ht
    · rename_i q r
      split at ht
      · rename_i t len e0 hrs
        split at ht
        · rename_i hc
          obtain ⟨v, vs, rfl, ⟨⟨a, rfl, a1, a2⟩, -⟩, hr⟩ := pa_gs1 hss
          obtain ⟨ws, hh, hw⟩ := pa_Hi_get H a1 a2
          rw [hrs] at hh hw
          have b := pa_le_ok hN hc.2.2
          rw [pa_ev_0] at b
          have e1 : (ws.length.toInt32).toInt = (ws.length : Int) := nI_toInt (by have hw1 : (ws.length : Int) = pa_ev n len := hw.1; omega)
          refine pa_ok1 (st' := .int ws.length.toInt32 :: vs) H ?_ ht ⟨hl, ⟨⟨⟨_, rfl, ?_, ?_⟩, Or.inl rfl⟩, hr⟩, hf, hq⟩ rfl
          · simp only [px_step, px_alen, hh, hc.1, hc.2.1, and_self, if_true]
          · rw [e1, hw.1]; exact Int.le_refl _
          · rw [e1, hw.1]; exact Int.le_refl _
        · cases ht
      · cases ht
    · cases ht
  case new idx =>
    unfold pa_tr at ht
    simp only at ht
    split at ht
    · rename_i E hE
      split at ht
      · rename_i hc
        refine pa_thr_ok (E := E) H ?_ hc.2
        simp only [px_step, px_new, hE, pa_ok8 hs.2.1 hc.1, if_true]
      · cases ht
    · cases ht
  case getfield idx => exact pa_gtf_ok hs H rfl ht
  case putfield idx => exact pa_ptf_ok hN hs H rfl ht
  case getstatic idx =>
    unfold pa_tr at ht
    simp only at ht
    split at ht
    · rename_i r x hlk
      split at ht
      · rename_i hc
        refine pa_ok1 (st' := .ref r :: st) H ?_ ht (pa_push hs hs.2.1 ⟨r, rfl, ?_, ?_⟩ (Or.inl rfl)) rfl
        · simp only [px_step, px_gets, hlk]
        · show pa_rg n r = r
          unfold pa_rg
          rw [if_neg (by omega), if_neg (by omega), if_pos hc]
        · show r ≠ 99
          omega
      · cases ht
    · cases ht
  case invokestatic idx => exact pa_invs_ok hN hs H rfl ht
  case invokevirtual idx => exact pa_invv_ok hN hs H rfl ht
  case ireturn =>
    obtain ⟨sl, ss, sf⟩ := s
    obtain ⟨hl, hss, hf, hq⟩ := hs
    unfold pa_tr at ht
    simp only at ht
    split at ht
    · rename_i x B hB
      split at ht
      · rename_i hc
        obtain ⟨v, vs, rfl, ⟨hv, -⟩, hr⟩ := pa_gs1 hss
        cases vs with
        | cons => exact nomatch hr
        | nil =>
          have hv' := hv
          obtain ⟨y, rfl, y1, y2⟩ := hv'
          refine pa_end_ok (v := some (.int y)) H ?_ (by rw [hB]; exact pa_sub1_ok hN hc.2 hv)
          have hr := hc.1
          unfold pa_rtok at hr
          simp only [px_step]
          split at hr
          · rename_i h1
            rw [h1]
            exact if_pos rfl
          · rename_i h1
            rw [h1]
            have hn := (pa_ftok_ok (n := n) hN (ty := .boolean) (A := .inl x) hr hv).1
            simp only [hn, if_true]
          · cases hr
      · cases ht
    · cases ht
  case lreturn =>
    obtain ⟨sl, ss, sf⟩ := s
    obtain ⟨hl, hss, hf, hq⟩ := hs
    unfold pa_tr at ht
    simp only at ht
    split at ht
    · rename_i u1 u2 hB
      split at ht
      · rename_i h1
        obtain ⟨v, vs, rfl, ⟨⟨y, rfl⟩, -⟩, hr⟩ := pa_gs1 hss
        cases vs with
        | cons => exact nomatch hr
        | nil =>
          refine pa_end_ok (v := some (.long y)) H ?_ (by rw [hB]; exact ⟨y, rfl⟩)
          simp only [px_step, h1]
      · cases ht
    · cases ht
  case areturn =>
    obtain ⟨sl, ss, sf⟩ := s
    obtain ⟨hl, hss, hf, hq⟩ := hs
    unfold pa_tr at ht
    simp only at ht
    split at ht
    · rename_i x y hB
      split at ht
      · rename_i o h1
        split at ht
        · rename_i hc
          obtain ⟨v, vs, rfl, ⟨⟨a, rfl, a1, a2⟩, -⟩, hr⟩ := pa_gs1 hss
          cases vs with
          | cons => exact nomatch hr
          | nil =>
            refine pa_end_ok (v := some (.ref a)) H ?_ (by rw [hB]; exact ⟨a, rfl, a1.trans hc, hc ▸ a2⟩)
            simp only [px_step, h1]
        · cases ht
      · cases ht
    · cases ht
  case return_ =>
    obtain ⟨sl, ss, sf⟩ := s
    obtain ⟨hl, hss, hf, hq⟩ := hs
    unfold pa_tr at ht
    simp only at ht
    split at ht
    · rename_i hB h1
      cases st with
      | cons => exact nomatch hss
      | nil =>
        refine pa_end_ok (v := none) H ?_ (by rw [hB]; trivial)
        simp only [px_step, h1]
    · cases ht
  all_goals (cases ht)
end PF
