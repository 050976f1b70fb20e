/-! the law's entry -/
def px_sv_ (n j : Nat) : Int32 := match n with
  | 1 => ([1, 0, -1, 0] : List Int32).getD j 0
  | 2 => ([0, 1, 0, -1] : List Int32).getD j 0
  | 3 => ([0, -1, -1, 0] : List Int32).getD j 0
  | 4 => ([0, 0, -1, -1] : List Int32).getD j 0
  | 5 => ([0, 0, -1, -1] : List Int32).getD j 0
  | _ => ([-1, 0, 0, -1] : List Int32).getD j 0
def px_sarr (n : Nat) : px_C := (20, [.int (px_sv_ n 0), .int (px_sv_ n 1), .int (px_sv_ n 2), .int (px_sv_ n 3)])
/-- the heap at the law's start: the script, the six static arrays, nothing -/
def px_h0 (L : Nat) (xs : Nat → Int32) : px_H := [(20, (List.range L).map (fun j => Value.int (xs j))), px_sarr 1, px_sarr 2, px_sarr 3, px_sarr 4, px_sarr 5, px_sarr 6, (30, [])]
set_option maxRecDepth 100000 in
theorem px_nw : ∀ n, n < 6 → (Cond.arrayOf (.static RX2 (px_sn (n + 1)) "[I") .int) ∈ flatC (Jvm.Cond.and given_1 narrow_1) ∧ (Cond.eq (.length (.static RX2 (px_sn (n + 1)) "[I")) (.int 4)) ∈ flatC (Jvm.Cond.and given_1 narrow_1) ∧ (∀ j, j < 4 → (Cond.eq (.elem (.static RX2 (px_sn (n + 1)) "[I") (.int (Int32.ofNat j))) (.int (px_sv_ (n + 1) j))) ∈ flatC (Jvm.Cond.and given_1 narrow_1)) ∧ Cond.laysStatic RX2 (px_sn (n + 1)) "[I" ∈ lw_tbl := by decide +kernel
set_option maxRecDepth 100000 in
theorem px_nw2 : Cond.isRef (.static Bundle.tN "UNASSIGNED_STACK" Bundle.steD) ∈ flatC (Jvm.Cond.and given_1 narrow_1) ∧ Cond.isRef (.static Bundle.tN "SUPPRESSED_SENTINEL" Bundle.listD) ∈ flatC (Jvm.Cond.and given_1 narrow_1) ∧ Cond.exactly (.string RX3 164) "java/lang/String" ∈ flatC (Jvm.Cond.and given_1 narrow_1) ∧ Cond.exactly (.string RX3 167) "java/lang/String" ∈ flatC (Jvm.Cond.and given_1 narrow_1) ∧ Cond.exactly (.string RX3 81) "java/lang/String" ∈ flatC (Jvm.Cond.and given_1 narrow_1) ∧ Cond.not (.castable "java/lang/IllegalArgumentException" "java/lang/ArrayIndexOutOfBoundsException") ∈ flatC (Jvm.Cond.and given_1 narrow_1) := by decide +kernel
def R_law : String := "ColourSumsLaw"
def lw_At (p : Program) (s : State) (m : MethodId) (meth : Method) (c : Code) (b L : Nat) (xs : Nat → Int32) : Prop :=
  p.tables.exec = Jvm.exec ∧ c.code = code ∧ meth.sig.returnType = ret ∧ c.maxLocals = 7 ∧ s.vm.findClass R_law = some m.cls ∧ (∀ w ∈ lw_tbl, w.before #[Value.ref b] s = true) ∧ va_X b L xs s s.heap ∧ b < s.heap.size ∧ meth.locks = false ∧ (Jvm.Cond.and given_1 narrow_1).before #[Value.ref b] s = true
set_option maxRecDepth 100000 in
theorem px_ctx {p : Program} {s : State} {m : MethodId} {meth : Method} {c : Code} {l : Launch} (hl : l.stackTraces = false) {b L : Nat} {xs : Nat → Int32} (C0 : lw_At p s m meth c b L xs) :
    ∃ (D : va_G) (od sa : Nat → Nat), px_Cx l s #[Value.ref b] D od sa ∧ px_W s D od (px_h0 L xs) s.heap ∧ od 0 = b := by
  obtain ⟨hx, hb, hr, hml, hown, hts, hX, hbl, hlocks, hgv⟩ := C0
  have hs := flat_of_before _ hgv
  have hA : ∀ a : Nat, a < s.heap.size → ¬ px_A s a := fun a ha h => absurd h (Nat.not_le.mpr ha)
  have hin : ∀ t, t < 5 → ∀ w ∈ u_ws (px_R t) (px_T t) (px_nf t), w ∈ lw_tbl := fun t ht w hw => (List.mem_filter.mp (px_lay_ok t ht w hw)).1
  have hins : ∀ t, t < 5 → (Cond.instantiable (px_R t) (px_nf t)).before #[Value.ref b] s = true := fun t ht => hts _ (List.mem_filter.mp (px_inst_ok t ht).1).1
  obtain ⟨c0, i0, K0⟩ := u_known hts (hin 0 (by decide)) (hins 0 (by decide))
  obtain ⟨c1, i1, K1⟩ := u_known hts (hin 1 (by decide)) (hins 1 (by decide))
  obtain ⟨c2, i2, K2⟩ := u_known hts (hin 2 (by decide)) (hins 2 (by decide))
  obtain ⟨c3, i3, K3⟩ := u_known hts (hin 3 (by decide)) (hins 3 (by decide))
  obtain ⟨c4, i4, K4⟩ := u_known hts (hin 4 (by decide)) (hins 4 (by decide))
  obtain ⟨comp, cA, kA, a1, -, a3, a4, a5⟩ := Cond.arrayOver_spec (hts (.arrayOver (.object "ColourSums$Form")) (List.mem_of_getElem? (i := 69) rfl))
  have hT : ∀ n, n < 6 → ∃ t, va_Z RX2 (px_sn (n + 1)) "[I" (.ref t) (px_A s) s s.heap ∧ va_T .int t 4 (fun j => .int (px_sv_ (n + 1) j)) (px_A s) s s.heap := by
    intro n hn
    obtain ⟨h1, h2, h3, h4⟩ := px_nw n hn
    obtain ⟨t, e1, e2⟩ := va_Tof (N := 4) (A := px_A s) (by decide) (hs _ h1) (va_eqt (hs _ h2)) (fun j hj => va_eqt (hs _ (h3 j hj))) hA
    exact ⟨t, va_Zof (hts _ h4) (hts (.initialized RX2) (List.mem_filter.mp (px_inst_ok 2 (by decide)).2).1) e1 hA, e2⟩
  obtain ⟨t1, Z1, T1⟩ := hT 0 (by decide)
  obtain ⟨t2, Z2, T2⟩ := hT 1 (by decide)
  obtain ⟨t3, Z3, T3⟩ := hT 2 (by decide)
  obtain ⟨t4, Z4, T4⟩ := hT 3 (by decide)
  obtain ⟨t5, Z5, T5⟩ := hT 4 (by decide)
  obtain ⟨t6, Z6, T6⟩ := hT 5 (by decide)
  obtain ⟨w1, w2, w3, w4, w5, w6⟩ := px_nw2
  have hini : (Cond.initialized Bundle.tN).before #[Value.ref b] s = true := hts _ (List.mem_of_getElem? (i := 45) rfl)
  have hU := vx_Zqof (A := px_A s) (hts (.laysStatic Bundle.tN "UNASSIGNED_STACK" Bundle.steD) (List.mem_of_getElem? (i := 394) rfl)) hini (hs _ w1) hA
  have hN := vx_Zqof (A := px_A s) (hts (.laysStatic Bundle.tN "SUPPRESSED_SENTINEL" Bundle.listD) (List.mem_of_getElem? (i := 396) rfl)) hini (hs _ w2) hA
  obtain ⟨s1, _, _, _, e1, -⟩ := Cond.exactly_spec (hs _ w3)
  obtain ⟨s2, _, _, _, e2, -⟩ := Cond.exactly_spec (hs _ w4)
  obtain ⟨s3, _, _, _, e3, -⟩ := Cond.exactly_spec (hs _ w5)
  have lt : ∀ {t N : Nat} {f : Nat → Value}, va_T .int t N f (px_A s) s s.heap → t < s.heap.size := fun h => by
    obtain ⟨cell, h1, -⟩ := h
    exact (Array.getElem?_eq_some_iff.mp h1).1
  refine ⟨(fun k => if k = 0 then c0 else if k = 1 then c1 else if k = 2 then c2 else if k = 3 then c3 else if k = 4 then c4 else cA, fun k => if k = 0 then i0 else if k = 1 then i1 else if k = 2 then i2 else if k = 3 then i3 else i4), fun k => if k = 1 then t1 else if k = 2 then t2 else if k = 3 then t3 else if k = 4 then t4 else if k = 5 then t5 else if k = 6 then t6 else b, fun k => if k = 0 then s1 else if k = 1 then s2 else s3, ⟨hts, ?_, ⟨kA, comp, a3, a4, a1, a5⟩, ?_, ?_, hU, hN, vk_R.of (hts _ (List.mem_of_getElem? (i := 460) rfl)) e1, vk_R.of (hts _ (List.mem_of_getElem? (i := 474) rfl)) e2, vk_R.of (hts _ (List.mem_of_getElem? (i := 484) rfl)) e3, hl, va_Nc.of (hs _ w6)⟩, ⟨Nat.le_refl 8, rfl, fun _ _ => rfl, ?_⟩, rfl⟩
  · intro t ht
    rcases (show t = 0 ∨ t = 1 ∨ t = 2 ∨ t = 3 ∨ t = 4 by omega) with rfl | rfl | rfl | rfl | rfl
    · exact K0
    · exact K1
    · exact K2
    · exact K3
    · exact K4
  · intro k hk
    rcases (show k = 0 ∨ k = 1 ∨ k = 2 ∨ k = 3 ∨ k = 4 ∨ k = 5 ∨ k = 6 ∨ k = 7 by omega) with rfl | rfl | rfl | rfl | rfl | rfl | rfl | rfl
    · exact hbl
    · exact lt T1
    · exact lt T2
    · exact lt T3
    · exact lt T4
    · exact lt T5
    · exact lt T6
    · exact hbl
  · intro n h1 h6
    rcases (show n = 1 ∨ n = 2 ∨ n = 3 ∨ n = 4 ∨ n = 5 ∨ n = 6 by omega) with rfl | rfl | rfl | rfl | rfl | rfl
    · exact Z1
    · exact Z2
    · exact Z3
    · exact Z4
    · exact Z5
    · exact Z6
  · have key : ∀ {D : va_G} {ad : Nat → Nat} {t n : Nat}, va_T .int t 4 (fun j => .int (px_sv_ n j)) (px_A s) s s.heap → px_at s D ad (px_sarr n) t s.heap := by
      intro D ad t n h
      obtain ⟨cell, g1, g2, g3, g4, g5, g6, -⟩ := h
      refine ⟨fun z => absurd z (by show ¬ (20 : Nat) < 5; decide), fun _ _ => ⟨cell, g1, g2, g3, fun z => absurd rfl z, fun z => absurd z (by show ¬ (20 : Nat) = 13; decide), fun _ => ⟨fun j v hv => ?_, g5⟩⟩, Or.inr (by show (10 : Nat) ≤ 20; decide)⟩
      have hj : j < 4 := (List.getElem?_eq_some_iff.mp hv).1
      rw [g6 j hj]
      rcases (show j = 0 ∨ j = 1 ∨ j = 2 ∨ j = 3 by omega) with rfl | rfl | rfl | rfl <;> (cases hv; rfl)
    intro k c hk
    rcases (show k = 0 ∨ k = 1 ∨ k = 2 ∨ k = 3 ∨ k = 4 ∨ k = 5 ∨ k = 6 ∨ k = 7 by have := (List.getElem?_eq_some_iff.mp hk).1; simp [px_h0] at this; omega) with rfl | rfl | rfl | rfl | rfl | rfl | rfl | rfl
    · cases hk
      obtain ⟨scr, g1, g2, g3, g4, g5⟩ := hX
      refine ⟨fun z => absurd z (by show ¬ (20 : Nat) < 5; decide), fun _ _ => ⟨scr, g1, g2, g3, fun z => absurd rfl z, fun z => absurd z (by show ¬ (20 : Nat) = 13; decide), fun _ => ⟨fun j v hv => ?_, ?_⟩⟩, Or.inr (by show (10 : Nat) ≤ 20; decide)⟩
      · have hj : j < L := by
          have := (List.getElem?_eq_some_iff.mp hv).1
          simpa using this
        have hv' : ((List.range L).map (fun j => Value.int (xs j)))[j]? = some v := hv
        rw [List.getElem?_map, List.getElem?_range hj] at hv'
        cases hv'
        exact g5 j hj
      · show scr.slots.size.toInt32 = ((List.range L).map (fun j => Value.int (xs j))).length.toInt32
        rw [g4, List.length_map, List.length_range]
    · cases hk
      exact key T1
    · cases hk
      exact key T2
    · cases hk
      exact key T3
    · cases hk
      exact key T4
    · cases hk
      exact key T5
    · cases hk
      exact key T6
    · cases hk
      exact ⟨fun z => absurd z (by show ¬ (30 : Nat) < 5; decide), fun _ z => absurd z (by show ¬ (30 : Nat) ≤ 20; decide), Or.inr (by show (10 : Nat) ≤ 30; decide)⟩
