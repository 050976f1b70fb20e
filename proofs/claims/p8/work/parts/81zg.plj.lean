def r_fkx (W V : Nat) (hp : px_H) (k N : Nat) (ss : Int64) (c : Nat) : Prop := ∃ (wl : List Nat) (ws : List Value), N < 65536 ∧ ((N = 0 ∧ wl = []) ∨ (N ≠ 0 ∧ wl = f_ws N 8)) ∧ hp[11 + 3 * k]? = some (10, ws) ∧ ws.length = 8 ∧ f_rep ws wl ∧ pl_G k W V N (nI wl.length) ss hp c (pl_D W V wl ss)
def r_fm (hp : px_H) (W V : Nat) : Prop := ∀ k, k < 6 → ∃ (N : Nat) (ss : Int64) (c : Nat), r_fkx W V hp k N ss c
theorem r_fkx_m {W V : Nat} {hp hp' : px_H} {k N : Nat} {ss : Int64} {c : Nat} (h : ∀ a x, (a = 10 + 3 * k ∨ a = 11 + 3 * k ∨ a = 12 + 3 * k) → hp[a]? = some x → hp'[a]? = some x) (R : r_fkx W V hp k N ss c) : r_fkx W V hp' k N ss c := by
  obtain ⟨wl, ws, a1, a2, a3, a4, a5, st, f, b1, b2, b3⟩ := R
  exact ⟨wl, ws, a1, a2, h _ _ (Or.inr (Or.inl rfl)) a3, a4, a5, st, f, h _ _ (Or.inl rfl) b1, h _ _ (Or.inr (Or.inr rfl)) b2, b3⟩
theorem r_fm_m {W V : Nat} {hp hp' : px_H} (h : ∀ a x, 10 ≤ a → a ≤ 27 → hp[a]? = some x → hp'[a]? = some x) (R : r_fm hp W V) : r_fm hp' W V := by
  intro k hk
  obtain ⟨N, ss, c, R1⟩ := R k hk
  exact ⟨N, ss, c, r_fkx_m (fun a x ha => h a x (by omega) (by omega)) R1⟩
theorem r11 {n k : Nat} (hk : k < 6) : pa_rg n (11 + 3 * k) = 11 := by
  rcases (show k = 0 ∨ k = 1 ∨ k = 2 ∨ k = 3 ∨ k = 4 ∨ k = 5 by omega) with rfl | rfl | rfl | rfl | rfl | rfl <;> rfl
theorem r12 {n k : Nat} (hk : k < 6) : pa_rg n (12 + 3 * k) = 12 := by
  rcases (show k = 0 ∨ k = 1 ∨ k = 2 ∨ k = 3 ∨ k = 4 ∨ k = 5 by omega) with rfl | rfl | rfl | rfl | rfl | rfl <;> rfl
theorem r_fm_fr {n W V : Nat} {M : pa_M} {hp hp1 : px_H} (_ : pa_Hi n hp) (G : pa_Fr n M hp hp1) (h1 : (M.all (fun q => q.1 != 10)) = true) (h2 : (M.all (fun q => q.1 != 11)) = true) (h3 : (M.all (fun q => q.1 != 12)) = true) (R : r_fm hp W V) : r_fm hp1 W V := by
  intro k hk
  obtain ⟨N, ss, c, R1⟩ := R k hk
  refine ⟨N, ss, c, r_fkx_m (fun a x ha e => ?_) R1⟩
  obtain ⟨t, vs⟩ := x
  rcases ha with rfl | rfl | rfl
  · exact l_fo G e (r10 hk) h1
  · exact l_fo G e (r11 hk) h2
  · exact l_fo G e (r12 hk) h3
theorem f_some {N : Nat} (hN : N < 65536) (h : N ≠ 0) : ∃ i j, f_F N i j := by
  refine Classical.byContradiction (fun z => h ?_)
  apply Nat.eq_of_testBit_eq
  intro t
  rw [Nat.zero_testBit]
  by_cases ht : t < 16
  · cases e : N.testBit t
    · rfl
    · exact absurd ⟨t % 4, t / 4, by omega, by omega, by rw [show 4 * (t / 4) + t % 4 = t by omega]; exact e⟩ z
  · exact f_hi hN (by omega)
theorem f_wlP {N : Nat} {wl : List Nat} (hN : N < 65536) (h : (N = 0 ∧ wl = []) ∨ (N ≠ 0 ∧ wl = f_ws N 8)) : (∀ P ∈ wl, f_C P) ∧ wl.Pairwise (· ≠ ·) ∧ (wl.map f_A).sum ≤ 160 ∧ wl.length ≤ 8 := by
  rcases h with ⟨-, rfl⟩ | ⟨h, rfl⟩
  · exact ⟨fun P hP => absurd hP List.not_mem_nil, List.Pairwise.nil, Nat.zero_le _, Nat.zero_le _⟩
  · have hn := f_some hN h
    refine ⟨fun P hP => ?_, f_ws_nd N 8, f_tot hN hn, f_ws_len N 8⟩
    obtain ⟨k, hk, rfl⟩ := (f_ws_mem 8).mp hP
    obtain ⟨a, b, -, -, -, hC⟩ := f_T_sp hN hk hn
    exact hC
theorem c_prF {d k : Nat} {hp : px_H} {W V N c : Nat} {ss sh : Int64} (hW : W ≤ 6) (hV : V ≤ 6) (R : r_fkx W V hp k N ss c) : px_Gx (d + 2) 27 (0, [(0, .ref (10 + 3 * k)), (1, .long sh)], [], hp) (fun o hp' => o = .inl none ∧ ∃ c', r_fkx W V hp' k N sh c' ∧ ∀ a, a ≠ 10 + 3 * k → a ≠ 12 + 3 * k → hp'[a]? = hp[a]?) := by
  obtain ⟨wl, ws, a1, a2, a3, a4, a5, G⟩ := R
  obtain ⟨q1, q2, q3, q4⟩ := f_wlP a1 a2
  obtain ⟨o, hp', g, e, c', b1, b2⟩ := c_pr (d := d) (sh := sh) hW hV q1 q2 q3 q4 a5 a3 G
  exact ⟨o, hp', g, e, c', ⟨wl, ws, a1, a2, (b2 _ (by omega) (by omega)).trans a3, a4, a5, b1⟩, b2⟩
theorem r_fm_1 {W V k : Nat} {hp hp' : px_H} (R : r_fm hp W V) {N : Nat} {ss : Int64} {c : Nat} (R1 : r_fkx W V hp' k N ss c) (h : ∀ a, a ≠ 10 + 3 * k → a ≠ 11 + 3 * k → a ≠ 12 + 3 * k → hp'[a]? = hp[a]?) : r_fm hp' W V := by
  intro j hj
  by_cases e : j = k
  · subst e
    exact ⟨N, ss, c, R1⟩
  · obtain ⟨N2, ss2, c2, R2⟩ := R j hj
    exact ⟨N2, ss2, c2, r_fkx_m (fun a x ha q => by rw [h a (by omega) (by omega) (by omega)]; exact q) R2⟩
/-- prepare, with contract -/
theorem x_prep {d n k : Nat} (hN : pa_N n) {hp : px_H} (H : pa_Hi n hp) {W V : Nat} {sh : Int64} (hW : W ≤ 6) (hV : V ≤ 6) (hk : k < 6) (R : r_fm hp W V) : ∃ (hp1 : px_H) (N c : Nat), px_Go (d + 4) 27 (0, [(0, .ref (10 + 3 * k)), (1, .long sh)], [], hp) (.inl none, hp1) ∧ pa_Hi n hp1 ∧ pa_Fr n [(10, 6), (10, 7), (12, 0)] hp hp1 ∧ r_fm hp1 W V ∧ r_fkx W V hp1 k N sh c ∧ (∃ ss c0, r_fkx W V hp k N ss c0) := by
  obtain ⟨N, ss, c, R1⟩ := R k hk
  obtain ⟨o, hp1, g, e, c1, R2, sm⟩ := c_prF (d := d + 2) (sh := sh) hW hV R1
  obtain ⟨o2, hp2, g2, ⟨H2, G2, -⟩, -⟩ := (ct_27 hN).deep (d' := d + 4) (by omega) [.ref (10 + 3 * k), .long sh] hp H ⟨⟨_, rfl, r10 hk, by decide⟩, ⟨_, rfl⟩, trivial⟩
  have e2 := px_det g g2
  cases e2
  subst e
  exact ⟨hp1, N, c1, g, H2, G2.mono (by decide), r_fm_1 R R2 (fun a h1 _ h3 => sm a h1 h3), R2, ss, c, R1⟩
theorem f_orlt {N q : Nat} (h : N < 65536) (hq : q < 16) : (N ||| 2 ^ q) < 65536 := Nat.or_lt_two_pow (n := 16) h (Nat.pow_lt_pow_right (by decide) hq)
theorem f_orne {N q : Nat} : (N ||| 2 ^ q) ≠ 0 := fun z => by
  have : (N ||| 2 ^ q).testBit q = true := by rw [Nat.testBit_or, Nat.testBit_two_pow_self, Bool.or_true]
  rw [z, Nat.zero_testBit] at this
  cases this
theorem pl_D0 {W V : Nat} {wl : List Nat} (hC : ∀ P ∈ wl, f_C P) (S : Nat) : ¬ pl_D W V wl 0 S := by
  rintro ⟨P, hP, x, y, -, -, rfl, h⟩
  obtain ⟨-, ⟨j, hj⟩, -⟩ := hC P hP
  have := h _ ((f_cS_b (W := W) (P := P) (x := x) (y := y)).mpr ⟨0, j, hj, rfl⟩)
  rw [x_bt0] at this
  cases this
set_option maxRecDepth 20000 in
theorem c_takeF {d : Nat} {hp : px_H} {k N q W V c : Nat} {ss : Int64} {x y : Int32} (h16 : N < 65536) (hq : q < 16) (c6 : pb_cnt 16 N ≤ 6) (hb : (1 : Int32) <<< ((4 * y + x) &&& 31) = nI (2 ^ q)) (R : r_fkx W V hp k N ss c) : px_Gx (d + 3) 32 (0, [(0, .ref (10 + 3 * k)), (1, .int x), (2, .int y)], [], hp) (fun o hp' => (∃ N' ss' c', r_fkx W V hp' k N' ss' c') ∧ ∀ a, a ≠ 10 + 3 * k → a ≠ 11 + 3 * k → a ≠ 12 + 3 * k → hp'[a]? = hp[a]?) := by
  have e6 : (6 : Int32).toInt = 6 := rfl
  have ec : (nI (pb_cnt 16 N)).toInt = pb_cnt 16 N := nI_toInt (by omega)
  obtain ⟨wl, ws, a1, a2, hw, a4, a5, st, f, hf, hs, hr⟩ := R
  have R : r_fkx W V hp k N ss c := ⟨wl, ws, a1, a2, hw, a4, a5, st, f, hf, hs, hr⟩
  obtain ⟨wc, ewc⟩ : ∃ wc, wc = nI wl.length := ⟨_, rfl⟩
  obtain ⟨sc, esc⟩ : ∃ sc, sc = nI c := ⟨_, rfl⟩
  rw [← ewc, ← esc] at hf
  by_cases h : N.testBit q = true
  · 
    refine px_gx (fun _ K9 => px_a 9 (f' := (9, [(3, .int (1 <<< (((4 * y) + x) &&& 31))), (0, .ref (10 + 3 * k)), (1, .int x), (2, .int y)], [.ref (10 + 3 * k)], hp)) rfl K9) ?_
    refine px_gx (fun _ K9 => px_gf (10 + 3 * k) 26 1 4 (.int (nI N)) rfl rfl hf rfl K9) ?_
    show px_Gx _ _ (12, [(3, .int (1 <<< (((4 * y) + x) &&& 31))), (0, .ref (10 + 3 * k)), (1, .int x), (2, .int y)], [.int (nI N)], hp) _
    refine px_gx (fun _ K9 => px_a 2 (f' := (14, [(3, .int (1 <<< (((4 * y) + x) &&& 31))), (0, .ref (10 + 3 * k)), (1, .int x), (2, .int y)], [.int ((nI N) &&& (1 <<< (((4 * y) + x) &&& 31)))], hp)) rfl K9) ?_
    refine px_gx (fun _ K9 => px_b1 true 26 rfl rfl (decide_eq_true (fun z => by rw [hb] at z; rw [(q_and h16 hq).mp z] at h; cases h)) K9) ?_
    show px_Gx _ _ (26, [(3, .int (1 <<< (((4 * y) + x) &&& 31))), (0, .ref (10 + 3 * k)), (1, .int x), (2, .int y)], [], hp) _
    refine px_gx (fun _ K9 => px_a 1 (f' := (27, [(3, .int (1 <<< (((4 * y) + x) &&& 31))), (0, .ref (10 + 3 * k)), (1, .int x), (2, .int y)], [.int 0], hp)) rfl K9) ?_
    exact ⟨_, _, px_ri rfl rfl rfl, ⟨N, ss, c, R⟩, fun a _ _ _ => rfl⟩
  · have h0 : N.testBit q = false := by simpa using h
    by_cases h2 : pb_cnt 16 N < 6
    · show px_Gx _ _ (0, [(0, .ref (10 + 3 * k)), (1, .int x), (2, .int y)], [], hp) _
      refine px_gx (fun _ K9 => px_a 9 (f' := (9, [(3, .int (1 <<< (((4 * y) + x) &&& 31))), (0, .ref (10 + 3 * k)), (1, .int x), (2, .int y)], [.ref (10 + 3 * k)], hp)) rfl K9) ?_
      refine px_gx (fun _ K9 => px_gf (10 + 3 * k) 26 1 4 (.int (nI N)) rfl rfl hf rfl K9) ?_
      show px_Gx _ _ (12, [(3, .int (1 <<< (((4 * y) + x) &&& 31))), (0, .ref (10 + 3 * k)), (1, .int x), (2, .int y)], [.int (nI N)], hp) _
      refine px_gx (fun _ K9 => px_a 2 (f' := (14, [(3, .int (1 <<< (((4 * y) + x) &&& 31))), (0, .ref (10 + 3 * k)), (1, .int x), (2, .int y)], [.int ((nI N) &&& (1 <<< (((4 * y) + x) &&& 31)))], hp)) rfl K9) ?_
      refine px_gx (fun _ K9 => px_b1 false 26 rfl rfl (decide_eq_false (not_not_intro (by rw [hb]; exact (q_and h16 hq).mpr h0))) K9) ?_
      show px_Gx _ _ (17, [(3, .int (1 <<< (((4 * y) + x) &&& 31))), (0, .ref (10 + 3 * k)), (1, .int x), (2, .int y)], [], hp) _
      refine px_gx (fun _ K9 => px_a 1 (f' := (18, [(3, .int (1 <<< (((4 * y) + x) &&& 31))), (0, .ref (10 + 3 * k)), (1, .int x), (2, .int y)], [.ref (10 + 3 * k)], hp)) rfl K9) ?_
      refine px_gx (fun _ K9 => px_cv (10 + 3 * k) (as := []) (rest := []) rfl rfl hf rfl rfl rfl rfl (Nat.le_of_ble_eq_true rfl) (x_size (d := d + 1) h16 hf) K9) ?_
      show px_Gx _ _ (21, [(3, .int (1 <<< (((4 * y) + x) &&& 31))), (0, .ref (10 + 3 * k)), (1, .int x), (2, .int y)], [.int (nI (pb_cnt 16 N))], hp) _
      refine px_gx (fun _ K9 => px_a 1 (f' := (23, [(3, .int (1 <<< (((4 * y) + x) &&& 31))), (0, .ref (10 + 3 * k)), (1, .int x), (2, .int y)], [.int 6, .int (nI (pb_cnt 16 N))], hp)) rfl K9) ?_
      refine px_gx (fun _ K9 => px_b2 true 28 rfl rfl (decide_eq_true (show nI (pb_cnt 16 N) < 6 by rw [Int32.lt_iff_toInt_lt, ec, e6]; omega)) K9) ?_
      show px_Gx _ _ (28, [(3, .int (1 <<< (((4 * y) + x) &&& 31))), (0, .ref (10 + 3 * k)), (1, .int x), (2, .int y)], [], hp) _
      refine px_gx (fun _ K9 => px_a 2 (f' := (30, [(3, .int (1 <<< (((4 * y) + x) &&& 31))), (0, .ref (10 + 3 * k)), (1, .int x), (2, .int y)], [.ref (10 + 3 * k), .ref (10 + 3 * k)], hp)) rfl K9) ?_
      refine px_gx (fun _ K9 => px_gf (10 + 3 * k) 26 1 4 (.int (nI N)) rfl rfl hf rfl K9) ?_
      show px_Gx _ _ (33, [(3, .int (1 <<< (((4 * y) + x) &&& 31))), (0, .ref (10 + 3 * k)), (1, .int x), (2, .int y)], [.int (nI N), .ref (10 + 3 * k)], hp) _
      refine px_gx (fun _ K9 => px_a 2 (f' := (35, [(3, .int (1 <<< (((4 * y) + x) &&& 31))), (0, .ref (10 + 3 * k)), (1, .int x), (2, .int y)], [.int ((nI N) ||| (1 <<< (((4 * y) + x) &&& 31))), .ref (10 + 3 * k)], hp)) rfl K9) ?_
      refine px_gx (fun _ K9 => px_pf (10 + 3 * k) 26 1 4 rfl rfl hf (by omega) (by simp) rfl rfl (by decide) K9) ?_
      have hf1__10___3___k_ : (hp.set (10 + 3 * k) (1, [.int (nI W), .int (nI V), .ref (11 + 3 * k), .ref (12 + 3 * k), .int ((nI N) ||| (1 <<< (((4 * y) + x) &&& 31))), .int wc, .int sc, .long ss]))[(10 + 3 * k)]? = some (1, [.int (nI W), .int (nI V), .ref (11 + 3 * k), .ref (12 + 3 * k), .int ((nI N) ||| (1 <<< (((4 * y) + x) &&& 31))), .int wc, .int sc, .long ss]) := px_self hf
      have hf1__11___3___k_ : (hp.set (10 + 3 * k) (1, [.int (nI W), .int (nI V), .ref (11 + 3 * k), .ref (12 + 3 * k), .int ((nI N) ||| (1 <<< (((4 * y) + x) &&& 31))), .int wc, .int sc, .long ss]))[(11 + 3 * k)]? = some (10, ws) := px_ne hw (by omega)
      have hf1__12___3___k_ : (hp.set (10 + 3 * k) (1, [.int (nI W), .int (nI V), .ref (11 + 3 * k), .ref (12 + 3 * k), .int ((nI N) ||| (1 <<< (((4 * y) + x) &&& 31))), .int wc, .int sc, .long ss]))[(12 + 3 * k)]? = some (11, st) := px_ne hs (by omega)
      show px_Gx _ _ (38, [(3, .int (1 <<< (((4 * y) + x) &&& 31))), (0, .ref (10 + 3 * k)), (1, .int x), (2, .int y)], [], (hp.set (10 + 3 * k) (1, [.int (nI W), .int (nI V), .ref (11 + 3 * k), .ref (12 + 3 * k), .int ((nI N) ||| (1 <<< (((4 * y) + x) &&& 31))), .int wc, .int sc, .long ss]))) _
      refine px_gx (fun _ K9 => px_a 2 (f' := (40, [(3, .int (1 <<< (((4 * y) + x) &&& 31))), (0, .ref (10 + 3 * k)), (1, .int x), (2, .int y)], [.long 0, .ref (10 + 3 * k)], (hp.set (10 + 3 * k) (1, [.int (nI W), .int (nI V), .ref (11 + 3 * k), .ref (12 + 3 * k), .int ((nI N) ||| (1 <<< (((4 * y) + x) &&& 31))), .int wc, .int sc, .long ss])))) rfl K9) ?_
      refine px_gx (fun _ K9 => px_pf (10 + 3 * k) 39 1 7 rfl rfl hf1__10___3___k_ (by omega) (by simp) rfl rfl (by decide) K9) ?_
      have hf2__10___3___k_ : (((hp.set (10 + 3 * k) (1, [.int (nI W), .int (nI V), .ref (11 + 3 * k), .ref (12 + 3 * k), .int ((nI N) ||| (1 <<< (((4 * y) + x) &&& 31))), .int wc, .int sc, .long ss]))).set (10 + 3 * k) (1, [.int (nI W), .int (nI V), .ref (11 + 3 * k), .ref (12 + 3 * k), .int ((nI N) ||| (1 <<< (((4 * y) + x) &&& 31))), .int wc, .int sc, .long 0]))[(10 + 3 * k)]? = some (1, [.int (nI W), .int (nI V), .ref (11 + 3 * k), .ref (12 + 3 * k), .int ((nI N) ||| (1 <<< (((4 * y) + x) &&& 31))), .int wc, .int sc, .long 0]) := px_self hf1__10___3___k_
      have hf2__11___3___k_ : (((hp.set (10 + 3 * k) (1, [.int (nI W), .int (nI V), .ref (11 + 3 * k), .ref (12 + 3 * k), .int ((nI N) ||| (1 <<< (((4 * y) + x) &&& 31))), .int wc, .int sc, .long ss]))).set (10 + 3 * k) (1, [.int (nI W), .int (nI V), .ref (11 + 3 * k), .ref (12 + 3 * k), .int ((nI N) ||| (1 <<< (((4 * y) + x) &&& 31))), .int wc, .int sc, .long 0]))[(11 + 3 * k)]? = some (10, ws) := px_ne hf1__11___3___k_ (by omega)
      have hf2__12___3___k_ : (((hp.set (10 + 3 * k) (1, [.int (nI W), .int (nI V), .ref (11 + 3 * k), .ref (12 + 3 * k), .int ((nI N) ||| (1 <<< (((4 * y) + x) &&& 31))), .int wc, .int sc, .long ss]))).set (10 + 3 * k) (1, [.int (nI W), .int (nI V), .ref (11 + 3 * k), .ref (12 + 3 * k), .int ((nI N) ||| (1 <<< (((4 * y) + x) &&& 31))), .int wc, .int sc, .long 0]))[(12 + 3 * k)]? = some (11, st) := px_ne hf1__12___3___k_ (by omega)
      show px_Gx _ _ (43, [(3, .int (1 <<< (((4 * y) + x) &&& 31))), (0, .ref (10 + 3 * k)), (1, .int x), (2, .int y)], [], (((hp.set (10 + 3 * k) (1, [.int (nI W), .int (nI V), .ref (11 + 3 * k), .ref (12 + 3 * k), .int ((nI N) ||| (1 <<< (((4 * y) + x) &&& 31))), .int wc, .int sc, .long ss]))).set (10 + 3 * k) (1, [.int (nI W), .int (nI V), .ref (11 + 3 * k), .ref (12 + 3 * k), .int ((nI N) ||| (1 <<< (((4 * y) + x) &&& 31))), .int wc, .int sc, .long 0]))) _
      refine px_gx (fun _ K9 => px_a 2 (f' := (45, [(3, .int (1 <<< (((4 * y) + x) &&& 31))), (0, .ref (10 + 3 * k)), (1, .int x), (2, .int y)], [.int 0, .ref (10 + 3 * k)], (((hp.set (10 + 3 * k) (1, [.int (nI W), .int (nI V), .ref (11 + 3 * k), .ref (12 + 3 * k), .int ((nI N) ||| (1 <<< (((4 * y) + x) &&& 31))), .int wc, .int sc, .long ss]))).set (10 + 3 * k) (1, [.int (nI W), .int (nI V), .ref (11 + 3 * k), .ref (12 + 3 * k), .int ((nI N) ||| (1 <<< (((4 * y) + x) &&& 31))), .int wc, .int sc, .long 0])))) rfl K9) ?_
      refine px_gx (fun _ K9 => px_pf (10 + 3 * k) 43 1 6 rfl rfl hf2__10___3___k_ (by omega) (by simp) rfl rfl (by decide) K9) ?_
      have hf3__10___3___k_ : (((((hp.set (10 + 3 * k) (1, [.int (nI W), .int (nI V), .ref (11 + 3 * k), .ref (12 + 3 * k), .int ((nI N) ||| (1 <<< (((4 * y) + x) &&& 31))), .int wc, .int sc, .long ss]))).set (10 + 3 * k) (1, [.int (nI W), .int (nI V), .ref (11 + 3 * k), .ref (12 + 3 * k), .int ((nI N) ||| (1 <<< (((4 * y) + x) &&& 31))), .int wc, .int sc, .long 0]))).set (10 + 3 * k) (1, [.int (nI W), .int (nI V), .ref (11 + 3 * k), .ref (12 + 3 * k), .int ((nI N) ||| (1 <<< (((4 * y) + x) &&& 31))), .int wc, .int 0, .long 0]))[(10 + 3 * k)]? = some (1, [.int (nI W), .int (nI V), .ref (11 + 3 * k), .ref (12 + 3 * k), .int ((nI N) ||| (1 <<< (((4 * y) + x) &&& 31))), .int wc, .int 0, .long 0]) := px_self hf2__10___3___k_
      have hf3__11___3___k_ : (((((hp.set (10 + 3 * k) (1, [.int (nI W), .int (nI V), .ref (11 + 3 * k), .ref (12 + 3 * k), .int ((nI N) ||| (1 <<< (((4 * y) + x) &&& 31))), .int wc, .int sc, .long ss]))).set (10 + 3 * k) (1, [.int (nI W), .int (nI V), .ref (11 + 3 * k), .ref (12 + 3 * k), .int ((nI N) ||| (1 <<< (((4 * y) + x) &&& 31))), .int wc, .int sc, .long 0]))).set (10 + 3 * k) (1, [.int (nI W), .int (nI V), .ref (11 + 3 * k), .ref (12 + 3 * k), .int ((nI N) ||| (1 <<< (((4 * y) + x) &&& 31))), .int wc, .int 0, .long 0]))[(11 + 3 * k)]? = some (10, ws) := px_ne hf2__11___3___k_ (by omega)
      have hf3__12___3___k_ : (((((hp.set (10 + 3 * k) (1, [.int (nI W), .int (nI V), .ref (11 + 3 * k), .ref (12 + 3 * k), .int ((nI N) ||| (1 <<< (((4 * y) + x) &&& 31))), .int wc, .int sc, .long ss]))).set (10 + 3 * k) (1, [.int (nI W), .int (nI V), .ref (11 + 3 * k), .ref (12 + 3 * k), .int ((nI N) ||| (1 <<< (((4 * y) + x) &&& 31))), .int wc, .int sc, .long 0]))).set (10 + 3 * k) (1, [.int (nI W), .int (nI V), .ref (11 + 3 * k), .ref (12 + 3 * k), .int ((nI N) ||| (1 <<< (((4 * y) + x) &&& 31))), .int wc, .int 0, .long 0]))[(12 + 3 * k)]? = some (11, st) := px_ne hf2__12___3___k_ (by omega)
      show px_Gx _ _ (48, [(3, .int (1 <<< (((4 * y) + x) &&& 31))), (0, .ref (10 + 3 * k)), (1, .int x), (2, .int y)], [], (((((hp.set (10 + 3 * k) (1, [.int (nI W), .int (nI V), .ref (11 + 3 * k), .ref (12 + 3 * k), .int ((nI N) ||| (1 <<< (((4 * y) + x) &&& 31))), .int wc, .int sc, .long ss]))).set (10 + 3 * k) (1, [.int (nI W), .int (nI V), .ref (11 + 3 * k), .ref (12 + 3 * k), .int ((nI N) ||| (1 <<< (((4 * y) + x) &&& 31))), .int wc, .int sc, .long 0]))).set (10 + 3 * k) (1, [.int (nI W), .int (nI V), .ref (11 + 3 * k), .ref (12 + 3 * k), .int ((nI N) ||| (1 <<< (((4 * y) + x) &&& 31))), .int wc, .int 0, .long 0]))) _
      have f3 := hf3__10___3___k_
      have w3 := hf3__11___3___k_
      have s3 := hf3__12___3___k_
      have sm3 : ∀ a, a ≠ 10 + 3 * k → ((((((hp.set (10 + 3 * k) (1, [.int (nI W), .int (nI V), .ref (11 + 3 * k), .ref (12 + 3 * k), .int ((nI N) ||| (1 <<< (((4 * y) + x) &&& 31))), .int wc, .int sc, .long ss]))).set (10 + 3 * k) (1, [.int (nI W), .int (nI V), .ref (11 + 3 * k), .ref (12 + 3 * k), .int ((nI N) ||| (1 <<< (((4 * y) + x) &&& 31))), .int wc, .int sc, .long 0]))).set (10 + 3 * k) (1, [.int (nI W), .int (nI V), .ref (11 + 3 * k), .ref (12 + 3 * k), .int ((nI N) ||| (1 <<< (((4 * y) + x) &&& 31))), .int wc, .int 0, .long 0])))[a]? = hp[a]? := fun a h1 => by rw [List.getElem?_set_ne (Ne.symm h1), List.getElem?_set_ne (Ne.symm h1), List.getElem?_set_ne (Ne.symm h1)]
      rw [show ((nI N) ||| (1 <<< (((4 * y) + x) &&& 31))) = nI (N ||| 2 ^ q) by rw [hb, nx_or]] at f3 w3 s3 sm3 ⊢
      generalize (((((hp.set (10 + 3 * k) (1, [.int (nI W), .int (nI V), .ref (11 + 3 * k), .ref (12 + 3 * k), .int (nI (N ||| 2 ^ q)), .int wc, .int sc, .long ss]))).set (10 + 3 * k) (1, [.int (nI W), .int (nI V), .ref (11 + 3 * k), .ref (12 + 3 * k), .int (nI (N ||| 2 ^ q)), .int wc, .int sc, .long 0]))).set (10 + 3 * k) (1, [.int (nI W), .int (nI V), .ref (11 + 3 * k), .ref (12 + 3 * k), .int (nI (N ||| 2 ^ q)), .int wc, .int 0, .long 0])) = hp3 at f3 w3 s3 sm3 ⊢
      obtain ⟨o, hp1, g, e, ws', b1, b2, b3, b4, b5⟩ := c_fw (d := d + 1) (f_orlt h16 hq) f3 w3 a4
      subst e
      show px_Gx _ _ (48, [(3, .int (1 <<< (((4 * y) + x) &&& 31))), (0, .ref (10 + 3 * k)), (1, .int x), (2, .int y)], [], hp3) _
      refine px_gx (fun _ K9 => px_a 1 (f' := (49, [(3, .int (1 <<< (((4 * y) + x) &&& 31))), (0, .ref (10 + 3 * k)), (1, .int x), (2, .int y)], [.ref (10 + 3 * k)], hp3)) rfl K9) ?_
      refine px_gx (fun _ K9 => px_cv (10 + 3 * k) (as := []) (rest := []) rfl rfl f3 rfl rfl rfl rfl (Nat.le_of_ble_eq_true rfl) (g) K9) ?_
      show px_Gx _ _ (52, [(3, .int (1 <<< (((4 * y) + x) &&& 31))), (0, .ref (10 + 3 * k)), (1, .int x), (2, .int y)], [], hp1) _
      refine px_gx (fun _ K9 => px_a 1 (f' := (53, [(3, .int (1 <<< (((4 * y) + x) &&& 31))), (0, .ref (10 + 3 * k)), (1, .int x), (2, .int y)], [.int 1], hp1)) rfl K9) ?_
      refine ⟨_, _, px_ri rfl rfl rfl, ⟨N ||| 2 ^ q, 0, 0, f_ws (N ||| 2 ^ q) 8, ws', f_orlt h16 hq, Or.inr ⟨f_orne, rfl⟩, b2, b3, b4, st, f, b1, (b5 _ (by omega) (by omega)).trans s3, hr.1, fun j hj => absurd hj (Nat.not_lt_zero j), fun j hj => absurd hj (Nat.not_lt_zero j), fun i j _ hj => absurd hj (Nat.not_lt_zero j), fun S => ⟨fun z => absurd z (pl_D0 (f_wlP (f_orlt h16 hq) (Or.inr ⟨f_orne, rfl⟩)).1 S), fun ⟨i, hi, _⟩ => absurd hi (Nat.not_lt_zero i)⟩⟩, fun a h1 h2 _ => (b5 a h1 h2).trans (sm3 a h1)⟩
    · 
      refine px_gx (fun _ K9 => px_a 9 (f' := (9, [(3, .int (1 <<< (((4 * y) + x) &&& 31))), (0, .ref (10 + 3 * k)), (1, .int x), (2, .int y)], [.ref (10 + 3 * k)], hp)) rfl K9) ?_
      refine px_gx (fun _ K9 => px_gf (10 + 3 * k) 26 1 4 (.int (nI N)) rfl rfl hf rfl K9) ?_
      show px_Gx _ _ (12, [(3, .int (1 <<< (((4 * y) + x) &&& 31))), (0, .ref (10 + 3 * k)), (1, .int x), (2, .int y)], [.int (nI N)], hp) _
      refine px_gx (fun _ K9 => px_a 2 (f' := (14, [(3, .int (1 <<< (((4 * y) + x) &&& 31))), (0, .ref (10 + 3 * k)), (1, .int x), (2, .int y)], [.int ((nI N) &&& (1 <<< (((4 * y) + x) &&& 31)))], hp)) rfl K9) ?_
      refine px_gx (fun _ K9 => px_b1 false 26 rfl rfl (decide_eq_false (not_not_intro (by rw [hb]; exact (q_and h16 hq).mpr h0))) K9) ?_
      show px_Gx _ _ (17, [(3, .int (1 <<< (((4 * y) + x) &&& 31))), (0, .ref (10 + 3 * k)), (1, .int x), (2, .int y)], [], hp) _
      refine px_gx (fun _ K9 => px_a 1 (f' := (18, [(3, .int (1 <<< (((4 * y) + x) &&& 31))), (0, .ref (10 + 3 * k)), (1, .int x), (2, .int y)], [.ref (10 + 3 * k)], hp)) rfl K9) ?_
      refine px_gx (fun _ K9 => px_cv (10 + 3 * k) (as := []) (rest := []) rfl rfl hf rfl rfl rfl rfl (Nat.le_of_ble_eq_true rfl) (x_size (d := d + 1) h16 hf) K9) ?_
      show px_Gx _ _ (21, [(3, .int (1 <<< (((4 * y) + x) &&& 31))), (0, .ref (10 + 3 * k)), (1, .int x), (2, .int y)], [.int (nI (pb_cnt 16 N))], hp) _
      refine px_gx (fun _ K9 => px_a 1 (f' := (23, [(3, .int (1 <<< (((4 * y) + x) &&& 31))), (0, .ref (10 + 3 * k)), (1, .int x), (2, .int y)], [.int 6, .int (nI (pb_cnt 16 N))], hp)) rfl K9) ?_
      refine px_gx (fun _ K9 => px_b2 false 28 rfl rfl (decide_eq_false (show ¬ nI (pb_cnt 16 N) < 6 by rw [Int32.lt_iff_toInt_lt, ec, e6]; omega)) K9) ?_
      show px_Gx _ _ (26, [(3, .int (1 <<< (((4 * y) + x) &&& 31))), (0, .ref (10 + 3 * k)), (1, .int x), (2, .int y)], [], hp) _
      refine px_gx (fun _ K9 => px_a 1 (f' := (27, [(3, .int (1 <<< (((4 * y) + x) &&& 31))), (0, .ref (10 + 3 * k)), (1, .int x), (2, .int y)], [.int 0], hp)) rfl K9) ?_
      exact ⟨_, _, px_ri rfl rfl rfl, ⟨N, ss, c, R⟩, fun a _ _ _ => rfl⟩
