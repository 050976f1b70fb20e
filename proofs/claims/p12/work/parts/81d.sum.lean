def x_val (vo : List Value) (c : Nat) : Int32 := match vo[c]? with
  | some (.int z) => z
  | _ => 0
def x_sum (vo : List Value) (b : Nat → Bool) : Nat → Int32
  | 0 => 0
  | c + 1 => x_sum vo b c + (if b c = true then x_val vo c else 0)
theorem x_val_e {vo : List Value} {c : Nat} {z : Int32} (h : vo[c]? = some (.int z)) : x_val vo c = z := by unfold x_val; rw [h]
theorem x_sum_1 {vo : List Value} {b : Nat → Bool} {c : Nat} {z : Int32} (hb : b c = true) (h : vo[c]? = some (.int z)) : x_sum vo b c + z = x_sum vo b (c + 1) := by
  show _ = x_sum vo b c + (if b c = true then x_val vo c else 0)
  rw [if_pos hb, x_val_e h]
theorem x_sum_0 {vo : List Value} {b : Nat → Bool} {c : Nat} (hb : b c = false) : x_sum vo b (c + 1) = x_sum vo b c := by
  show x_sum vo b c + (if b c = true then x_val vo c else 0) = _
  rw [if_neg (by rw [hb]; decide), Int32.add_zero]
set_option maxRecDepth 20000 in
theorem x_over_l {d : Nat} {n : Nat} {hp : px_H} {W V : Nat} {fc fd : Int32} {sh : Int64} {vo : List Value} {s : Int64} (n36 : n ≤ 36) (hc : hp[(8 : Nat)]? = some (3, [.int (nI W), .int (nI V), .ref 9, .ref 28, .ref 29, .ref 30, .ref (34 + n), .int fc, .long sh, .int fd])) (ha : hp[(28 : Nat)]? = some (10, vo)) (hlo : vo.length = n) (hvo : ∀ c, c < n → ∃ z : Int32, vo[c]? = some (.int z)) : ∀ (k c : Nat), c + k = n → c ≤ n → px_Go d 55 (5, [(4, .int (nI c)), (3, .int (x_sum vo (x_bt s) c)), (0, .ref 8), (1, .long s)], [], hp) (.inl (some (.int (x_sum vo (x_bt s) n))), hp) := by
  intro k
  induction k with
  | zero =>
    intro c h1 h2
    have ecn : c = n := by omega
    rw [show x_sum vo (x_bt s) n = x_sum vo (x_bt s) c by rw [ecn]]
    refine px_a 2 (f' := (8, [(4, .int (nI c)), (3, .int (x_sum vo (x_bt s) c)), (0, .ref 8), (1, .long s)], [.ref 8, .int (nI c)], hp)) rfl ?_
    refine px_gf 8 34 3 3 (.ref 28) rfl rfl hc rfl ?_
    show px_Go _ _ (11, [(4, .int (nI c)), (3, .int (x_sum vo (x_bt s) c)), (0, .ref 8), (1, .long s)], [.ref 28, .int (nI c)], hp) _
    refine px_len_ 28 rfl ha (by decide) (by decide) ?_
    rw [show vo.length.toInt32 = nI n by rw [hlo]; rfl]
    show px_Go _ _ (12, [(4, .int (nI c)), (3, .int (x_sum vo (x_bt s) c)), (0, .ref 8), (1, .long s)], [.int (nI n), .int (nI c)], hp) _
    refine px_b2 true 42 rfl rfl (decide_eq_true (nI_le (by omega) (by omega))) ?_
    show px_Go _ _ (42, [(4, .int (nI c)), (3, .int (x_sum vo (x_bt s) c)), (0, .ref 8), (1, .long s)], [], hp) _
    refine px_a 1 (f' := (43, [(4, .int (nI c)), (3, .int (x_sum vo (x_bt s) c)), (0, .ref 8), (1, .long s)], [.int (x_sum vo (x_bt s) c)], hp)) rfl ?_
    exact px_ri rfl rfl rfl
  | succ k ih =>
    intro c h1 h2
    obtain ⟨z, hz⟩ := hvo c (by omega)
    rcases Bool.eq_false_or_eq_true (x_bt s c) with hb | hb
    · have es : x_sum vo (x_bt s) c + z = x_sum vo (x_bt s) (c + 1) := x_sum_1 hb hz
      refine px_a 2 (f' := (8, [(4, .int (nI c)), (3, .int (x_sum vo (x_bt s) c)), (0, .ref 8), (1, .long s)], [.ref 8, .int (nI c)], hp)) rfl ?_
      refine px_gf 8 34 3 3 (.ref 28) rfl rfl hc rfl ?_
      show px_Go _ _ (11, [(4, .int (nI c)), (3, .int (x_sum vo (x_bt s) c)), (0, .ref 8), (1, .long s)], [.ref 28, .int (nI c)], hp) _
      refine px_len_ 28 rfl ha (by decide) (by decide) ?_
      rw [show vo.length.toInt32 = nI n by rw [hlo]; rfl]
      show px_Go _ _ (12, [(4, .int (nI c)), (3, .int (x_sum vo (x_bt s) c)), (0, .ref 8), (1, .long s)], [.int (nI n), .int (nI c)], hp) _
      refine px_b2 false 42 rfl rfl (decide_eq_false (nI_ge (by omega) (by omega))) ?_
      show px_Go _ _ (15, [(4, .int (nI c)), (3, .int (x_sum vo (x_bt s) c)), (0, .ref 8), (1, .long s)], [], hp) _
      refine px_a 7 (f' := (23, [(4, .int (nI c)), (3, .int (x_sum vo (x_bt s) c)), (0, .ref 8), (1, .long s)], [.int (lg_cmp ((s >>> (Int32.toInt64 (nI c) &&& 63)) &&& 1) 0)], hp)) rfl ?_
      refine px_b1 false 36 rfl rfl (decide_eq_false (fun z => by have := (x_bit (by omega) s).mp (x_cmp0.mp z); rw [hb] at this; cases this)) ?_
      show px_Go _ _ (26, [(4, .int (nI c)), (3, .int (x_sum vo (x_bt s) c)), (0, .ref 8), (1, .long s)], [], hp) _
      refine px_a 2 (f' := (28, [(4, .int (nI c)), (3, .int (x_sum vo (x_bt s) c)), (0, .ref 8), (1, .long s)], [.ref 8, .int (x_sum vo (x_bt s) c)], hp)) rfl ?_
      refine px_gf 8 34 3 3 (.ref 28) rfl rfl hc rfl ?_
      show px_Go _ _ (31, [(4, .int (nI c)), (3, .int (x_sum vo (x_bt s) c)), (0, .ref 8), (1, .long s)], [.ref 28, .int (x_sum vo (x_bt s) c)], hp) _
      refine px_a 1 (f' := (33, [(4, .int (nI c)), (3, .int (x_sum vo (x_bt s) c)), (0, .ref 8), (1, .long s)], [.int (nI c), .ref 28, .int (x_sum vo (x_bt s) c)], hp)) rfl ?_
      refine px_al 28 (.int z) rfl ha (Or.inl ⟨rfl, Or.inl rfl⟩) (nI_pos (by omega)) (by rw [nI_clamp (by omega)]; exact hz) ?_
      show px_Go _ _ (34, [(4, .int (nI c)), (3, .int (x_sum vo (x_bt s) c)), (0, .ref 8), (1, .long s)], [.int z, .int (x_sum vo (x_bt s) c)], hp) _
      refine px_a 4 (f' := (5, [(4, .int ((nI c) + 1)), (3, .int ((x_sum vo (x_bt s) c) + z)), (0, .ref 8), (1, .long s)], [], hp)) rfl ?_
      rw [nI_1, es]
      refine px_weak (l := [(4, .int (nI (c + 1))), (3, .int (x_sum vo (x_bt s) (c + 1))), (0, .ref 8), (1, .long s)]) ⟨rfl, rfl, rfl, rfl, trivial⟩ ?_
      exact ih (c + 1) (by omega) (by omega)
    · have es : x_sum vo (x_bt s) (c + 1) = x_sum vo (x_bt s) c := x_sum_0 hb
      refine px_a 2 (f' := (8, [(4, .int (nI c)), (3, .int (x_sum vo (x_bt s) c)), (0, .ref 8), (1, .long s)], [.ref 8, .int (nI c)], hp)) rfl ?_
      refine px_gf 8 34 3 3 (.ref 28) rfl rfl hc rfl ?_
      show px_Go _ _ (11, [(4, .int (nI c)), (3, .int (x_sum vo (x_bt s) c)), (0, .ref 8), (1, .long s)], [.ref 28, .int (nI c)], hp) _
      refine px_len_ 28 rfl ha (by decide) (by decide) ?_
      rw [show vo.length.toInt32 = nI n by rw [hlo]; rfl]
      show px_Go _ _ (12, [(4, .int (nI c)), (3, .int (x_sum vo (x_bt s) c)), (0, .ref 8), (1, .long s)], [.int (nI n), .int (nI c)], hp) _
      refine px_b2 false 42 rfl rfl (decide_eq_false (nI_ge (by omega) (by omega))) ?_
      show px_Go _ _ (15, [(4, .int (nI c)), (3, .int (x_sum vo (x_bt s) c)), (0, .ref 8), (1, .long s)], [], hp) _
      refine px_a 7 (f' := (23, [(4, .int (nI c)), (3, .int (x_sum vo (x_bt s) c)), (0, .ref 8), (1, .long s)], [.int (lg_cmp ((s >>> (Int32.toInt64 (nI c) &&& 63)) &&& 1) 0)], hp)) rfl ?_
      refine px_b1 true 36 rfl rfl (decide_eq_true (x_cmp0.mpr ((x_bit (by omega) s).mpr hb))) ?_
      show px_Go _ _ (36, [(4, .int (nI c)), (3, .int (x_sum vo (x_bt s) c)), (0, .ref 8), (1, .long s)], [], hp) _
      refine px_a 2 (f' := (5, [(4, .int ((nI c) + 1)), (3, .int (x_sum vo (x_bt s) c)), (0, .ref 8), (1, .long s)], [], hp)) rfl ?_
      rw [nI_1, ← es]
      refine px_weak (l := [(4, .int (nI (c + 1))), (3, .int (x_sum vo (x_bt s) (c + 1))), (0, .ref 8), (1, .long s)]) ⟨rfl, rfl, rfl, rfl, trivial⟩ ?_
      exact ih (c + 1) (by omega) (by omega)
theorem x_over {d : Nat} {n : Nat} {hp : px_H} {W V : Nat} {fc fd : Int32} {sh : Int64} {vo : List Value} {s : Int64} (n36 : n ≤ 36) (hc : hp[(8 : Nat)]? = some (3, [.int (nI W), .int (nI V), .ref 9, .ref 28, .ref 29, .ref 30, .ref (34 + n), .int fc, .long sh, .int fd])) (ha : hp[(28 : Nat)]? = some (10, vo)) (hlo : vo.length = n) (hvo : ∀ c, c < n → ∃ z : Int32, vo[c]? = some (.int z)) : px_Go d 55 (0, [(0, .ref 8), (1, .long s)], [], hp) (.inl (some (.int (x_sum vo (x_bt s) n))), hp) := by
  refine px_a 4 (f' := (5, [(4, .int 0), (3, .int 0), (0, .ref 8), (1, .long s)], [], hp)) rfl ?_
  exact x_over_l n36 hc ha hlo hvo n 0 (by omega) (by omega)
theorem x_sumC {d : Nat} {n : Nat} {hp : px_H} {W V : Nat} {fc fd : Int32} {sh : Int64} {vo : List Value} (n36 : n ≤ 36) (hc : hp[(8 : Nat)]? = some (3, [.int (nI W), .int (nI V), .ref 9, .ref 28, .ref 29, .ref 30, .ref (34 + n), .int fc, .long sh, .int fd])) (ha : hp[(28 : Nat)]? = some (10, vo)) (hlo : vo.length = n) (hvo : ∀ c, c < n → ∃ z : Int32, vo[c]? = some (.int z)) : px_Go (d + 1) 65 (0, [(0, .ref 8)], [], hp) (.inl (some (.int (x_sum vo (x_bt sh) n))), hp) := by
  refine px_a 2 (f' := (2, [(0, .ref 8)], [.ref 8, .ref 8], hp)) rfl ?_
  refine px_gf 8 64 3 8 (.long sh) rfl rfl hc rfl ?_
  show px_Go _ _ (5, [(0, .ref 8)], [.long sh, .ref 8], hp) _
  refine px_cv 8 (as := [.long sh]) (rest := []) rfl rfl hc rfl rfl rfl rfl (Nat.le_of_ble_eq_true rfl) (x_over (d := d) n36 hc ha hlo hvo) ?_
  show px_Go _ _ (8, [(0, .ref 8)], [.int (x_sum vo (x_bt sh) n)], hp) _
  exact px_ri rfl rfl rfl
set_option maxRecDepth 20000 in
set_option maxHeartbeats 4000000 in
theorem m_sumo_l {d n : Nat} {hp : px_H} {th w h pn pl fo le ru : Int32} {sh : Int64} {vsu vso vo : List Value} (hm : hp[38 + n]? = some (4, m_O n th w h pn pl fo le ru)) (H : pa_Hi n hp) (hn : (n : Int) = w.toInt * h.toInt) (hvu : hp[39 + n]? = some (12, vsu)) (hvo : hp[42 + n]? = some (10, vso)) (q1 : ∀ c, c < n → vsu[c]? = some (.int (if x_bt sh c = true then 1 else 0))) (q2 : ∀ c, c < n → vso[c]? = vo[c]?) : ∀ (k : Nat) (c y : Int32), y = x_sum vo (x_bt sh) c.toInt.toNat → c.toInt + k = n + 1 → 0 ≤ c.toInt → c.toInt ≤ n → px_Gx (d + 1) 96 (4, [(2, .int c), (1, .int y), (0, .ref (38 + n))], [], hp) (fun o hp' => o = .inl (some (.int (x_sum vo (x_bt sh) n))) ∧ hp' = hp) := by
  have cl0 : Int32.toInt 0 = 0 := rfl
  have cl1 : Int32.toInt 1 = 1 := rfl
  obtain ⟨bth1, bth2, bw1, bw2, bh1, bh2, bpn1, bpn2, bpl1, bpl2, bfo1, bfo2, ble1, ble2, bru1, bru2⟩ := pa_bnd H hm
  obtain ⟨vsq, hvq, hlu, hgu⟩ := pa_ara (a := 39 + n) (i := 7) (lo := 0) (hi := 1) H (by omega) (by decide) (by decide) rfl
  obtain rfl : vsu = vsq := by rw [hvu] at hvq; cases hvq; rfl
  obtain ⟨vsp, hvp, hlo, hgo⟩ := pa_ara (a := 42 + n) (i := 10) (lo := -2147483648) (hi := 2147483647) H (by omega) (by decide) (by decide) rfl
  obtain rfl : vso = vsp := by rw [hvo] at hvp; cases hvp; rfl
  have m36 := (m_mul6 bw1 bw2 bh1 bh2).2.2
  have m35 := (m_mul6 bw1 bw2 bh1 bh2).1
  intro k
  induction k with
  | zero =>
    intro c y hy g1 g2 g3
    omega
  | succ k ih =>
    intro c y hy g1 g2 g3
    refine px_gx (fun _ K => px_a 2 (f' := (6, [(2, .int c), (1, .int y), (0, .ref (38 + n))], [.ref (38 + n), .int c], hp)) rfl K) ?_
    refine px_gx (fun _ K => px_cv (38 + n) (as := []) (rest := [.int c]) rfl rfl hm rfl rfl rfl rfl (Nat.le_of_ble_eq_true rfl) (p_cells hm) K) ?_
    show px_Gx _ _ (9, [(2, .int c), (1, .int y), (0, .ref (38 + n))], [.int (w * h), .int c], hp) _
    obtain ⟨z520, ez520, fz520⟩ : ∃ qz : Int32, qz = w * h ∧ qz.toInt = w.toInt * h.toInt ∧ 1 ≤ qz.toInt ∧ qz.toInt ≤ 36 := ⟨_, rfl, m_mul6 (by omega) (by omega) (by omega) (by omega)⟩
    rw [← ez520]
    by_cases h521 : z520 ≤ c
    · have h521' := h521
      rw [Int32.le_iff_toInt_le] at h521'
      refine px_gx (fun _ K => px_b2 true 40 rfl rfl (decide_eq_true h521) K) ?_
      show px_Gx _ _ (40, [(2, .int c), (1, .int y), (0, .ref (38 + n))], [], hp) _
      refine px_gx (fun _ K => px_a 1 (f' := (41, [(2, .int c), (1, .int y), (0, .ref (38 + n))], [.int y], hp)) rfl K) ?_
      obtain rfl : n = c.toInt.toNat := by omega
      exact ⟨_, _, px_ri rfl rfl rfl, by rw [hy], rfl⟩
    · have h521' := h521
      rw [Int32.le_iff_toInt_le] at h521'
      refine px_gx (fun _ K => px_b2 false 40 rfl rfl (decide_eq_false h521) K) ?_
      show px_Gx _ _ (12, [(2, .int c), (1, .int y), (0, .ref (38 + n))], [], hp) _
      refine px_gx (fun _ K => px_a 2 (f' := (14, [(2, .int c), (1, .int y), (0, .ref (38 + n))], [.ref (38 + n), .int y], hp)) rfl K) ?_
      refine px_gx (fun _ K => px_gf (38 + n) 7 4 3 (.ref (39 + n)) rfl rfl hm rfl K) ?_
      show px_Gx _ _ (17, [(2, .int c), (1, .int y), (0, .ref (38 + n))], [.ref (39 + n), .int y], hp) _
      refine px_gx (fun _ K => px_a 1 (f' := (18, [(2, .int c), (1, .int y), (0, .ref (38 + n))], [.int c, .ref (39 + n), .int y], hp)) rfl K) ?_
      have hi522 : c.toNatClampNeg < vsu.length := by show (Int32.toInt c).toNat < _; omega
      obtain ⟨z522, ez522, lz522, uz522⟩ := hgu _ hi522
      refine px_gx (fun _ K => px_al (39 + n) (.int z522) rfl hvu (Or.inr (Or.inr (Or.inl ⟨rfl, rfl⟩))) (i32_nn (by omega)) ez522 K) ?_
      show px_Gx _ _ (19, [(2, .int c), (1, .int y), (0, .ref (38 + n))], [.int z522, .int y], hp) _
      by_cases h523 : z522 = 0
      · have h523' := h523
        replace h523' := congrArg Int32.toInt h523
        refine px_gx (fun _ K => px_b1 true 31 rfl rfl (decide_eq_true h523) K) ?_
        show px_Gx _ _ (31, [(2, .int c), (1, .int y), (0, .ref (38 + n))], [.int y], hp) _
        refine px_gx (fun _ K => px_a 2 (f' := (33, [(2, .int c), (1, .int y), (0, .ref (38 + n))], [.int (y + 0)], hp)) rfl K) ?_
        obtain ⟨z524, ez524, fz524⟩ : ∃ qz : Int32, qz = y + 0 ∧ True := ⟨_, rfl, trivial⟩
        rw [← ez524]
        refine px_gx (fun _ K => px_a 2 (f' := (37, [(2, .int (c + 1)), (1, .int z524), (0, .ref (38 + n))], [], hp)) rfl K) ?_
        obtain ⟨z525, ez525, fz525⟩ : ∃ qz : Int32, qz = c + 1 ∧ qz.toInt = Int32.toInt c + Int32.toInt 1 := ⟨_, rfl, i32_add (by omega) (by omega)⟩
        rw [← ez525]
        refine px_gx (fun _ K => px_a 1 (f' := (4, [(2, .int z525), (1, .int z524), (0, .ref (38 + n))], [], hp)) rfl K) ?_
        have hb : x_bt sh c.toInt.toNat = false := by
          have e := q1 c.toInt.toNat (by omega)
          rw [show c.toInt.toNat = c.toNatClampNeg from rfl, ez522, h523] at e
          cases hx : x_bt sh c.toInt.toNat
          · rfl
          · rw [show c.toInt.toNat = c.toNatClampNeg from rfl] at hx; rw [hx] at e; cases e
        exact ih z525 z524 (by rw [ez524, hy, show (z525).toInt.toNat = c.toInt.toNat + 1 by omega, x_sum_0 hb, Int32.add_zero]) (by omega) (by omega) (by omega)
      · have h523' := h523
        have h523'' : Int32.toInt z522 ≠ Int32.toInt 0 := fun z => h523 (Int32.toInt_inj.mp z)
        refine px_gx (fun _ K => px_b1 false 31 rfl rfl (decide_eq_false h523) K) ?_
        show px_Gx _ _ (22, [(2, .int c), (1, .int y), (0, .ref (38 + n))], [.int y], hp) _
        refine px_gx (fun _ K => px_a 1 (f' := (23, [(2, .int c), (1, .int y), (0, .ref (38 + n))], [.ref (38 + n), .int y], hp)) rfl K) ?_
        refine px_gx (fun _ K => px_gf (38 + n) 20 4 7 (.ref (42 + n)) rfl rfl hm rfl K) ?_
        show px_Gx _ _ (26, [(2, .int c), (1, .int y), (0, .ref (38 + n))], [.ref (42 + n), .int y], hp) _
        refine px_gx (fun _ K => px_a 1 (f' := (27, [(2, .int c), (1, .int y), (0, .ref (38 + n))], [.int c, .ref (42 + n), .int y], hp)) rfl K) ?_
        have hi526 : c.toNatClampNeg < vso.length := by show (Int32.toInt c).toNat < _; omega
        obtain ⟨z526, ez526, lz526, uz526⟩ := hgo _ hi526
        refine px_gx (fun _ K => px_al (42 + n) (.int z526) rfl hvo (Or.inl ⟨rfl, Or.inl rfl⟩) (i32_nn (by omega)) ez526 K) ?_
        show px_Gx _ _ (28, [(2, .int c), (1, .int y), (0, .ref (38 + n))], [.int z526, .int y], hp) _
        refine px_gx (fun _ K => px_a 2 (f' := (33, [(2, .int c), (1, .int y), (0, .ref (38 + n))], [.int (y + z526)], hp)) rfl K) ?_
        obtain ⟨z527, ez527, fz527⟩ : ∃ qz : Int32, qz = y + z526 ∧ True := ⟨_, rfl, trivial⟩
        rw [← ez527]
        refine px_gx (fun _ K => px_a 2 (f' := (37, [(2, .int (c + 1)), (1, .int z527), (0, .ref (38 + n))], [], hp)) rfl K) ?_
        obtain ⟨z528, ez528, fz528⟩ : ∃ qz : Int32, qz = c + 1 ∧ qz.toInt = Int32.toInt c + Int32.toInt 1 := ⟨_, rfl, i32_add (by omega) (by omega)⟩
        rw [← ez528]
        refine px_gx (fun _ K => px_a 1 (f' := (4, [(2, .int z528), (1, .int z527), (0, .ref (38 + n))], [], hp)) rfl K) ?_
        have hb : x_bt sh c.toInt.toNat = true := by
          have e := q1 c.toInt.toNat (by omega)
          rw [show c.toInt.toNat = c.toNatClampNeg from rfl, ez522] at e
          cases hx : x_bt sh c.toInt.toNat
          · rw [show c.toInt.toNat = c.toNatClampNeg from rfl] at hx; rw [hx] at e; cases e; exact absurd rfl h523
          · rfl
        exact ih z528 z527 (by rw [ez527, hy, show (z528).toInt.toNat = c.toInt.toNat + 1 by omega]; exact x_sum_1 hb (by rw [← q2 c.toInt.toNat (by omega)]; exact ez526)) (by omega) (by omega) (by omega)
theorem px_so0 {d m : Nat} {hp : px_H} {r : px_E} (K : px_Go d 96 (4, [(2, .int 0), (1, .int 0), (0, .ref m)], [], hp) r) : px_Go d 96 (0, [(0, .ref m)], [], hp) r := by
  refine px_a 4 (f' := (4, [(2, .int 0), (1, .int 0), (0, .ref m)], [], hp)) rfl ?_
  exact px_weak (l := [(2, .int 0), (1, .int 0), (0, .ref m)]) ⟨rfl, rfl, rfl, trivial⟩ K
set_option maxRecDepth 20000 in
set_option maxHeartbeats 4000000 in
theorem m_sumM {d n : Nat} {hp : px_H} {th w h pn pl fo le ru : Int32} {sh : Int64} {vsu vso vo : List Value} (hm : hp[38 + n]? = some (4, m_O n th w h pn pl fo le ru)) (H : pa_Hi n hp) (hn : (n : Int) = w.toInt * h.toInt) (hvu : hp[39 + n]? = some (12, vsu)) (hvo : hp[42 + n]? = some (10, vso)) (q1 : ∀ c, c < n → vsu[c]? = some (.int (if x_bt sh c = true then 1 else 0))) (q2 : ∀ c, c < n → vso[c]? = vo[c]?) : px_Gx (d + 2) 95 (0, [(0, .ref (38 + n))], [], hp) (fun o _ => o = .inl (some (.int (x_sum vo (x_bt sh) n)))) := by
  have cl0 : Int32.toInt 0 = 0 := rfl
  obtain ⟨bth1, bth2, bw1, bw2, bh1, bh2, bpn1, bpn2, bpl1, bpl2, bfo1, bfo2, ble1, ble2, bru1, bru2⟩ := pa_bnd H hm
  obtain ⟨vsq, hvq, hlu, hgu⟩ := pa_ara (a := 39 + n) (i := 7) (lo := 0) (hi := 1) H (by omega) (by decide) (by decide) rfl
  obtain rfl : vsu = vsq := by rw [hvu] at hvq; cases hvq; rfl
  obtain ⟨vsp, hvp, hlo, hgo⟩ := pa_ara (a := 42 + n) (i := 10) (lo := -2147483648) (hi := 2147483647) H (by omega) (by decide) (by decide) rfl
  obtain rfl : vso = vsp := by rw [hvo] at hvp; cases hvp; rfl
  have m36 := (m_mul6 bw1 bw2 bh1 bh2).2.2
  have m35 := (m_mul6 bw1 bw2 bh1 bh2).1
  have F : pa_Fr n [(24, 0)] hp hp := pa_Fr.refl _
  have L : hp.length = hp.length := rfl
  refine px_gx (fun _ K => px_a 2 (f' := (2, [(0, .ref (38 + n))], [.int 0, .ref (38 + n)], hp)) rfl K) ?_
  refine px_gx (fun _ K => px_pf (38 + n) 58 4 0 rfl rfl hm (by omega) (Nat.le_of_ble_eq_true rfl) (rfl) rfl (by decide) K) ?_
  show px_Gx _ _ (5, [(0, .ref (38 + n))], [], hp.set (38 + n) (4, (m_O n 0 w h pn pl fo le ru))) _
  have hm529 : (hp.set (38 + n) (4, (m_O n 0 w h pn pl fo le ru)))[38 + n]? = some (4, (m_O n 0 w h pn pl fo le ru)) := px_self hm
  have H529 : pa_Hi n (hp.set (38 + n) (4, (m_O n 0 w h pn pl fo le ru))) := pa_ms (k := 0) (v := .int 0) H hm rfl (pa_in (by omega) (by omega))
  have F529 : pa_Fr n [(24, 0)] hp (hp.set (38 + n) (4, (m_O n 0 w h pn pl fo le ru))) := F.trans (pa_mf (k := 0) (v := .int 0) hm (by decide) (by decide))
  have L529 : (hp.set (38 + n) (4, (m_O n 0 w h pn pl fo le ru))).length = hp.length := List.length_set.trans L
  have hvu_529 : (hp.set (38 + n) (4, (m_O n 0 w h pn pl fo le ru)))[39 + n]? = some (12, vsu) := px_ne hvu (by omega)
  have hvo_529 : (hp.set (38 + n) (4, (m_O n 0 w h pn pl fo le ru)))[42 + n]? = some (10, vso) := px_ne hvo (by omega)
  generalize hp.set (38 + n) (4, (m_O n 0 w h pn pl fo le ru)) = hp529 at hm529 H529 F529 L529 hvu_529 hvo_529 ⊢
  refine px_gx (fun _ K => px_a 1 (f' := (6, [(0, .ref (38 + n))], [.ref (38 + n)], hp529)) rfl K) ?_
  have H2 := H
  obtain ⟨o530, hq530, g530, rfl, eh530⟩ := m_sumo_l (d := d) (vo := vo) hm529 H529 hn hvu_529 hvo_529 q1 q2 (n + 1) 0 0 rfl (by omega) (by omega) (by omega)
  rw [eh530] at g530
  refine px_gx (fun _ K => px_cv (38 + n) (as := []) (rest := []) rfl rfl hm529 rfl rfl rfl rfl (Nat.le_of_ble_eq_true rfl) (px_so0 g530) K) ?_
  show px_Gx _ _ (9, [(0, .ref (38 + n))], [.int (x_sum vo (x_bt sh) n)], hp529) _
  exact ⟨_, _, px_ri rfl rfl rfl, rfl⟩
