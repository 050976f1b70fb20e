set_option maxRecDepth 20000 in
set_option maxHeartbeats 4000000 in
theorem m_sumo_l {d n : Nat} {hp : px_H} {th w h pn pl fo le ru : Int32} {sh : Int64} {vsu vso vo : List Value} (hm : hp[38 + n]? = some (4, m_O n th w h pn pl fo le ru)) (H : pa_Hi n hp) (hn : (n : Int) = w.toInt * h.toInt) (hvu : hp[39 + n]? = some (12, vsu)) (hvo : hp[42 + n]? = some (10, vso)) (q1 : ∀ c, c < n → vsu[c]? = some (.int (if x_bt sh c = true then 1 else 0))) (q2 : ∀ c, c < n → vso[c]? = vo[c]?) : ∀ (k : Nat) (c y : Int32), y = x_sum vo (x_bt sh) c.toInt.toNat → c.toInt + k = n + 1 → 0 ≤ c.toInt → c.toInt ≤ n → px_Gx (d + 1) 96 (4, [(2, .int c), (1, .int y), (0, .ref (38 + n))], [], hp) (fun o hp' => o = .inl (some (.int (x_sum vo (x_bt sh) n))) ∧ hp' = hp) := by
  have cl0 : Int32.toInt 0 = 0 := rfl
  have cl1 : Int32.toInt 1 = 1 := rfl
  obtain ⟨bth1, bth2, bw1, bw2, bh1, bh2, bpn1, bpn2, bpl1, bpl2, bfo1, bfo2, ble1, ble2, bru1, bru2⟩ := pa_bnd H hm
  obtain ⟨vsq, hvq, hlu, hgu⟩ := pa_ara (a := 39 + n) (i := 7) (lo := 0) (hi := 1) H (by omega) (by decide) (by decide) rfl
  obtain rfl : vsu = vsq := by rw [hvu] at hvq; cases hvq; rfl
  obtain ⟨vsp, hvp, hlo, hgo⟩ := pa_ara (a := 42 + n) (i := 10) (lo := -2147483648) (hi := 2147483647) H (by omega) (by decide) (by decide) rfl
  obtain rfl : vso = vsp := by rw [hvo] at hvp; cases hvp; rfl
  have m36 := (m_mul6 bw1 bw2 bh1 bh2).2.2
  have m35 := (m_mul6 bw1 bw2 bh1 bh2).1
  intro k
  induction k with
  | zero =>
    intro c y hy g1 g2 g3
    omega
  | succ k ih =>
    intro c y hy g1 g2 g3
    refine px_gx (fun _ K9 => px_a 2 (f' := (6, [(2, .int c), (1, .int y), (0, .ref (38 + n))], [.ref (38 + n), .int c], hp)) rfl K9) ?_
    refine px_gx (fun _ K9 => px_cv (38 + n) (as := []) (rest := [.int c]) rfl rfl hm rfl rfl rfl rfl (Nat.le_of_ble_eq_true rfl) (p_cells hm) K9) ?_
    show px_Gx _ _ (9, [(2, .int c), (1, .int y), (0, .ref (38 + n))], [.int (w * h), .int c], hp) _
    obtain ⟨z642, ez642, fz642⟩ : ∃ qz : Int32, qz = w * h ∧ qz.toInt = w.toInt * h.toInt ∧ 1 ≤ qz.toInt ∧ qz.toInt ≤ 36 := ⟨_, rfl, m_mul6 (by omega) (by omega) (by omega) (by omega)⟩
    rw [← ez642]
    by_cases h643 : z642 ≤ c
    · have h643' := h643
      rw [Int32.le_iff_toInt_le] at h643'
      refine px_gx (fun _ K9 => px_b2 true 40 rfl rfl (decide_eq_true h643) K9) ?_
      show px_Gx _ _ (40, [(2, .int c), (1, .int y), (0, .ref (38 + n))], [], hp) _
      refine px_gx (fun _ K9 => px_a 1 (f' := (41, [(2, .int c), (1, .int y), (0, .ref (38 + n))], [.int y], hp)) rfl K9) ?_
      obtain rfl : n = c.toInt.toNat := by omega
      exact ⟨_, _, px_ri rfl rfl rfl, by rw [hy], rfl⟩
    · have h643' := h643
      rw [Int32.le_iff_toInt_le] at h643'
      refine px_gx (fun _ K9 => px_b2 false 40 rfl rfl (decide_eq_false h643) K9) ?_
      show px_Gx _ _ (12, [(2, .int c), (1, .int y), (0, .ref (38 + n))], [], hp) _
      refine px_gx (fun _ K9 => px_a 2 (f' := (14, [(2, .int c), (1, .int y), (0, .ref (38 + n))], [.ref (38 + n), .int y], hp)) rfl K9) ?_
      refine px_gx (fun _ K9 => px_gf (38 + n) 7 4 3 (.ref (39 + n)) rfl rfl hm rfl K9) ?_
      show px_Gx _ _ (17, [(2, .int c), (1, .int y), (0, .ref (38 + n))], [.ref (39 + n), .int y], hp) _
      refine px_gx (fun _ K9 => px_a 1 (f' := (18, [(2, .int c), (1, .int y), (0, .ref (38 + n))], [.int c, .ref (39 + n), .int y], hp)) rfl K9) ?_
      have hi644 : c.toNatClampNeg < vsu.length := by show (Int32.toInt c).toNat < _; omega
      obtain ⟨z644, ez644, lz644, uz644⟩ := hgu _ hi644
      refine px_gx (fun _ K9 => px_al (39 + n) (.int z644) rfl hvu (Or.inr (Or.inr (Or.inl ⟨rfl, rfl⟩))) (i32_nn (by omega)) ez644 K9) ?_
      show px_Gx _ _ (19, [(2, .int c), (1, .int y), (0, .ref (38 + n))], [.int z644, .int y], hp) _
      by_cases h645 : z644 = 0
      · have h645' := h645
        replace h645' := congrArg Int32.toInt h645
        refine px_gx (fun _ K9 => px_b1 true 31 rfl rfl (decide_eq_true h645) K9) ?_
        show px_Gx _ _ (31, [(2, .int c), (1, .int y), (0, .ref (38 + n))], [.int y], hp) _
        refine px_gx (fun _ K9 => px_a 2 (f' := (33, [(2, .int c), (1, .int y), (0, .ref (38 + n))], [.int (y + 0)], hp)) rfl K9) ?_
        obtain ⟨z646, ez646, fz646⟩ : ∃ qz : Int32, qz = y + 0 ∧ True := ⟨_, rfl, trivial⟩
        rw [← ez646]
        refine px_gx (fun _ K9 => px_a 2 (f' := (37, [(2, .int (c + 1)), (1, .int z646), (0, .ref (38 + n))], [], hp)) rfl K9) ?_
        obtain ⟨z647, ez647, fz647⟩ : ∃ qz : Int32, qz = c + 1 ∧ qz.toInt = Int32.toInt c + Int32.toInt 1 := ⟨_, rfl, i32_add (by omega) (by omega)⟩
        rw [← ez647]
        refine px_gx (fun _ K9 => px_a 1 (f' := (4, [(2, .int z647), (1, .int z646), (0, .ref (38 + n))], [], hp)) rfl K9) ?_
        have hb : x_bt sh c.toInt.toNat = false := by
          have e := q1 c.toInt.toNat (by omega)
          rw [show c.toInt.toNat = c.toNatClampNeg from rfl, ez644, h645] at e
          cases hx : x_bt sh c.toInt.toNat
          · rfl
          · rw [show c.toInt.toNat = c.toNatClampNeg from rfl] at hx; rw [hx] at e; cases e
        exact ih z647 z646 (by rw [ez646, hy, show (z647).toInt.toNat = c.toInt.toNat + 1 by omega, x_sum_0 hb, Int32.add_zero]) (by omega) (by omega) (by omega)
      · have h645' := h645
        have h645'' : Int32.toInt z644 ≠ Int32.toInt 0 := fun z => h645 (Int32.toInt_inj.mp z)
        refine px_gx (fun _ K9 => px_b1 false 31 rfl rfl (decide_eq_false h645) K9) ?_
        show px_Gx _ _ (22, [(2, .int c), (1, .int y), (0, .ref (38 + n))], [.int y], hp) _
        refine px_gx (fun _ K9 => px_a 1 (f' := (23, [(2, .int c), (1, .int y), (0, .ref (38 + n))], [.ref (38 + n), .int y], hp)) rfl K9) ?_
        refine px_gx (fun _ K9 => px_gf (38 + n) 20 4 7 (.ref (42 + n)) rfl rfl hm rfl K9) ?_
        show px_Gx _ _ (26, [(2, .int c), (1, .int y), (0, .ref (38 + n))], [.ref (42 + n), .int y], hp) _
        refine px_gx (fun _ K9 => px_a 1 (f' := (27, [(2, .int c), (1, .int y), (0, .ref (38 + n))], [.int c, .ref (42 + n), .int y], hp)) rfl K9) ?_
        have hi648 : c.toNatClampNeg < vso.length := by show (Int32.toInt c).toNat < _; omega
        obtain ⟨z648, ez648, lz648, uz648⟩ := hgo _ hi648
        refine px_gx (fun _ K9 => px_al (42 + n) (.int z648) rfl hvo (Or.inl ⟨rfl, Or.inl rfl⟩) (i32_nn (by omega)) ez648 K9) ?_
        show px_Gx _ _ (28, [(2, .int c), (1, .int y), (0, .ref (38 + n))], [.int z648, .int y], hp) _
        refine px_gx (fun _ K9 => px_a 2 (f' := (33, [(2, .int c), (1, .int y), (0, .ref (38 + n))], [.int (y + z648)], hp)) rfl K9) ?_
        obtain ⟨z649, ez649, fz649⟩ : ∃ qz : Int32, qz = y + z648 ∧ True := ⟨_, rfl, trivial⟩
        rw [← ez649]
        refine px_gx (fun _ K9 => px_a 2 (f' := (37, [(2, .int (c + 1)), (1, .int z649), (0, .ref (38 + n))], [], hp)) rfl K9) ?_
        obtain ⟨z650, ez650, fz650⟩ : ∃ qz : Int32, qz = c + 1 ∧ qz.toInt = Int32.toInt c + Int32.toInt 1 := ⟨_, rfl, i32_add (by omega) (by omega)⟩
        rw [← ez650]
        refine px_gx (fun _ K9 => px_a 1 (f' := (4, [(2, .int z650), (1, .int z649), (0, .ref (38 + n))], [], hp)) rfl K9) ?_
        have hb : x_bt sh c.toInt.toNat = true := by
          have e := q1 c.toInt.toNat (by omega)
          rw [show c.toInt.toNat = c.toNatClampNeg from rfl, ez644] at e
          cases hx : x_bt sh c.toInt.toNat
          · rw [show c.toInt.toNat = c.toNatClampNeg from rfl] at hx; rw [hx] at e; cases e; exact absurd rfl h645
          · rfl
        exact ih z650 z649 (by rw [ez649, hy, show (z650).toInt.toNat = c.toInt.toNat + 1 by omega]; exact x_sum_1 hb (by rw [← q2 c.toInt.toNat (by omega)]; exact ez648)) (by omega) (by omega) (by omega)
theorem px_so0 {d m : Nat} {hp : px_H} {r : px_E} (K : px_Go d 96 (4, [(2, .int 0), (1, .int 0), (0, .ref m)], [], hp) r) : px_Go d 96 (0, [(0, .ref m)], [], hp) r := by
  refine px_a 4 (f' := (4, [(2, .int 0), (1, .int 0), (0, .ref m)], [], hp)) rfl ?_
  exact px_weak (l := [(2, .int 0), (1, .int 0), (0, .ref m)]) ⟨rfl, rfl, rfl, trivial⟩ K
def p_pv (vo : List Value) (n : Nat) (m : Int32) (sh : Int64) (T : Nat) : Int32 := if x_sum vo (x_bt sh) n - x_sum vo (x_bt sh) n / m * m = 0 then 0 else (if nI T = 0 then 1 else 0)
theorem m_sumo {d n W V : Nat} {hp : px_H} {th w h pn pl fo le ru : Int32} {sh : Int64} {vsu vso vo : List Value} (hW : W ≤ 6) (hV : V ≤ 6) (hnn : n = W * V) (ew2 : w = nI W) (eh2 : h = nI V) (hm : hp[38 + n]? = some (4, m_O n th w h pn pl fo le ru)) (H : pa_Hi n hp) (hvu : hp[39 + n]? = some (12, vsu)) (hvo : hp[42 + n]? = some (10, vso)) (q1 : ∀ c, c < n → vsu[c]? = some (.int (if x_bt sh c = true then 1 else 0))) (q2 : ∀ c, c < n → vso[c]? = vo[c]?) : px_Go (d + 1) 96 (0, [(0, .ref (38 + n))], [], hp) (.inl (some (.int (x_sum vo (x_bt sh) n))), hp) := by
  have hn : (n : Int) = w.toInt * h.toInt := by
    rw [ew2, eh2, nI_toInt (by omega), nI_toInt (by omega), hnn, Int.natCast_mul]
  obtain ⟨o, hq, g, rfl, eh⟩ := m_sumo_l (d := d) (vo := vo) hm H hn hvu hvo q1 q2 (n + 1) 0 0 rfl (by show (0 : Int) + _ = _; omega) (by show (0 : Int) ≤ 0; omega) (by show (0 : Int) ≤ _; omega)
  rw [eh] at g
  exact px_so0 g
set_option maxRecDepth 20000 in
theorem x_prvX {d n : Nat} (hN : pa_N n) {W V pc : Nat} {fd : Int32} {sh : Int64} {m : Int32} (pc6 : pc ≤ 6) (hW : W ≤ 6) (hV : V ≤ 6) {hp : px_H} (H : pa_Hi n hp) (hc : hp[(8 : Nat)]? = some (3, [.int (nI W), .int (nI V), .ref 9, .ref 28, .ref 29, .ref 30, .ref (34 + n), .int (nI pc), .long sh, .int fd])) (h9 : hp[(9 : Nat)]? = some (13, q_forms)) (R : r_fm hp W V) {vo : List Value} (n36 : n ≤ 36) (hlo : vo.length = n) (hvo : ∀ c, c < n → ∃ z : Int32, vo[c]? = some (.int z)) {Nq : Nat → Nat} (hNq6 : ∀ q, q < 6 → Nq q < 65536) (ha : hp[(28 : Nat)]? = some (10, vo)) (hNq : ∀ q, q < 6 → pa_fd hp (10 + 3 * q) 4 = some (.int (nI (Nq q)))) (hm : ¬ m < 2) : px_Gx (d + 6) 59 (0, [(0, .ref 8), (1, .int m)], [], hp) (fun o _ => ∃ T, p_Tot vo n m (fun q => pl_D W V (f_wl (Nq q)) sh) pc T ∧ o = .inl (some (.int (p_pv vo n m sh T)))) := by
  obtain ⟨o3, hp3, g3, -, T, hT, e3⟩ := x_badX (d := d) (m := m) hN pc6 hW hV H hc h9 R n36 hlo hvo hNq6 ha hNq hm
  subst e3
  by_cases hz : x_sum vo (x_bt sh) n - x_sum vo (x_bt sh) n / m * m = 0
  · 
    refine px_gx (fun _ K9 => px_a 2 (f' := (2, [(0, .ref 8), (1, .int m)], [.int 2, .int m], hp)) rfl K9) ?_
    refine px_gx (fun _ K9 => px_b2 true 7 rfl rfl (decide_eq_true (Int32.not_lt.mp hm)) K9) ?_
    show px_Gx _ _ (7, [(0, .ref 8), (1, .int m)], [], hp) _
    refine px_gx (fun _ K9 => px_a 2 (f' := (9, [(0, .ref 8), (1, .int m)], [.ref 8, .ref 8], hp)) rfl K9) ?_
    refine px_gx (fun _ K9 => px_gf 8 64 3 8 (.long sh) rfl rfl hc rfl K9) ?_
    show px_Gx _ _ (12, [(0, .ref 8), (1, .int m)], [.long sh, .ref 8], hp) _
    refine px_gx (fun _ K9 => px_cv 8 (as := [.long sh]) (rest := []) rfl rfl hc rfl rfl rfl rfl (Nat.le_of_ble_eq_true rfl) (x_over (d := d + 5) (s := sh) n36 hc ha hlo hvo) K9) ?_
    show px_Gx _ _ (15, [(0, .ref 8), (1, .int m)], [.int (x_sum vo (x_bt sh) n)], hp) _
    refine px_gx (fun _ K9 => px_a 1 (f' := (16, [(0, .ref 8), (1, .int m)], [.int m, .int (x_sum vo (x_bt sh) n)], hp)) rfl K9) ?_
    refine px_gx (fun _ K9 => px_irem rfl (p_m0 hm) K9) ?_
    refine px_gx (fun _ K9 => px_b1 true 32 rfl rfl (decide_eq_true hz) K9) ?_
    show px_Gx _ _ (32, [(0, .ref 8), (1, .int m)], [], hp) _
    refine px_gx (fun _ K9 => px_a 1 (f' := (33, [(0, .ref 8), (1, .int m)], [.int 0], hp)) rfl K9) ?_
    exact ⟨_, _, px_ri rfl rfl rfl, T, hT, by unfold p_pv; rw [if_pos hz]⟩
  by_cases hz3 : nI T = 0
  · 
    refine px_gx (fun _ K9 => px_a 2 (f' := (2, [(0, .ref 8), (1, .int m)], [.int 2, .int m], hp)) rfl K9) ?_
    refine px_gx (fun _ K9 => px_b2 true 7 rfl rfl (decide_eq_true (Int32.not_lt.mp hm)) K9) ?_
    show px_Gx _ _ (7, [(0, .ref 8), (1, .int m)], [], hp) _
    refine px_gx (fun _ K9 => px_a 2 (f' := (9, [(0, .ref 8), (1, .int m)], [.ref 8, .ref 8], hp)) rfl K9) ?_
    refine px_gx (fun _ K9 => px_gf 8 64 3 8 (.long sh) rfl rfl hc rfl K9) ?_
    show px_Gx _ _ (12, [(0, .ref 8), (1, .int m)], [.long sh, .ref 8], hp) _
    refine px_gx (fun _ K9 => px_cv 8 (as := [.long sh]) (rest := []) rfl rfl hc rfl rfl rfl rfl (Nat.le_of_ble_eq_true rfl) (x_over (d := d + 5) (s := sh) n36 hc ha hlo hvo) K9) ?_
    show px_Gx _ _ (15, [(0, .ref 8), (1, .int m)], [.int (x_sum vo (x_bt sh) n)], hp) _
    refine px_gx (fun _ K9 => px_a 1 (f' := (16, [(0, .ref 8), (1, .int m)], [.int m, .int (x_sum vo (x_bt sh) n)], hp)) rfl K9) ?_
    refine px_gx (fun _ K9 => px_irem rfl (p_m0 hm) K9) ?_
    refine px_gx (fun _ K9 => px_b1 false 32 rfl rfl (decide_eq_false hz) K9) ?_
    show px_Gx _ _ (20, [(0, .ref 8), (1, .int m)], [], hp) _
    refine px_gx (fun _ K9 => px_a 2 (f' := (22, [(0, .ref 8), (1, .int m)], [.int m, .ref 8], hp)) rfl K9) ?_
    refine px_gx (fun _ K9 => px_cv 8 (as := [.int m]) (rest := []) rfl rfl hc rfl rfl rfl rfl (Nat.le_of_ble_eq_true rfl) (g3) K9) ?_
    show px_Gx _ _ (25, [(0, .ref 8), (1, .int m)], [.int (nI T)], hp3) _
    refine px_gx (fun _ K9 => px_b1 false 32 rfl rfl (decide_eq_false (not_not_intro hz3)) K9) ?_
    show px_Gx _ _ (28, [(0, .ref 8), (1, .int m)], [], hp3) _
    refine px_gx (fun _ K9 => px_a 2 (f' := (33, [(0, .ref 8), (1, .int m)], [.int 1], hp3)) rfl K9) ?_
    exact ⟨_, _, px_ri rfl rfl rfl, T, hT, by unfold p_pv; rw [if_neg hz, if_pos hz3]⟩
  · 
    refine px_gx (fun _ K9 => px_a 2 (f' := (2, [(0, .ref 8), (1, .int m)], [.int 2, .int m], hp)) rfl K9) ?_
    refine px_gx (fun _ K9 => px_b2 true 7 rfl rfl (decide_eq_true (Int32.not_lt.mp hm)) K9) ?_
    show px_Gx _ _ (7, [(0, .ref 8), (1, .int m)], [], hp) _
    refine px_gx (fun _ K9 => px_a 2 (f' := (9, [(0, .ref 8), (1, .int m)], [.ref 8, .ref 8], hp)) rfl K9) ?_
    refine px_gx (fun _ K9 => px_gf 8 64 3 8 (.long sh) rfl rfl hc rfl K9) ?_
    show px_Gx _ _ (12, [(0, .ref 8), (1, .int m)], [.long sh, .ref 8], hp) _
    refine px_gx (fun _ K9 => px_cv 8 (as := [.long sh]) (rest := []) rfl rfl hc rfl rfl rfl rfl (Nat.le_of_ble_eq_true rfl) (x_over (d := d + 5) (s := sh) n36 hc ha hlo hvo) K9) ?_
    show px_Gx _ _ (15, [(0, .ref 8), (1, .int m)], [.int (x_sum vo (x_bt sh) n)], hp) _
    refine px_gx (fun _ K9 => px_a 1 (f' := (16, [(0, .ref 8), (1, .int m)], [.int m, .int (x_sum vo (x_bt sh) n)], hp)) rfl K9) ?_
    refine px_gx (fun _ K9 => px_irem rfl (p_m0 hm) K9) ?_
    refine px_gx (fun _ K9 => px_b1 false 32 rfl rfl (decide_eq_false hz) K9) ?_
    show px_Gx _ _ (20, [(0, .ref 8), (1, .int m)], [], hp) _
    refine px_gx (fun _ K9 => px_a 2 (f' := (22, [(0, .ref 8), (1, .int m)], [.int m, .ref 8], hp)) rfl K9) ?_
    refine px_gx (fun _ K9 => px_cv 8 (as := [.int m]) (rest := []) rfl rfl hc rfl rfl rfl rfl (Nat.le_of_ble_eq_true rfl) (g3) K9) ?_
    show px_Gx _ _ (25, [(0, .ref 8), (1, .int m)], [.int (nI T)], hp3) _
    refine px_gx (fun _ K9 => px_b1 true 32 rfl rfl (decide_eq_true hz3) K9) ?_
    show px_Gx _ _ (32, [(0, .ref 8), (1, .int m)], [], hp3) _
    refine px_gx (fun _ K9 => px_a 1 (f' := (33, [(0, .ref 8), (1, .int m)], [.int 0], hp3)) rfl K9) ?_
    exact ⟨_, _, px_ri rfl rfl rfl, T, hT, by unfold p_pv; rw [if_neg hz, if_neg hz3]⟩
theorem x_prvI {d : Nat} {hp : px_H} {m : Int32} (hm : m < 2) : px_Gx d 59 (0, [(0, .ref 8), (1, .int m)], [], hp) (fun o hp' => hp' = hp ∧ o = .inl (some (.int 0))) := by
  refine px_gx (fun _ K9 => px_a 2 (f' := (2, [(0, .ref 8), (1, .int m)], [.int 2, .int m], hp)) rfl K9) ?_
  refine px_gx (fun _ K9 => px_b2 false 7 rfl rfl (decide_eq_false (Int32.not_le.mpr hm)) K9) ?_
  show px_Gx _ _ (5, [(0, .ref 8), (1, .int m)], [], hp) _
  refine px_gx (fun _ K9 => px_a 1 (f' := (6, [(0, .ref 8), (1, .int m)], [.int 0], hp)) rfl K9) ?_
  exact ⟨_, _, px_ri rfl rfl rfl, rfl, rfl⟩
theorem p_l1 {m : Int32} (h : m ≤ 1) : m < 2 := by
  rw [Int32.le_iff_toInt_le] at h
  rw [Int32.lt_iff_toInt_lt]
  have e1 : (1 : Int32).toInt = 1 := rfl
  have e2 : (2 : Int32).toInt = 2 := rfl
  omega
theorem p_l2 {m : Int32} (h : m < 2) : m ≤ 1 := by
  rw [Int32.lt_iff_toInt_lt] at h
  rw [Int32.le_iff_toInt_le]
  have e1 : (1 : Int32).toInt = 1 := rfl
  have e2 : (2 : Int32).toInt = 2 := rfl
  omega
set_option maxRecDepth 20000 in
theorem m_prvX {d n W V pc : Nat} (hN : pa_N n) {th w h fo le ru m : Int32} {sh : Int64} {vsu vsz vsq uo : List Value} {lq : Nat → List Nat} (hW : W ≤ 6) (hV : V ≤ 6) (hnn : n = W * V) (ew2 : w = nI W) (eh2 : h = nI V) (pc6 : pc ≤ 6) (hm2 : ¬ m < 2) (q1 : ∀ c, c < n → vsu[c]? = some (.int (if x_bt sh c = true then 1 else 0))) (huz : ∀ c, c < n → ∃ z : Int32, uo[c]? = some (.int z)) (hsq : ∀ k, k < pc → vsz[k]? = some (.int (nI (lq k).length)) ∧ (lq k).length ≤ 6 ∧ ∀ (j q : Nat), (lq k)[j]? = some q → vsq[6 * k + j]? = some (.int (nI q)) ∧ q < 16) {hp : px_H} {pl : Int32} (H : pa_Hi n hp) (hm : hp[38 + n]? = some (4, m_O n th w h (nI pc) pl fo le ru)) (hvu0 : hp[39 + n]? = some (12, vsu)) (hvz0 : hp[40 + n]? = some (10, vsz)) (hvq0 : hp[41 + n]? = some (10, vsq)) (ho : hp[42 + n]? = some (10, uo)) {vo : List Value} (q2 : ∀ c, c < n → uo[c]? = vo[c]?) : px_Gx (d + 6) 88 (0, [(0, .ref (38 + n)), (1, .int m)], [], hp) (fun o _ => ∃ T, p_Tot uo n m (fun q => m_D W V sh (lq q) 8 (-3) (-3)) pc T ∧ o = .inl (some (.int (p_pv vo n m sh T)))) := by
  have hm0 : (hp.set (38 + n) (4, [.int 0, .int w, .int h, .ref (39 + n), .int (nI pc), .ref (40 + n), .ref (41 + n), .ref (42 + n), .int pl, .ref (43 + n), .ref (44 + n), .ref (45 + n), .ref (46 + n), .int fo, .ref (47 + n), .int le, .ref (48 + n), .int ru, .ref (49 + n), .ref (50 + n), .ref (51 + n)]))[38 + n]? = some (4, m_O n 0 w h (nI pc) pl fo le ru) := px_self hm
  have Hs : pa_Hi n (hp.set (38 + n) (4, [.int 0, .int w, .int h, .ref (39 + n), .int (nI pc), .ref (40 + n), .ref (41 + n), .ref (42 + n), .int pl, .ref (43 + n), .ref (44 + n), .ref (45 + n), .ref (46 + n), .int fo, .ref (47 + n), .int le, .ref (48 + n), .int ru, .ref (49 + n), .ref (50 + n), .ref (51 + n)])) := pa_ms (k := 0) (v := .int 0) H hm rfl (pa_in (by decide) (by decide))
  have gs := m_sumo (d := d + 4) hW hV hnn ew2 eh2 hm0 Hs (px_ne hvu0 (by omega)) (px_ne ho (by omega)) q1 q2
  obtain ⟨o, hp1, g, T, hT, e⟩ := m_cbX (d := d) hN hW hV hnn ew2 eh2 pc6 hm2 q1 huz hsq Hs hm0 (px_ne hvu0 (by omega)) (px_ne hvz0 (by omega)) (px_ne hvq0 (by omega)) (px_ne ho (by omega))
  subst e
  by_cases hz : x_sum vo (x_bt sh) n - x_sum vo (x_bt sh) n / m * m = 0
  · 
    refine px_gx (fun _ K9 => px_a 2 (f' := (2, [(0, .ref (38 + n)), (1, .int m)], [.int 0, .ref (38 + n)], hp)) rfl K9) ?_
    refine px_gx (fun _ K9 => px_pf (38 + n) 58 4 0 rfl rfl hm (by omega) (Nat.le_of_ble_eq_true rfl) rfl rfl (by decide) K9) ?_
    have hf1__38___n_ : (hp.set (38 + n) (4, [.int 0, .int w, .int h, .ref (39 + n), .int (nI pc), .ref (40 + n), .ref (41 + n), .ref (42 + n), .int pl, .ref (43 + n), .ref (44 + n), .ref (45 + n), .ref (46 + n), .int fo, .ref (47 + n), .int le, .ref (48 + n), .int ru, .ref (49 + n), .ref (50 + n), .ref (51 + n)]))[(38 + n)]? = some (4, [.int 0, .int w, .int h, .ref (39 + n), .int (nI pc), .ref (40 + n), .ref (41 + n), .ref (42 + n), .int pl, .ref (43 + n), .ref (44 + n), .ref (45 + n), .ref (46 + n), .int fo, .ref (47 + n), .int le, .ref (48 + n), .int ru, .ref (49 + n), .ref (50 + n), .ref (51 + n)]) := px_self hm
    show px_Gx _ _ (5, [(0, .ref (38 + n)), (1, .int m)], [], (hp.set (38 + n) (4, [.int 0, .int w, .int h, .ref (39 + n), .int (nI pc), .ref (40 + n), .ref (41 + n), .ref (42 + n), .int pl, .ref (43 + n), .ref (44 + n), .ref (45 + n), .ref (46 + n), .int fo, .ref (47 + n), .int le, .ref (48 + n), .int ru, .ref (49 + n), .ref (50 + n), .ref (51 + n)]))) _
    refine px_gx (fun _ K9 => px_a 2 (f' := (7, [(0, .ref (38 + n)), (1, .int m)], [.int 1, .int m], (hp.set (38 + n) (4, [.int 0, .int w, .int h, .ref (39 + n), .int (nI pc), .ref (40 + n), .ref (41 + n), .ref (42 + n), .int pl, .ref (43 + n), .ref (44 + n), .ref (45 + n), .ref (46 + n), .int fo, .ref (47 + n), .int le, .ref (48 + n), .int ru, .ref (49 + n), .ref (50 + n), .ref (51 + n)])))) rfl K9) ?_
    refine px_gx (fun _ K9 => px_b2 false 31 rfl rfl (decide_eq_false (fun z => hm2 (p_l1 z))) K9) ?_
    show px_Gx _ _ (10, [(0, .ref (38 + n)), (1, .int m)], [], (hp.set (38 + n) (4, [.int 0, .int w, .int h, .ref (39 + n), .int (nI pc), .ref (40 + n), .ref (41 + n), .ref (42 + n), .int pl, .ref (43 + n), .ref (44 + n), .ref (45 + n), .ref (46 + n), .int fo, .ref (47 + n), .int le, .ref (48 + n), .int ru, .ref (49 + n), .ref (50 + n), .ref (51 + n)]))) _
    refine px_gx (fun _ K9 => px_a 1 (f' := (11, [(0, .ref (38 + n)), (1, .int m)], [.ref (38 + n)], (hp.set (38 + n) (4, [.int 0, .int w, .int h, .ref (39 + n), .int (nI pc), .ref (40 + n), .ref (41 + n), .ref (42 + n), .int pl, .ref (43 + n), .ref (44 + n), .ref (45 + n), .ref (46 + n), .int fo, .ref (47 + n), .int le, .ref (48 + n), .int ru, .ref (49 + n), .ref (50 + n), .ref (51 + n)])))) rfl K9) ?_
    refine px_gx (fun _ K9 => px_cv (38 + n) (as := []) (rest := []) rfl rfl hf1__38___n_ rfl rfl rfl rfl (Nat.le_of_ble_eq_true rfl) (gs) K9) ?_
    show px_Gx _ _ (14, [(0, .ref (38 + n)), (1, .int m)], [.int (x_sum vo (x_bt sh) n)], (hp.set (38 + n) (4, [.int 0, .int w, .int h, .ref (39 + n), .int (nI pc), .ref (40 + n), .ref (41 + n), .ref (42 + n), .int pl, .ref (43 + n), .ref (44 + n), .ref (45 + n), .ref (46 + n), .int fo, .ref (47 + n), .int le, .ref (48 + n), .int ru, .ref (49 + n), .ref (50 + n), .ref (51 + n)]))) _
    refine px_gx (fun _ K9 => px_a 1 (f' := (15, [(0, .ref (38 + n)), (1, .int m)], [.int m, .int (x_sum vo (x_bt sh) n)], (hp.set (38 + n) (4, [.int 0, .int w, .int h, .ref (39 + n), .int (nI pc), .ref (40 + n), .ref (41 + n), .ref (42 + n), .int pl, .ref (43 + n), .ref (44 + n), .ref (45 + n), .ref (46 + n), .int fo, .ref (47 + n), .int le, .ref (48 + n), .int ru, .ref (49 + n), .ref (50 + n), .ref (51 + n)])))) rfl K9) ?_
    refine px_gx (fun _ K9 => px_irem rfl (p_m0 hm2) K9) ?_
    refine px_gx (fun _ K9 => px_b1 true 31 rfl rfl (decide_eq_true hz) K9) ?_
    show px_Gx _ _ (31, [(0, .ref (38 + n)), (1, .int m)], [], (hp.set (38 + n) (4, [.int 0, .int w, .int h, .ref (39 + n), .int (nI pc), .ref (40 + n), .ref (41 + n), .ref (42 + n), .int pl, .ref (43 + n), .ref (44 + n), .ref (45 + n), .ref (46 + n), .int fo, .ref (47 + n), .int le, .ref (48 + n), .int ru, .ref (49 + n), .ref (50 + n), .ref (51 + n)]))) _
    refine px_gx (fun _ K9 => px_a 1 (f' := (32, [(0, .ref (38 + n)), (1, .int m)], [.int 0], (hp.set (38 + n) (4, [.int 0, .int w, .int h, .ref (39 + n), .int (nI pc), .ref (40 + n), .ref (41 + n), .ref (42 + n), .int pl, .ref (43 + n), .ref (44 + n), .ref (45 + n), .ref (46 + n), .int fo, .ref (47 + n), .int le, .ref (48 + n), .int ru, .ref (49 + n), .ref (50 + n), .ref (51 + n)])))) rfl K9) ?_
    exact ⟨_, _, px_ri rfl rfl rfl, T, hT, by unfold p_pv; rw [if_pos hz]⟩
  by_cases hz3 : nI T = 0
  · 
    refine px_gx (fun _ K9 => px_a 2 (f' := (2, [(0, .ref (38 + n)), (1, .int m)], [.int 0, .ref (38 + n)], hp)) rfl K9) ?_
    refine px_gx (fun _ K9 => px_pf (38 + n) 58 4 0 rfl rfl hm (by omega) (Nat.le_of_ble_eq_true rfl) rfl rfl (by decide) K9) ?_
    have hf1__38___n_ : (hp.set (38 + n) (4, [.int 0, .int w, .int h, .ref (39 + n), .int (nI pc), .ref (40 + n), .ref (41 + n), .ref (42 + n), .int pl, .ref (43 + n), .ref (44 + n), .ref (45 + n), .ref (46 + n), .int fo, .ref (47 + n), .int le, .ref (48 + n), .int ru, .ref (49 + n), .ref (50 + n), .ref (51 + n)]))[(38 + n)]? = some (4, [.int 0, .int w, .int h, .ref (39 + n), .int (nI pc), .ref (40 + n), .ref (41 + n), .ref (42 + n), .int pl, .ref (43 + n), .ref (44 + n), .ref (45 + n), .ref (46 + n), .int fo, .ref (47 + n), .int le, .ref (48 + n), .int ru, .ref (49 + n), .ref (50 + n), .ref (51 + n)]) := px_self hm
    show px_Gx _ _ (5, [(0, .ref (38 + n)), (1, .int m)], [], (hp.set (38 + n) (4, [.int 0, .int w, .int h, .ref (39 + n), .int (nI pc), .ref (40 + n), .ref (41 + n), .ref (42 + n), .int pl, .ref (43 + n), .ref (44 + n), .ref (45 + n), .ref (46 + n), .int fo, .ref (47 + n), .int le, .ref (48 + n), .int ru, .ref (49 + n), .ref (50 + n), .ref (51 + n)]))) _
    refine px_gx (fun _ K9 => px_a 2 (f' := (7, [(0, .ref (38 + n)), (1, .int m)], [.int 1, .int m], (hp.set (38 + n) (4, [.int 0, .int w, .int h, .ref (39 + n), .int (nI pc), .ref (40 + n), .ref (41 + n), .ref (42 + n), .int pl, .ref (43 + n), .ref (44 + n), .ref (45 + n), .ref (46 + n), .int fo, .ref (47 + n), .int le, .ref (48 + n), .int ru, .ref (49 + n), .ref (50 + n), .ref (51 + n)])))) rfl K9) ?_
    refine px_gx (fun _ K9 => px_b2 false 31 rfl rfl (decide_eq_false (fun z => hm2 (p_l1 z))) K9) ?_
    show px_Gx _ _ (10, [(0, .ref (38 + n)), (1, .int m)], [], (hp.set (38 + n) (4, [.int 0, .int w, .int h, .ref (39 + n), .int (nI pc), .ref (40 + n), .ref (41 + n), .ref (42 + n), .int pl, .ref (43 + n), .ref (44 + n), .ref (45 + n), .ref (46 + n), .int fo, .ref (47 + n), .int le, .ref (48 + n), .int ru, .ref (49 + n), .ref (50 + n), .ref (51 + n)]))) _
    refine px_gx (fun _ K9 => px_a 1 (f' := (11, [(0, .ref (38 + n)), (1, .int m)], [.ref (38 + n)], (hp.set (38 + n) (4, [.int 0, .int w, .int h, .ref (39 + n), .int (nI pc), .ref (40 + n), .ref (41 + n), .ref (42 + n), .int pl, .ref (43 + n), .ref (44 + n), .ref (45 + n), .ref (46 + n), .int fo, .ref (47 + n), .int le, .ref (48 + n), .int ru, .ref (49 + n), .ref (50 + n), .ref (51 + n)])))) rfl K9) ?_
    refine px_gx (fun _ K9 => px_cv (38 + n) (as := []) (rest := []) rfl rfl hf1__38___n_ rfl rfl rfl rfl (Nat.le_of_ble_eq_true rfl) (gs) K9) ?_
    show px_Gx _ _ (14, [(0, .ref (38 + n)), (1, .int m)], [.int (x_sum vo (x_bt sh) n)], (hp.set (38 + n) (4, [.int 0, .int w, .int h, .ref (39 + n), .int (nI pc), .ref (40 + n), .ref (41 + n), .ref (42 + n), .int pl, .ref (43 + n), .ref (44 + n), .ref (45 + n), .ref (46 + n), .int fo, .ref (47 + n), .int le, .ref (48 + n), .int ru, .ref (49 + n), .ref (50 + n), .ref (51 + n)]))) _
    refine px_gx (fun _ K9 => px_a 1 (f' := (15, [(0, .ref (38 + n)), (1, .int m)], [.int m, .int (x_sum vo (x_bt sh) n)], (hp.set (38 + n) (4, [.int 0, .int w, .int h, .ref (39 + n), .int (nI pc), .ref (40 + n), .ref (41 + n), .ref (42 + n), .int pl, .ref (43 + n), .ref (44 + n), .ref (45 + n), .ref (46 + n), .int fo, .ref (47 + n), .int le, .ref (48 + n), .int ru, .ref (49 + n), .ref (50 + n), .ref (51 + n)])))) rfl K9) ?_
    refine px_gx (fun _ K9 => px_irem rfl (p_m0 hm2) K9) ?_
    refine px_gx (fun _ K9 => px_b1 false 31 rfl rfl (decide_eq_false hz) K9) ?_
    show px_Gx _ _ (19, [(0, .ref (38 + n)), (1, .int m)], [], (hp.set (38 + n) (4, [.int 0, .int w, .int h, .ref (39 + n), .int (nI pc), .ref (40 + n), .ref (41 + n), .ref (42 + n), .int pl, .ref (43 + n), .ref (44 + n), .ref (45 + n), .ref (46 + n), .int fo, .ref (47 + n), .int le, .ref (48 + n), .int ru, .ref (49 + n), .ref (50 + n), .ref (51 + n)]))) _
    refine px_gx (fun _ K9 => px_a 2 (f' := (21, [(0, .ref (38 + n)), (1, .int m)], [.int m, .ref (38 + n)], (hp.set (38 + n) (4, [.int 0, .int w, .int h, .ref (39 + n), .int (nI pc), .ref (40 + n), .ref (41 + n), .ref (42 + n), .int pl, .ref (43 + n), .ref (44 + n), .ref (45 + n), .ref (46 + n), .int fo, .ref (47 + n), .int le, .ref (48 + n), .int ru, .ref (49 + n), .ref (50 + n), .ref (51 + n)])))) rfl K9) ?_
    refine px_gx (fun _ K9 => px_cv (38 + n) (as := [.int m]) (rest := []) rfl rfl hf1__38___n_ rfl rfl rfl rfl (Nat.le_of_ble_eq_true rfl) (g) K9) ?_
    show px_Gx _ _ (24, [(0, .ref (38 + n)), (1, .int m)], [.int (nI T)], hp1) _
    refine px_gx (fun _ K9 => px_b1 false 31 rfl rfl (decide_eq_false (not_not_intro hz3)) K9) ?_
    show px_Gx _ _ (27, [(0, .ref (38 + n)), (1, .int m)], [], hp1) _
    refine px_gx (fun _ K9 => px_a 2 (f' := (32, [(0, .ref (38 + n)), (1, .int m)], [.int 1], hp1)) rfl K9) ?_
    exact ⟨_, _, px_ri rfl rfl rfl, T, hT, by unfold p_pv; rw [if_neg hz, if_pos hz3]⟩
  · 
    refine px_gx (fun _ K9 => px_a 2 (f' := (2, [(0, .ref (38 + n)), (1, .int m)], [.int 0, .ref (38 + n)], hp)) rfl K9) ?_
    refine px_gx (fun _ K9 => px_pf (38 + n) 58 4 0 rfl rfl hm (by omega) (Nat.le_of_ble_eq_true rfl) rfl rfl (by decide) K9) ?_
    have hf1__38___n_ : (hp.set (38 + n) (4, [.int 0, .int w, .int h, .ref (39 + n), .int (nI pc), .ref (40 + n), .ref (41 + n), .ref (42 + n), .int pl, .ref (43 + n), .ref (44 + n), .ref (45 + n), .ref (46 + n), .int fo, .ref (47 + n), .int le, .ref (48 + n), .int ru, .ref (49 + n), .ref (50 + n), .ref (51 + n)]))[(38 + n)]? = some (4, [.int 0, .int w, .int h, .ref (39 + n), .int (nI pc), .ref (40 + n), .ref (41 + n), .ref (42 + n), .int pl, .ref (43 + n), .ref (44 + n), .ref (45 + n), .ref (46 + n), .int fo, .ref (47 + n), .int le, .ref (48 + n), .int ru, .ref (49 + n), .ref (50 + n), .ref (51 + n)]) := px_self hm
    show px_Gx _ _ (5, [(0, .ref (38 + n)), (1, .int m)], [], (hp.set (38 + n) (4, [.int 0, .int w, .int h, .ref (39 + n), .int (nI pc), .ref (40 + n), .ref (41 + n), .ref (42 + n), .int pl, .ref (43 + n), .ref (44 + n), .ref (45 + n), .ref (46 + n), .int fo, .ref (47 + n), .int le, .ref (48 + n), .int ru, .ref (49 + n), .ref (50 + n), .ref (51 + n)]))) _
    refine px_gx (fun _ K9 => px_a 2 (f' := (7, [(0, .ref (38 + n)), (1, .int m)], [.int 1, .int m], (hp.set (38 + n) (4, [.int 0, .int w, .int h, .ref (39 + n), .int (nI pc), .ref (40 + n), .ref (41 + n), .ref (42 + n), .int pl, .ref (43 + n), .ref (44 + n), .ref (45 + n), .ref (46 + n), .int fo, .ref (47 + n), .int le, .ref (48 + n), .int ru, .ref (49 + n), .ref (50 + n), .ref (51 + n)])))) rfl K9) ?_
    refine px_gx (fun _ K9 => px_b2 false 31 rfl rfl (decide_eq_false (fun z => hm2 (p_l1 z))) K9) ?_
    show px_Gx _ _ (10, [(0, .ref (38 + n)), (1, .int m)], [], (hp.set (38 + n) (4, [.int 0, .int w, .int h, .ref (39 + n), .int (nI pc), .ref (40 + n), .ref (41 + n), .ref (42 + n), .int pl, .ref (43 + n), .ref (44 + n), .ref (45 + n), .ref (46 + n), .int fo, .ref (47 + n), .int le, .ref (48 + n), .int ru, .ref (49 + n), .ref (50 + n), .ref (51 + n)]))) _
    refine px_gx (fun _ K9 => px_a 1 (f' := (11, [(0, .ref (38 + n)), (1, .int m)], [.ref (38 + n)], (hp.set (38 + n) (4, [.int 0, .int w, .int h, .ref (39 + n), .int (nI pc), .ref (40 + n), .ref (41 + n), .ref (42 + n), .int pl, .ref (43 + n), .ref (44 + n), .ref (45 + n), .ref (46 + n), .int fo, .ref (47 + n), .int le, .ref (48 + n), .int ru, .ref (49 + n), .ref (50 + n), .ref (51 + n)])))) rfl K9) ?_
    refine px_gx (fun _ K9 => px_cv (38 + n) (as := []) (rest := []) rfl rfl hf1__38___n_ rfl rfl rfl rfl (Nat.le_of_ble_eq_true rfl) (gs) K9) ?_
    show px_Gx _ _ (14, [(0, .ref (38 + n)), (1, .int m)], [.int (x_sum vo (x_bt sh) n)], (hp.set (38 + n) (4, [.int 0, .int w, .int h, .ref (39 + n), .int (nI pc), .ref (40 + n), .ref (41 + n), .ref (42 + n), .int pl, .ref (43 + n), .ref (44 + n), .ref (45 + n), .ref (46 + n), .int fo, .ref (47 + n), .int le, .ref (48 + n), .int ru, .ref (49 + n), .ref (50 + n), .ref (51 + n)]))) _
    refine px_gx (fun _ K9 => px_a 1 (f' := (15, [(0, .ref (38 + n)), (1, .int m)], [.int m, .int (x_sum vo (x_bt sh) n)], (hp.set (38 + n) (4, [.int 0, .int w, .int h, .ref (39 + n), .int (nI pc), .ref (40 + n), .ref (41 + n), .ref (42 + n), .int pl, .ref (43 + n), .ref (44 + n), .ref (45 + n), .ref (46 + n), .int fo, .ref (47 + n), .int le, .ref (48 + n), .int ru, .ref (49 + n), .ref (50 + n), .ref (51 + n)])))) rfl K9) ?_
    refine px_gx (fun _ K9 => px_irem rfl (p_m0 hm2) K9) ?_
    refine px_gx (fun _ K9 => px_b1 false 31 rfl rfl (decide_eq_false hz) K9) ?_
    show px_Gx _ _ (19, [(0, .ref (38 + n)), (1, .int m)], [], (hp.set (38 + n) (4, [.int 0, .int w, .int h, .ref (39 + n), .int (nI pc), .ref (40 + n), .ref (41 + n), .ref (42 + n), .int pl, .ref (43 + n), .ref (44 + n), .ref (45 + n), .ref (46 + n), .int fo, .ref (47 + n), .int le, .ref (48 + n), .int ru, .ref (49 + n), .ref (50 + n), .ref (51 + n)]))) _
    refine px_gx (fun _ K9 => px_a 2 (f' := (21, [(0, .ref (38 + n)), (1, .int m)], [.int m, .ref (38 + n)], (hp.set (38 + n) (4, [.int 0, .int w, .int h, .ref (39 + n), .int (nI pc), .ref (40 + n), .ref (41 + n), .ref (42 + n), .int pl, .ref (43 + n), .ref (44 + n), .ref (45 + n), .ref (46 + n), .int fo, .ref (47 + n), .int le, .ref (48 + n), .int ru, .ref (49 + n), .ref (50 + n), .ref (51 + n)])))) rfl K9) ?_
    refine px_gx (fun _ K9 => px_cv (38 + n) (as := [.int m]) (rest := []) rfl rfl hf1__38___n_ rfl rfl rfl rfl (Nat.le_of_ble_eq_true rfl) (g) K9) ?_
    show px_Gx _ _ (24, [(0, .ref (38 + n)), (1, .int m)], [.int (nI T)], hp1) _
    refine px_gx (fun _ K9 => px_b1 true 31 rfl rfl (decide_eq_true hz3) K9) ?_
    show px_Gx _ _ (31, [(0, .ref (38 + n)), (1, .int m)], [], hp1) _
    refine px_gx (fun _ K9 => px_a 1 (f' := (32, [(0, .ref (38 + n)), (1, .int m)], [.int 0], hp1)) rfl K9) ?_
    exact ⟨_, _, px_ri rfl rfl rfl, T, hT, by unfold p_pv; rw [if_neg hz, if_neg hz3]⟩
theorem m_prvI {d n : Nat} {hp : px_H} {th w h pn pl fo le ru m : Int32} (hm : hp[38 + n]? = some (4, m_O n th w h pn pl fo le ru)) (hm2 : m < 2) : px_Gx d 88 (0, [(0, .ref (38 + n)), (1, .int m)], [], hp) (fun o _ => o = .inl (some (.int 0))) := by
  refine px_gx (fun _ K9 => px_a 2 (f' := (2, [(0, .ref (38 + n)), (1, .int m)], [.int 0, .ref (38 + n)], hp)) rfl K9) ?_
  refine px_gx (fun _ K9 => px_pf (38 + n) 58 4 0 rfl rfl hm (by omega) (Nat.le_of_ble_eq_true rfl) rfl rfl (by decide) K9) ?_
  have hf1__38___n_ : (hp.set (38 + n) (4, [.int 0, .int w, .int h, .ref (39 + n), .int pn, .ref (40 + n), .ref (41 + n), .ref (42 + n), .int pl, .ref (43 + n), .ref (44 + n), .ref (45 + n), .ref (46 + n), .int fo, .ref (47 + n), .int le, .ref (48 + n), .int ru, .ref (49 + n), .ref (50 + n), .ref (51 + n)]))[(38 + n)]? = some (4, [.int 0, .int w, .int h, .ref (39 + n), .int pn, .ref (40 + n), .ref (41 + n), .ref (42 + n), .int pl, .ref (43 + n), .ref (44 + n), .ref (45 + n), .ref (46 + n), .int fo, .ref (47 + n), .int le, .ref (48 + n), .int ru, .ref (49 + n), .ref (50 + n), .ref (51 + n)]) := px_self hm
  show px_Gx _ _ (5, [(0, .ref (38 + n)), (1, .int m)], [], (hp.set (38 + n) (4, [.int 0, .int w, .int h, .ref (39 + n), .int pn, .ref (40 + n), .ref (41 + n), .ref (42 + n), .int pl, .ref (43 + n), .ref (44 + n), .ref (45 + n), .ref (46 + n), .int fo, .ref (47 + n), .int le, .ref (48 + n), .int ru, .ref (49 + n), .ref (50 + n), .ref (51 + n)]))) _
  refine px_gx (fun _ K9 => px_a 2 (f' := (7, [(0, .ref (38 + n)), (1, .int m)], [.int 1, .int m], (hp.set (38 + n) (4, [.int 0, .int w, .int h, .ref (39 + n), .int pn, .ref (40 + n), .ref (41 + n), .ref (42 + n), .int pl, .ref (43 + n), .ref (44 + n), .ref (45 + n), .ref (46 + n), .int fo, .ref (47 + n), .int le, .ref (48 + n), .int ru, .ref (49 + n), .ref (50 + n), .ref (51 + n)])))) rfl K9) ?_
  refine px_gx (fun _ K9 => px_b2 true 31 rfl rfl (decide_eq_true (p_l2 hm2)) K9) ?_
  show px_Gx _ _ (31, [(0, .ref (38 + n)), (1, .int m)], [], (hp.set (38 + n) (4, [.int 0, .int w, .int h, .ref (39 + n), .int pn, .ref (40 + n), .ref (41 + n), .ref (42 + n), .int pl, .ref (43 + n), .ref (44 + n), .ref (45 + n), .ref (46 + n), .int fo, .ref (47 + n), .int le, .ref (48 + n), .int ru, .ref (49 + n), .ref (50 + n), .ref (51 + n)]))) _
  refine px_gx (fun _ K9 => px_a 1 (f' := (32, [(0, .ref (38 + n)), (1, .int m)], [.int 0], (hp.set (38 + n) (4, [.int 0, .int w, .int h, .ref (39 + n), .int pn, .ref (40 + n), .ref (41 + n), .ref (42 + n), .int pl, .ref (43 + n), .ref (44 + n), .ref (45 + n), .ref (46 + n), .int fo, .ref (47 + n), .int le, .ref (48 + n), .int ru, .ref (49 + n), .ref (50 + n), .ref (51 + n)])))) rfl K9) ?_
  exact ⟨_, _, px_ri rfl rfl rfl, rfl⟩
