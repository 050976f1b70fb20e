/-! sums of sizes -/
def z_S (cs : Nat → Nat) (pc t : Nat) : Prop := ∃ l : List Nat, (∀ p, p ∈ l → p < pc ∧ 0 < cs p) ∧ (l.map cs).sum = t
theorem z_S.zero {cs : Nat → Nat} {pc : Nat} : z_S cs pc 0 := ⟨[], fun p h => absurd h List.not_mem_nil, rfl⟩
theorem z_S.step {cs : Nat → Nat} {pc t p : Nat} (h1 : p < pc) (h2 : 0 < cs p) (h3 : z_S cs pc t) : z_S cs pc (t + cs p) := by
  obtain ⟨l, a1, a2⟩ := h3
  refine ⟨p :: l, fun q hq => ?_, ?_⟩
  · rcases List.mem_cons.mp hq with rfl | hq
    · exact ⟨h1, h2⟩
    · exact a1 q hq
  · rw [List.map_cons, List.sum_cons, a2, Nat.add_comm]
theorem z_iff {cs : Nat → Nat} {pc t : Nat} (ht : 0 < t) : z_S cs pc t ↔ ∃ p, p < pc ∧ 0 < cs p ∧ cs p ≤ t ∧ z_S cs pc (t - cs p) := by
  constructor
  · rintro ⟨l, a1, a2⟩
    cases l with
    | nil =>
      rw [List.map_nil, List.sum_nil] at a2
      omega
    | cons p l =>
      rw [List.map_cons, List.sum_cons] at a2
      obtain ⟨b1, b2⟩ := a1 p List.mem_cons_self
      exact ⟨p, b1, b2, by omega, l, fun q hq => a1 q (List.mem_cons_of_mem p hq), by omega⟩
  · rintro ⟨p, h1, h2, h3, h4⟩
    have := z_S.step h1 h2 h4
    rw [Nat.sub_add_cancel h3] at this
    exact this
def z_c (x : Nat) : Nat → Nat
  | 0 => 0
  | c + 1 => z_c x c + (if x.testBit c = true then 1 else 0)
theorem z_c_m {x k : Nat} : ∀ c, c ≤ k → z_c (x % 2 ^ k) c = z_c x c
  | 0, _ => rfl
  | c + 1, h => by
    show z_c (x % 2 ^ k) c + _ = z_c x c + _
    rw [z_c_m c (by omega), Nat.testBit_mod_two_pow, decide_eq_true (show c < k by omega), Bool.true_and]
theorem z_cnt : ∀ (k x : Nat), pb_cnt k x = z_c x k
  | 0, _ => rfl
  | k + 1, x => by
    rw [pb_cnt_add k 1 x, z_cnt k (x % 2 ^ k), z_c_m k (Nat.le_refl k)]
    show z_c x k + ((x / 2 ^ k) % 2 + 0) = z_c x k + _
    rw [Nat.testBit_eq_decide_div_mod_eq]
    have := Nat.mod_two_eq_zero_or_one (x / 2 ^ k)
    by_cases h : x / 2 ^ k % 2 = 1
    · rw [if_pos (decide_eq_true h), h]
    · rw [if_neg (fun z => h (of_decide_eq_true z))]
      omega
theorem z_lN (s : Int64) : s = lN s.toBitVec.toNat := by
  apply Int64.toBitVec_inj.mp
  show s.toBitVec = BitVec.ofNat 64 s.toBitVec.toNat
  rw [BitVec.ofNat_toNat, BitVec.setWidth_eq]
theorem z_tb (s : Int64) (c : Nat) : s.toBitVec.toNat.testBit c = x_bt s c := rfl
theorem z_sub : ∀ c, c < 7 → ∀ t, t < 37 → c ≤ t → nI t - nI c = nI (t - c) := by decide +kernel
theorem z_s37 : ∀ i, i < 37 → nI i + 1 = nI (i + 1) := by decide +kernel
set_option maxRecDepth 20000 in
theorem x_rl {d n pc T : Nat} {hp : px_H} {W V : Nat} {fd : Int32} {sh r : Int64} {cs : Nat → Nat} (hc : hp[(8 : Nat)]? = some (3, [.int (nI W), .int (nI V), .ref 9, .ref 28, .ref 29, .ref 30, .ref (34 + n), .int (nI pc), .long sh, .int fd])) (h9 : hp[(9 : Nat)]? = some (13, q_forms)) (pc6 : pc ≤ 6) (hT : T ≤ 36) (F : ∀ k, k < 6 → ∃ (gw gh wc sc : Int32) (ss : Int64) (b1 b2 N : Nat), N < 65536 ∧ cs k = pb_cnt 16 N ∧ cs k ≤ 6 ∧ hp[10 + 3 * k]? = some (1, [.int gw, .int gh, .ref b1, .ref b2, .int (nI N), .int wc, .int sc, .long ss])) : ∀ m p, p + m = pc → ∀ e : px_L, (e = [] ∨ ∃ v5 : Int32, e = [(5, .int v5)]) → px_Gx (d + 2) 60 (3, (4, .int (nI p)) :: (e ++ [(0, .ref 8), (1, .long r), (3, .int (nI T))]), [], hp) (fun o hp' => hp' = hp ∧ ∃ b : Int32, o = .inl (some (.int b)) ∧ ((b = 1 ∧ ∃ j, p ≤ j ∧ j < pc ∧ 0 < cs j ∧ cs j ≤ T ∧ x_bt r (T - cs j) = true) ∨ (b = 0 ∧ ∀ j, p ≤ j → j < pc → 0 < cs j → cs j ≤ T → x_bt r (T - cs j) = false))) := by
  intro m
  induction m with
  | zero =>
    intro p hp0 e he
    refine ⟨_, hp, ?_, rfl, 0, rfl, Or.inr ⟨rfl, fun j c1 c2 => by omega⟩⟩
    rcases he with rfl | ⟨v5, rfl⟩
    · show px_Go _ _ (3, [(4, .int (nI p)), (0, .ref 8), (1, .long r), (3, .int (nI T))], [], hp) _
      refine px_a 2 (f' := (6, [(4, .int (nI p)), (0, .ref 8), (1, .long r), (3, .int (nI T))], [.ref 8, .int (nI p)], hp)) rfl ?_
      refine px_gf 8 72 3 7 (.int (nI pc)) rfl rfl hc rfl ?_
      show px_Go _ _ (9, [(4, .int (nI p)), (0, .ref 8), (1, .long r), (3, .int (nI T))], [.int (nI pc), .int (nI p)], hp) _
      refine px_b2 true 56 rfl rfl (decide_eq_true (show nI pc ≤ nI p by rw [Int32.le_iff_toInt_le, nI_toInt (by omega), nI_toInt (by omega)]; omega)) ?_
      show px_Go _ _ (56, [(4, .int (nI p)), (0, .ref 8), (1, .long r), (3, .int (nI T))], [], hp) _
      refine px_a 1 (f' := (57, [(4, .int (nI p)), (0, .ref 8), (1, .long r), (3, .int (nI T))], [.int 0], hp)) rfl ?_
      exact px_ri rfl rfl rfl
    · show px_Go _ _ (3, [(4, .int (nI p)), (5, .int v5), (0, .ref 8), (1, .long r), (3, .int (nI T))], [], hp) _
      refine px_a 2 (f' := (6, [(4, .int (nI p)), (5, .int v5), (0, .ref 8), (1, .long r), (3, .int (nI T))], [.ref 8, .int (nI p)], hp)) rfl ?_
      refine px_gf 8 72 3 7 (.int (nI pc)) rfl rfl hc rfl ?_
      show px_Go _ _ (9, [(4, .int (nI p)), (5, .int v5), (0, .ref 8), (1, .long r), (3, .int (nI T))], [.int (nI pc), .int (nI p)], hp) _
      refine px_b2 true 56 rfl rfl (decide_eq_true (show nI pc ≤ nI p by rw [Int32.le_iff_toInt_le, nI_toInt (by omega), nI_toInt (by omega)]; omega)) ?_
      show px_Go _ _ (56, [(4, .int (nI p)), (5, .int v5), (0, .ref 8), (1, .long r), (3, .int (nI T))], [], hp) _
      refine px_a 1 (f' := (57, [(4, .int (nI p)), (5, .int v5), (0, .ref 8), (1, .long r), (3, .int (nI T))], [.int 0], hp)) rfl ?_
      exact px_ri rfl rfl rfl
  | succ m ih =>
    intro p hp0 e he
    obtain ⟨gw, gh, wc, sc, ss, b1, b2, N, h16, hcs, c6, hf⟩ := F p (by omega)
    have ec : (nI (cs p)).toInt = cs p := nI_toInt (by omega)
    have eT : (nI T).toInt = T := nI_toInt (by omega)
    have hsz : px_Go (d + 1) 31 (0, [(0, .ref (10 + 3 * p))], [], hp) (.inl (some (.int (nI (cs p)))), hp) := by rw [hcs]; exact x_size (d := d) h16 hf
    rcases he with rfl | ⟨v5, rfl⟩
    · show px_Gx _ _ (3, [(4, .int (nI p)), (0, .ref 8), (1, .long r), (3, .int (nI T))], [], hp) _
      by_cases h1 : 0 < cs p
      · by_cases h2 : cs p ≤ T
        · have es := z_sub (cs p) (by omega) T (by omega) h2
          by_cases hb : x_bt r (T - cs p) = true
          · refine ⟨_, hp, ?_, rfl, 1, rfl, Or.inl ⟨rfl, p, Nat.le_refl p, by omega, h1, h2, hb⟩⟩
            refine px_a 2 (f' := (6, [(4, .int (nI p)), (0, .ref 8), (1, .long r), (3, .int (nI T))], [.ref 8, .int (nI p)], hp)) rfl ?_
            refine px_gf 8 72 3 7 (.int (nI pc)) rfl rfl hc rfl ?_
            show px_Go _ _ (9, [(4, .int (nI p)), (0, .ref 8), (1, .long r), (3, .int (nI T))], [.int (nI pc), .int (nI p)], hp) _
            refine px_b2 false 56 rfl rfl (decide_eq_false (show ¬ nI pc ≤ nI p by rw [Int32.le_iff_toInt_le, nI_toInt (by omega), nI_toInt (by omega)]; omega)) ?_
            show px_Go _ _ (12, [(4, .int (nI p)), (0, .ref 8), (1, .long r), (3, .int (nI T))], [], hp) _
            refine px_a 1 (f' := (13, [(4, .int (nI p)), (0, .ref 8), (1, .long r), (3, .int (nI T))], [.ref 8], hp)) rfl ?_
            refine px_gf 8 27 3 2 (.ref 9) rfl rfl hc rfl ?_
            show px_Go _ _ (16, [(4, .int (nI p)), (0, .ref 8), (1, .long r), (3, .int (nI T))], [.ref 9], hp) _
            refine px_a 1 (f' := (18, [(4, .int (nI p)), (0, .ref 8), (1, .long r), (3, .int (nI T))], [.int (nI p), .ref 9], hp)) rfl ?_
            refine px_al 9 (.ref (10 + 3 * p)) rfl h9 (Or.inr (Or.inr (Or.inr ⟨rfl, Or.inl rfl⟩))) (nI_pos (by omega)) (q_f p (by omega)) ?_
            show px_Go _ _ (19, [(4, .int (nI p)), (0, .ref 8), (1, .long r), (3, .int (nI T))], [.ref (10 + 3 * p)], hp) _
            refine px_cv (10 + 3 * p) (as := []) (rest := []) rfl rfl hf rfl rfl rfl rfl (Nat.le_of_ble_eq_true rfl) (hsz) ?_
            show px_Go _ _ (22, [(4, .int (nI p)), (0, .ref 8), (1, .long r), (3, .int (nI T))], [.int (nI (cs p))], hp) _
            refine px_a 2 (f' := (26, [(5, .int (nI (cs p))), (4, .int (nI p)), (0, .ref 8), (1, .long r), (3, .int (nI T))], [.int (nI (cs p))], hp)) rfl ?_
            refine px_b1 false 50 rfl rfl (decide_eq_false (show ¬ nI (cs p) ≤ 0 by rw [Int32.le_iff_toInt_le, ec]; show ¬ (cs p : Int) ≤ 0; omega)) ?_
            show px_Go _ _ (29, [(5, .int (nI (cs p))), (4, .int (nI p)), (0, .ref 8), (1, .long r), (3, .int (nI T))], [], hp) _
            refine px_a 2 (f' := (32, [(5, .int (nI (cs p))), (4, .int (nI p)), (0, .ref 8), (1, .long r), (3, .int (nI T))], [.int (nI T), .int (nI (cs p))], hp)) rfl ?_
            refine px_b2 false 50 rfl rfl (decide_eq_false (show ¬ nI T < nI (cs p) by rw [Int32.lt_iff_toInt_lt, ec, eT]; omega)) ?_
            show px_Go _ _ (35, [(5, .int (nI (cs p))), (4, .int (nI p)), (0, .ref 8), (1, .long r), (3, .int (nI T))], [], hp) _
            refine px_a 9 (f' := (45, [(5, .int (nI (cs p))), (4, .int (nI p)), (0, .ref 8), (1, .long r), (3, .int (nI T))], [.int (lg_cmp ((r >>> (Int32.toInt64 ((nI T) - (nI (cs p))) &&& 63)) &&& 1) 0)], hp)) rfl ?_
            refine px_b1 false 50 rfl rfl (decide_eq_false (fun z => by have z2 := x_cmp0.mp z; rw [es] at z2; have := (x_bit (by omega) r).mp z2; rw [hb] at this; cases this)) ?_
            show px_Go _ _ (48, [(5, .int (nI (cs p))), (4, .int (nI p)), (0, .ref 8), (1, .long r), (3, .int (nI T))], [], hp) _
            refine px_a 1 (f' := (49, [(5, .int (nI (cs p))), (4, .int (nI p)), (0, .ref 8), (1, .long r), (3, .int (nI T))], [.int 1], hp)) rfl ?_
            exact px_ri rfl rfl rfl
          · have hb : x_bt r (T - cs p) = false := by simpa using hb
            refine px_gx (fun _ K => px_a 2 (f' := (6, [(4, .int (nI p)), (0, .ref 8), (1, .long r), (3, .int (nI T))], [.ref 8, .int (nI p)], hp)) rfl K) ?_
            refine px_gx (fun _ K => px_gf 8 72 3 7 (.int (nI pc)) rfl rfl hc rfl K) ?_
            show px_Gx _ _ (9, [(4, .int (nI p)), (0, .ref 8), (1, .long r), (3, .int (nI T))], [.int (nI pc), .int (nI p)], hp) _
            refine px_gx (fun _ K => px_b2 false 56 rfl rfl (decide_eq_false (show ¬ nI pc ≤ nI p by rw [Int32.le_iff_toInt_le, nI_toInt (by omega), nI_toInt (by omega)]; omega)) K) ?_
            show px_Gx _ _ (12, [(4, .int (nI p)), (0, .ref 8), (1, .long r), (3, .int (nI T))], [], hp) _
            refine px_gx (fun _ K => px_a 1 (f' := (13, [(4, .int (nI p)), (0, .ref 8), (1, .long r), (3, .int (nI T))], [.ref 8], hp)) rfl K) ?_
            refine px_gx (fun _ K => px_gf 8 27 3 2 (.ref 9) rfl rfl hc rfl K) ?_
            show px_Gx _ _ (16, [(4, .int (nI p)), (0, .ref 8), (1, .long r), (3, .int (nI T))], [.ref 9], hp) _
            refine px_gx (fun _ K => px_a 1 (f' := (18, [(4, .int (nI p)), (0, .ref 8), (1, .long r), (3, .int (nI T))], [.int (nI p), .ref 9], hp)) rfl K) ?_
            refine px_gx (fun _ K => px_al 9 (.ref (10 + 3 * p)) rfl h9 (Or.inr (Or.inr (Or.inr ⟨rfl, Or.inl rfl⟩))) (nI_pos (by omega)) (q_f p (by omega)) K) ?_
            show px_Gx _ _ (19, [(4, .int (nI p)), (0, .ref 8), (1, .long r), (3, .int (nI T))], [.ref (10 + 3 * p)], hp) _
            refine px_gx (fun _ K => px_cv (10 + 3 * p) (as := []) (rest := []) rfl rfl hf rfl rfl rfl rfl (Nat.le_of_ble_eq_true rfl) (hsz) K) ?_
            show px_Gx _ _ (22, [(4, .int (nI p)), (0, .ref 8), (1, .long r), (3, .int (nI T))], [.int (nI (cs p))], hp) _
            refine px_gx (fun _ K => px_a 2 (f' := (26, [(5, .int (nI (cs p))), (4, .int (nI p)), (0, .ref 8), (1, .long r), (3, .int (nI T))], [.int (nI (cs p))], hp)) rfl K) ?_
            refine px_gx (fun _ K => px_b1 false 50 rfl rfl (decide_eq_false (show ¬ nI (cs p) ≤ 0 by rw [Int32.le_iff_toInt_le, ec]; show ¬ (cs p : Int) ≤ 0; omega)) K) ?_
            show px_Gx _ _ (29, [(5, .int (nI (cs p))), (4, .int (nI p)), (0, .ref 8), (1, .long r), (3, .int (nI T))], [], hp) _
            refine px_gx (fun _ K => px_a 2 (f' := (32, [(5, .int (nI (cs p))), (4, .int (nI p)), (0, .ref 8), (1, .long r), (3, .int (nI T))], [.int (nI T), .int (nI (cs p))], hp)) rfl K) ?_
            refine px_gx (fun _ K => px_b2 false 50 rfl rfl (decide_eq_false (show ¬ nI T < nI (cs p) by rw [Int32.lt_iff_toInt_lt, ec, eT]; omega)) K) ?_
            show px_Gx _ _ (35, [(5, .int (nI (cs p))), (4, .int (nI p)), (0, .ref 8), (1, .long r), (3, .int (nI T))], [], hp) _
            refine px_gx (fun _ K => px_a 9 (f' := (45, [(5, .int (nI (cs p))), (4, .int (nI p)), (0, .ref 8), (1, .long r), (3, .int (nI T))], [.int (lg_cmp ((r >>> (Int32.toInt64 ((nI T) - (nI (cs p))) &&& 63)) &&& 1) 0)], hp)) rfl K) ?_
            refine px_gx (fun _ K => px_b1 true 50 rfl rfl (decide_eq_true (x_cmp0.mpr (by rw [es]; exact (x_bit (by omega) r).mpr hb))) K) ?_
            show px_Gx _ _ (50, [(5, .int (nI (cs p))), (4, .int (nI p)), (0, .ref 8), (1, .long r), (3, .int (nI T))], [], hp) _
            refine px_gx (fun _ K => px_a 2 (f' := (3, [(4, .int ((nI p) + 1)), (5, .int (nI (cs p))), (0, .ref 8), (1, .long r), (3, .int (nI T))], [], hp)) rfl K) ?_
            rw [q_s p (by omega)]
            obtain ⟨o, hp', g, P⟩ := ih (p + 1) (by omega) [(5, .int (nI (cs p)))] (Or.inr ⟨_, rfl⟩)
            refine ⟨o, hp', g, P.1, ?_⟩
            obtain ⟨b, e1, P2⟩ := P.2
            refine ⟨b, e1, ?_⟩
            rcases P2 with ⟨e2, j, c1, c2⟩ | ⟨e2, c2⟩
            · exact Or.inl ⟨e2, j, by omega, c2⟩
            · refine Or.inr ⟨e2, fun j c1 c3 c4 c5 => ?_⟩
              by_cases ej : j = p
              · rw [ej]; exact hb
              · exact c2 j (by omega) c3 c4 c5
        ·
          refine px_gx (fun _ K => px_a 2 (f' := (6, [(4, .int (nI p)), (0, .ref 8), (1, .long r), (3, .int (nI T))], [.ref 8, .int (nI p)], hp)) rfl K) ?_
          refine px_gx (fun _ K => px_gf 8 72 3 7 (.int (nI pc)) rfl rfl hc rfl K) ?_
          show px_Gx _ _ (9, [(4, .int (nI p)), (0, .ref 8), (1, .long r), (3, .int (nI T))], [.int (nI pc), .int (nI p)], hp) _
          refine px_gx (fun _ K => px_b2 false 56 rfl rfl (decide_eq_false (show ¬ nI pc ≤ nI p by rw [Int32.le_iff_toInt_le, nI_toInt (by omega), nI_toInt (by omega)]; omega)) K) ?_
          show px_Gx _ _ (12, [(4, .int (nI p)), (0, .ref 8), (1, .long r), (3, .int (nI T))], [], hp) _
          refine px_gx (fun _ K => px_a 1 (f' := (13, [(4, .int (nI p)), (0, .ref 8), (1, .long r), (3, .int (nI T))], [.ref 8], hp)) rfl K) ?_
          refine px_gx (fun _ K => px_gf 8 27 3 2 (.ref 9) rfl rfl hc rfl K) ?_
          show px_Gx _ _ (16, [(4, .int (nI p)), (0, .ref 8), (1, .long r), (3, .int (nI T))], [.ref 9], hp) _
          refine px_gx (fun _ K => px_a 1 (f' := (18, [(4, .int (nI p)), (0, .ref 8), (1, .long r), (3, .int (nI T))], [.int (nI p), .ref 9], hp)) rfl K) ?_
          refine px_gx (fun _ K => px_al 9 (.ref (10 + 3 * p)) rfl h9 (Or.inr (Or.inr (Or.inr ⟨rfl, Or.inl rfl⟩))) (nI_pos (by omega)) (q_f p (by omega)) K) ?_
          show px_Gx _ _ (19, [(4, .int (nI p)), (0, .ref 8), (1, .long r), (3, .int (nI T))], [.ref (10 + 3 * p)], hp) _
          refine px_gx (fun _ K => px_cv (10 + 3 * p) (as := []) (rest := []) rfl rfl hf rfl rfl rfl rfl (Nat.le_of_ble_eq_true rfl) (hsz) K) ?_
          show px_Gx _ _ (22, [(4, .int (nI p)), (0, .ref 8), (1, .long r), (3, .int (nI T))], [.int (nI (cs p))], hp) _
          refine px_gx (fun _ K => px_a 2 (f' := (26, [(5, .int (nI (cs p))), (4, .int (nI p)), (0, .ref 8), (1, .long r), (3, .int (nI T))], [.int (nI (cs p))], hp)) rfl K) ?_
          refine px_gx (fun _ K => px_b1 false 50 rfl rfl (decide_eq_false (show ¬ nI (cs p) ≤ 0 by rw [Int32.le_iff_toInt_le, ec]; show ¬ (cs p : Int) ≤ 0; omega)) K) ?_
          show px_Gx _ _ (29, [(5, .int (nI (cs p))), (4, .int (nI p)), (0, .ref 8), (1, .long r), (3, .int (nI T))], [], hp) _
          refine px_gx (fun _ K => px_a 2 (f' := (32, [(5, .int (nI (cs p))), (4, .int (nI p)), (0, .ref 8), (1, .long r), (3, .int (nI T))], [.int (nI T), .int (nI (cs p))], hp)) rfl K) ?_
          refine px_gx (fun _ K => px_b2 true 50 rfl rfl (decide_eq_true (show nI T < nI (cs p) by rw [Int32.lt_iff_toInt_lt, ec, eT]; omega)) K) ?_
          show px_Gx _ _ (50, [(5, .int (nI (cs p))), (4, .int (nI p)), (0, .ref 8), (1, .long r), (3, .int (nI T))], [], hp) _
          refine px_gx (fun _ K => px_a 2 (f' := (3, [(4, .int ((nI p) + 1)), (5, .int (nI (cs p))), (0, .ref 8), (1, .long r), (3, .int (nI T))], [], hp)) rfl K) ?_
          rw [q_s p (by omega)]
          obtain ⟨o, hp', g, P⟩ := ih (p + 1) (by omega) [(5, .int (nI (cs p)))] (Or.inr ⟨_, rfl⟩)
          refine ⟨o, hp', g, P.1, ?_⟩
          obtain ⟨b, e1, P2⟩ := P.2
          refine ⟨b, e1, ?_⟩
          rcases P2 with ⟨e2, j, c1, c2⟩ | ⟨e2, c2⟩
          · exact Or.inl ⟨e2, j, by omega, c2⟩
          · refine Or.inr ⟨e2, fun j c1 c3 c4 c5 => ?_⟩
            by_cases ej : j = p
            · rw [ej] at c5; exact absurd c5 h2
            · exact c2 j (by omega) c3 c4 c5
      ·
        refine px_gx (fun _ K => px_a 2 (f' := (6, [(4, .int (nI p)), (0, .ref 8), (1, .long r), (3, .int (nI T))], [.ref 8, .int (nI p)], hp)) rfl K) ?_
        refine px_gx (fun _ K => px_gf 8 72 3 7 (.int (nI pc)) rfl rfl hc rfl K) ?_
        show px_Gx _ _ (9, [(4, .int (nI p)), (0, .ref 8), (1, .long r), (3, .int (nI T))], [.int (nI pc), .int (nI p)], hp) _
        refine px_gx (fun _ K => px_b2 false 56 rfl rfl (decide_eq_false (show ¬ nI pc ≤ nI p by rw [Int32.le_iff_toInt_le, nI_toInt (by omega), nI_toInt (by omega)]; omega)) K) ?_
        show px_Gx _ _ (12, [(4, .int (nI p)), (0, .ref 8), (1, .long r), (3, .int (nI T))], [], hp) _
        refine px_gx (fun _ K => px_a 1 (f' := (13, [(4, .int (nI p)), (0, .ref 8), (1, .long r), (3, .int (nI T))], [.ref 8], hp)) rfl K) ?_
        refine px_gx (fun _ K => px_gf 8 27 3 2 (.ref 9) rfl rfl hc rfl K) ?_
        show px_Gx _ _ (16, [(4, .int (nI p)), (0, .ref 8), (1, .long r), (3, .int (nI T))], [.ref 9], hp) _
        refine px_gx (fun _ K => px_a 1 (f' := (18, [(4, .int (nI p)), (0, .ref 8), (1, .long r), (3, .int (nI T))], [.int (nI p), .ref 9], hp)) rfl K) ?_
        refine px_gx (fun _ K => px_al 9 (.ref (10 + 3 * p)) rfl h9 (Or.inr (Or.inr (Or.inr ⟨rfl, Or.inl rfl⟩))) (nI_pos (by omega)) (q_f p (by omega)) K) ?_
        show px_Gx _ _ (19, [(4, .int (nI p)), (0, .ref 8), (1, .long r), (3, .int (nI T))], [.ref (10 + 3 * p)], hp) _
        refine px_gx (fun _ K => px_cv (10 + 3 * p) (as := []) (rest := []) rfl rfl hf rfl rfl rfl rfl (Nat.le_of_ble_eq_true rfl) (hsz) K) ?_
        show px_Gx _ _ (22, [(4, .int (nI p)), (0, .ref 8), (1, .long r), (3, .int (nI T))], [.int (nI (cs p))], hp) _
        refine px_gx (fun _ K => px_a 2 (f' := (26, [(5, .int (nI (cs p))), (4, .int (nI p)), (0, .ref 8), (1, .long r), (3, .int (nI T))], [.int (nI (cs p))], hp)) rfl K) ?_
        refine px_gx (fun _ K => px_b1 true 50 rfl rfl (decide_eq_true (show nI (cs p) ≤ 0 by rw [Int32.le_iff_toInt_le, ec]; show (cs p : Int) ≤ 0; omega)) K) ?_
        show px_Gx _ _ (50, [(5, .int (nI (cs p))), (4, .int (nI p)), (0, .ref 8), (1, .long r), (3, .int (nI T))], [], hp) _
        refine px_gx (fun _ K => px_a 2 (f' := (3, [(4, .int ((nI p) + 1)), (5, .int (nI (cs p))), (0, .ref 8), (1, .long r), (3, .int (nI T))], [], hp)) rfl K) ?_
        rw [q_s p (by omega)]
        obtain ⟨o, hp', g, P⟩ := ih (p + 1) (by omega) [(5, .int (nI (cs p)))] (Or.inr ⟨_, rfl⟩)
        refine ⟨o, hp', g, P.1, ?_⟩
        obtain ⟨b, e1, P2⟩ := P.2
        refine ⟨b, e1, ?_⟩
        rcases P2 with ⟨e2, j, c1, c2⟩ | ⟨e2, c2⟩
        · exact Or.inl ⟨e2, j, by omega, c2⟩
        · refine Or.inr ⟨e2, fun j c1 c3 c4 c5 => ?_⟩
          by_cases ej : j = p
          · rw [ej] at c4; exact absurd c4 h1
          · exact c2 j (by omega) c3 c4 c5
    · show px_Gx _ _ (3, [(4, .int (nI p)), (5, .int v5), (0, .ref 8), (1, .long r), (3, .int (nI T))], [], hp) _
      by_cases h1 : 0 < cs p
      · by_cases h2 : cs p ≤ T
        · have es := z_sub (cs p) (by omega) T (by omega) h2
          by_cases hb : x_bt r (T - cs p) = true
          · refine ⟨_, hp, ?_, rfl, 1, rfl, Or.inl ⟨rfl, p, Nat.le_refl p, by omega, h1, h2, hb⟩⟩
            refine px_a 2 (f' := (6, [(4, .int (nI p)), (5, .int v5), (0, .ref 8), (1, .long r), (3, .int (nI T))], [.ref 8, .int (nI p)], hp)) rfl ?_
            refine px_gf 8 72 3 7 (.int (nI pc)) rfl rfl hc rfl ?_
            show px_Go _ _ (9, [(4, .int (nI p)), (5, .int v5), (0, .ref 8), (1, .long r), (3, .int (nI T))], [.int (nI pc), .int (nI p)], hp) _
            refine px_b2 false 56 rfl rfl (decide_eq_false (show ¬ nI pc ≤ nI p by rw [Int32.le_iff_toInt_le, nI_toInt (by omega), nI_toInt (by omega)]; omega)) ?_
            show px_Go _ _ (12, [(4, .int (nI p)), (5, .int v5), (0, .ref 8), (1, .long r), (3, .int (nI T))], [], hp) _
            refine px_a 1 (f' := (13, [(4, .int (nI p)), (5, .int v5), (0, .ref 8), (1, .long r), (3, .int (nI T))], [.ref 8], hp)) rfl ?_
            refine px_gf 8 27 3 2 (.ref 9) rfl rfl hc rfl ?_
            show px_Go _ _ (16, [(4, .int (nI p)), (5, .int v5), (0, .ref 8), (1, .long r), (3, .int (nI T))], [.ref 9], hp) _
            refine px_a 1 (f' := (18, [(4, .int (nI p)), (5, .int v5), (0, .ref 8), (1, .long r), (3, .int (nI T))], [.int (nI p), .ref 9], hp)) rfl ?_
            refine px_al 9 (.ref (10 + 3 * p)) rfl h9 (Or.inr (Or.inr (Or.inr ⟨rfl, Or.inl rfl⟩))) (nI_pos (by omega)) (q_f p (by omega)) ?_
            show px_Go _ _ (19, [(4, .int (nI p)), (5, .int v5), (0, .ref 8), (1, .long r), (3, .int (nI T))], [.ref (10 + 3 * p)], hp) _
            refine px_cv (10 + 3 * p) (as := []) (rest := []) rfl rfl hf rfl rfl rfl rfl (Nat.le_of_ble_eq_true rfl) (hsz) ?_
            show px_Go _ _ (22, [(4, .int (nI p)), (5, .int v5), (0, .ref 8), (1, .long r), (3, .int (nI T))], [.int (nI (cs p))], hp) _
            refine px_a 2 (f' := (26, [(5, .int (nI (cs p))), (4, .int (nI p)), (0, .ref 8), (1, .long r), (3, .int (nI T))], [.int (nI (cs p))], hp)) rfl ?_
            refine px_b1 false 50 rfl rfl (decide_eq_false (show ¬ nI (cs p) ≤ 0 by rw [Int32.le_iff_toInt_le, ec]; show ¬ (cs p : Int) ≤ 0; omega)) ?_
            show px_Go _ _ (29, [(5, .int (nI (cs p))), (4, .int (nI p)), (0, .ref 8), (1, .long r), (3, .int (nI T))], [], hp) _
            refine px_a 2 (f' := (32, [(5, .int (nI (cs p))), (4, .int (nI p)), (0, .ref 8), (1, .long r), (3, .int (nI T))], [.int (nI T), .int (nI (cs p))], hp)) rfl ?_
            refine px_b2 false 50 rfl rfl (decide_eq_false (show ¬ nI T < nI (cs p) by rw [Int32.lt_iff_toInt_lt, ec, eT]; omega)) ?_
            show px_Go _ _ (35, [(5, .int (nI (cs p))), (4, .int (nI p)), (0, .ref 8), (1, .long r), (3, .int (nI T))], [], hp) _
            refine px_a 9 (f' := (45, [(5, .int (nI (cs p))), (4, .int (nI p)), (0, .ref 8), (1, .long r), (3, .int (nI T))], [.int (lg_cmp ((r >>> (Int32.toInt64 ((nI T) - (nI (cs p))) &&& 63)) &&& 1) 0)], hp)) rfl ?_
            refine px_b1 false 50 rfl rfl (decide_eq_false (fun z => by have z2 := x_cmp0.mp z; rw [es] at z2; have := (x_bit (by omega) r).mp z2; rw [hb] at this; cases this)) ?_
            show px_Go _ _ (48, [(5, .int (nI (cs p))), (4, .int (nI p)), (0, .ref 8), (1, .long r), (3, .int (nI T))], [], hp) _
            refine px_a 1 (f' := (49, [(5, .int (nI (cs p))), (4, .int (nI p)), (0, .ref 8), (1, .long r), (3, .int (nI T))], [.int 1], hp)) rfl ?_
            exact px_ri rfl rfl rfl
          · have hb : x_bt r (T - cs p) = false := by simpa using hb
            refine px_gx (fun _ K => px_a 2 (f' := (6, [(4, .int (nI p)), (5, .int v5), (0, .ref 8), (1, .long r), (3, .int (nI T))], [.ref 8, .int (nI p)], hp)) rfl K) ?_
            refine px_gx (fun _ K => px_gf 8 72 3 7 (.int (nI pc)) rfl rfl hc rfl K) ?_
            show px_Gx _ _ (9, [(4, .int (nI p)), (5, .int v5), (0, .ref 8), (1, .long r), (3, .int (nI T))], [.int (nI pc), .int (nI p)], hp) _
            refine px_gx (fun _ K => px_b2 false 56 rfl rfl (decide_eq_false (show ¬ nI pc ≤ nI p by rw [Int32.le_iff_toInt_le, nI_toInt (by omega), nI_toInt (by omega)]; omega)) K) ?_
            show px_Gx _ _ (12, [(4, .int (nI p)), (5, .int v5), (0, .ref 8), (1, .long r), (3, .int (nI T))], [], hp) _
            refine px_gx (fun _ K => px_a 1 (f' := (13, [(4, .int (nI p)), (5, .int v5), (0, .ref 8), (1, .long r), (3, .int (nI T))], [.ref 8], hp)) rfl K) ?_
            refine px_gx (fun _ K => px_gf 8 27 3 2 (.ref 9) rfl rfl hc rfl K) ?_
            show px_Gx _ _ (16, [(4, .int (nI p)), (5, .int v5), (0, .ref 8), (1, .long r), (3, .int (nI T))], [.ref 9], hp) _
            refine px_gx (fun _ K => px_a 1 (f' := (18, [(4, .int (nI p)), (5, .int v5), (0, .ref 8), (1, .long r), (3, .int (nI T))], [.int (nI p), .ref 9], hp)) rfl K) ?_
            refine px_gx (fun _ K => px_al 9 (.ref (10 + 3 * p)) rfl h9 (Or.inr (Or.inr (Or.inr ⟨rfl, Or.inl rfl⟩))) (nI_pos (by omega)) (q_f p (by omega)) K) ?_
            show px_Gx _ _ (19, [(4, .int (nI p)), (5, .int v5), (0, .ref 8), (1, .long r), (3, .int (nI T))], [.ref (10 + 3 * p)], hp) _
            refine px_gx (fun _ K => px_cv (10 + 3 * p) (as := []) (rest := []) rfl rfl hf rfl rfl rfl rfl (Nat.le_of_ble_eq_true rfl) (hsz) K) ?_
            show px_Gx _ _ (22, [(4, .int (nI p)), (5, .int v5), (0, .ref 8), (1, .long r), (3, .int (nI T))], [.int (nI (cs p))], hp) _
            refine px_gx (fun _ K => px_a 2 (f' := (26, [(5, .int (nI (cs p))), (4, .int (nI p)), (0, .ref 8), (1, .long r), (3, .int (nI T))], [.int (nI (cs p))], hp)) rfl K) ?_
            refine px_gx (fun _ K => px_b1 false 50 rfl rfl (decide_eq_false (show ¬ nI (cs p) ≤ 0 by rw [Int32.le_iff_toInt_le, ec]; show ¬ (cs p : Int) ≤ 0; omega)) K) ?_
            show px_Gx _ _ (29, [(5, .int (nI (cs p))), (4, .int (nI p)), (0, .ref 8), (1, .long r), (3, .int (nI T))], [], hp) _
            refine px_gx (fun _ K => px_a 2 (f' := (32, [(5, .int (nI (cs p))), (4, .int (nI p)), (0, .ref 8), (1, .long r), (3, .int (nI T))], [.int (nI T), .int (nI (cs p))], hp)) rfl K) ?_
            refine px_gx (fun _ K => px_b2 false 50 rfl rfl (decide_eq_false (show ¬ nI T < nI (cs p) by rw [Int32.lt_iff_toInt_lt, ec, eT]; omega)) K) ?_
            show px_Gx _ _ (35, [(5, .int (nI (cs p))), (4, .int (nI p)), (0, .ref 8), (1, .long r), (3, .int (nI T))], [], hp) _
            refine px_gx (fun _ K => px_a 9 (f' := (45, [(5, .int (nI (cs p))), (4, .int (nI p)), (0, .ref 8), (1, .long r), (3, .int (nI T))], [.int (lg_cmp ((r >>> (Int32.toInt64 ((nI T) - (nI (cs p))) &&& 63)) &&& 1) 0)], hp)) rfl K) ?_
            refine px_gx (fun _ K => px_b1 true 50 rfl rfl (decide_eq_true (x_cmp0.mpr (by rw [es]; exact (x_bit (by omega) r).mpr hb))) K) ?_
            show px_Gx _ _ (50, [(5, .int (nI (cs p))), (4, .int (nI p)), (0, .ref 8), (1, .long r), (3, .int (nI T))], [], hp) _
            refine px_gx (fun _ K => px_a 2 (f' := (3, [(4, .int ((nI p) + 1)), (5, .int (nI (cs p))), (0, .ref 8), (1, .long r), (3, .int (nI T))], [], hp)) rfl K) ?_
            rw [q_s p (by omega)]
            obtain ⟨o, hp', g, P⟩ := ih (p + 1) (by omega) [(5, .int (nI (cs p)))] (Or.inr ⟨_, rfl⟩)
            refine ⟨o, hp', g, P.1, ?_⟩
            obtain ⟨b, e1, P2⟩ := P.2
            refine ⟨b, e1, ?_⟩
            rcases P2 with ⟨e2, j, c1, c2⟩ | ⟨e2, c2⟩
            · exact Or.inl ⟨e2, j, by omega, c2⟩
            · refine Or.inr ⟨e2, fun j c1 c3 c4 c5 => ?_⟩
              by_cases ej : j = p
              · rw [ej]; exact hb
              · exact c2 j (by omega) c3 c4 c5
        ·
          refine px_gx (fun _ K => px_a 2 (f' := (6, [(4, .int (nI p)), (5, .int v5), (0, .ref 8), (1, .long r), (3, .int (nI T))], [.ref 8, .int (nI p)], hp)) rfl K) ?_
          refine px_gx (fun _ K => px_gf 8 72 3 7 (.int (nI pc)) rfl rfl hc rfl K) ?_
          show px_Gx _ _ (9, [(4, .int (nI p)), (5, .int v5), (0, .ref 8), (1, .long r), (3, .int (nI T))], [.int (nI pc), .int (nI p)], hp) _
          refine px_gx (fun _ K => px_b2 false 56 rfl rfl (decide_eq_false (show ¬ nI pc ≤ nI p by rw [Int32.le_iff_toInt_le, nI_toInt (by omega), nI_toInt (by omega)]; omega)) K) ?_
          show px_Gx _ _ (12, [(4, .int (nI p)), (5, .int v5), (0, .ref 8), (1, .long r), (3, .int (nI T))], [], hp) _
          refine px_gx (fun _ K => px_a 1 (f' := (13, [(4, .int (nI p)), (5, .int v5), (0, .ref 8), (1, .long r), (3, .int (nI T))], [.ref 8], hp)) rfl K) ?_
          refine px_gx (fun _ K => px_gf 8 27 3 2 (.ref 9) rfl rfl hc rfl K) ?_
          show px_Gx _ _ (16, [(4, .int (nI p)), (5, .int v5), (0, .ref 8), (1, .long r), (3, .int (nI T))], [.ref 9], hp) _
          refine px_gx (fun _ K => px_a 1 (f' := (18, [(4, .int (nI p)), (5, .int v5), (0, .ref 8), (1, .long r), (3, .int (nI T))], [.int (nI p), .ref 9], hp)) rfl K) ?_
          refine px_gx (fun _ K => px_al 9 (.ref (10 + 3 * p)) rfl h9 (Or.inr (Or.inr (Or.inr ⟨rfl, Or.inl rfl⟩))) (nI_pos (by omega)) (q_f p (by omega)) K) ?_
          show px_Gx _ _ (19, [(4, .int (nI p)), (5, .int v5), (0, .ref 8), (1, .long r), (3, .int (nI T))], [.ref (10 + 3 * p)], hp) _
          refine px_gx (fun _ K => px_cv (10 + 3 * p) (as := []) (rest := []) rfl rfl hf rfl rfl rfl rfl (Nat.le_of_ble_eq_true rfl) (hsz) K) ?_
          show px_Gx _ _ (22, [(4, .int (nI p)), (5, .int v5), (0, .ref 8), (1, .long r), (3, .int (nI T))], [.int (nI (cs p))], hp) _
          refine px_gx (fun _ K => px_a 2 (f' := (26, [(5, .int (nI (cs p))), (4, .int (nI p)), (0, .ref 8), (1, .long r), (3, .int (nI T))], [.int (nI (cs p))], hp)) rfl K) ?_
          refine px_gx (fun _ K => px_b1 false 50 rfl rfl (decide_eq_false (show ¬ nI (cs p) ≤ 0 by rw [Int32.le_iff_toInt_le, ec]; show ¬ (cs p : Int) ≤ 0; omega)) K) ?_
          show px_Gx _ _ (29, [(5, .int (nI (cs p))), (4, .int (nI p)), (0, .ref 8), (1, .long r), (3, .int (nI T))], [], hp) _
          refine px_gx (fun _ K => px_a 2 (f' := (32, [(5, .int (nI (cs p))), (4, .int (nI p)), (0, .ref 8), (1, .long r), (3, .int (nI T))], [.int (nI T), .int (nI (cs p))], hp)) rfl K) ?_
          refine px_gx (fun _ K => px_b2 true 50 rfl rfl (decide_eq_true (show nI T < nI (cs p) by rw [Int32.lt_iff_toInt_lt, ec, eT]; omega)) K) ?_
          show px_Gx _ _ (50, [(5, .int (nI (cs p))), (4, .int (nI p)), (0, .ref 8), (1, .long r), (3, .int (nI T))], [], hp) _
          refine px_gx (fun _ K => px_a 2 (f' := (3, [(4, .int ((nI p) + 1)), (5, .int (nI (cs p))), (0, .ref 8), (1, .long r), (3, .int (nI T))], [], hp)) rfl K) ?_
          rw [q_s p (by omega)]
          obtain ⟨o, hp', g, P⟩ := ih (p + 1) (by omega) [(5, .int (nI (cs p)))] (Or.inr ⟨_, rfl⟩)
          refine ⟨o, hp', g, P.1, ?_⟩
          obtain ⟨b, e1, P2⟩ := P.2
          refine ⟨b, e1, ?_⟩
          rcases P2 with ⟨e2, j, c1, c2⟩ | ⟨e2, c2⟩
          · exact Or.inl ⟨e2, j, by omega, c2⟩
          · refine Or.inr ⟨e2, fun j c1 c3 c4 c5 => ?_⟩
            by_cases ej : j = p
            · rw [ej] at c5; exact absurd c5 h2
            · exact c2 j (by omega) c3 c4 c5
      ·
        refine px_gx (fun _ K => px_a 2 (f' := (6, [(4, .int (nI p)), (5, .int v5), (0, .ref 8), (1, .long r), (3, .int (nI T))], [.ref 8, .int (nI p)], hp)) rfl K) ?_
        refine px_gx (fun _ K => px_gf 8 72 3 7 (.int (nI pc)) rfl rfl hc rfl K) ?_
        show px_Gx _ _ (9, [(4, .int (nI p)), (5, .int v5), (0, .ref 8), (1, .long r), (3, .int (nI T))], [.int (nI pc), .int (nI p)], hp) _
        refine px_gx (fun _ K => px_b2 false 56 rfl rfl (decide_eq_false (show ¬ nI pc ≤ nI p by rw [Int32.le_iff_toInt_le, nI_toInt (by omega), nI_toInt (by omega)]; omega)) K) ?_
        show px_Gx _ _ (12, [(4, .int (nI p)), (5, .int v5), (0, .ref 8), (1, .long r), (3, .int (nI T))], [], hp) _
        refine px_gx (fun _ K => px_a 1 (f' := (13, [(4, .int (nI p)), (5, .int v5), (0, .ref 8), (1, .long r), (3, .int (nI T))], [.ref 8], hp)) rfl K) ?_
        refine px_gx (fun _ K => px_gf 8 27 3 2 (.ref 9) rfl rfl hc rfl K) ?_
        show px_Gx _ _ (16, [(4, .int (nI p)), (5, .int v5), (0, .ref 8), (1, .long r), (3, .int (nI T))], [.ref 9], hp) _
        refine px_gx (fun _ K => px_a 1 (f' := (18, [(4, .int (nI p)), (5, .int v5), (0, .ref 8), (1, .long r), (3, .int (nI T))], [.int (nI p), .ref 9], hp)) rfl K) ?_
        refine px_gx (fun _ K => px_al 9 (.ref (10 + 3 * p)) rfl h9 (Or.inr (Or.inr (Or.inr ⟨rfl, Or.inl rfl⟩))) (nI_pos (by omega)) (q_f p (by omega)) K) ?_
        show px_Gx _ _ (19, [(4, .int (nI p)), (5, .int v5), (0, .ref 8), (1, .long r), (3, .int (nI T))], [.ref (10 + 3 * p)], hp) _
        refine px_gx (fun _ K => px_cv (10 + 3 * p) (as := []) (rest := []) rfl rfl hf rfl rfl rfl rfl (Nat.le_of_ble_eq_true rfl) (hsz) K) ?_
        show px_Gx _ _ (22, [(4, .int (nI p)), (5, .int v5), (0, .ref 8), (1, .long r), (3, .int (nI T))], [.int (nI (cs p))], hp) _
        refine px_gx (fun _ K => px_a 2 (f' := (26, [(5, .int (nI (cs p))), (4, .int (nI p)), (0, .ref 8), (1, .long r), (3, .int (nI T))], [.int (nI (cs p))], hp)) rfl K) ?_
        refine px_gx (fun _ K => px_b1 true 50 rfl rfl (decide_eq_true (show nI (cs p) ≤ 0 by rw [Int32.le_iff_toInt_le, ec]; show (cs p : Int) ≤ 0; omega)) K) ?_
        show px_Gx _ _ (50, [(5, .int (nI (cs p))), (4, .int (nI p)), (0, .ref 8), (1, .long r), (3, .int (nI T))], [], hp) _
        refine px_gx (fun _ K => px_a 2 (f' := (3, [(4, .int ((nI p) + 1)), (5, .int (nI (cs p))), (0, .ref 8), (1, .long r), (3, .int (nI T))], [], hp)) rfl K) ?_
        rw [q_s p (by omega)]
        obtain ⟨o, hp', g, P⟩ := ih (p + 1) (by omega) [(5, .int (nI (cs p)))] (Or.inr ⟨_, rfl⟩)
        refine ⟨o, hp', g, P.1, ?_⟩
        obtain ⟨b, e1, P2⟩ := P.2
        refine ⟨b, e1, ?_⟩
        rcases P2 with ⟨e2, j, c1, c2⟩ | ⟨e2, c2⟩
        · exact Or.inl ⟨e2, j, by omega, c2⟩
        · refine Or.inr ⟨e2, fun j c1 c3 c4 c5 => ?_⟩
          by_cases ej : j = p
          · rw [ej] at c4; exact absurd c4 h1
          · exact c2 j (by omega) c3 c4 c5
def z_I (cs : Nat → Nat) (pc : Nat) (r : Int64) (T : Nat) : Prop := ∀ t, t < 64 → (x_bt r t = true ↔ t < T ∧ z_S cs pc t)
theorem x_or (s t : Int64) (i : Nat) : x_bt (s ||| t) i = (x_bt s i || x_bt t i) := by
  unfold x_bt
  rw [Int64.toBitVec_or, BitVec.getLsbD_or]
set_option maxRecDepth 20000 in
theorem x_szl {d n pc : Nat} {hp : px_H} {W V : Nat} {fd : Int32} {sh : Int64} {cs : Nat → Nat} (hc : hp[(8 : Nat)]? = some (3, [.int (nI W), .int (nI V), .ref 9, .ref 28, .ref 29, .ref 30, .ref (34 + n), .int (nI pc), .long sh, .int fd])) (h9 : hp[(9 : Nat)]? = some (13, q_forms)) (pc6 : pc ≤ 6) (F : ∀ k, k < 6 → ∃ (gw gh wc sc : Int32) (ss : Int64) (b1 b2 N : Nat), N < 65536 ∧ cs k = pb_cnt 16 N ∧ cs k ≤ 6 ∧ hp[10 + 3 * k]? = some (1, [.int gw, .int gh, .ref b1, .ref b2, .int (nI N), .int wc, .int sc, .long ss])) {P : px_O → px_H → Prop} (K : ∀ r, z_I cs pc r 37 → px_Gx (d + 3) 63 (31, [(3, .int (nI 37)), (1, .long r), (0, .ref 8)], [], hp) P) : ∀ m T, T + m = 37 → 1 ≤ T → ∀ r, z_I cs pc r T → px_Gx (d + 3) 63 (4, [(3, .int (nI T)), (1, .long r), (0, .ref 8)], [], hp) P := by
  intro m
  induction m with
  | zero =>
    intro T h1 h2 r I
    obtain rfl : T = 37 := by omega
    refine px_gx (fun _ K => px_a 2 (f' := (7, [(3, .int (nI 37)), (1, .long r), (0, .ref 8)], [.int 36, .int (nI 37)], hp)) rfl K) ?_
    refine px_gx (fun _ K => px_b2 true 31 rfl rfl (by decide) K) ?_
    show px_Gx _ _ (31, [(3, .int (nI 37)), (1, .long r), (0, .ref 8)], [], hp) _
    exact K r I
  | succ m ih =>
    intro T h1 h2 r I
    have eT : (nI T).toInt = T := nI_toInt (by omega)
    obtain ⟨o, hp', g, e1, b, e2, cx⟩ := x_rl (d := d) (T := T) (r := r) hc h9 pc6 (by omega) F pc 0 (by omega) [] (Or.inl rfl)
    rw [e1, e2] at g
    replace g : px_Go (d + 2) 60 (0, [(0, .ref 8), (1, .long r), (3, .int (nI T))], [], hp) (.inl (some (.int b)), hp) := px_a 2 (f' := (3, [(4, .int (nI 0)), (0, .ref 8), (1, .long r), (3, .int (nI T))], [], hp)) rfl g
    have hz : z_S cs pc T ↔ ∃ j, 0 ≤ j ∧ j < pc ∧ 0 < cs j ∧ cs j ≤ T ∧ x_bt r (T - cs j) = true := by
      rw [z_iff (show 0 < T by omega)]
      constructor
      · rintro ⟨p, a1, a2, a3, a4⟩
        exact ⟨p, Nat.zero_le p, a1, a2, a3, (I _ (by omega)).mpr ⟨by omega, a4⟩⟩
      · rintro ⟨p, -, a1, a2, a3, a4⟩
        exact ⟨p, a1, a2, a3, ((I _ (by omega)).mp a4).2⟩
    rcases cx with ⟨rfl, cx⟩ | ⟨rfl, cx⟩
    · have hT := hz.mpr cx
      refine px_gx (fun _ K => px_a 2 (f' := (7, [(3, .int (nI T)), (1, .long r), (0, .ref 8)], [.int 36, .int (nI T)], hp)) rfl K) ?_
      refine px_gx (fun _ K => px_b2 false 31 rfl rfl (decide_eq_false (show ¬ 36 < nI T by rw [Int32.lt_iff_toInt_lt, eT]; show ¬ (36 : Int) < T; omega)) K) ?_
      show px_Gx _ _ (10, [(3, .int (nI T)), (1, .long r), (0, .ref 8)], [], hp) _
      refine px_gx (fun _ K => px_a 3 (f' := (13, [(3, .int (nI T)), (1, .long r), (0, .ref 8)], [.int (nI T), .long r, .ref 8], hp)) rfl K) ?_
      refine px_gx (fun _ K => px_cv 8 (as := [.long r, .int (nI T)]) (rest := []) rfl rfl hc rfl rfl rfl rfl (Nat.le_of_ble_eq_true rfl) (g) K) ?_
      show px_Gx _ _ (16, [(3, .int (nI T)), (1, .long r), (0, .ref 8)], [.int 1], hp) _
      refine px_gx (fun _ K => px_a 9 (f' := (4, [(3, .int ((nI T) + 1)), (1, .long (r ||| (1 <<< (Int32.toInt64 (nI T) &&& 63)))), (0, .ref 8)], [], hp)) rfl K) ?_
      rw [z_s37 T (by omega)]
      refine ih (T + 1) (by omega) (by omega) _ ?_
      intro t ht
      rw [x_or, x_one (show T < 64 by omega) ht, Bool.or_eq_true, I t ht, decide_eq_true_eq]
      constructor
      · rintro (⟨a1, a2⟩ | rfl)
        · exact ⟨by omega, a2⟩
        · exact ⟨by omega, hT⟩
      · rintro ⟨a1, a2⟩
        by_cases c : T = t
        · exact Or.inr c
        · exact Or.inl ⟨by omega, a2⟩
    · have hT : ¬ z_S cs pc T := fun z => by
        obtain ⟨j, a0, a1, a2, a3, a4⟩ := hz.mp z
        rw [cx j a0 a1 a2 a3] at a4
        cases a4
      refine px_gx (fun _ K => px_a 2 (f' := (7, [(3, .int (nI T)), (1, .long r), (0, .ref 8)], [.int 36, .int (nI T)], hp)) rfl K) ?_
      refine px_gx (fun _ K => px_b2 false 31 rfl rfl (decide_eq_false (show ¬ 36 < nI T by rw [Int32.lt_iff_toInt_lt, eT]; show ¬ (36 : Int) < T; omega)) K) ?_
      show px_Gx _ _ (10, [(3, .int (nI T)), (1, .long r), (0, .ref 8)], [], hp) _
      refine px_gx (fun _ K => px_a 3 (f' := (13, [(3, .int (nI T)), (1, .long r), (0, .ref 8)], [.int (nI T), .long r, .ref 8], hp)) rfl K) ?_
      refine px_gx (fun _ K => px_cv 8 (as := [.long r, .int (nI T)]) (rest := []) rfl rfl hc rfl rfl rfl rfl (Nat.le_of_ble_eq_true rfl) (g) K) ?_
      show px_Gx _ _ (16, [(3, .int (nI T)), (1, .long r), (0, .ref 8)], [.int 0], hp) _
      refine px_gx (fun _ K => px_a 3 (f' := (4, [(3, .int ((nI T) + 1)), (1, .long r), (0, .ref 8)], [], hp)) rfl K) ?_
      rw [z_s37 T (by omega)]
      refine ih (T + 1) (by omega) (by omega) _ ?_
      intro t ht
      rw [I t ht]
      constructor
      · rintro ⟨a1, a2⟩
        exact ⟨by omega, a2⟩
      · rintro ⟨a1, a2⟩
        refine ⟨?_, a2⟩
        by_cases c : t = T
        · subst c
          exact absurd a2 hT
        · omega
set_option maxRecDepth 20000 in
theorem x_sizes {d n pc : Nat} {hp : px_H} {W V : Nat} {fd : Int32} {sh : Int64} {cs : Nat → Nat} (hc : hp[(8 : Nat)]? = some (3, [.int (nI W), .int (nI V), .ref 9, .ref 28, .ref 29, .ref 30, .ref (34 + n), .int (nI pc), .long sh, .int fd])) (h9 : hp[(9 : Nat)]? = some (13, q_forms)) (pc6 : pc ≤ 6) (F : ∀ k, k < 6 → ∃ (gw gh wc sc : Int32) (ss : Int64) (b1 b2 N : Nat), N < 65536 ∧ cs k = pb_cnt 16 N ∧ cs k ≤ 6 ∧ hp[10 + 3 * k]? = some (1, [.int gw, .int gh, .ref b1, .ref b2, .int (nI N), .int wc, .int sc, .long ss])) {K : Nat} (hK : K ≤ 36) (hbc : px_Go (d + 2) 0 (0, [(0, .long sh)], [], hp) (.inl (some (.int (nI K))), hp)) : px_Gx (d + 3) 63 (0, [(0, .ref 8)], [], hp) (fun o hp' => hp' = hp ∧ ((o = .inl (some (.int 1)) ∧ z_S cs pc K) ∨ (o = .inl (some (.int 0)) ∧ ¬ z_S cs pc K))) := by
  refine px_gx (fun _ K => px_a 4 (f' := (4, [(3, .int 1), (1, .long 1), (0, .ref 8)], [], hp)) rfl K) ?_
  refine x_szl (d := d) hc h9 pc6 F ?_ 36 1 (by omega) (by omega) 1 ?_
  · intro r I
    cases hb : x_bt r K
    · refine ⟨_, hp, ?_, rfl, Or.inr ⟨rfl, fun z => by rw [(I K (by omega)).mpr ⟨by omega, z⟩] at hb; cases hb⟩⟩
      refine px_a 2 (f' := (33, [(3, .int (nI 37)), (1, .long r), (0, .ref 8)], [.ref 8, .long r], hp)) rfl ?_
      refine px_gf 8 64 3 8 (.long sh) rfl rfl hc rfl ?_
      show px_Go _ _ (36, [(3, .int (nI 37)), (1, .long r), (0, .ref 8)], [.long sh, .long r], hp) _
      refine px_cl (as := [.long sh]) (rest := [.long r]) rfl rfl (hbc) ?_
      show px_Go _ _ (39, [(3, .int (nI 37)), (1, .long r), (0, .ref 8)], [.int (nI K), .long r], hp) _
      refine px_a 5 (f' := (44, [(3, .int (nI 37)), (1, .long r), (0, .ref 8)], [.int (lg_cmp ((r >>> (Int32.toInt64 (nI K) &&& 63)) &&& 1) 0)], hp)) rfl ?_
      refine px_b1 true 51 rfl rfl (decide_eq_true (x_cmp0.mpr ((x_bit (by omega) r).mpr hb))) ?_
      show px_Go _ _ (51, [(3, .int (nI 37)), (1, .long r), (0, .ref 8)], [], hp) _
      refine px_a 1 (f' := (52, [(3, .int (nI 37)), (1, .long r), (0, .ref 8)], [.int 0], hp)) rfl ?_
      exact px_ri rfl rfl rfl
    · refine ⟨_, hp, ?_, rfl, Or.inl ⟨rfl, ((I K (by omega)).mp hb).2⟩⟩
      refine px_a 2 (f' := (33, [(3, .int (nI 37)), (1, .long r), (0, .ref 8)], [.ref 8, .long r], hp)) rfl ?_
      refine px_gf 8 64 3 8 (.long sh) rfl rfl hc rfl ?_
      show px_Go _ _ (36, [(3, .int (nI 37)), (1, .long r), (0, .ref 8)], [.long sh, .long r], hp) _
      refine px_cl (as := [.long sh]) (rest := [.long r]) rfl rfl (hbc) ?_
      show px_Go _ _ (39, [(3, .int (nI 37)), (1, .long r), (0, .ref 8)], [.int (nI K), .long r], hp) _
      refine px_a 5 (f' := (44, [(3, .int (nI 37)), (1, .long r), (0, .ref 8)], [.int (lg_cmp ((r >>> (Int32.toInt64 (nI K) &&& 63)) &&& 1) 0)], hp)) rfl ?_
      refine px_b1 false 51 rfl rfl (decide_eq_false (fun z => by have := (x_bit (by omega) r).mp (x_cmp0.mp z); rw [hb] at this; cases this)) ?_
      show px_Go _ _ (47, [(3, .int (nI 37)), (1, .long r), (0, .ref 8)], [], hp) _
      refine px_a 2 (f' := (52, [(3, .int (nI 37)), (1, .long r), (0, .ref 8)], [.int 1], hp)) rfl ?_
      exact px_ri rfl rfl rfl
  · intro t ht
    rw [show (1 : Int64) = (1 : Int64) <<< ((nI 0).toInt64 &&& 63) from rfl, x_one (by decide) ht, decide_eq_true_eq]
    constructor
    · rintro rfl
      exact ⟨by decide, z_S.zero⟩
    · rintro ⟨a1, -⟩
      omega
