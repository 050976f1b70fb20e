theorem c_icT {d m : Nat} {hp : px_H} (pm : m = 2 ∨ m = 3 ∨ m = 5 ∨ m = 7 ∨ m = 11 ∨ m = 13) : px_Go d 52 (0, [(0, .int (nI m))], [], hp) (.inl (some (.int 1)), hp) := by
  rcases pm with rfl | rfl | rfl | rfl | rfl | rfl
  · show px_Go d 52 (0, [(0, .int 2)], [], hp) _
    refine px_a 5 (f' := (38, [(0, .int 2)], [.int 1], hp)) rfl ?_
    exact px_ri rfl rfl rfl
  · show px_Go d 52 (0, [(0, .int 3)], [], hp) _
    refine px_a 8 (f' := (38, [(0, .int 3)], [.int 1], hp)) rfl ?_
    exact px_ri rfl rfl rfl
  · show px_Go d 52 (0, [(0, .int 5)], [], hp) _
    refine px_a 11 (f' := (38, [(0, .int 5)], [.int 1], hp)) rfl ?_
    exact px_ri rfl rfl rfl
  · show px_Go d 52 (0, [(0, .int 7)], [], hp) _
    refine px_a 14 (f' := (38, [(0, .int 7)], [.int 1], hp)) rfl ?_
    exact px_ri rfl rfl rfl
  · show px_Go d 52 (0, [(0, .int 11)], [], hp) _
    refine px_a 17 (f' := (38, [(0, .int 11)], [.int 1], hp)) rfl ?_
    exact px_ri rfl rfl rfl
  · show px_Go d 52 (0, [(0, .int 13)], [], hp) _
    refine px_a 20 (f' := (38, [(0, .int 13)], [.int 1], hp)) rfl ?_
    exact px_ri rfl rfl rfl
theorem c_icF {d : Nat} {hp : px_H} {mm : Int32} (h : ¬ (mm = 2 ∨ mm = 3 ∨ mm = 5 ∨ mm = 7 ∨ mm = 11 ∨ mm = 13)) : px_Go d 52 (0, [(0, .int mm)], [], hp) (.inl (some (.int 0)), hp) := by
  refine px_a 2 (f' := (2, [(0, .int mm)], [.int 2, .int mm], hp)) rfl ?_
  refine px_b2 false 33 rfl rfl (decide_eq_false (fun z => h (Or.inl z))) ?_
  show px_Go _ _ (5, [(0, .int mm)], [], hp) _
  refine px_a 2 (f' := (7, [(0, .int mm)], [.int 3, .int mm], hp)) rfl ?_
  refine px_b2 false 33 rfl rfl (decide_eq_false (fun z => h (Or.inr (Or.inl z)))) ?_
  show px_Go _ _ (10, [(0, .int mm)], [], hp) _
  refine px_a 2 (f' := (12, [(0, .int mm)], [.int 5, .int mm], hp)) rfl ?_
  refine px_b2 false 33 rfl rfl (decide_eq_false (fun z => h (Or.inr (Or.inr (Or.inl z))))) ?_
  show px_Go _ _ (15, [(0, .int mm)], [], hp) _
  refine px_a 2 (f' := (18, [(0, .int mm)], [.int 7, .int mm], hp)) rfl ?_
  refine px_b2 false 33 rfl rfl (decide_eq_false (fun z => h (Or.inr (Or.inr (Or.inr (Or.inl z)))))) ?_
  show px_Go _ _ (21, [(0, .int mm)], [], hp) _
  refine px_a 2 (f' := (24, [(0, .int mm)], [.int 11, .int mm], hp)) rfl ?_
  refine px_b2 false 33 rfl rfl (decide_eq_false (fun z => h (Or.inr (Or.inr (Or.inr (Or.inr (Or.inl z))))))) ?_
  show px_Go _ _ (27, [(0, .int mm)], [], hp) _
  refine px_a 2 (f' := (30, [(0, .int mm)], [.int 13, .int mm], hp)) rfl ?_
  refine px_b2 true 37 rfl rfl (decide_eq_true (fun z => h (Or.inr (Or.inr (Or.inr (Or.inr (Or.inr z))))))) ?_
  show px_Go _ _ (37, [(0, .int mm)], [], hp) _
  refine px_a 1 (f' := (38, [(0, .int mm)], [.int 0], hp)) rfl ?_
  exact px_ri rfl rfl rfl
theorem c_pm8 {mm : Int32} (h : (mm = 2 ∨ mm = 3 ∨ mm = 5 ∨ mm = 7 ∨ mm = 11 ∨ mm = 13)) : ∃ m : Nat, mm = nI m ∧ (m = 2 ∨ m = 3 ∨ m = 5 ∨ m = 7 ∨ m = 11 ∨ m = 13) := by
  rcases h with rfl | rfl | rfl | rfl | rfl | rfl
  · exact ⟨2, rfl, by omega⟩
  · exact ⟨3, rfl, by omega⟩
  · exact ⟨5, rfl, by omega⟩
  · exact ⟨7, rfl, by omega⟩
  · exact ⟨11, rfl, by omega⟩
  · exact ⟨13, rfl, by omega⟩
set_option maxRecDepth 20000 in
theorem x_colw8 {d n : Nat} (hN : pa_N n) {W V pc : Nat} {fd : Int32} {sh : Int64} {mm : Int32} : ∀ t p (hp : px_H) (fw : List Value), p + t = fw.length → fw.length ≤ 36 → ∀ (H : pa_Hi n hp) (hc : hp[(8 : Nat)]? = some (3, [.int (nI W), .int (nI V), .ref 9, .ref 28, .ref 29, .ref 30, .ref (34 + n), .int (nI pc), .long sh, .int fd])) (h29 : hp[(29 : Nat)]? = some (10, fw)), px_Gx (d + 6) 48 (62, [(2, .int (nI p)), (0, .ref 8), (1, .int mm)], [], hp) (fun o _ => o = .inl (some (.int 1))) := by
  intro t
  induction t with
  | zero =>
    intro p hp fw h l36 H hc h29
    obtain ⟨ev, h30, -⟩ := pa_Hi_get H (a := 30) (r := 15) rfl (by decide)
    refine px_gx (fun _ K9 => px_a 2 (f' := (64, [(2, .int (nI p)), (0, .ref 8), (1, .int mm)], [.ref 8, .int (nI p)], hp)) rfl K9) ?_
    refine px_gx (fun _ K9 => px_gf 8 38 3 4 (.ref 29) rfl rfl hc rfl K9) ?_
    show px_Gx _ _ (67, [(2, .int (nI p)), (0, .ref 8), (1, .int mm)], [.ref 29, .int (nI p)], hp) _
    refine px_gx (fun _ K9 => px_len_ 29 rfl h29 (by decide) (by decide) K9) ?_
    rw [show fw.length.toInt32 = nI fw.length from rfl]
    show px_Gx _ _ (68, [(2, .int (nI p)), (0, .ref 8), (1, .int mm)], [.int (nI fw.length), .int (nI p)], hp) _
    refine px_gx (fun _ K9 => px_b2 true 91 rfl rfl (decide_eq_true (show nI fw.length ≤ nI p by rw [Int32.le_iff_toInt_le, nI_toInt (by omega), nI_toInt (by omega)]; omega)) K9) ?_
    show px_Gx _ _ (91, [(2, .int (nI p)), (0, .ref 8), (1, .int mm)], [], hp) _
    refine px_gx (fun _ K9 => px_a 2 (f' := (93, [(2, .int (nI p)), (0, .ref 8), (1, .int mm)], [.int 1, .ref 8], hp)) rfl K9) ?_
    refine px_gx (fun _ K9 => px_pf 8 68 3 9 rfl rfl hc (by omega) (by simp) rfl rfl (by decide) K9) ?_
    have hf1_8 : (hp.set 8 (3, [.int (nI W), .int (nI V), .ref 9, .ref 28, .ref 29, .ref 30, .ref (34 + n), .int (nI pc), .long sh, .int 1]))[(8 : Nat)]? = some (3, [.int (nI W), .int (nI V), .ref 9, .ref 28, .ref 29, .ref 30, .ref (34 + n), .int (nI pc), .long sh, .int 1]) := px_self hc
    have hf1_29 : (hp.set 8 (3, [.int (nI W), .int (nI V), .ref 9, .ref 28, .ref 29, .ref 30, .ref (34 + n), .int (nI pc), .long sh, .int 1]))[(29 : Nat)]? = some (10, fw) := px_ne h29 (by omega)
    have hf1_30 : (hp.set 8 (3, [.int (nI W), .int (nI V), .ref 9, .ref 28, .ref 29, .ref 30, .ref (34 + n), .int (nI pc), .long sh, .int 1]))[(30 : Nat)]? = some (0, ev) := px_ne h30 (by omega)
    show px_Gx _ _ (96, [(2, .int (nI p)), (0, .ref 8), (1, .int mm)], [], (hp.set 8 (3, [.int (nI W), .int (nI V), .ref 9, .ref 28, .ref 29, .ref 30, .ref (34 + n), .int (nI pc), .long sh, .int 1]))) _
    refine px_gx (fun _ K9 => px_a 1 (f' := (97, [(2, .int (nI p)), (0, .ref 8), (1, .int mm)], [.int 1], (hp.set 8 (3, [.int (nI W), .int (nI V), .ref 9, .ref 28, .ref 29, .ref 30, .ref (34 + n), .int (nI pc), .long sh, .int 1])))) rfl K9) ?_
    exact ⟨_, _, px_ri rfl rfl rfl, rfl⟩
  | succ t ih =>
    intro p hp fw h l36 H hc h29
    obtain ⟨ev, h30, -⟩ := pa_Hi_get H (a := 30) (r := 15) rfl (by decide)
    obtain ⟨z, hp1, g, H1, G1⟩ := x_ci (d' := d + 5) (ct_18 hN) (by omega) rfl rfl H [.ref 30, .int (nI p)] ⟨⟨30, rfl, rfl, by decide⟩, pa_top_ok _, trivial⟩
    have hc1 := l_fo G1 hc (r := 8) rfl (by decide)
    have h291 := l_fo G1 h29 (r := 14) rfl (by decide)
    refine px_gx (fun _ K9 => px_a 2 (f' := (64, [(2, .int (nI p)), (0, .ref 8), (1, .int mm)], [.ref 8, .int (nI p)], hp)) rfl K9) ?_
    refine px_gx (fun _ K9 => px_gf 8 38 3 4 (.ref 29) rfl rfl hc rfl K9) ?_
    show px_Gx _ _ (67, [(2, .int (nI p)), (0, .ref 8), (1, .int mm)], [.ref 29, .int (nI p)], hp) _
    refine px_gx (fun _ K9 => px_len_ 29 rfl h29 (by decide) (by decide) K9) ?_
    rw [show fw.length.toInt32 = nI fw.length from rfl]
    show px_Gx _ _ (68, [(2, .int (nI p)), (0, .ref 8), (1, .int mm)], [.int (nI fw.length), .int (nI p)], hp) _
    refine px_gx (fun _ K9 => px_b2 false 91 rfl rfl (decide_eq_false (show ¬ nI fw.length ≤ nI p by rw [Int32.le_iff_toInt_le, nI_toInt (by omega), nI_toInt (by omega)]; omega)) K9) ?_
    show px_Gx _ _ (71, [(2, .int (nI p)), (0, .ref 8), (1, .int mm)], [], hp) _
    refine px_gx (fun _ K9 => px_a 1 (f' := (72, [(2, .int (nI p)), (0, .ref 8), (1, .int mm)], [.ref 8], hp)) rfl K9) ?_
    refine px_gx (fun _ K9 => px_gf 8 38 3 4 (.ref 29) rfl rfl hc rfl K9) ?_
    show px_Gx _ _ (75, [(2, .int (nI p)), (0, .ref 8), (1, .int mm)], [.ref 29], hp) _
    refine px_gx (fun _ K9 => px_a 2 (f' := (77, [(2, .int (nI p)), (0, .ref 8), (1, .int mm)], [.ref 8, .int (nI p), .ref 29], hp)) rfl K9) ?_
    refine px_gx (fun _ K9 => px_gf 8 46 3 5 (.ref 30) rfl rfl hc rfl K9) ?_
    show px_Gx _ _ (80, [(2, .int (nI p)), (0, .ref 8), (1, .int mm)], [.ref 30, .int (nI p), .ref 29], hp) _
    refine px_gx (fun _ K9 => px_a 1 (f' := (81, [(2, .int (nI p)), (0, .ref 8), (1, .int mm)], [.int (nI p), .ref 30, .int (nI p), .ref 29], hp)) rfl K9) ?_
    refine px_gx (fun _ K9 => px_cv 30 (as := [.int (nI p)]) (rest := [.int (nI p), .ref 29]) rfl rfl h30 rfl rfl rfl rfl (Nat.le_of_ble_eq_true rfl) (g) K9) ?_
    show px_Gx _ _ (84, [(2, .int (nI p)), (0, .ref 8), (1, .int mm)], [.int z, .int (nI p), .ref 29], hp1) _
    refine px_gx (fun _ K9 => px_ias 29 rfl h291 (by omega) (nI_pos (by omega)) (by rw [nI_clamp (by omega)]; omega) K9) ?_
    have hf1_8 : (hp1.set 29 (10, (fw.set (nI p).toNatClampNeg (.int z))))[(8 : Nat)]? = some (3, [.int (nI W), .int (nI V), .ref 9, .ref 28, .ref 29, .ref 30, .ref (34 + n), .int (nI pc), .long sh, .int fd]) := px_ne hc1 (by omega)
    have hf1_29 : (hp1.set 29 (10, (fw.set (nI p).toNatClampNeg (.int z))))[(29 : Nat)]? = some (10, (fw.set (nI p).toNatClampNeg (.int z))) := px_self h291
    show px_Gx _ _ (85, [(2, .int (nI p)), (0, .ref 8), (1, .int mm)], [], (hp1.set 29 (10, (fw.set (nI p).toNatClampNeg (.int z))))) _
    refine px_gx (fun _ K9 => px_a 2 (f' := (62, [(2, .int ((nI p) + 1)), (0, .ref 8), (1, .int mm)], [], (hp1.set 29 (10, (fw.set (nI p).toNatClampNeg (.int z)))))) rfl K9) ?_
    rw [p_s16 p (by omega)]
    exact ih (p + 1) _ _ (by rw [List.length_set]; omega) (by rw [List.length_set]; exact l36) (p_z29 H1 h291) (px_ne hc1 (by omega)) (px_self h291)
set_option maxRecDepth 20000 in
theorem x_coll8 {d n : Nat} (hN : pa_N n) {W V pc : Nat} {fd : Int32} {sh : Int64} {m : Nat} (pm : m = 2 ∨ m = 3 ∨ m = 5 ∨ m = 7 ∨ m = 11 ∨ m = 13) (pc6 : pc ≤ 6) (hW : W ≤ 6) (hV : V ≤ 6) {Nq : Nat → Nat} (hNq6 : ∀ q, q < 6 → Nq q < 65536) : ∀ t p, p + t = pc → ∀ (hp : px_H) (H : pa_Hi n hp) (hc : hp[(8 : Nat)]? = some (3, [.int (nI W), .int (nI V), .ref 9, .ref 28, .ref 29, .ref 30, .ref (34 + n), .int (nI pc), .long sh, .int fd])) (h9 : hp[(9 : Nat)]? = some (13, q_forms)) (R : r_fm hp W V) (hNq : ∀ q, q < 6 → pa_fd hp (10 + 3 * q) 4 = some (.int (nI (Nq q)))) (q : g_Q n m hp (fun w => ∀ q, q < p → ∀ S, pl_D W V (f_wl (Nq q)) sh S → e_S m n (fun d => (g_bt (lN S) d : Int)) 0 w)), px_Gx (d + 6) 48 (19, [(2, .int (nI p)), (0, .ref 8), (1, .int (nI m))], [], hp) (fun o _ => (o = .inl (some (.int 1)) ∧ (∃ w, (∀ q, q < pc → ∀ S, pl_D W V (f_wl (Nq q)) sh S → e_S m n (fun d => (g_bt (lN S) d : Int)) 0 w) ∧ e_S m n (fun d => (g_bt sh d : Int)) 1 w)) ∨ (o = .inl (some (.int 0)) ∧ ¬ (∃ w, (∀ q, q < pc → ∀ S, pl_D W V (f_wl (Nq q)) sh S → e_S m n (fun d => (g_bt (lN S) d : Int)) 0 w) ∧ e_S m n (fun d => (g_bt sh d : Int)) 1 w))) := by
  intro t
  induction t with
  | zero =>
    intro p h hp H hc h9 R hNq q
    obtain rfl : p = pc := by omega
    have h30 : hp[(30 : Nat)]? = some (0, [.int (nI n), .ref 31, .ref (32 + n), .ref (33 + n), .int (nI m)]) := by
      obtain ⟨ld, r, rb, a1, -⟩ := q
      exact a1.1
    refine px_gx (fun _ K9 => px_a 2 (f' := (21, [(2, .int (nI p)), (0, .ref 8), (1, .int (nI m))], [.ref 8, .int (nI p)], hp)) rfl K9) ?_
    refine px_gx (fun _ K9 => px_gf 8 72 3 7 (.int (nI p)) rfl rfl hc rfl K9) ?_
    show px_Gx _ _ (24, [(2, .int (nI p)), (0, .ref 8), (1, .int (nI m))], [.int (nI p), .int (nI p)], hp) _
    refine px_gx (fun _ K9 => px_b2 true 43 rfl rfl (decide_eq_true (Int32.le_refl _)) K9) ?_
    show px_Gx _ _ (43, [(2, .int (nI p)), (0, .ref 8), (1, .int (nI m))], [], hp) _
    obtain ⟨z, hp1, g, sm, cx⟩ := c_addQ (d0 := d + 3) (b := 1) (s := sh) pm hN.2 (by omega) q
    rcases cx with ⟨rfl, -, w, hw⟩ | ⟨rfl, hno⟩
    · 
      refine px_gx (fun _ K9 => px_a 1 (f' := (44, [(2, .int (nI p)), (0, .ref 8), (1, .int (nI m))], [.ref 8], hp)) rfl K9) ?_
      refine px_gx (fun _ K9 => px_gf 8 46 3 5 (.ref 30) rfl rfl hc rfl K9) ?_
      show px_Gx _ _ (47, [(2, .int (nI p)), (0, .ref 8), (1, .int (nI m))], [.ref 30], hp) _
      refine px_gx (fun _ K9 => px_a 1 (f' := (48, [(2, .int (nI p)), (0, .ref 8), (1, .int (nI m))], [.ref 8, .ref 30], hp)) rfl K9) ?_
      refine px_gx (fun _ K9 => px_gf 8 64 3 8 (.long sh) rfl rfl hc rfl K9) ?_
      show px_Gx _ _ (51, [(2, .int (nI p)), (0, .ref 8), (1, .int (nI m))], [.long sh, .ref 30], hp) _
      refine px_gx (fun _ K9 => px_a 1 (f' := (52, [(2, .int (nI p)), (0, .ref 8), (1, .int (nI m))], [.int 1, .long sh, .ref 30], hp)) rfl K9) ?_
      refine px_gx (fun _ K9 => px_cv 30 (as := [.long sh, .int 1]) (rest := []) rfl rfl h30 rfl rfl rfl rfl (Nat.le_of_ble_eq_true rfl) (g) K9) ?_
      show px_Gx _ _ (55, [(2, .int (nI p)), (0, .ref 8), (1, .int (nI m))], [.int 1], hp1) _
      refine px_gx (fun _ K9 => px_a 3 (f' := (62, [(2, .int 0), (0, .ref 8), (1, .int (nI m))], [], hp1)) rfl K9) ?_
      obtain ⟨z2, hp2, g2, H1, G1⟩ := x_ci (d' := d + 5) (ct_12 hN) (by omega) rfl rfl H [.ref 30, .long sh, .int 1] ⟨⟨30, rfl, rfl, by decide⟩, ⟨_, rfl⟩, pa_top_ok _, trivial⟩
      have e2 := px_det g g2
      cases e2
      obtain ⟨fw, h29, l36⟩ := p_29 hN H1
      refine px_wk [(2, .int (nI 0)), (0, .ref 8), (1, .int (nI m))] ⟨rfl, rfl, rfl, trivial⟩ ?_
      obtain ⟨o, hp', g3, e3⟩ := x_colw8 (d := d) hN (mm := nI m) fw.length 0 hp1 fw (by omega) l36 H1 ((sm _ (by omega)).trans hc) h29
      exact ⟨o, hp', g3, Or.inl ⟨e3, w, hw⟩⟩
    · 
      refine px_gx (fun _ K9 => px_a 1 (f' := (44, [(2, .int (nI p)), (0, .ref 8), (1, .int (nI m))], [.ref 8], hp)) rfl K9) ?_
      refine px_gx (fun _ K9 => px_gf 8 46 3 5 (.ref 30) rfl rfl hc rfl K9) ?_
      show px_Gx _ _ (47, [(2, .int (nI p)), (0, .ref 8), (1, .int (nI m))], [.ref 30], hp) _
      refine px_gx (fun _ K9 => px_a 1 (f' := (48, [(2, .int (nI p)), (0, .ref 8), (1, .int (nI m))], [.ref 8, .ref 30], hp)) rfl K9) ?_
      refine px_gx (fun _ K9 => px_gf 8 64 3 8 (.long sh) rfl rfl hc rfl K9) ?_
      show px_Gx _ _ (51, [(2, .int (nI p)), (0, .ref 8), (1, .int (nI m))], [.long sh, .ref 30], hp) _
      refine px_gx (fun _ K9 => px_a 1 (f' := (52, [(2, .int (nI p)), (0, .ref 8), (1, .int (nI m))], [.int 1, .long sh, .ref 30], hp)) rfl K9) ?_
      refine px_gx (fun _ K9 => px_cv 30 (as := [.long sh, .int 1]) (rest := []) rfl rfl h30 rfl rfl rfl rfl (Nat.le_of_ble_eq_true rfl) (g) K9) ?_
      show px_Gx _ _ (55, [(2, .int (nI p)), (0, .ref 8), (1, .int (nI m))], [.int 0], hp1) _
      refine px_gx (fun _ K9 => px_a 2 (f' := (59, [(2, .int (nI p)), (0, .ref 8), (1, .int (nI m))], [.int 0], hp1)) rfl K9) ?_
      exact ⟨_, _, px_ri rfl rfl rfl, Or.inr ⟨rfl, fun ⟨w, hA, hE⟩ => hno w hA hE⟩⟩
  | succ t ih =>
    intro p h hp H hc h9 R hNq q
    have h30 : hp[(30 : Nat)]? = some (0, [.int (nI n), .ref 31, .ref (32 + n), .ref (33 + n), .int (nI m)]) := by
      obtain ⟨ld, r, rb, a1, -⟩ := q
      exact a1.1
    obtain ⟨hp1, g, H1, G1, R1, q1⟩ := x_aps8 (d := d) (k := p) hN H pm hc (by omega) hW hV R q (fun _ _ _ _ => e_S00) (hNq p (by omega)) (hNq6 p (by omega))
    refine px_gx (fun _ K9 => px_a 2 (f' := (21, [(2, .int (nI p)), (0, .ref 8), (1, .int (nI m))], [.ref 8, .int (nI p)], hp)) rfl K9) ?_
    refine px_gx (fun _ K9 => px_gf 8 72 3 7 (.int (nI pc)) rfl rfl hc rfl K9) ?_
    show px_Gx _ _ (24, [(2, .int (nI p)), (0, .ref 8), (1, .int (nI m))], [.int (nI pc), .int (nI p)], hp) _
    refine px_gx (fun _ K9 => px_b2 false 43 rfl rfl (decide_eq_false (show ¬ nI pc ≤ nI p by rw [Int32.le_iff_toInt_le, nI_toInt (by omega), nI_toInt (by omega)]; omega)) K9) ?_
    show px_Gx _ _ (27, [(2, .int (nI p)), (0, .ref 8), (1, .int (nI m))], [], hp) _
    refine px_gx (fun _ K9 => px_a 2 (f' := (29, [(2, .int (nI p)), (0, .ref 8), (1, .int (nI m))], [.ref 8, .ref 8], hp)) rfl K9) ?_
    refine px_gx (fun _ K9 => px_gf 8 27 3 2 (.ref 9) rfl rfl hc rfl K9) ?_
    show px_Gx _ _ (32, [(2, .int (nI p)), (0, .ref 8), (1, .int (nI m))], [.ref 9, .ref 8], hp) _
    refine px_gx (fun _ K9 => px_a 1 (f' := (33, [(2, .int (nI p)), (0, .ref 8), (1, .int (nI m))], [.int (nI p), .ref 9, .ref 8], hp)) rfl K9) ?_
    refine px_gx (fun _ K9 => px_al 9 (.ref (10 + 3 * p)) rfl h9 (Or.inr (Or.inr (Or.inr ⟨rfl, Or.inl rfl⟩))) (nI_pos (by omega)) (q_f p (by omega)) K9) ?_
    show px_Gx _ _ (34, [(2, .int (nI p)), (0, .ref 8), (1, .int (nI m))], [.ref (10 + 3 * p), .ref 8], hp) _
    refine px_gx (fun _ K9 => px_cv 8 (as := [.ref (10 + 3 * p)]) (rest := []) rfl rfl hc rfl rfl rfl rfl (Nat.le_of_ble_eq_true rfl) (g) K9) ?_
    show px_Gx _ _ (37, [(2, .int (nI p)), (0, .ref 8), (1, .int (nI m))], [], hp1) _
    refine px_gx (fun _ K9 => px_a 2 (f' := (19, [(2, .int ((nI p) + 1)), (0, .ref 8), (1, .int (nI m))], [], hp1)) rfl K9) ?_
    rw [p_s16 p (by omega)]
    refine ih (p + 1) (by omega) hp1 H1 (l_fo G1 hc (r := 8) rfl (by decide)) (l_fo G1 h9 (r := 9) rfl (by decide)) R1 (fun q hq => (l_fd H G1 (r10 hq) (by decide) (by decide) (by decide)).trans (hNq q hq)) (g_Q_c (fun w => ⟨fun z q hq S hS => ?_, fun z => ⟨fun q hq => z q (by omega), z p (by omega)⟩⟩) q1)
    by_cases e : q = p
    · rw [e] at hS
      exact z.2 S hS
    · exact z.1 q (by omega) S hS
set_option maxRecDepth 20000 in
theorem x_colX {d n : Nat} (hN : pa_N n) {W V pc : Nat} {fd : Int32} {sh : Int64} {m : Nat} (pm : m = 2 ∨ m = 3 ∨ m = 5 ∨ m = 7 ∨ m = 11 ∨ m = 13) (pc6 : pc ≤ 6) (hW : W ≤ 6) (hV : V ≤ 6) {Nq : Nat → Nat} (hNq6 : ∀ q, q < 6 → Nq q < 65536) {hp : px_H} (H : pa_Hi n hp) (hc : hp[(8 : Nat)]? = some (3, [.int (nI W), .int (nI V), .ref 9, .ref 28, .ref 29, .ref 30, .ref (34 + n), .int (nI pc), .long sh, .int fd])) (h9 : hp[(9 : Nat)]? = some (13, q_forms)) (R : r_fm hp W V) (hNq : ∀ q, q < 6 → pa_fd hp (10 + 3 * q) 4 = some (.int (nI (Nq q)))) (gp : g_P n hp) : px_Gx (d + 6) 48 (0, [(0, .ref 8), (1, .int (nI m))], [], hp) (fun o _ => (o = .inl (some (.int 1)) ∧ (∃ w, (∀ q, q < pc → ∀ S, pl_D W V (f_wl (Nq q)) sh S → e_S m n (fun d => (g_bt (lN S) d : Int)) 0 w) ∧ e_S m n (fun d => (g_bt sh d : Int)) 1 w)) ∨ (o = .inl (some (.int 0)) ∧ ¬ (∃ w, (∀ q, q < pc → ∀ S, pl_D W V (f_wl (Nq q)) sh S → e_S m n (fun d => (g_bt (lN S) d : Int)) 0 w) ∧ e_S m n (fun d => (g_bt sh d : Int)) 1 w))) := by
  have gp2 := gp
  obtain ⟨⟨mv, h30⟩, -⟩ := gp
  obtain ⟨ob, hpb, gb, eb, gh, gw, sm⟩ := c_bgX (d0 := d + 5) pm hN.2 gp2
  subst eb
  obtain ⟨hp2, g2, Hb, Gb⟩ := x_cn (d' := d + 5) (ct_13 hN) (by omega) rfl rfl H [.ref 30, .int (nI m)] ⟨⟨30, rfl, rfl, by decide⟩, pa_top_ok _, trivial⟩
  have e2 := px_det gb g2
  cases e2
  refine px_gx (fun _ K9 => px_a 1 (f' := (1, [(0, .ref 8), (1, .int (nI m))], [.int (nI m)], hp)) rfl K9) ?_
  refine px_gx (fun _ K9 => px_cl (as := [.int (nI m)]) (rest := []) rfl rfl (c_icT pm) K9) ?_
  show px_Gx _ _ (4, [(0, .ref 8), (1, .int (nI m))], [.int 1], hp) _
  refine px_gx (fun _ K9 => px_a 2 (f' := (10, [(0, .ref 8), (1, .int (nI m))], [.ref 8], hp)) rfl K9) ?_
  refine px_gx (fun _ K9 => px_gf 8 46 3 5 (.ref 30) rfl rfl hc rfl K9) ?_
  show px_Gx _ _ (13, [(0, .ref 8), (1, .int (nI m))], [.ref 30], hp) _
  refine px_gx (fun _ K9 => px_a 1 (f' := (14, [(0, .ref 8), (1, .int (nI m))], [.int (nI m), .ref 30], hp)) rfl K9) ?_
  refine px_gx (fun _ K9 => px_cv 30 (as := [.int (nI m)]) (rest := []) rfl rfl h30 rfl rfl rfl rfl (Nat.le_of_ble_eq_true rfl) (gb) K9) ?_
  show px_Gx _ _ (17, [(0, .ref 8), (1, .int (nI m))], [], hpb) _
  refine px_gx (fun _ K9 => px_a 2 (f' := (19, [(2, .int 0), (0, .ref 8), (1, .int (nI m))], [], hpb)) rfl K9) ?_
  refine x_coll8 hN pm pc6 hW hV hNq6 pc 0 (by omega) hpb Hb ((sm _ (by omega)).trans hc) ((sm _ (by omega)).trans h9) (r_fm_m (fun a x h1 h2 h3 => (sm a (by omega)).trans h3) R) (fun q hq => (l_fd H Gb (r10 hq) (by decide) (by decide) (by decide)).trans (hNq q hq)) ⟨_, _, _, gh, fun c hc hl => Bool.noConfusion hl, fun w => ⟨fun _ q hq => absurd hq (Nat.not_lt_zero q), fun _ c hc hl => Bool.noConfusion hl⟩, gw⟩
theorem x_colN {d : Nat} {n : Nat} {hp : px_H} {W V : Nat} {fc fd : Int32} {sh : Int64} (hc : hp[(8 : Nat)]? = some (3, [.int (nI W), .int (nI V), .ref 9, .ref 28, .ref 29, .ref 30, .ref (34 + n), .int fc, .long sh, .int fd])) {mm : Int32} (h : ¬ (mm = 2 ∨ mm = 3 ∨ mm = 5 ∨ mm = 7 ∨ mm = 11 ∨ mm = 13)) : px_Gx (d + 1) 48 (0, [(0, .ref 8), (1, .int mm)], [], hp) (fun o _ => o = .inl (some (.int (-1)))) := by
  refine px_gx (fun _ K9 => px_a 1 (f' := (1, [(0, .ref 8), (1, .int mm)], [.int mm], hp)) rfl K9) ?_
  refine px_gx (fun _ K9 => px_cl (as := [.int mm]) (rest := []) rfl rfl (c_icF h) K9) ?_
  show px_Gx _ _ (4, [(0, .ref 8), (1, .int mm)], [.int 0], hp) _
  refine px_gx (fun _ K9 => px_a 2 (f' := (8, [(0, .ref 8), (1, .int mm)], [.int (-1)], hp)) rfl K9) ?_
  exact ⟨_, _, px_ri rfl rfl rfl, rfl⟩
