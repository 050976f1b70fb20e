theorem z_c_le (N : Nat) : ∀ c, z_c N c ≤ c
  | 0 => Nat.le_refl 0
  | c + 1 => by
    show z_c N c + (if N.testBit c = true then 1 else 0) ≤ c + 1
    have := z_c_le N c
    split <;> omega
theorem z_c_hi {N n : Nat} (h : ∀ c, n ≤ c → N.testBit c = false) : ∀ m, z_c N (n + m) = z_c N n
  | 0 => rfl
  | m + 1 => by
    show z_c N (n + m) + (if N.testBit (n + m) = true then 1 else 0) = z_c N n
    rw [h (n + m) (by omega), if_neg (by decide), z_c_hi h m]
    rfl
set_option maxRecDepth 20000 in
theorem m_szc {d n N : Nat} {hp : px_H} {sh : Int64} {us : List Value} {th w h pn pl fo le ru : Int32} (eN : N = sh.toBitVec.toNat) (n36 : n ≤ 36) (hm : hp[38 + n]? = some (4, [.int th, .int w, .int h, .ref (39 + n), .int pn, .ref (40 + n), .ref (41 + n), .ref (42 + n), .int pl, .ref (43 + n), .ref (44 + n), .ref (45 + n), .ref (46 + n), .int fo, .ref (47 + n), .int le, .ref (48 + n), .int ru, .ref (49 + n), .ref (50 + n), .ref (51 + n)])) (hu : hp[39 + n]? = some (12, us)) (q1 : ∀ c, c < n → us[c]? = some (.int (if x_bt sh c = true then 1 else 0))) (hcl : px_Go d 72 (0, [(0, .ref (38 + n))], [], hp) (.inl (some (.int (nI n))), hp)) : ∀ m c, c + m = n → px_Gx (d + 1) 92 (4, [(2, .int (nI c)), (1, .int (nI (z_c N c))), (0, .ref (38 + n))], [], hp) (fun o hp' => hp' = hp ∧ o = .inl (some (.int (nI (z_c N n))))) := by
  intro m
  induction m with
  | zero =>
    intro c hc
    refine ⟨.inl (some (.int (nI (z_c N c)))), hp, ?_, rfl, by rw [show c = n by omega]⟩
    refine px_a 2 (f' := (6, [(2, .int (nI c)), (1, .int (nI (z_c N c))), (0, .ref (38 + n))], [.ref (38 + n), .int (nI c)], hp)) rfl ?_
    refine px_cv (38 + n) (as := []) (rest := [.int (nI c)]) rfl rfl hm rfl rfl rfl rfl (Nat.le_of_ble_eq_true rfl) (hcl) ?_
    show px_Go _ _ (9, [(2, .int (nI c)), (1, .int (nI (z_c N c))), (0, .ref (38 + n))], [.int (nI n), .int (nI c)], hp) _
    refine px_b2 true 35 rfl rfl (decide_eq_true (show nI n ≤ nI c by rw [Int32.le_iff_toInt_le, nI_toInt (by omega), nI_toInt (by omega)]; omega)) ?_
    show px_Go _ _ (35, [(2, .int (nI c)), (1, .int (nI (z_c N c))), (0, .ref (38 + n))], [], hp) _
    refine px_a 1 (f' := (36, [(2, .int (nI c)), (1, .int (nI (z_c N c))), (0, .ref (38 + n))], [.int (nI (z_c N c))], hp)) rfl ?_
    exact px_ri rfl rfl rfl
  | succ m ih =>
    intro c hc
    have hle := z_c_le N c
    have hs : z_c N (c + 1) = z_c N c + (if x_bt sh c = true then 1 else 0) := by rw [← z_tb, ← eN]; rfl
    by_cases hb : x_bt sh c = true
    · rw [hb, if_pos rfl] at hs
      refine px_gx (fun _ K => px_a 2 (f' := (6, [(2, .int (nI c)), (1, .int (nI (z_c N c))), (0, .ref (38 + n))], [.ref (38 + n), .int (nI c)], hp)) rfl K) ?_
      refine px_gx (fun _ K => px_cv (38 + n) (as := []) (rest := [.int (nI c)]) rfl rfl hm rfl rfl rfl rfl (Nat.le_of_ble_eq_true rfl) (hcl) K) ?_
      show px_Gx _ _ (9, [(2, .int (nI c)), (1, .int (nI (z_c N c))), (0, .ref (38 + n))], [.int (nI n), .int (nI c)], hp) _
      refine px_gx (fun _ K => px_b2 false 35 rfl rfl (decide_eq_false (show ¬ nI n ≤ nI c by rw [Int32.le_iff_toInt_le, nI_toInt (by omega), nI_toInt (by omega)]; omega)) K) ?_
      show px_Gx _ _ (12, [(2, .int (nI c)), (1, .int (nI (z_c N c))), (0, .ref (38 + n))], [], hp) _
      refine px_gx (fun _ K => px_a 2 (f' := (14, [(2, .int (nI c)), (1, .int (nI (z_c N c))), (0, .ref (38 + n))], [.ref (38 + n), .int (nI (z_c N c))], hp)) rfl K) ?_
      refine px_gx (fun _ K => px_gf (38 + n) 7 4 3 (.ref (39 + n)) rfl rfl hm rfl K) ?_
      show px_Gx _ _ (17, [(2, .int (nI c)), (1, .int (nI (z_c N c))), (0, .ref (38 + n))], [.ref (39 + n), .int (nI (z_c N c))], hp) _
      refine px_gx (fun _ K => px_a 1 (f' := (18, [(2, .int (nI c)), (1, .int (nI (z_c N c))), (0, .ref (38 + n))], [.int (nI c), .ref (39 + n), .int (nI (z_c N c))], hp)) rfl K) ?_
      refine px_gx (fun _ K => px_al (39 + n) (.int 1) rfl hu (Or.inr (Or.inr (Or.inl ⟨rfl, rfl⟩))) (nI_pos (by omega)) (by rw [nI_clamp (by omega), q1 c (by omega), hb]; rfl) K) ?_
      show px_Gx _ _ (19, [(2, .int (nI c)), (1, .int (nI (z_c N c))), (0, .ref (38 + n))], [.int 1, .int (nI (z_c N c))], hp) _
      refine px_gx (fun _ K => px_a 7 (f' := (4, [(2, .int ((nI c) + 1)), (1, .int ((nI (z_c N c)) + 1)), (0, .ref (38 + n))], [], hp)) rfl K) ?_
      rw [z_s37 c (by omega), z_s37 (z_c N c) (by omega), ← hs]
      exact ih (c + 1) (by omega)
    · have hb : x_bt sh c = false := by simpa using hb
      rw [hb, if_neg (by decide)] at hs
      have hs2 : z_c N (c + 1) = z_c N c := hs
      refine px_gx (fun _ K => px_a 2 (f' := (6, [(2, .int (nI c)), (1, .int (nI (z_c N c))), (0, .ref (38 + n))], [.ref (38 + n), .int (nI c)], hp)) rfl K) ?_
      refine px_gx (fun _ K => px_cv (38 + n) (as := []) (rest := [.int (nI c)]) rfl rfl hm rfl rfl rfl rfl (Nat.le_of_ble_eq_true rfl) (hcl) K) ?_
      show px_Gx _ _ (9, [(2, .int (nI c)), (1, .int (nI (z_c N c))), (0, .ref (38 + n))], [.int (nI n), .int (nI c)], hp) _
      refine px_gx (fun _ K => px_b2 false 35 rfl rfl (decide_eq_false (show ¬ nI n ≤ nI c by rw [Int32.le_iff_toInt_le, nI_toInt (by omega), nI_toInt (by omega)]; omega)) K) ?_
      show px_Gx _ _ (12, [(2, .int (nI c)), (1, .int (nI (z_c N c))), (0, .ref (38 + n))], [], hp) _
      refine px_gx (fun _ K => px_a 2 (f' := (14, [(2, .int (nI c)), (1, .int (nI (z_c N c))), (0, .ref (38 + n))], [.ref (38 + n), .int (nI (z_c N c))], hp)) rfl K) ?_
      refine px_gx (fun _ K => px_gf (38 + n) 7 4 3 (.ref (39 + n)) rfl rfl hm rfl K) ?_
      show px_Gx _ _ (17, [(2, .int (nI c)), (1, .int (nI (z_c N c))), (0, .ref (38 + n))], [.ref (39 + n), .int (nI (z_c N c))], hp) _
      refine px_gx (fun _ K => px_a 1 (f' := (18, [(2, .int (nI c)), (1, .int (nI (z_c N c))), (0, .ref (38 + n))], [.int (nI c), .ref (39 + n), .int (nI (z_c N c))], hp)) rfl K) ?_
      refine px_gx (fun _ K => px_al (39 + n) (.int 0) rfl hu (Or.inr (Or.inr (Or.inl ⟨rfl, rfl⟩))) (nI_pos (by omega)) (by rw [nI_clamp (by omega), q1 c (by omega), hb]; rfl) K) ?_
      show px_Gx _ _ (19, [(2, .int (nI c)), (1, .int (nI (z_c N c))), (0, .ref (38 + n))], [.int 0, .int (nI (z_c N c))], hp) _
      refine px_gx (fun _ K => px_a 6 (f' := (4, [(2, .int ((nI c) + 1)), (1, .int ((nI (z_c N c)) + 0)), (0, .ref (38 + n))], [], hp)) rfl K) ?_
      rw [z_s37 c (by omega), Int32.add_zero, ← hs2]
      exact ih (c + 1) (by omega)
