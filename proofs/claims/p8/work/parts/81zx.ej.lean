set_option maxRecDepth 20000 in
theorem q_clr {d0 n m : Nat} {th w h pn pl fo le ru : Int32} {hp0 : px_H} {Q : px_O → px_H → Prop} (K : ∀ (hp : px_H) (kv : List Value), pa_Hi n hp → hp[44 + n]? = some (12, kv) → kv.length = 36 → (∀ d, d < 36 → kv[d]? = some (.int 0)) → (∀ a, a ≠ 44 + n → hp[a]? = hp0[a]?) → px_Gx d0 75 (23, [(2, .int (nI 0)), (0, .ref (38 + n)), (1, .int (nI m))], [], hp) Q) : ∀ q c, c + q = 36 → ∀ (hp : px_H) (kv : List Value) (H : pa_Hi n hp) (hm : hp[38 + n]? = some (4, m_O n th w h pn pl fo le ru)) (hk : hp[44 + n]? = some (12, kv)) (lk : kv.length = 36) (f1 : ∀ d, d < c → kv[d]? = some (.int 0)) (sm : ∀ a, a ≠ 44 + n → hp[a]? = hp0[a]?), px_Gx d0 75 (2, [(2, .int (nI c)), (0, .ref (38 + n)), (1, .int (nI m))], [], hp) Q := by
  intro q
  induction q with
  | zero =>
    intro c hq0 hp kv H hm hk lk f1 sm
    refine px_gx (fun _ K9 => px_a 2 (f' := (5, [(2, .int (nI c)), (0, .ref (38 + n)), (1, .int (nI m))], [.int 36, .int (nI c)], hp)) rfl K9) ?_
    refine px_gx (fun _ K9 => px_b2 true 21 rfl rfl (decide_eq_true (show nI 36 ≤ nI c by rw [Int32.le_iff_toInt_le, nI_toInt (by omega), nI_toInt (by omega)]; omega)) K9) ?_
    show px_Gx _ _ (21, [(2, .int (nI c)), (0, .ref (38 + n)), (1, .int (nI m))], [], hp) _
    refine px_gx (fun _ K9 => px_a 2 (f' := (23, [(2, .int 0), (0, .ref (38 + n)), (1, .int (nI m))], [], hp)) rfl K9) ?_
    exact px_wk [(2, .int (nI 0)), (0, .ref (38 + n)), (1, .int (nI m))] ⟨rfl, rfl, rfl, trivial⟩ (K hp kv H hk lk (fun d hd => f1 d (by omega)) sm)
  | succ q ih =>
    intro c hq0 hp kv H hm hk lk f1 sm
    refine px_gx (fun _ K9 => px_a 2 (f' := (5, [(2, .int (nI c)), (0, .ref (38 + n)), (1, .int (nI m))], [.int 36, .int (nI c)], hp)) rfl K9) ?_
    refine px_gx (fun _ K9 => px_b2 false 21 rfl rfl (decide_eq_false (show ¬ nI 36 ≤ nI c by rw [Int32.le_iff_toInt_le, nI_toInt (by omega), nI_toInt (by omega)]; omega)) K9) ?_
    show px_Gx _ _ (8, [(2, .int (nI c)), (0, .ref (38 + n)), (1, .int (nI m))], [], hp) _
    refine px_gx (fun _ K9 => px_a 1 (f' := (9, [(2, .int (nI c)), (0, .ref (38 + n)), (1, .int (nI m))], [.ref (38 + n)], hp)) rfl K9) ?_
    refine px_gx (fun _ K9 => px_gf (38 + n) 27 4 10 (.ref (44 + n)) rfl rfl hm rfl K9) ?_
    show px_Gx _ _ (12, [(2, .int (nI c)), (0, .ref (38 + n)), (1, .int (nI m))], [.ref (44 + n)], hp) _
    refine px_gx (fun _ K9 => px_a 2 (f' := (14, [(2, .int (nI c)), (0, .ref (38 + n)), (1, .int (nI m))], [.int 0, .int (nI c), .ref (44 + n)], hp)) rfl K9) ?_
    refine px_gx (fun _ K9 => px_zas (44 + n) rfl hk (by omega) (nI_pos (by omega)) (by rw [nI_clamp (by omega)]; omega) rfl K9) ?_
    have hf1__38___n_ : (hp.set (44 + n) (12, (kv.set (nI c).toNatClampNeg (.int 0))))[(38 + n)]? = some (4, [.int th, .int w, .int h, .ref (39 + n), .int pn, .ref (40 + n), .ref (41 + n), .ref (42 + n), .int pl, .ref (43 + n), .ref (44 + n), .ref (45 + n), .ref (46 + n), .int fo, .ref (47 + n), .int le, .ref (48 + n), .int ru, .ref (49 + n), .ref (50 + n), .ref (51 + n)]) := px_ne hm (by omega)
    have hf1__44___n_ : (hp.set (44 + n) (12, (kv.set (nI c).toNatClampNeg (.int 0))))[(44 + n)]? = some (12, (kv.set (nI c).toNatClampNeg (.int 0))) := px_self hk
    show px_Gx _ _ (15, [(2, .int (nI c)), (0, .ref (38 + n)), (1, .int (nI m))], [], (hp.set (44 + n) (12, (kv.set (nI c).toNatClampNeg (.int 0))))) _
    refine px_gx (fun _ K9 => px_a 2 (f' := (2, [(2, .int ((nI c) + 1)), (0, .ref (38 + n)), (1, .int (nI m))], [], (hp.set (44 + n) (12, (kv.set (nI c).toNatClampNeg (.int 0)))))) rfl K9) ?_
    rw [p_s16 c (by omega)]
    exact ih (c + 1) (by omega) _ _ (pa_aS (i := 12) H (by omega) (by decide) (by decide) hk rfl (pa_in (by decide) (by decide))) hf1__38___n_ hf1__44___n_ (by rw [List.length_set]; exact lk) (fun d hd => by
      rw [nI_clamp (by omega)]
      by_cases e : d = c
      · subst e
        exact List.getElem?_set_self (by omega)
      · rw [List.getElem?_set_ne (by omega)]
        exact f1 d (by omega)) (fun a ha => (List.getElem?_set_ne (Ne.symm ha)).trans (sm a ha))
set_option maxRecDepth 20000 in
theorem q_row {d0 n m : Nat} {th w h pn pl fo le ru : Int32} {W V : Nat} {sh : Int64} {vsu : List Value} (hW : W ≤ 6) (hV : V ≤ 6) (hnn : n = W * V) (ew2 : w = nI W) (eh2 : h = nI V) (q1 : ∀ c, c < n → vsu[c]? = some (.int (if x_bt sh c = true then 1 else 0))) (q3 : ∀ c, x_bt sh c = true → c < n) {hp0 : px_H} {Q : px_O → px_H → Prop} (K : ∀ (hp : px_H) (xv : List Value), pa_Hi n hp → hp[46 + n]? = some (10, xv) → xv.length = 37 → (∀ d, d < 36 → xv[d]? = some (.int (nI (g_bt sh d)))) → (∀ a, a ≠ 46 + n → hp[a]? = hp0[a]?) → px_Gx (d0 + 1) 75 (149, [(0, .ref (38 + n)), (1, .int (nI m))], [], hp) Q) : ∀ q c, c + q = 36 → ∀ (hp : px_H) (xv : List Value) (H : pa_Hi n hp) (hm : hp[38 + n]? = some (4, m_O n th w h pn pl fo le ru)) (hvu : hp[39 + n]? = some (12, vsu)) (hx : hp[46 + n]? = some (10, xv)) (lx : xv.length = 37) (f1 : ∀ d, d < c → xv[d]? = some (.int (nI (g_bt sh d)))) (sm : ∀ a, a ≠ 46 + n → hp[a]? = hp0[a]?), px_Gx (d0 + 1) 75 (109, [(2, .int (nI c)), (0, .ref (38 + n)), (1, .int (nI m))], [], hp) Q := by
  have wv : W * V ≤ 6 * 6 := Nat.mul_le_mul hW hV
  intro q
  induction q with
  | zero =>
    intro c hq0 hp xv H hm hvu hx lx f1 sm
    refine px_gx (fun _ K9 => px_a 2 (f' := (112, [(2, .int (nI c)), (0, .ref (38 + n)), (1, .int (nI m))], [.int 36, .int (nI c)], hp)) rfl K9) ?_
    refine px_gx (fun _ K9 => px_b2 true 149 rfl rfl (decide_eq_true (show nI 36 ≤ nI c by rw [Int32.le_iff_toInt_le, nI_toInt (by omega), nI_toInt (by omega)]; omega)) K9) ?_
    show px_Gx _ _ (149, [(2, .int (nI c)), (0, .ref (38 + n)), (1, .int (nI m))], [], hp) _
    exact px_wk [(0, .ref (38 + n)), (1, .int (nI m))] ⟨rfl, rfl, trivial⟩ (K hp xv H hx lx (fun d hd => f1 d (by omega)) sm)
  | succ q ih =>
    intro c hq0 hp xv H hm hvu hx lx f1 sm
    have hcl : px_Go d0 72 (0, [(0, .ref (38 + n))], [], hp) (.inl (some (.int (nI n))), hp) := by
      have := p_cells (d := d0) hm
      rw [ew2, eh2, pk_mul, ← hnn] at this
      exact this
    cases hb : x_bt sh c
    · have eg : nI (g_bt sh c) = 0 := by
        unfold g_bt
        rw [hb]
        rfl
      by_cases hcn : c < n
      · 
        refine px_gx (fun _ K9 => px_a 2 (f' := (112, [(2, .int (nI c)), (0, .ref (38 + n)), (1, .int (nI m))], [.int 36, .int (nI c)], hp)) rfl K9) ?_
        refine px_gx (fun _ K9 => px_b2 false 149 rfl rfl (decide_eq_false (show ¬ nI 36 ≤ nI c by rw [Int32.le_iff_toInt_le, nI_toInt (by omega), nI_toInt (by omega)]; omega)) K9) ?_
        show px_Gx _ _ (115, [(2, .int (nI c)), (0, .ref (38 + n)), (1, .int (nI m))], [], hp) _
        refine px_gx (fun _ K9 => px_a 1 (f' := (116, [(2, .int (nI c)), (0, .ref (38 + n)), (1, .int (nI m))], [.ref (38 + n)], hp)) rfl K9) ?_
        refine px_gx (fun _ K9 => px_gf (38 + n) 33 4 12 (.ref (46 + n)) rfl rfl hm rfl K9) ?_
        show px_Gx _ _ (119, [(2, .int (nI c)), (0, .ref (38 + n)), (1, .int (nI m))], [.ref (46 + n)], hp) _
        refine px_gx (fun _ K9 => px_a 3 (f' := (122, [(2, .int (nI c)), (0, .ref (38 + n)), (1, .int (nI m))], [.ref (38 + n), .int (nI c), .int (nI c), .ref (46 + n)], hp)) rfl K9) ?_
        refine px_gx (fun _ K9 => px_cv (38 + n) (as := []) (rest := [.int (nI c), .int (nI c), .ref (46 + n)]) rfl rfl hm rfl rfl rfl rfl (Nat.le_of_ble_eq_true rfl) (hcl) K9) ?_
        show px_Gx _ _ (125, [(2, .int (nI c)), (0, .ref (38 + n)), (1, .int (nI m))], [.int (nI n), .int (nI c), .int (nI c), .ref (46 + n)], hp) _
        refine px_gx (fun _ K9 => px_b2 false 141 rfl rfl (decide_eq_false (show ¬ nI n ≤ nI c by rw [Int32.le_iff_toInt_le, nI_toInt (by omega), nI_toInt (by omega)]; omega)) K9) ?_
        show px_Gx _ _ (128, [(2, .int (nI c)), (0, .ref (38 + n)), (1, .int (nI m))], [.int (nI c), .ref (46 + n)], hp) _
        refine px_gx (fun _ K9 => px_a 1 (f' := (129, [(2, .int (nI c)), (0, .ref (38 + n)), (1, .int (nI m))], [.ref (38 + n), .int (nI c), .ref (46 + n)], hp)) rfl K9) ?_
        refine px_gx (fun _ K9 => px_gf (38 + n) 7 4 3 (.ref (39 + n)) rfl rfl hm rfl K9) ?_
        show px_Gx _ _ (132, [(2, .int (nI c)), (0, .ref (38 + n)), (1, .int (nI m))], [.ref (39 + n), .int (nI c), .ref (46 + n)], hp) _
        refine px_gx (fun _ K9 => px_a 1 (f' := (133, [(2, .int (nI c)), (0, .ref (38 + n)), (1, .int (nI m))], [.int (nI c), .ref (39 + n), .int (nI c), .ref (46 + n)], hp)) rfl K9) ?_
        refine px_gx (fun _ K9 => px_al (39 + n) (.int 0) rfl hvu (Or.inr (Or.inr (Or.inl ⟨rfl, rfl⟩))) (nI_pos (by omega)) (by rw [nI_clamp (by omega), q1 c hcn, hb]; rfl) K9) ?_
        show px_Gx _ _ (134, [(2, .int (nI c)), (0, .ref (38 + n)), (1, .int (nI m))], [.int 0, .int (nI c), .ref (46 + n)], hp) _
        refine px_gx (fun _ K9 => px_a 2 (f' := (142, [(2, .int (nI c)), (0, .ref (38 + n)), (1, .int (nI m))], [.int 0, .int (nI c), .ref (46 + n)], hp)) rfl K9) ?_
        refine px_gx (fun _ K9 => px_ias (46 + n) rfl hx (by omega) (nI_pos (by omega)) (by rw [nI_clamp (by omega)]; omega) K9) ?_
        have hf1__38___n_ : (hp.set (46 + n) (10, (xv.set (nI c).toNatClampNeg (.int 0))))[(38 + n)]? = some (4, [.int th, .int w, .int h, .ref (39 + n), .int pn, .ref (40 + n), .ref (41 + n), .ref (42 + n), .int pl, .ref (43 + n), .ref (44 + n), .ref (45 + n), .ref (46 + n), .int fo, .ref (47 + n), .int le, .ref (48 + n), .int ru, .ref (49 + n), .ref (50 + n), .ref (51 + n)]) := px_ne hm (by omega)
        have hf1__39___n_ : (hp.set (46 + n) (10, (xv.set (nI c).toNatClampNeg (.int 0))))[(39 + n)]? = some (12, vsu) := px_ne hvu (by omega)
        have hf1__46___n_ : (hp.set (46 + n) (10, (xv.set (nI c).toNatClampNeg (.int 0))))[(46 + n)]? = some (10, (xv.set (nI c).toNatClampNeg (.int 0))) := px_self hx
        show px_Gx _ _ (143, [(2, .int (nI c)), (0, .ref (38 + n)), (1, .int (nI m))], [], (hp.set (46 + n) (10, (xv.set (nI c).toNatClampNeg (.int 0))))) _
        refine px_gx (fun _ K9 => px_a 2 (f' := (109, [(2, .int ((nI c) + 1)), (0, .ref (38 + n)), (1, .int (nI m))], [], (hp.set (46 + n) (10, (xv.set (nI c).toNatClampNeg (.int 0)))))) rfl K9) ?_
        rw [p_s16 c (by omega)]
        exact ih (c + 1) (by omega) _ _ (pa_aS (i := 14) H (by omega) (by decide) (by decide) hx rfl (pa_top_ok _)) hf1__38___n_ hf1__39___n_ hf1__46___n_ (by rw [List.length_set]; exact lx) (fun d hd => by
          rw [nI_clamp (by omega)]
          by_cases e : d = c
          · subst e
            rw [eg]
            exact List.getElem?_set_self (by omega)
          · rw [List.getElem?_set_ne (by omega)]
            exact f1 d (by omega)) (fun a ha => (List.getElem?_set_ne (Ne.symm ha)).trans (sm a ha))
      · 
        refine px_gx (fun _ K9 => px_a 2 (f' := (112, [(2, .int (nI c)), (0, .ref (38 + n)), (1, .int (nI m))], [.int 36, .int (nI c)], hp)) rfl K9) ?_
        refine px_gx (fun _ K9 => px_b2 false 149 rfl rfl (decide_eq_false (show ¬ nI 36 ≤ nI c by rw [Int32.le_iff_toInt_le, nI_toInt (by omega), nI_toInt (by omega)]; omega)) K9) ?_
        show px_Gx _ _ (115, [(2, .int (nI c)), (0, .ref (38 + n)), (1, .int (nI m))], [], hp) _
        refine px_gx (fun _ K9 => px_a 1 (f' := (116, [(2, .int (nI c)), (0, .ref (38 + n)), (1, .int (nI m))], [.ref (38 + n)], hp)) rfl K9) ?_
        refine px_gx (fun _ K9 => px_gf (38 + n) 33 4 12 (.ref (46 + n)) rfl rfl hm rfl K9) ?_
        show px_Gx _ _ (119, [(2, .int (nI c)), (0, .ref (38 + n)), (1, .int (nI m))], [.ref (46 + n)], hp) _
        refine px_gx (fun _ K9 => px_a 3 (f' := (122, [(2, .int (nI c)), (0, .ref (38 + n)), (1, .int (nI m))], [.ref (38 + n), .int (nI c), .int (nI c), .ref (46 + n)], hp)) rfl K9) ?_
        refine px_gx (fun _ K9 => px_cv (38 + n) (as := []) (rest := [.int (nI c), .int (nI c), .ref (46 + n)]) rfl rfl hm rfl rfl rfl rfl (Nat.le_of_ble_eq_true rfl) (hcl) K9) ?_
        show px_Gx _ _ (125, [(2, .int (nI c)), (0, .ref (38 + n)), (1, .int (nI m))], [.int (nI n), .int (nI c), .int (nI c), .ref (46 + n)], hp) _
        refine px_gx (fun _ K9 => px_b2 true 141 rfl rfl (decide_eq_true (show nI n ≤ nI c by rw [Int32.le_iff_toInt_le, nI_toInt (by omega), nI_toInt (by omega)]; omega)) K9) ?_
        show px_Gx _ _ (141, [(2, .int (nI c)), (0, .ref (38 + n)), (1, .int (nI m))], [.int (nI c), .ref (46 + n)], hp) _
        refine px_gx (fun _ K9 => px_a 1 (f' := (142, [(2, .int (nI c)), (0, .ref (38 + n)), (1, .int (nI m))], [.int 0, .int (nI c), .ref (46 + n)], hp)) rfl K9) ?_
        refine px_gx (fun _ K9 => px_ias (46 + n) rfl hx (by omega) (nI_pos (by omega)) (by rw [nI_clamp (by omega)]; omega) K9) ?_
        have hf1__38___n_ : (hp.set (46 + n) (10, (xv.set (nI c).toNatClampNeg (.int 0))))[(38 + n)]? = some (4, [.int th, .int w, .int h, .ref (39 + n), .int pn, .ref (40 + n), .ref (41 + n), .ref (42 + n), .int pl, .ref (43 + n), .ref (44 + n), .ref (45 + n), .ref (46 + n), .int fo, .ref (47 + n), .int le, .ref (48 + n), .int ru, .ref (49 + n), .ref (50 + n), .ref (51 + n)]) := px_ne hm (by omega)
        have hf1__39___n_ : (hp.set (46 + n) (10, (xv.set (nI c).toNatClampNeg (.int 0))))[(39 + n)]? = some (12, vsu) := px_ne hvu (by omega)
        have hf1__46___n_ : (hp.set (46 + n) (10, (xv.set (nI c).toNatClampNeg (.int 0))))[(46 + n)]? = some (10, (xv.set (nI c).toNatClampNeg (.int 0))) := px_self hx
        show px_Gx _ _ (143, [(2, .int (nI c)), (0, .ref (38 + n)), (1, .int (nI m))], [], (hp.set (46 + n) (10, (xv.set (nI c).toNatClampNeg (.int 0))))) _
        refine px_gx (fun _ K9 => px_a 2 (f' := (109, [(2, .int ((nI c) + 1)), (0, .ref (38 + n)), (1, .int (nI m))], [], (hp.set (46 + n) (10, (xv.set (nI c).toNatClampNeg (.int 0)))))) rfl K9) ?_
        rw [p_s16 c (by omega)]
        exact ih (c + 1) (by omega) _ _ (pa_aS (i := 14) H (by omega) (by decide) (by decide) hx rfl (pa_top_ok _)) hf1__38___n_ hf1__39___n_ hf1__46___n_ (by rw [List.length_set]; exact lx) (fun d hd => by
          rw [nI_clamp (by omega)]
          by_cases e : d = c
          · subst e
            rw [eg]
            exact List.getElem?_set_self (by omega)
          · rw [List.getElem?_set_ne (by omega)]
            exact f1 d (by omega)) (fun a ha => (List.getElem?_set_ne (Ne.symm ha)).trans (sm a ha))
    · have hcn := q3 c hb
      have eg : nI (g_bt sh c) = 1 := by
        unfold g_bt
        rw [hb]
        rfl
      refine px_gx (fun _ K9 => px_a 2 (f' := (112, [(2, .int (nI c)), (0, .ref (38 + n)), (1, .int (nI m))], [.int 36, .int (nI c)], hp)) rfl K9) ?_
      refine px_gx (fun _ K9 => px_b2 false 149 rfl rfl (decide_eq_false (show ¬ nI 36 ≤ nI c by rw [Int32.le_iff_toInt_le, nI_toInt (by omega), nI_toInt (by omega)]; omega)) K9) ?_
      show px_Gx _ _ (115, [(2, .int (nI c)), (0, .ref (38 + n)), (1, .int (nI m))], [], hp) _
      refine px_gx (fun _ K9 => px_a 1 (f' := (116, [(2, .int (nI c)), (0, .ref (38 + n)), (1, .int (nI m))], [.ref (38 + n)], hp)) rfl K9) ?_
      refine px_gx (fun _ K9 => px_gf (38 + n) 33 4 12 (.ref (46 + n)) rfl rfl hm rfl K9) ?_
      show px_Gx _ _ (119, [(2, .int (nI c)), (0, .ref (38 + n)), (1, .int (nI m))], [.ref (46 + n)], hp) _
      refine px_gx (fun _ K9 => px_a 3 (f' := (122, [(2, .int (nI c)), (0, .ref (38 + n)), (1, .int (nI m))], [.ref (38 + n), .int (nI c), .int (nI c), .ref (46 + n)], hp)) rfl K9) ?_
      refine px_gx (fun _ K9 => px_cv (38 + n) (as := []) (rest := [.int (nI c), .int (nI c), .ref (46 + n)]) rfl rfl hm rfl rfl rfl rfl (Nat.le_of_ble_eq_true rfl) (hcl) K9) ?_
      show px_Gx _ _ (125, [(2, .int (nI c)), (0, .ref (38 + n)), (1, .int (nI m))], [.int (nI n), .int (nI c), .int (nI c), .ref (46 + n)], hp) _
      refine px_gx (fun _ K9 => px_b2 false 141 rfl rfl (decide_eq_false (show ¬ nI n ≤ nI c by rw [Int32.le_iff_toInt_le, nI_toInt (by omega), nI_toInt (by omega)]; omega)) K9) ?_
      show px_Gx _ _ (128, [(2, .int (nI c)), (0, .ref (38 + n)), (1, .int (nI m))], [.int (nI c), .ref (46 + n)], hp) _
      refine px_gx (fun _ K9 => px_a 1 (f' := (129, [(2, .int (nI c)), (0, .ref (38 + n)), (1, .int (nI m))], [.ref (38 + n), .int (nI c), .ref (46 + n)], hp)) rfl K9) ?_
      refine px_gx (fun _ K9 => px_gf (38 + n) 7 4 3 (.ref (39 + n)) rfl rfl hm rfl K9) ?_
      show px_Gx _ _ (132, [(2, .int (nI c)), (0, .ref (38 + n)), (1, .int (nI m))], [.ref (39 + n), .int (nI c), .ref (46 + n)], hp) _
      refine px_gx (fun _ K9 => px_a 1 (f' := (133, [(2, .int (nI c)), (0, .ref (38 + n)), (1, .int (nI m))], [.int (nI c), .ref (39 + n), .int (nI c), .ref (46 + n)], hp)) rfl K9) ?_
      refine px_gx (fun _ K9 => px_al (39 + n) (.int 1) rfl hvu (Or.inr (Or.inr (Or.inl ⟨rfl, rfl⟩))) (nI_pos (by omega)) (by rw [nI_clamp (by omega), q1 c hcn, hb]; rfl) K9) ?_
      show px_Gx _ _ (134, [(2, .int (nI c)), (0, .ref (38 + n)), (1, .int (nI m))], [.int 1, .int (nI c), .ref (46 + n)], hp) _
      refine px_gx (fun _ K9 => px_a 3 (f' := (142, [(2, .int (nI c)), (0, .ref (38 + n)), (1, .int (nI m))], [.int 1, .int (nI c), .ref (46 + n)], hp)) rfl K9) ?_
      refine px_gx (fun _ K9 => px_ias (46 + n) rfl hx (by omega) (nI_pos (by omega)) (by rw [nI_clamp (by omega)]; omega) K9) ?_
      have hf1__38___n_ : (hp.set (46 + n) (10, (xv.set (nI c).toNatClampNeg (.int 1))))[(38 + n)]? = some (4, [.int th, .int w, .int h, .ref (39 + n), .int pn, .ref (40 + n), .ref (41 + n), .ref (42 + n), .int pl, .ref (43 + n), .ref (44 + n), .ref (45 + n), .ref (46 + n), .int fo, .ref (47 + n), .int le, .ref (48 + n), .int ru, .ref (49 + n), .ref (50 + n), .ref (51 + n)]) := px_ne hm (by omega)
      have hf1__39___n_ : (hp.set (46 + n) (10, (xv.set (nI c).toNatClampNeg (.int 1))))[(39 + n)]? = some (12, vsu) := px_ne hvu (by omega)
      have hf1__46___n_ : (hp.set (46 + n) (10, (xv.set (nI c).toNatClampNeg (.int 1))))[(46 + n)]? = some (10, (xv.set (nI c).toNatClampNeg (.int 1))) := px_self hx
      show px_Gx _ _ (143, [(2, .int (nI c)), (0, .ref (38 + n)), (1, .int (nI m))], [], (hp.set (46 + n) (10, (xv.set (nI c).toNatClampNeg (.int 1))))) _
      refine px_gx (fun _ K9 => px_a 2 (f' := (109, [(2, .int ((nI c) + 1)), (0, .ref (38 + n)), (1, .int (nI m))], [], (hp.set (46 + n) (10, (xv.set (nI c).toNatClampNeg (.int 1)))))) rfl K9) ?_
      rw [p_s16 c (by omega)]
      exact ih (c + 1) (by omega) _ _ (pa_aS (i := 14) H (by omega) (by decide) (by decide) hx rfl (pa_top_ok _)) hf1__38___n_ hf1__39___n_ hf1__46___n_ (by rw [List.length_set]; exact lx) (fun d hd => by
        rw [nI_clamp (by omega)]
        by_cases e : d = c
        · subst e
          rw [eg]
          exact List.getElem?_set_self (by omega)
        · rw [List.getElem?_set_ne (by omega)]
          exact f1 d (by omega)) (fun a ha => (List.getElem?_set_ne (Ne.symm ha)).trans (sm a ha))
theorem h_Q_x {n m : Nat} {hp : px_H} {A : (Nat → Int) → Prop} (q : h_Q n m hp A) : ∃ xv : List Value, hp[46 + n]? = some (10, xv) ∧ xv.length = 37 := by
  obtain ⟨kd, kr, -, -, -, z⟩ := q
  exact z
theorem h_Q_f {n m : Nat} {hp hp' : px_H} {A : (Nat → Int) → Prop} (f : ∀ a k (x : List Value), 10 ≤ k → a = 44 + n ∨ a = 45 + n ∨ a = 46 + n → hp[a]? = some (k, x) → hp'[a]? = some (k, x)) (q : h_Q n m hp A) : h_Q n m hp' A := by
  obtain ⟨kd, kr, ⟨⟨kv, b1, b2⟩, ks, b3, b4⟩, a2, a3, xv, h6, l6⟩ := q
  exact ⟨kd, kr, ⟨⟨kv, f _ _ _ (by decide) (Or.inl rfl) b1, b2⟩, ks, f _ _ _ (by decide) (Or.inr (Or.inl rfl)) b3, b4⟩, a2, a3, xv, f _ _ _ (by decide) (Or.inr (Or.inr rfl)) h6, l6⟩
set_option maxRecDepth 20000 in
theorem m_eql {d n W V pc m : Nat} (hN : pa_N n) {th w h fo le ru : Int32} {sh : Int64} {vsu vsz vsq : List Value} {lq : Nat → List Nat} (pm : m = 2 ∨ m = 3 ∨ m = 5 ∨ m = 7 ∨ m = 11 ∨ m = 13) (hW : W ≤ 6) (hV : V ≤ 6) (hnn : n = W * V) (ew2 : w = nI W) (eh2 : h = nI V) (pc6 : pc ≤ 6) (q1 : ∀ c, c < n → vsu[c]? = some (.int (if x_bt sh c = true then 1 else 0))) (q3 : ∀ c, x_bt sh c = true → c < n) (hsq : ∀ k, k < pc → vsz[k]? = some (.int (nI (lq k).length)) ∧ (lq k).length ≤ 6 ∧ ∀ (j q : Nat), (lq k)[j]? = some q → vsq[6 * k + j]? = some (.int (nI q)) ∧ q < 16) : ∀ t p, p + t = pc → ∀ (hp : px_H) (pl : Int32) (H : pa_Hi n hp) (hm : hp[38 + n]? = some (4, m_O n th w h (nI pc) pl fo le ru)) (hvu0 : hp[39 + n]? = some (12, vsu)) (hvz0 : hp[40 + n]? = some (10, vsz)) (hvq0 : hp[41 + n]? = some (10, vsq)) (q : h_Q n m hp (fun w => ∀ q, q < p → ∀ S, m_D W V sh (lq q) 8 (-3) (-3) S → e_S m 36 (fun d => (g_bt (lN S) d : Int)) 0 w)), px_Gx (d + 5) 75 (23, [(2, .int (nI p)), (0, .ref (38 + n)), (1, .int (nI m))], [], hp) (fun o _ => (o = .inl (some (.int 1)) ∧ (∃ w, (∀ q, q < pc → ∀ S, m_D W V sh (lq q) 8 (-3) (-3) S → e_S m 36 (fun d => (g_bt (lN S) d : Int)) 0 w) ∧ e_S m 36 (fun d => (g_bt sh d : Int)) 1 w)) ∨ (o = .inl (some (.int 0)) ∧ ¬ (∃ w, (∀ q, q < pc → ∀ S, m_D W V sh (lq q) 8 (-3) (-3) S → e_S m 36 (fun d => (g_bt (lN S) d : Int)) 0 w) ∧ e_S m 36 (fun d => (g_bt sh d : Int)) 1 w))) := by
  have wv : W * V ≤ 6 * 6 := Nat.mul_le_mul hW hV
  intro t
  induction t with
  | zero =>
    intro p h' hp pl H hm hvu0 hvz0 hvq0 q
    obtain rfl : p = pc := by omega
    obtain ⟨xv, hx, lx⟩ := h_Q_x q
    refine px_gx (fun _ K9 => px_a 2 (f' := (25, [(2, .int (nI p)), (0, .ref (38 + n)), (1, .int (nI m))], [.ref (38 + n), .int (nI p)], hp)) rfl K9) ?_
    refine px_gx (fun _ K9 => px_gf (38 + n) 61 4 4 (.int (nI p)) rfl rfl hm rfl K9) ?_
    show px_Gx _ _ (28, [(2, .int (nI p)), (0, .ref (38 + n)), (1, .int (nI m))], [.int (nI p), .int (nI p)], hp) _
    refine px_gx (fun _ K9 => px_b2 true 107 rfl rfl (decide_eq_true (Int32.le_refl _)) K9) ?_
    show px_Gx _ _ (107, [(2, .int (nI p)), (0, .ref (38 + n)), (1, .int (nI m))], [], hp) _
    refine px_gx (fun _ K9 => px_a 2 (f' := (109, [(2, .int 0), (0, .ref (38 + n)), (1, .int (nI m))], [], hp)) rfl K9) ?_
    refine px_wk [(2, .int (nI 0)), (0, .ref (38 + n)), (1, .int (nI m))] ⟨rfl, rfl, rfl, trivial⟩ ?_
    refine q_row (d0 := d + 4) hW hV hnn ew2 eh2 q1 q3 (hp0 := hp) (fun hp2 xv2 H2 hx2 lx2 f2 sm2 => ?_) 36 0 (by omega) hp xv H hm hvu0 hx lx (fun d hd => absurd hd (Nat.not_lt_zero d)) (fun a _ => rfl)
    · have hm2 := (sm2 _ (by omega)).trans hm
      have l36 : Int32.toNatClampNeg 36 < xv2.length := by show (36 : Nat) < xv2.length; omega
      have H3 : pa_Hi n (hp2.set (46 + n) (10, (xv2.set (36 : Int32).toNatClampNeg (.int 1)))) := pa_aS (i := 14) H2 (by omega) (by decide) (by decide) hx2 rfl (pa_top_ok _)
      have q3' : h_Q n m (hp2.set (46 + n) (10, (xv2.set (36 : Int32).toNatClampNeg (.int 1)))) _ := h_Q_m ((List.getElem?_set_ne (by omega)).trans (sm2 _ (by omega))) ((List.getElem?_set_ne (by omega)).trans (sm2 _ (by omega))) (px_self hx2) (by rw [List.length_set]; exact lx2) q
      obtain ⟨z, hp3, g3, H4, sm4, cx⟩ := k_keepQ (d0 := d + 3) (b := 1) (s := sh) pm (by omega) H3 (px_ne hm2 (by omega)) q3' (px_self hx2) (by rw [List.length_set]; exact lx2) (fun d hd => by
        rw [List.getElem?_set_ne (show Int32.toNatClampNeg 36 ≠ d from by show (36 : Nat) ≠ d; omega)]
        exact f2 d hd) (List.getElem?_set_self l36)
      refine px_gx (fun _ K9 => px_a 1 (f' := (150, [(0, .ref (38 + n)), (1, .int (nI m))], [.ref (38 + n)], hp2)) rfl K9) ?_
      refine px_gx (fun _ K9 => px_gf (38 + n) 33 4 12 (.ref (46 + n)) rfl rfl hm2 rfl K9) ?_
      show px_Gx _ _ (153, [(0, .ref (38 + n)), (1, .int (nI m))], [.ref (46 + n)], hp2) _
      refine px_gx (fun _ K9 => px_a 2 (f' := (156, [(0, .ref (38 + n)), (1, .int (nI m))], [.int 1, .int 36, .ref (46 + n)], hp2)) rfl K9) ?_
      refine px_gx (fun _ K9 => px_ias (46 + n) rfl hx2 (by omega) (by decide) (by show (36 : Nat) < xv2.length; omega) K9) ?_
      have hf1__38___n_ : (hp2.set (46 + n) (10, (xv2.set (36 : Int32).toNatClampNeg (.int 1))))[(38 + n)]? = some (4, [.int th, .int w, .int h, .ref (39 + n), .int (nI p), .ref (40 + n), .ref (41 + n), .ref (42 + n), .int pl, .ref (43 + n), .ref (44 + n), .ref (45 + n), .ref (46 + n), .int fo, .ref (47 + n), .int le, .ref (48 + n), .int ru, .ref (49 + n), .ref (50 + n), .ref (51 + n)]) := px_ne hm2 (by omega)
      have hf1__46___n_ : (hp2.set (46 + n) (10, (xv2.set (36 : Int32).toNatClampNeg (.int 1))))[(46 + n)]? = some (10, (xv2.set (36 : Int32).toNatClampNeg (.int 1))) := px_self hx2
      show px_Gx _ _ (157, [(0, .ref (38 + n)), (1, .int (nI m))], [], (hp2.set (46 + n) (10, (xv2.set (36 : Int32).toNatClampNeg (.int 1))))) _
      refine px_gx (fun _ K9 => px_a 2 (f' := (159, [(0, .ref (38 + n)), (1, .int (nI m))], [.int (nI m), .ref (38 + n)], (hp2.set (46 + n) (10, (xv2.set (36 : Int32).toNatClampNeg (.int 1)))))) rfl K9) ?_
      refine px_gx (fun _ K9 => px_cv (38 + n) (as := [.int (nI m)]) (rest := []) rfl rfl hf1__38___n_ rfl rfl rfl rfl (Nat.le_of_ble_eq_true rfl) (g3) K9) ?_
      show px_Gx _ _ (162, [(0, .ref (38 + n)), (1, .int (nI m))], [.int z], hp3) _
      rcases cx with ⟨rfl, -, w, h1, h2⟩ | ⟨rfl, hno⟩
      · exact ⟨_, _, px_ri rfl rfl rfl, Or.inl ⟨rfl, w, h1, h2⟩⟩
      · exact ⟨_, _, px_ri rfl rfl rfl, Or.inr ⟨rfl, fun ⟨w, h1, h2⟩ => hno w h1 h2⟩⟩
  | succ t ih =>
    intro p h' hp pl H hm hvu0 hvz0 hvq0 q
    have hp6 : p < pc := by omega
    obtain ⟨k1, k2, k3⟩ := hsq p hp6
    have pt : (nI p).toInt = (p : Int) := nI_toInt (by omega)
    obtain ⟨oX, hp1, gX, eX, c, c512, st1, f1, hm1, hs1, l1, r1, b1, L1⟩ := m_placeX (d := d + 2) (p := nI p) (kk := p) hW hV hnn (by rw [ew2]; exact nI_toInt (by omega)) (by rw [eh2]; exact nI_toInt (by omega)) H hvu0 hvz0 hvq0 q1 k1 k2 k3 pt (by omega) (by omega) hm
    obtain ⟨o2, hp2, g, ⟨H1, G1, -⟩, -⟩ := (ct_85 hN).deep (d' := d + 4) (by omega) [.ref (38 + n), .int (nI p)] hp H ⟨pa_r24, pa_in (by omega) (by omega), trivial⟩
    have e2 := px_det g gX
    cases e2
    subst eX
    have q1' := h_Q_f (fun a k x hk ha hx => by
      rcases ha with rfl | rfl | rfl
      · exact l_fa G1 hx (rr 12 (by decide) (by decide) (by omega)) hk (by decide)
      · exact l_fa G1 hx (rr 13 (by decide) (by decide) (by omega)) hk (by decide)
      · exact l_fa G1 hx (rr 14 (by decide) (by decide) (by omega)) hk (by decide)) q
    have hvu1 := l_fa G1 hvu0 (rr 7 (by decide) (by decide) (by omega)) (by decide) (by decide)
    have hvz1 := l_fa G1 hvz0 (rr 8 (by decide) (by decide) (by omega)) (by decide) (by decide)
    have hvq1 := l_fa G1 hvq0 (rr 9 (by decide) (by decide) (by omega)) (by decide) (by decide)
    refine px_gx (fun _ K9 => px_a 2 (f' := (25, [(2, .int (nI p)), (0, .ref (38 + n)), (1, .int (nI m))], [.ref (38 + n), .int (nI p)], hp)) rfl K9) ?_
    refine px_gx (fun _ K9 => px_gf (38 + n) 61 4 4 (.int (nI pc)) rfl rfl hm rfl K9) ?_
    show px_Gx _ _ (28, [(2, .int (nI p)), (0, .ref (38 + n)), (1, .int (nI m))], [.int (nI pc), .int (nI p)], hp) _
    refine px_gx (fun _ K9 => px_b2 false 107 rfl rfl (decide_eq_false (show ¬ nI pc ≤ nI p by rw [Int32.le_iff_toInt_le, nI_toInt (by omega), nI_toInt (by omega)]; omega)) K9) ?_
    show px_Gx _ _ (31, [(2, .int (nI p)), (0, .ref (38 + n)), (1, .int (nI m))], [], hp) _
    refine px_gx (fun _ K9 => px_a 2 (f' := (33, [(2, .int (nI p)), (0, .ref (38 + n)), (1, .int (nI m))], [.int (nI p), .ref (38 + n)], hp)) rfl K9) ?_
    refine px_gx (fun _ K9 => px_cv (38 + n) (as := [.int (nI p)]) (rest := []) rfl rfl hm rfl rfl rfl rfl (Nat.le_of_ble_eq_true rfl) (g) K9) ?_
    show px_Gx _ _ (36, [(2, .int (nI p)), (0, .ref (38 + n)), (1, .int (nI m))], [], hp1) _
    refine px_gx (fun _ K9 => px_a 2 (f' := (38, [(3, .int 0), (2, .int (nI p)), (0, .ref (38 + n)), (1, .int (nI m))], [], hp1)) rfl K9) ?_
    refine px_wk [(3, .int (nI 0)), (2, .int (nI p)), (0, .ref (38 + n)), (1, .int (nI m))] ⟨rfl, rfl, rfl, rfl, trivial⟩ ?_
    refine q_pl (d0 := d + 3) (hp0 := hp1) pm c512 r1 c 0 (by omega) hp1 _ H1 hm1 hs1 q1' (fun _ _ _ _ => e_S00) (fun a _ _ _ => rfl) (fun hp' H' sm' q' => ?_)
    · 
      refine px_gx (fun _ K9 => px_a 2 (f' := (23, [(2, .int ((nI p) + 1)), (0, .ref (38 + n)), (1, .int (nI m))], [], hp')) rfl K9) ?_
      rw [p_s16 p (by omega)]
      refine ih (p + 1) (by omega) hp' (nI c) H' ((sm' _ (by omega) (by omega) (by omega)).trans hm1) ((sm' _ (by omega) (by omega) (by omega)).trans hvu1) ((sm' _ (by omega) (by omega) (by omega)).trans hvz1) ((sm' _ (by omega) (by omega) (by omega)).trans hvq1) (h_Q_c (fun w => ⟨fun z q hq S hS => ?_, fun z => ⟨fun q hq => z q (by omega), fun i _ hi => z p (by omega) _ ((L1.2 _).mpr ⟨i, hi, rfl⟩)⟩⟩) q')
      by_cases e : q = p
      · subst e
        obtain ⟨i, hi, rfl⟩ := (L1.2 S).mp hS
        exact z.2 i (by omega) hi
      · exact z.1 q (by omega) S hS
set_option maxRecDepth 20000 in
theorem m_eqX {d n W V pc m : Nat} (hN : pa_N n) {th w h fo le ru : Int32} {sh : Int64} {vsu vsz vsq : List Value} {lq : Nat → List Nat} (pm : m = 2 ∨ m = 3 ∨ m = 5 ∨ m = 7 ∨ m = 11 ∨ m = 13) (hW : W ≤ 6) (hV : V ≤ 6) (hnn : n = W * V) (ew2 : w = nI W) (eh2 : h = nI V) (pc6 : pc ≤ 6) (q1 : ∀ c, c < n → vsu[c]? = some (.int (if x_bt sh c = true then 1 else 0))) (q3 : ∀ c, x_bt sh c = true → c < n) (hsq : ∀ k, k < pc → vsz[k]? = some (.int (nI (lq k).length)) ∧ (lq k).length ≤ 6 ∧ ∀ (j q : Nat), (lq k)[j]? = some q → vsq[6 * k + j]? = some (.int (nI q)) ∧ q < 16) {hp : px_H} {pl : Int32} (H : pa_Hi n hp) (hm : hp[38 + n]? = some (4, m_O n th w h (nI pc) pl fo le ru)) (hvu0 : hp[39 + n]? = some (12, vsu)) (hvz0 : hp[40 + n]? = some (10, vsz)) (hvq0 : hp[41 + n]? = some (10, vsq)) : px_Gx (d + 5) 75 (0, [(0, .ref (38 + n)), (1, .int (nI m))], [], hp) (fun o _ => (o = .inl (some (.int 1)) ∧ (∃ w, (∀ q, q < pc → ∀ S, m_D W V sh (lq q) 8 (-3) (-3) S → e_S m 36 (fun d => (g_bt (lN S) d : Int)) 0 w) ∧ e_S m 36 (fun d => (g_bt sh d : Int)) 1 w)) ∨ (o = .inl (some (.int 0)) ∧ ¬ (∃ w, (∀ q, q < pc → ∀ S, m_D W V sh (lq q) 8 (-3) (-3) S → e_S m 36 (fun d => (g_bt (lN S) d : Int)) 0 w) ∧ e_S m 36 (fun d => (g_bt sh d : Int)) 1 w))) := by
  obtain ⟨kv, hk, lk, -⟩ := pa_ara (a := 44 + n) (i := 12) (lo := 0) (hi := 1) H (by omega) (by decide) (by decide) rfl
  obtain ⟨ks, hks, lks, -⟩ := pa_ara (a := 45 + n) (i := 13) (lo := -2147483648) (hi := 2147483647) H (by omega) (by decide) (by decide) rfl
  obtain ⟨xv, hx, lx, -⟩ := pa_ara (a := 46 + n) (i := 14) (lo := -2147483648) (hi := 2147483647) H (by omega) (by decide) (by decide) rfl
  refine px_gx (fun _ K9 => px_a 2 (f' := (2, [(2, .int 0), (0, .ref (38 + n)), (1, .int (nI m))], [], hp)) rfl K9) ?_
  refine px_wk [(2, .int (nI 0)), (0, .ref (38 + n)), (1, .int (nI m))] ⟨rfl, rfl, rfl, trivial⟩ ?_
  refine q_clr (hp0 := hp) (fun hp2 kv2 H2 hk2 lk2 f2 sm2 => ?_) 36 0 (by omega) hp kv H hm hk (by omega) (fun d hd => absurd hd (Nat.not_lt_zero d)) (fun a _ => rfl)
  exact m_eql hN pm hW hV hnn ew2 eh2 pc6 q1 q3 hsq pc 0 (by omega) hp2 pl H2 ((sm2 _ (by omega)).trans hm) ((sm2 _ (by omega)).trans hvu0) ((sm2 _ (by omega)).trans hvz0) ((sm2 _ (by omega)).trans hvq0) ⟨fun _ => false, fun _ _ => 0, ⟨⟨kv2, hk2, lk2, fun c hc => by show kv2[c]? = some (.int (if false = true then 1 else 0)); rw [if_neg (by decide)]; exact f2 c hc⟩, ks, (sm2 _ (by omega)).trans hks, by omega, fun c hc z => Bool.noConfusion z⟩, fun c hc z => Bool.noConfusion z, fun w => ⟨fun _ q hq => absurd hq (Nat.not_lt_zero q), fun _ c hc z => Bool.noConfusion z⟩, xv, (sm2 _ (by omega)).trans hx, by omega⟩
