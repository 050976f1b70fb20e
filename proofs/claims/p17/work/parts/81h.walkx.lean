theorem m_T_x {n W V : Nat} {hp : px_H} {sh : Int64} {us : List Value} (hW : W ≤ 6) (hV : V ≤ 6) (hn : n = W * V) (a1 : hp[39 + n]? = some (12, us)) (q1 : ∀ c, c < n → us[c]? = some (.int (if x_bt sh c = true then 1 else 0))) : m_T n hp (nI W).toInt (nI V).toInt = x_T W V sh := by
  have wt : (nI W).toInt = W := nI_toInt (by omega)
  have vt : (nI V).toInt = V := nI_toInt (by omega)
  funext x y
  rw [wt, vt]
  by_cases r : 0 ≤ x ∧ x < W ∧ 0 ≤ y ∧ y < V
  · obtain ⟨X, rfl⟩ : ∃ X : Nat, x = X := ⟨x.toNat, by omega⟩
    obtain ⟨Y, rfl⟩ : ∃ Y : Nat, y = Y := ⟨y.toNat, by omega⟩
    have hc : W * Y + X < W * V := by
      have h1 : W * (Y + 1) ≤ W * V := Nat.mul_le_mul_left W (by omega)
      rw [Nat.mul_succ] at h1
      omega
    have ei : ((W : Int) * (Y : Int) + (X : Int)).toNat = W * Y + X := by rw [← Int.natCast_mul, ← Int.natCast_add]; rfl
    rw [x_T_i (c := W * Y + X) r ei.symm, m_T_i (i := W * Y + X) r a1 (q1 _ (by omega)) ei.symm]
    cases x_bt sh (W * Y + X) <;> rfl
  · rw [x_T_o r, m_T_o r]
set_option maxRecDepth 20000 in
set_option maxHeartbeats 4000000 in
theorem m_walkx_l {d n W V : Nat} {sh : Int64} {hp0 : px_H} {th w h pn pl fo ru : Int32} {fi x0 y0 : Int32} (hW : W ≤ 6) (hV : V ≤ 6) (H0 : pa_Hi n hp0) (hTT : m_T n hp0 w.toInt h.toInt = x_T W V sh) (ex0 : x0 = fi - fi / w * w) (ey0 : y0 = fi / w) (hs0 : m_ok (x_T W V sh) (x0.toInt, y0.toInt, 0)) {K0 : Nat} (hK2 : K0 ≤ 84) (hK : m_st (x_T W V sh) (x0.toInt, y0.toInt, 0) K0 = (x0.toInt, y0.toInt, 0)) (hmin : ∀ k, 1 ≤ k → k < K0 → m_st (x_T W V sh) (x0.toInt, y0.toInt, 0) k ≠ (x0.toInt, y0.toInt, 0)) (hwd : x_Wd W V sh K0 (fun q => (m_st (x_T W V sh) (x0.toInt, y0.toInt, 0) q).2.2)) : ∀ (k : Nat) (i : Nat) (wa y x : Int32) hp le vsw (hm : hp[38 + n]? = some (4, m_O n th w h pn pl fo le ru)) (H : pa_Hi n hp) (F : pa_Fr n [(24, 15), (34, 0)] hp0 hp) (L : hp.length = hp0.length) (hvw : hp[48 + n]? = some (10, vsw)), i + k = K0 → 1 ≤ k → le.toInt = i ∧ 0 ≤ wa.toInt → m_st (x_T W V sh) (x0.toInt, y0.toInt, 0) i = (x.toInt, y.toInt, wa.toInt.toNat) → (∀ q, q < i → vsw[q]? = some (.int (nI (m_st (x_T W V sh) (x0.toInt, y0.toInt, 0) q).2.2))) → px_Gx (d + 3) 100 (59, [(5, .int 1), (4, .int wa), (3, .int y), (2, .int x), (1, .int fi), (0, .ref (38 + n))], [], hp) (fun o hp' => o = .inl none ∧ ∃ (K : Nat) (f : Nat → Nat) (vs' : List Value), x_Wd W V sh K f ∧ pa_fd hp' (38 + n) 15 = some (.int (nI K)) ∧ hp'[48 + n]? = some (10, vs') ∧ ∀ i, i < K → vs'[i]? = some (.int (nI (f i)))) := by
  have clm1 : Int32.toInt (-1) = -1 := rfl
  have cl0 : Int32.toInt 0 = 0 := rfl
  have cl1 : Int32.toInt 1 = 1 := rfl
  have cl2 : Int32.toInt 2 = 2 := rfl
  have cl3 : Int32.toInt 3 = 3 := rfl
  have cl4 : Int32.toInt 4 = 4 := rfl
  have cl5 : Int32.toInt 5 = 5 := rfl
  have cl6 : Int32.toInt 6 = 6 := rfl
  intro k
  induction k with
  | zero =>
    intro i wa y x hp le vsw hm H F L hvw g1 g2 g3 hst hw
    omega
  | succ k ih =>
    intro i wa y x hp le vsw hm H F L hvw g1 g2 g3 hst hw
    obtain ⟨g3, g4⟩ := g3
    obtain ⟨bth1, bth2, bw1, bw2, bh1, bh2, bpn1, bpn2, bpl1, bpl2, bfo1, bfo2, ble1, ble2, bru1, bru2⟩ := pa_bnd H hm
    have hlw : (vsw.length : Int) = 200 := by
      obtain ⟨vq, hq1, hq2, -⟩ := pa_ara (a := 48 + n) (i := 16) (lo := 0) (hi := 3) H (by omega) (by decide) (by decide) rfl
      rw [hvw] at hq1; cases hq1; exact hq2
    have hgw : ∀ k, k < vsw.length → ∃ x : Int32, vsw[k]? = some (.int x) ∧ 0 ≤ x.toInt ∧ x.toInt ≤ 3 := by
      obtain ⟨vq, hq1, -, hq2⟩ := pa_ara (a := 48 + n) (i := 16) (lo := 0) (hi := 3) H (by omega) (by decide) (by decide) rfl
      rw [hvw] at hq1; cases hq1; exact hq2
    have hok := m_st_ok hs0 i
    rw [hst] at hok
    obtain ⟨hw4, hsd⟩ := hok
    have hrr := m_sd_r (x_T6 hW hV) hsd
    dsimp only at hw4 hrr
    have hwa : wa = 0 ∨ wa = 1 ∨ wa = 2 ∨ wa = 3 := by
      rcases (show wa.toInt = 0 ∨ wa.toInt = 1 ∨ wa.toInt = 2 ∨ wa.toInt = 3 by omega) with e | e | e | e
      · exact Or.inl (Int32.toInt_inj.mp (e.trans cl0.symm))
      · exact Or.inr (Or.inl (Int32.toInt_inj.mp (e.trans cl1.symm)))
      · exact Or.inr (Or.inr (Or.inl (Int32.toInt_inj.mp (e.trans cl2.symm))))
      · exact Or.inr (Or.inr (Or.inr (Int32.toInt_inj.mp (e.trans cl3.symm))))
    rcases hwa with rfl | rfl | rfl | rfl
    · change m_st (x_T W V sh) (x0.toInt, y0.toInt, 0) i = (x.toInt, y.toInt, 0) at hst
      refine px_gx (fun _ K => px_a 3 (f' := (65, [(5, .int 1), (4, .int 0), (3, .int y), (2, .int x), (1, .int fi), (0, .ref (38 + n))], [.ref (38 + n)], hp)) rfl K) ?_
      refine px_gx (fun _ K => px_gf (38 + n) 39 4 16 (.ref (48 + n)) rfl rfl hm rfl K) ?_
      show px_Gx _ _ (68, [(5, .int 1), (4, .int 0), (3, .int y), (2, .int x), (1, .int fi), (0, .ref (38 + n))], [.ref (48 + n)], hp) _
      refine px_gx (fun _ K => px_a 1 (f' := (69, [(5, .int 1), (4, .int 0), (3, .int y), (2, .int x), (1, .int fi), (0, .ref (38 + n))], [.ref (38 + n), .ref (48 + n)], hp)) rfl K) ?_
      refine px_gx (fun _ K => px_gf (38 + n) 122 4 15 (.int le) rfl rfl hm rfl K) ?_
      show px_Gx _ _ (72, [(5, .int 1), (4, .int 0), (3, .int y), (2, .int x), (1, .int fi), (0, .ref (38 + n))], [.int le, .ref (48 + n)], hp) _
      refine px_gx (fun _ K => px_a 1 (f' := (74, [(5, .int 1), (4, .int 0), (3, .int y), (2, .int x), (1, .int fi), (0, .ref (38 + n))], [.int 0, .int le, .ref (48 + n)], hp)) rfl K) ?_
      have hi520 : le.toNatClampNeg < vsw.length := by show (Int32.toInt le).toNat < _; omega
      refine px_gx (fun _ K => px_ias (48 + n) rfl hvw (by omega) (i32_nn (by omega)) hi520 K) ?_
      show px_Gx _ _ (75, [(5, .int 1), (4, .int 0), (3, .int y), (2, .int x), (1, .int fi), (0, .ref (38 + n))], [], hp.set (48 + n) (10, vsw.set le.toNatClampNeg (.int 0))) _
      have hm520 : (hp.set (48 + n) (10, vsw.set le.toNatClampNeg (.int 0)))[38 + n]? = some (4, (m_O n th w h pn pl fo le ru)) := px_ne hm (by omega)
      have H520 : pa_Hi n (hp.set (48 + n) (10, vsw.set le.toNatClampNeg (.int 0))) := pa_aS (i := 16) H (by omega) (by decide) (by decide) hvw rfl (pa_in (by omega) (by omega))
      have F520 : pa_Fr n [(24, 15), (34, 0)] hp0 (hp.set (48 + n) (10, vsw.set le.toNatClampNeg (.int 0))) := F.trans (pa_aF (i := 16) (by omega) (by decide) (by decide) hvw (by decide) (by decide))
      have L520 : (hp.set (48 + n) (10, vsw.set le.toNatClampNeg (.int 0))).length = hp0.length := List.length_set.trans L
      obtain ⟨vs521, ev521⟩ : ∃ q : List Value, q = vsw.set le.toNatClampNeg (.int 0) := ⟨_, rfl⟩
      have hv521 : (hp.set (48 + n) (10, vsw.set le.toNatClampNeg (.int 0)))[48 + n]? = some (10, vs521) := by rw [ev521]; exact px_self hvw
      generalize hp.set (48 + n) (10, vsw.set le.toNatClampNeg (.int 0)) = hp520 at hm520 H520 F520 L520 hv521 ⊢
      refine px_gx (fun _ K => px_a 2 (f' := (77, [(5, .int 1), (4, .int 0), (3, .int y), (2, .int x), (1, .int fi), (0, .ref (38 + n))], [.ref (38 + n), .ref (38 + n)], hp520)) rfl K) ?_
      refine px_gx (fun _ K => px_gf (38 + n) 122 4 15 (.int le) rfl rfl hm520 rfl K) ?_
      show px_Gx _ _ (80, [(5, .int 1), (4, .int 0), (3, .int y), (2, .int x), (1, .int fi), (0, .ref (38 + n))], [.int le, .ref (38 + n)], hp520) _
      refine px_gx (fun _ K => px_a 2 (f' := (82, [(5, .int 1), (4, .int 0), (3, .int y), (2, .int x), (1, .int fi), (0, .ref (38 + n))], [.int (le + 1), .ref (38 + n)], hp520)) rfl K) ?_
      obtain ⟨z522, ez522, fz522⟩ : ∃ qz : Int32, qz = le + 1 ∧ qz.toInt = Int32.toInt le + Int32.toInt 1 := ⟨_, rfl, i32_add (by omega) (by omega)⟩
      rw [← ez522]
      refine px_gx (fun _ K => px_pf (38 + n) 122 4 15 rfl rfl hm520 (by omega) (Nat.le_of_ble_eq_true rfl) (rfl) rfl (by decide) K) ?_
      show px_Gx _ _ (85, [(5, .int 1), (4, .int 0), (3, .int y), (2, .int x), (1, .int fi), (0, .ref (38 + n))], [], hp520.set (38 + n) (4, (m_O n th w h pn pl fo z522 ru))) _
      have hm523 : (hp520.set (38 + n) (4, (m_O n th w h pn pl fo z522 ru)))[38 + n]? = some (4, (m_O n th w h pn pl fo z522 ru)) := px_self hm520
      have H523 : pa_Hi n (hp520.set (38 + n) (4, (m_O n th w h pn pl fo z522 ru))) := pa_ms (k := 15) (v := .int z522) H520 hm520 rfl (pa_in (by omega) (by omega))
      have F523 : pa_Fr n [(24, 15), (34, 0)] hp0 (hp520.set (38 + n) (4, (m_O n th w h pn pl fo z522 ru))) := F520.trans (pa_mf (k := 15) (v := .int z522) hm520 (by decide) (by decide))
      have L523 : (hp520.set (38 + n) (4, (m_O n th w h pn pl fo z522 ru))).length = hp0.length := List.length_set.trans L520
      have hv521_523 : (hp520.set (38 + n) (4, (m_O n th w h pn pl fo z522 ru)))[48 + n]? = some (10, vs521) := px_ne hv521 (by omega)
      generalize hp520.set (38 + n) (4, (m_O n th w h pn pl fo z522 ru)) = hp523 at hm523 H523 F523 L523 hv521_523 ⊢
      refine px_gx (fun _ K => px_a 6 (f' := (107, [(5, .int 1), (4, .int 0), (3, .int y), (2, .int x), (1, .int fi), (0, .ref (38 + n))], [.int (x + 1)], hp523)) rfl K) ?_
      obtain ⟨z524, ez524, fz524⟩ : ∃ qz : Int32, qz = x + 1 ∧ qz.toInt = Int32.toInt x + Int32.toInt 1 := ⟨_, rfl, i32_add (by omega) (by omega)⟩
      rw [← ez524]
      refine px_gx (fun _ K => px_a 10 (f' := (131, [(2, .int z524), (5, .int 1), (4, .int 0), (3, .int y), (1, .int fi), (0, .ref (38 + n))], [.int (y + 0)], hp523)) rfl K) ?_
      obtain ⟨z525, ez525, fz525⟩ : ∃ qz : Int32, qz = y + 0 ∧ qz.toInt = Int32.toInt y + Int32.toInt 0 := ⟨_, rfl, i32_add (by omega) (by omega)⟩
      rw [← ez525]
      refine px_gx (fun _ K => px_a 9 (f' := (141, [(3, .int z525), (2, .int z524), (5, .int 1), (4, .int 0), (1, .int fi), (0, .ref (38 + n))], [.int 1, .int z525, .int z524, .ref (38 + n)], hp523)) rfl K) ?_
      rcases Bool.eq_false_or_eq_true (m_sd (x_T W V sh) z524.toInt z525.toInt 1) with hS526 | hS526
      · obtain ⟨o527, hq527, g527, rfl, eh527⟩ := m_side_1 (d := d) hm523 H523 (b := true) (x := z524) (y := z525) (by omega) (by omega) (by omega) (by omega) (by rw [m_T_f H0 F523 (by decide), hTT]; exact hS526)
        rw [eh527] at g527
        refine px_gx (fun _ K => px_cv (38 + n) (as := [.int z524, .int z525, .int 1]) (rest := []) rfl rfl hm523 rfl rfl rfl rfl (Nat.le_of_ble_eq_true rfl) g527 K) ?_
        show px_Gx _ _ (144, [(3, .int z525), (2, .int z524), (5, .int 1), (4, .int 0), (1, .int fi), (0, .ref (38 + n))], [.int 1], hp523) _
        refine px_gx (fun _ K => px_a 11 (f' := (183, [(4, .int 1), (3, .int z525), (2, .int z524), (5, .int 1), (1, .int fi), (0, .ref (38 + n))], [.ref (38 + n), .int fi, .int z524], hp523)) rfl K) ?_
        refine px_gx (fun _ K => px_gf (38 + n) 51 4 1 (.int w) rfl rfl hm523 rfl K) ?_
        show px_Gx _ _ (186, [(4, .int 1), (3, .int z525), (2, .int z524), (5, .int 1), (1, .int fi), (0, .ref (38 + n))], [.int w, .int fi, .int z524], hp523) _
        refine px_gx (fun _ K => px_irem rfl (pa_ne0 (by omega)) K) ?_
        show px_Gx _ _ (187, [(4, .int 1), (3, .int z525), (2, .int z524), (5, .int 1), (1, .int fi), (0, .ref (38 + n))], [.int (fi - fi / w * w), .int z524], hp523) _
        rw [← ex0]
        by_cases h528 : ¬ z524 = x0
        · have h528' := h528
          have h528'' : Int32.toInt z524 ≠ Int32.toInt x0 := fun z => h528 (Int32.toInt_inj.mp z)
          refine px_gx (fun _ K => px_b2 true 205 rfl rfl (decide_eq_true h528) K) ?_
          show px_Gx _ _ (205, [(4, .int 1), (3, .int z525), (2, .int z524), (5, .int 1), (1, .int fi), (0, .ref (38 + n))], [], hp523) _
          refine px_gx (fun _ K => px_a 4 (f' := (59, [(5, .int 1), (4, .int 1), (3, .int z525), (2, .int z524), (1, .int fi), (0, .ref (38 + n))], [], hp523)) rfl K) ?_
          have hn : m_st (x_T W V sh) (x0.toInt, y0.toInt, 0) (i + 1) = (z524.toInt, z525.toInt, 1) := by
            show m_nx _ (m_st (x_T W V sh) (x0.toInt, y0.toInt, 0) i) = _
            rw [hst]
            exact m_nx_r (show z524.toInt = x.toInt + m_dx 0 by show _ = _ + (1 : Int); omega) (show z525.toInt = y.toInt + m_dy 0 by show _ = _ + (0 : Int); omega) hS526
          have hw2 : ∀ q, q < i + 1 → vs521[q]? = some (.int (nI (m_st (x_T W V sh) (x0.toInt, y0.toInt, 0) q).2.2)) := by
            rw [ev521, show le = nI i from Int32.toInt_inj.mp (by rw [nI_toInt (by omega)]; omega)]
            exact c_lsx hw (by omega) (by omega) (by rw [hst]; rfl)
          have hne : i + 1 ≠ K0 := by
            intro e
            rw [e, hK] at hn
            have n1 : x0.toInt = z524.toInt := congrArg (fun q : m_P => q.1) hn
            have n2 : y0.toInt = z525.toInt := congrArg (fun q : m_P => q.2.1) hn
            have n3 : (0 : Nat) = 1 := congrArg (fun q : m_P => q.2.2) hn
            omega
          exact ih (i + 1) 1 z525 z524 hp523 z522 vs521 hm523 H523 F523 L523 hv521_523 (by omega) (by omega) ⟨by omega, by decide⟩ hn hw2
        · have h528' := h528
          have h528'' : Int32.toInt z524 = Int32.toInt x0 := congrArg Int32.toInt (Decidable.not_not.mp h528)
          refine px_gx (fun _ K => px_b2 false 205 rfl rfl (decide_eq_false h528) K) ?_
          show px_Gx _ _ (190, [(4, .int 1), (3, .int z525), (2, .int z524), (5, .int 1), (1, .int fi), (0, .ref (38 + n))], [], hp523) _
          refine px_gx (fun _ K => px_a 3 (f' := (193, [(4, .int 1), (3, .int z525), (2, .int z524), (5, .int 1), (1, .int fi), (0, .ref (38 + n))], [.ref (38 + n), .int fi, .int z525], hp523)) rfl K) ?_
          refine px_gx (fun _ K => px_gf (38 + n) 51 4 1 (.int w) rfl rfl hm523 rfl K) ?_
          show px_Gx _ _ (196, [(4, .int 1), (3, .int z525), (2, .int z524), (5, .int 1), (1, .int fi), (0, .ref (38 + n))], [.int w, .int fi, .int z525], hp523) _
          refine px_gx (fun _ K => px_idiv rfl (pa_ne0 (by omega)) K) ?_
          show px_Gx _ _ (197, [(4, .int 1), (3, .int z525), (2, .int z524), (5, .int 1), (1, .int fi), (0, .ref (38 + n))], [.int (fi / w), .int z525], hp523) _
          rw [← ey0]
          by_cases h529 : ¬ z525 = y0
          · have h529' := h529
            have h529'' : Int32.toInt z525 ≠ Int32.toInt y0 := fun z => h529 (Int32.toInt_inj.mp z)
            refine px_gx (fun _ K => px_b2 true 205 rfl rfl (decide_eq_true h529) K) ?_
            show px_Gx _ _ (205, [(4, .int 1), (3, .int z525), (2, .int z524), (5, .int 1), (1, .int fi), (0, .ref (38 + n))], [], hp523) _
            refine px_gx (fun _ K => px_a 4 (f' := (59, [(5, .int 1), (4, .int 1), (3, .int z525), (2, .int z524), (1, .int fi), (0, .ref (38 + n))], [], hp523)) rfl K) ?_
            have hn : m_st (x_T W V sh) (x0.toInt, y0.toInt, 0) (i + 1) = (z524.toInt, z525.toInt, 1) := by
              show m_nx _ (m_st (x_T W V sh) (x0.toInt, y0.toInt, 0) i) = _
              rw [hst]
              exact m_nx_r (show z524.toInt = x.toInt + m_dx 0 by show _ = _ + (1 : Int); omega) (show z525.toInt = y.toInt + m_dy 0 by show _ = _ + (0 : Int); omega) hS526
            have hw2 : ∀ q, q < i + 1 → vs521[q]? = some (.int (nI (m_st (x_T W V sh) (x0.toInt, y0.toInt, 0) q).2.2)) := by
              rw [ev521, show le = nI i from Int32.toInt_inj.mp (by rw [nI_toInt (by omega)]; omega)]
              exact c_lsx hw (by omega) (by omega) (by rw [hst]; rfl)
            have hne : i + 1 ≠ K0 := by
              intro e
              rw [e, hK] at hn
              have n1 : x0.toInt = z524.toInt := congrArg (fun q : m_P => q.1) hn
              have n2 : y0.toInt = z525.toInt := congrArg (fun q : m_P => q.2.1) hn
              have n3 : (0 : Nat) = 1 := congrArg (fun q : m_P => q.2.2) hn
              omega
            exact ih (i + 1) 1 z525 z524 hp523 z522 vs521 hm523 H523 F523 L523 hv521_523 (by omega) (by omega) ⟨by omega, by decide⟩ hn hw2
          · have h529' := h529
            have h529'' : Int32.toInt z525 = Int32.toInt y0 := congrArg Int32.toInt (Decidable.not_not.mp h529)
            refine px_gx (fun _ K => px_b2 false 205 rfl rfl (decide_eq_false h529) K) ?_
            show px_Gx _ _ (200, [(4, .int 1), (3, .int z525), (2, .int z524), (5, .int 1), (1, .int fi), (0, .ref (38 + n))], [], hp523) _
            refine px_gx (fun _ K => px_a 6 (f' := (59, [(5, .int 1), (4, .int 1), (3, .int z525), (2, .int z524), (1, .int fi), (0, .ref (38 + n))], [], hp523)) rfl K) ?_
            have hn : m_st (x_T W V sh) (x0.toInt, y0.toInt, 0) (i + 1) = (z524.toInt, z525.toInt, 1) := by
              show m_nx _ (m_st (x_T W V sh) (x0.toInt, y0.toInt, 0) i) = _
              rw [hst]
              exact m_nx_r (show z524.toInt = x.toInt + m_dx 0 by show _ = _ + (1 : Int); omega) (show z525.toInt = y.toInt + m_dy 0 by show _ = _ + (0 : Int); omega) hS526
            have hw2 : ∀ q, q < i + 1 → vs521[q]? = some (.int (nI (m_st (x_T W V sh) (x0.toInt, y0.toInt, 0) q).2.2)) := by
              rw [ev521, show le = nI i from Int32.toInt_inj.mp (by rw [nI_toInt (by omega)]; omega)]
              exact c_lsx hw (by omega) (by omega) (by rw [hst]; rfl)
            have hne : i + 1 ≠ K0 := by
              intro e
              rw [e, hK] at hn
              have n1 : x0.toInt = z524.toInt := congrArg (fun q : m_P => q.1) hn
              have n2 : y0.toInt = z525.toInt := congrArg (fun q : m_P => q.2.1) hn
              have n3 : (0 : Nat) = 1 := congrArg (fun q : m_P => q.2.2) hn
              omega
            exact ih (i + 1) 1 z525 z524 hp523 z522 vs521 hm523 H523 F523 L523 hv521_523 (by omega) (by omega) ⟨by omega, by decide⟩ hn hw2
      · obtain ⟨o530, hq530, g530, rfl, eh530⟩ := m_side_1 (d := d) hm523 H523 (b := false) (x := z524) (y := z525) (by omega) (by omega) (by omega) (by omega) (by rw [m_T_f H0 F523 (by decide), hTT]; exact hS526)
        rw [eh530] at g530
        refine px_gx (fun _ K => px_cv (38 + n) (as := [.int z524, .int z525, .int 1]) (rest := []) rfl rfl hm523 rfl rfl rfl rfl (Nat.le_of_ble_eq_true rfl) g530 K) ?_
        show px_Gx _ _ (144, [(3, .int z525), (2, .int z524), (5, .int 1), (4, .int 0), (1, .int fi), (0, .ref (38 + n))], [.int 0], hp523) _
        refine px_gx (fun _ K => px_a 5 (f' := (161, [(3, .int z525), (2, .int z524), (5, .int 1), (4, .int 0), (1, .int fi), (0, .ref (38 + n))], [.int 0, .int z525, .int z524, .ref (38 + n)], hp523)) rfl K) ?_
        rcases Bool.eq_false_or_eq_true (m_sd (x_T W V sh) z524.toInt z525.toInt 0) with hS531 | hS531
        · obtain ⟨o532, hq532, g532, rfl, eh532⟩ := m_side_0 (d := d) hm523 H523 (b := true) (x := z524) (y := z525) (by omega) (by omega) (by omega) (by omega) (by rw [m_T_f H0 F523 (by decide), hTT]; exact hS531)
          rw [eh532] at g532
          refine px_gx (fun _ K => px_cv (38 + n) (as := [.int z524, .int z525, .int 0]) (rest := []) rfl rfl hm523 rfl rfl rfl rfl (Nat.le_of_ble_eq_true rfl) g532 K) ?_
          show px_Gx _ _ (164, [(3, .int z525), (2, .int z524), (5, .int 1), (4, .int 0), (1, .int fi), (0, .ref (38 + n))], [.int 1], hp523) _
          refine px_gx (fun _ K => px_a 7 (f' := (183, [(4, .int 0), (3, .int z525), (2, .int z524), (5, .int 1), (1, .int fi), (0, .ref (38 + n))], [.ref (38 + n), .int fi, .int z524], hp523)) rfl K) ?_
          refine px_gx (fun _ K => px_gf (38 + n) 51 4 1 (.int w) rfl rfl hm523 rfl K) ?_
          show px_Gx _ _ (186, [(4, .int 0), (3, .int z525), (2, .int z524), (5, .int 1), (1, .int fi), (0, .ref (38 + n))], [.int w, .int fi, .int z524], hp523) _
          refine px_gx (fun _ K => px_irem rfl (pa_ne0 (by omega)) K) ?_
          show px_Gx _ _ (187, [(4, .int 0), (3, .int z525), (2, .int z524), (5, .int 1), (1, .int fi), (0, .ref (38 + n))], [.int (fi - fi / w * w), .int z524], hp523) _
          rw [← ex0]
          by_cases h533 : ¬ z524 = x0
          · have h533' := h533
            have h533'' : Int32.toInt z524 ≠ Int32.toInt x0 := fun z => h533 (Int32.toInt_inj.mp z)
            refine px_gx (fun _ K => px_b2 true 205 rfl rfl (decide_eq_true h533) K) ?_
            show px_Gx _ _ (205, [(4, .int 0), (3, .int z525), (2, .int z524), (5, .int 1), (1, .int fi), (0, .ref (38 + n))], [], hp523) _
            refine px_gx (fun _ K => px_a 4 (f' := (59, [(5, .int 1), (4, .int 0), (3, .int z525), (2, .int z524), (1, .int fi), (0, .ref (38 + n))], [], hp523)) rfl K) ?_
            have hn : m_st (x_T W V sh) (x0.toInt, y0.toInt, 0) (i + 1) = (z524.toInt, z525.toInt, 0) := by
              show m_nx _ (m_st (x_T W V sh) (x0.toInt, y0.toInt, 0) i) = _
              rw [hst]
              exact m_nx_s (show z524.toInt = x.toInt + m_dx 0 by show _ = _ + (1 : Int); omega) (show z525.toInt = y.toInt + m_dy 0 by show _ = _ + (0 : Int); omega) hS526 hS531
            have hw2 : ∀ q, q < i + 1 → vs521[q]? = some (.int (nI (m_st (x_T W V sh) (x0.toInt, y0.toInt, 0) q).2.2)) := by
              rw [ev521, show le = nI i from Int32.toInt_inj.mp (by rw [nI_toInt (by omega)]; omega)]
              exact c_lsx hw (by omega) (by omega) (by rw [hst]; rfl)
            have hne : i + 1 ≠ K0 := by
              intro e
              rw [e, hK] at hn
              have n1 : x0.toInt = z524.toInt := congrArg (fun q : m_P => q.1) hn
              have n2 : y0.toInt = z525.toInt := congrArg (fun q : m_P => q.2.1) hn
              have n3 : (0 : Nat) = 0 := congrArg (fun q : m_P => q.2.2) hn
              omega
            exact ih (i + 1) 0 z525 z524 hp523 z522 vs521 hm523 H523 F523 L523 hv521_523 (by omega) (by omega) ⟨by omega, by decide⟩ hn hw2
          · have h533' := h533
            have h533'' : Int32.toInt z524 = Int32.toInt x0 := congrArg Int32.toInt (Decidable.not_not.mp h533)
            refine px_gx (fun _ K => px_b2 false 205 rfl rfl (decide_eq_false h533) K) ?_
            show px_Gx _ _ (190, [(4, .int 0), (3, .int z525), (2, .int z524), (5, .int 1), (1, .int fi), (0, .ref (38 + n))], [], hp523) _
            refine px_gx (fun _ K => px_a 3 (f' := (193, [(4, .int 0), (3, .int z525), (2, .int z524), (5, .int 1), (1, .int fi), (0, .ref (38 + n))], [.ref (38 + n), .int fi, .int z525], hp523)) rfl K) ?_
            refine px_gx (fun _ K => px_gf (38 + n) 51 4 1 (.int w) rfl rfl hm523 rfl K) ?_
            show px_Gx _ _ (196, [(4, .int 0), (3, .int z525), (2, .int z524), (5, .int 1), (1, .int fi), (0, .ref (38 + n))], [.int w, .int fi, .int z525], hp523) _
            refine px_gx (fun _ K => px_idiv rfl (pa_ne0 (by omega)) K) ?_
            show px_Gx _ _ (197, [(4, .int 0), (3, .int z525), (2, .int z524), (5, .int 1), (1, .int fi), (0, .ref (38 + n))], [.int (fi / w), .int z525], hp523) _
            rw [← ey0]
            by_cases h534 : ¬ z525 = y0
            · have h534' := h534
              have h534'' : Int32.toInt z525 ≠ Int32.toInt y0 := fun z => h534 (Int32.toInt_inj.mp z)
              refine px_gx (fun _ K => px_b2 true 205 rfl rfl (decide_eq_true h534) K) ?_
              show px_Gx _ _ (205, [(4, .int 0), (3, .int z525), (2, .int z524), (5, .int 1), (1, .int fi), (0, .ref (38 + n))], [], hp523) _
              refine px_gx (fun _ K => px_a 4 (f' := (59, [(5, .int 1), (4, .int 0), (3, .int z525), (2, .int z524), (1, .int fi), (0, .ref (38 + n))], [], hp523)) rfl K) ?_
              have hn : m_st (x_T W V sh) (x0.toInt, y0.toInt, 0) (i + 1) = (z524.toInt, z525.toInt, 0) := by
                show m_nx _ (m_st (x_T W V sh) (x0.toInt, y0.toInt, 0) i) = _
                rw [hst]
                exact m_nx_s (show z524.toInt = x.toInt + m_dx 0 by show _ = _ + (1 : Int); omega) (show z525.toInt = y.toInt + m_dy 0 by show _ = _ + (0 : Int); omega) hS526 hS531
              have hw2 : ∀ q, q < i + 1 → vs521[q]? = some (.int (nI (m_st (x_T W V sh) (x0.toInt, y0.toInt, 0) q).2.2)) := by
                rw [ev521, show le = nI i from Int32.toInt_inj.mp (by rw [nI_toInt (by omega)]; omega)]
                exact c_lsx hw (by omega) (by omega) (by rw [hst]; rfl)
              have hne : i + 1 ≠ K0 := by
                intro e
                rw [e, hK] at hn
                have n1 : x0.toInt = z524.toInt := congrArg (fun q : m_P => q.1) hn
                have n2 : y0.toInt = z525.toInt := congrArg (fun q : m_P => q.2.1) hn
                have n3 : (0 : Nat) = 0 := congrArg (fun q : m_P => q.2.2) hn
                omega
              exact ih (i + 1) 0 z525 z524 hp523 z522 vs521 hm523 H523 F523 L523 hv521_523 (by omega) (by omega) ⟨by omega, by decide⟩ hn hw2
            · have h534' := h534
              have h534'' : Int32.toInt z525 = Int32.toInt y0 := congrArg Int32.toInt (Decidable.not_not.mp h534)
              refine px_gx (fun _ K => px_b2 false 205 rfl rfl (decide_eq_false h534) K) ?_
              show px_Gx _ _ (200, [(4, .int 0), (3, .int z525), (2, .int z524), (5, .int 1), (1, .int fi), (0, .ref (38 + n))], [], hp523) _
              refine px_gx (fun _ K => px_a 5 (f' := (59, [(5, .int 0), (4, .int 0), (3, .int z525), (2, .int z524), (1, .int fi), (0, .ref (38 + n))], [], hp523)) rfl K) ?_
              have hn : m_st (x_T W V sh) (x0.toInt, y0.toInt, 0) (i + 1) = (z524.toInt, z525.toInt, 0) := by
                show m_nx _ (m_st (x_T W V sh) (x0.toInt, y0.toInt, 0) i) = _
                rw [hst]
                exact m_nx_s (show z524.toInt = x.toInt + m_dx 0 by show _ = _ + (1 : Int); omega) (show z525.toInt = y.toInt + m_dy 0 by show _ = _ + (0 : Int); omega) hS526 hS531
              have hw2 : ∀ q, q < i + 1 → vs521[q]? = some (.int (nI (m_st (x_T W V sh) (x0.toInt, y0.toInt, 0) q).2.2)) := by
                rw [ev521, show le = nI i from Int32.toInt_inj.mp (by rw [nI_toInt (by omega)]; omega)]
                exact c_lsx hw (by omega) (by omega) (by rw [hst]; rfl)
              have hK1 : i + 1 = K0 := by
                rcases Nat.lt_or_ge (i + 1) K0 with z | z
                · exact absurd (hn.trans (by rw [Decidable.not_not.mp h533, Decidable.not_not.mp h534])) (hmin (i + 1) (by omega) z)
                · omega
              refine px_gx (fun _ K => px_a 2 (f' := (215, [(5, .int 0), (4, .int 0), (3, .int z525), (2, .int z524), (1, .int fi), (0, .ref (38 + n))], [], hp523)) rfl K) ?_
              exact ⟨_, _, px_e rfl rfl, rfl, K0, fun q => (m_st (x_T W V sh) (x0.toInt, y0.toInt, 0) q).2.2, _, hwd, by rw [pa_fd_get hm523]; show some (Value.int z522) = _; rw [show z522 = nI K0 from Int32.toInt_inj.mp (by rw [nI_toInt (by omega)]; omega)], hv521_523, by rw [← hK1]; exact hw2⟩
        · obtain ⟨o535, hq535, g535, rfl, eh535⟩ := m_side_0 (d := d) hm523 H523 (b := false) (x := z524) (y := z525) (by omega) (by omega) (by omega) (by omega) (by rw [m_T_f H0 F523 (by decide), hTT]; exact hS531)
          rw [eh535] at g535
          refine px_gx (fun _ K => px_cv (38 + n) (as := [.int z524, .int z525, .int 0]) (rest := []) rfl rfl hm523 rfl rfl rfl rfl (Nat.le_of_ble_eq_true rfl) g535 K) ?_
          show px_Gx _ _ (164, [(3, .int z525), (2, .int z524), (5, .int 1), (4, .int 0), (1, .int fi), (0, .ref (38 + n))], [.int 0], hp523) _
          refine px_gx (fun _ K => px_a 10 (f' := (183, [(4, .int 3), (3, .int z525), (2, .int z524), (5, .int 1), (1, .int fi), (0, .ref (38 + n))], [.ref (38 + n), .int fi, .int z524], hp523)) rfl K) ?_
          refine px_gx (fun _ K => px_gf (38 + n) 51 4 1 (.int w) rfl rfl hm523 rfl K) ?_
          show px_Gx _ _ (186, [(4, .int 3), (3, .int z525), (2, .int z524), (5, .int 1), (1, .int fi), (0, .ref (38 + n))], [.int w, .int fi, .int z524], hp523) _
          refine px_gx (fun _ K => px_irem rfl (pa_ne0 (by omega)) K) ?_
          show px_Gx _ _ (187, [(4, .int 3), (3, .int z525), (2, .int z524), (5, .int 1), (1, .int fi), (0, .ref (38 + n))], [.int (fi - fi / w * w), .int z524], hp523) _
          rw [← ex0]
          by_cases h536 : ¬ z524 = x0
          · have h536' := h536
            have h536'' : Int32.toInt z524 ≠ Int32.toInt x0 := fun z => h536 (Int32.toInt_inj.mp z)
            refine px_gx (fun _ K => px_b2 true 205 rfl rfl (decide_eq_true h536) K) ?_
            show px_Gx _ _ (205, [(4, .int 3), (3, .int z525), (2, .int z524), (5, .int 1), (1, .int fi), (0, .ref (38 + n))], [], hp523) _
            refine px_gx (fun _ K => px_a 4 (f' := (59, [(5, .int 1), (4, .int 3), (3, .int z525), (2, .int z524), (1, .int fi), (0, .ref (38 + n))], [], hp523)) rfl K) ?_
            have hn : m_st (x_T W V sh) (x0.toInt, y0.toInt, 0) (i + 1) = (z524.toInt, z525.toInt, 3) := by
              show m_nx _ (m_st (x_T W V sh) (x0.toInt, y0.toInt, 0) i) = _
              rw [hst]
              exact m_nx_l (show z524.toInt = x.toInt + m_dx 0 by show _ = _ + (1 : Int); omega) (show z525.toInt = y.toInt + m_dy 0 by show _ = _ + (0 : Int); omega) hS526 hS531
            have hw2 : ∀ q, q < i + 1 → vs521[q]? = some (.int (nI (m_st (x_T W V sh) (x0.toInt, y0.toInt, 0) q).2.2)) := by
              rw [ev521, show le = nI i from Int32.toInt_inj.mp (by rw [nI_toInt (by omega)]; omega)]
              exact c_lsx hw (by omega) (by omega) (by rw [hst]; rfl)
            have hne : i + 1 ≠ K0 := by
              intro e
              rw [e, hK] at hn
              have n1 : x0.toInt = z524.toInt := congrArg (fun q : m_P => q.1) hn
              have n2 : y0.toInt = z525.toInt := congrArg (fun q : m_P => q.2.1) hn
              have n3 : (0 : Nat) = 3 := congrArg (fun q : m_P => q.2.2) hn
              omega
            exact ih (i + 1) 3 z525 z524 hp523 z522 vs521 hm523 H523 F523 L523 hv521_523 (by omega) (by omega) ⟨by omega, by decide⟩ hn hw2
          · have h536' := h536
            have h536'' : Int32.toInt z524 = Int32.toInt x0 := congrArg Int32.toInt (Decidable.not_not.mp h536)
            refine px_gx (fun _ K => px_b2 false 205 rfl rfl (decide_eq_false h536) K) ?_
            show px_Gx _ _ (190, [(4, .int 3), (3, .int z525), (2, .int z524), (5, .int 1), (1, .int fi), (0, .ref (38 + n))], [], hp523) _
            refine px_gx (fun _ K => px_a 3 (f' := (193, [(4, .int 3), (3, .int z525), (2, .int z524), (5, .int 1), (1, .int fi), (0, .ref (38 + n))], [.ref (38 + n), .int fi, .int z525], hp523)) rfl K) ?_
            refine px_gx (fun _ K => px_gf (38 + n) 51 4 1 (.int w) rfl rfl hm523 rfl K) ?_
            show px_Gx _ _ (196, [(4, .int 3), (3, .int z525), (2, .int z524), (5, .int 1), (1, .int fi), (0, .ref (38 + n))], [.int w, .int fi, .int z525], hp523) _
            refine px_gx (fun _ K => px_idiv rfl (pa_ne0 (by omega)) K) ?_
            show px_Gx _ _ (197, [(4, .int 3), (3, .int z525), (2, .int z524), (5, .int 1), (1, .int fi), (0, .ref (38 + n))], [.int (fi / w), .int z525], hp523) _
            rw [← ey0]
            by_cases h537 : ¬ z525 = y0
            · have h537' := h537
              have h537'' : Int32.toInt z525 ≠ Int32.toInt y0 := fun z => h537 (Int32.toInt_inj.mp z)
              refine px_gx (fun _ K => px_b2 true 205 rfl rfl (decide_eq_true h537) K) ?_
              show px_Gx _ _ (205, [(4, .int 3), (3, .int z525), (2, .int z524), (5, .int 1), (1, .int fi), (0, .ref (38 + n))], [], hp523) _
              refine px_gx (fun _ K => px_a 4 (f' := (59, [(5, .int 1), (4, .int 3), (3, .int z525), (2, .int z524), (1, .int fi), (0, .ref (38 + n))], [], hp523)) rfl K) ?_
              have hn : m_st (x_T W V sh) (x0.toInt, y0.toInt, 0) (i + 1) = (z524.toInt, z525.toInt, 3) := by
                show m_nx _ (m_st (x_T W V sh) (x0.toInt, y0.toInt, 0) i) = _
                rw [hst]
                exact m_nx_l (show z524.toInt = x.toInt + m_dx 0 by show _ = _ + (1 : Int); omega) (show z525.toInt = y.toInt + m_dy 0 by show _ = _ + (0 : Int); omega) hS526 hS531
              have hw2 : ∀ q, q < i + 1 → vs521[q]? = some (.int (nI (m_st (x_T W V sh) (x0.toInt, y0.toInt, 0) q).2.2)) := by
                rw [ev521, show le = nI i from Int32.toInt_inj.mp (by rw [nI_toInt (by omega)]; omega)]
                exact c_lsx hw (by omega) (by omega) (by rw [hst]; rfl)
              have hne : i + 1 ≠ K0 := by
                intro e
                rw [e, hK] at hn
                have n1 : x0.toInt = z524.toInt := congrArg (fun q : m_P => q.1) hn
                have n2 : y0.toInt = z525.toInt := congrArg (fun q : m_P => q.2.1) hn
                have n3 : (0 : Nat) = 3 := congrArg (fun q : m_P => q.2.2) hn
                omega
              exact ih (i + 1) 3 z525 z524 hp523 z522 vs521 hm523 H523 F523 L523 hv521_523 (by omega) (by omega) ⟨by omega, by decide⟩ hn hw2
            · have h537' := h537
              have h537'' : Int32.toInt z525 = Int32.toInt y0 := congrArg Int32.toInt (Decidable.not_not.mp h537)
              refine px_gx (fun _ K => px_b2 false 205 rfl rfl (decide_eq_false h537) K) ?_
              show px_Gx _ _ (200, [(4, .int 3), (3, .int z525), (2, .int z524), (5, .int 1), (1, .int fi), (0, .ref (38 + n))], [], hp523) _
              refine px_gx (fun _ K => px_a 6 (f' := (59, [(5, .int 1), (4, .int 3), (3, .int z525), (2, .int z524), (1, .int fi), (0, .ref (38 + n))], [], hp523)) rfl K) ?_
              have hn : m_st (x_T W V sh) (x0.toInt, y0.toInt, 0) (i + 1) = (z524.toInt, z525.toInt, 3) := by
                show m_nx _ (m_st (x_T W V sh) (x0.toInt, y0.toInt, 0) i) = _
                rw [hst]
                exact m_nx_l (show z524.toInt = x.toInt + m_dx 0 by show _ = _ + (1 : Int); omega) (show z525.toInt = y.toInt + m_dy 0 by show _ = _ + (0 : Int); omega) hS526 hS531
              have hw2 : ∀ q, q < i + 1 → vs521[q]? = some (.int (nI (m_st (x_T W V sh) (x0.toInt, y0.toInt, 0) q).2.2)) := by
                rw [ev521, show le = nI i from Int32.toInt_inj.mp (by rw [nI_toInt (by omega)]; omega)]
                exact c_lsx hw (by omega) (by omega) (by rw [hst]; rfl)
              have hne : i + 1 ≠ K0 := by
                intro e
                rw [e, hK] at hn
                have n1 : x0.toInt = z524.toInt := congrArg (fun q : m_P => q.1) hn
                have n2 : y0.toInt = z525.toInt := congrArg (fun q : m_P => q.2.1) hn
                have n3 : (0 : Nat) = 3 := congrArg (fun q : m_P => q.2.2) hn
                omega
              exact ih (i + 1) 3 z525 z524 hp523 z522 vs521 hm523 H523 F523 L523 hv521_523 (by omega) (by omega) ⟨by omega, by decide⟩ hn hw2
    · change m_st (x_T W V sh) (x0.toInt, y0.toInt, 0) i = (x.toInt, y.toInt, 1) at hst
      refine px_gx (fun _ K => px_a 3 (f' := (65, [(5, .int 1), (4, .int 1), (3, .int y), (2, .int x), (1, .int fi), (0, .ref (38 + n))], [.ref (38 + n)], hp)) rfl K) ?_
      refine px_gx (fun _ K => px_gf (38 + n) 39 4 16 (.ref (48 + n)) rfl rfl hm rfl K) ?_
      show px_Gx _ _ (68, [(5, .int 1), (4, .int 1), (3, .int y), (2, .int x), (1, .int fi), (0, .ref (38 + n))], [.ref (48 + n)], hp) _
      refine px_gx (fun _ K => px_a 1 (f' := (69, [(5, .int 1), (4, .int 1), (3, .int y), (2, .int x), (1, .int fi), (0, .ref (38 + n))], [.ref (38 + n), .ref (48 + n)], hp)) rfl K) ?_
      refine px_gx (fun _ K => px_gf (38 + n) 122 4 15 (.int le) rfl rfl hm rfl K) ?_
      show px_Gx _ _ (72, [(5, .int 1), (4, .int 1), (3, .int y), (2, .int x), (1, .int fi), (0, .ref (38 + n))], [.int le, .ref (48 + n)], hp) _
      refine px_gx (fun _ K => px_a 1 (f' := (74, [(5, .int 1), (4, .int 1), (3, .int y), (2, .int x), (1, .int fi), (0, .ref (38 + n))], [.int 1, .int le, .ref (48 + n)], hp)) rfl K) ?_
      have hi538 : le.toNatClampNeg < vsw.length := by show (Int32.toInt le).toNat < _; omega
      refine px_gx (fun _ K => px_ias (48 + n) rfl hvw (by omega) (i32_nn (by omega)) hi538 K) ?_
      show px_Gx _ _ (75, [(5, .int 1), (4, .int 1), (3, .int y), (2, .int x), (1, .int fi), (0, .ref (38 + n))], [], hp.set (48 + n) (10, vsw.set le.toNatClampNeg (.int 1))) _
      have hm538 : (hp.set (48 + n) (10, vsw.set le.toNatClampNeg (.int 1)))[38 + n]? = some (4, (m_O n th w h pn pl fo le ru)) := px_ne hm (by omega)
      have H538 : pa_Hi n (hp.set (48 + n) (10, vsw.set le.toNatClampNeg (.int 1))) := pa_aS (i := 16) H (by omega) (by decide) (by decide) hvw rfl (pa_in (by omega) (by omega))
      have F538 : pa_Fr n [(24, 15), (34, 0)] hp0 (hp.set (48 + n) (10, vsw.set le.toNatClampNeg (.int 1))) := F.trans (pa_aF (i := 16) (by omega) (by decide) (by decide) hvw (by decide) (by decide))
      have L538 : (hp.set (48 + n) (10, vsw.set le.toNatClampNeg (.int 1))).length = hp0.length := List.length_set.trans L
      obtain ⟨vs539, ev539⟩ : ∃ q : List Value, q = vsw.set le.toNatClampNeg (.int 1) := ⟨_, rfl⟩
      have hv539 : (hp.set (48 + n) (10, vsw.set le.toNatClampNeg (.int 1)))[48 + n]? = some (10, vs539) := by rw [ev539]; exact px_self hvw
      generalize hp.set (48 + n) (10, vsw.set le.toNatClampNeg (.int 1)) = hp538 at hm538 H538 F538 L538 hv539 ⊢
      refine px_gx (fun _ K => px_a 2 (f' := (77, [(5, .int 1), (4, .int 1), (3, .int y), (2, .int x), (1, .int fi), (0, .ref (38 + n))], [.ref (38 + n), .ref (38 + n)], hp538)) rfl K) ?_
      refine px_gx (fun _ K => px_gf (38 + n) 122 4 15 (.int le) rfl rfl hm538 rfl K) ?_
      show px_Gx _ _ (80, [(5, .int 1), (4, .int 1), (3, .int y), (2, .int x), (1, .int fi), (0, .ref (38 + n))], [.int le, .ref (38 + n)], hp538) _
      refine px_gx (fun _ K => px_a 2 (f' := (82, [(5, .int 1), (4, .int 1), (3, .int y), (2, .int x), (1, .int fi), (0, .ref (38 + n))], [.int (le + 1), .ref (38 + n)], hp538)) rfl K) ?_
      obtain ⟨z540, ez540, fz540⟩ : ∃ qz : Int32, qz = le + 1 ∧ qz.toInt = Int32.toInt le + Int32.toInt 1 := ⟨_, rfl, i32_add (by omega) (by omega)⟩
      rw [← ez540]
      refine px_gx (fun _ K => px_pf (38 + n) 122 4 15 rfl rfl hm538 (by omega) (Nat.le_of_ble_eq_true rfl) (rfl) rfl (by decide) K) ?_
      show px_Gx _ _ (85, [(5, .int 1), (4, .int 1), (3, .int y), (2, .int x), (1, .int fi), (0, .ref (38 + n))], [], hp538.set (38 + n) (4, (m_O n th w h pn pl fo z540 ru))) _
      have hm541 : (hp538.set (38 + n) (4, (m_O n th w h pn pl fo z540 ru)))[38 + n]? = some (4, (m_O n th w h pn pl fo z540 ru)) := px_self hm538
      have H541 : pa_Hi n (hp538.set (38 + n) (4, (m_O n th w h pn pl fo z540 ru))) := pa_ms (k := 15) (v := .int z540) H538 hm538 rfl (pa_in (by omega) (by omega))
      have F541 : pa_Fr n [(24, 15), (34, 0)] hp0 (hp538.set (38 + n) (4, (m_O n th w h pn pl fo z540 ru))) := F538.trans (pa_mf (k := 15) (v := .int z540) hm538 (by decide) (by decide))
      have L541 : (hp538.set (38 + n) (4, (m_O n th w h pn pl fo z540 ru))).length = hp0.length := List.length_set.trans L538
      have hv539_541 : (hp538.set (38 + n) (4, (m_O n th w h pn pl fo z540 ru)))[48 + n]? = some (10, vs539) := px_ne hv539 (by omega)
      generalize hp538.set (38 + n) (4, (m_O n th w h pn pl fo z540 ru)) = hp541 at hm541 H541 F541 L541 hv539_541 ⊢
      refine px_gx (fun _ K => px_a 8 (f' := (107, [(5, .int 1), (4, .int 1), (3, .int y), (2, .int x), (1, .int fi), (0, .ref (38 + n))], [.int (x + 0)], hp541)) rfl K) ?_
      obtain ⟨z542, ez542, fz542⟩ : ∃ qz : Int32, qz = x + 0 ∧ qz.toInt = Int32.toInt x + Int32.toInt 0 := ⟨_, rfl, i32_add (by omega) (by omega)⟩
      rw [← ez542]
      refine px_gx (fun _ K => px_a 8 (f' := (131, [(2, .int z542), (5, .int 1), (4, .int 1), (3, .int y), (1, .int fi), (0, .ref (38 + n))], [.int (y + 1)], hp541)) rfl K) ?_
      obtain ⟨z543, ez543, fz543⟩ : ∃ qz : Int32, qz = y + 1 ∧ qz.toInt = Int32.toInt y + Int32.toInt 1 := ⟨_, rfl, i32_add (by omega) (by omega)⟩
      rw [← ez543]
      refine px_gx (fun _ K => px_a 9 (f' := (141, [(3, .int z543), (2, .int z542), (5, .int 1), (4, .int 1), (1, .int fi), (0, .ref (38 + n))], [.int 2, .int z543, .int z542, .ref (38 + n)], hp541)) rfl K) ?_
      rcases Bool.eq_false_or_eq_true (m_sd (x_T W V sh) z542.toInt z543.toInt 2) with hS544 | hS544
      · obtain ⟨o545, hq545, g545, rfl, eh545⟩ := m_side_2 (d := d) hm541 H541 (b := true) (x := z542) (y := z543) (by omega) (by omega) (by omega) (by omega) (by rw [m_T_f H0 F541 (by decide), hTT]; exact hS544)
        rw [eh545] at g545
        refine px_gx (fun _ K => px_cv (38 + n) (as := [.int z542, .int z543, .int 2]) (rest := []) rfl rfl hm541 rfl rfl rfl rfl (Nat.le_of_ble_eq_true rfl) g545 K) ?_
        show px_Gx _ _ (144, [(3, .int z543), (2, .int z542), (5, .int 1), (4, .int 1), (1, .int fi), (0, .ref (38 + n))], [.int 1], hp541) _
        refine px_gx (fun _ K => px_a 11 (f' := (183, [(4, .int 2), (3, .int z543), (2, .int z542), (5, .int 1), (1, .int fi), (0, .ref (38 + n))], [.ref (38 + n), .int fi, .int z542], hp541)) rfl K) ?_
        refine px_gx (fun _ K => px_gf (38 + n) 51 4 1 (.int w) rfl rfl hm541 rfl K) ?_
        show px_Gx _ _ (186, [(4, .int 2), (3, .int z543), (2, .int z542), (5, .int 1), (1, .int fi), (0, .ref (38 + n))], [.int w, .int fi, .int z542], hp541) _
        refine px_gx (fun _ K => px_irem rfl (pa_ne0 (by omega)) K) ?_
        show px_Gx _ _ (187, [(4, .int 2), (3, .int z543), (2, .int z542), (5, .int 1), (1, .int fi), (0, .ref (38 + n))], [.int (fi - fi / w * w), .int z542], hp541) _
        rw [← ex0]
        by_cases h546 : ¬ z542 = x0
        · have h546' := h546
          have h546'' : Int32.toInt z542 ≠ Int32.toInt x0 := fun z => h546 (Int32.toInt_inj.mp z)
          refine px_gx (fun _ K => px_b2 true 205 rfl rfl (decide_eq_true h546) K) ?_
          show px_Gx _ _ (205, [(4, .int 2), (3, .int z543), (2, .int z542), (5, .int 1), (1, .int fi), (0, .ref (38 + n))], [], hp541) _
          refine px_gx (fun _ K => px_a 4 (f' := (59, [(5, .int 1), (4, .int 2), (3, .int z543), (2, .int z542), (1, .int fi), (0, .ref (38 + n))], [], hp541)) rfl K) ?_
          have hn : m_st (x_T W V sh) (x0.toInt, y0.toInt, 0) (i + 1) = (z542.toInt, z543.toInt, 2) := by
            show m_nx _ (m_st (x_T W V sh) (x0.toInt, y0.toInt, 0) i) = _
            rw [hst]
            exact m_nx_r (show z542.toInt = x.toInt + m_dx 1 by show _ = _ + (0 : Int); omega) (show z543.toInt = y.toInt + m_dy 1 by show _ = _ + (1 : Int); omega) hS544
          have hw2 : ∀ q, q < i + 1 → vs539[q]? = some (.int (nI (m_st (x_T W V sh) (x0.toInt, y0.toInt, 0) q).2.2)) := by
            rw [ev539, show le = nI i from Int32.toInt_inj.mp (by rw [nI_toInt (by omega)]; omega)]
            exact c_lsx hw (by omega) (by omega) (by rw [hst]; rfl)
          have hne : i + 1 ≠ K0 := by
            intro e
            rw [e, hK] at hn
            have n1 : x0.toInt = z542.toInt := congrArg (fun q : m_P => q.1) hn
            have n2 : y0.toInt = z543.toInt := congrArg (fun q : m_P => q.2.1) hn
            have n3 : (0 : Nat) = 2 := congrArg (fun q : m_P => q.2.2) hn
            omega
          exact ih (i + 1) 2 z543 z542 hp541 z540 vs539 hm541 H541 F541 L541 hv539_541 (by omega) (by omega) ⟨by omega, by decide⟩ hn hw2
        · have h546' := h546
          have h546'' : Int32.toInt z542 = Int32.toInt x0 := congrArg Int32.toInt (Decidable.not_not.mp h546)
          refine px_gx (fun _ K => px_b2 false 205 rfl rfl (decide_eq_false h546) K) ?_
          show px_Gx _ _ (190, [(4, .int 2), (3, .int z543), (2, .int z542), (5, .int 1), (1, .int fi), (0, .ref (38 + n))], [], hp541) _
          refine px_gx (fun _ K => px_a 3 (f' := (193, [(4, .int 2), (3, .int z543), (2, .int z542), (5, .int 1), (1, .int fi), (0, .ref (38 + n))], [.ref (38 + n), .int fi, .int z543], hp541)) rfl K) ?_
          refine px_gx (fun _ K => px_gf (38 + n) 51 4 1 (.int w) rfl rfl hm541 rfl K) ?_
          show px_Gx _ _ (196, [(4, .int 2), (3, .int z543), (2, .int z542), (5, .int 1), (1, .int fi), (0, .ref (38 + n))], [.int w, .int fi, .int z543], hp541) _
          refine px_gx (fun _ K => px_idiv rfl (pa_ne0 (by omega)) K) ?_
          show px_Gx _ _ (197, [(4, .int 2), (3, .int z543), (2, .int z542), (5, .int 1), (1, .int fi), (0, .ref (38 + n))], [.int (fi / w), .int z543], hp541) _
          rw [← ey0]
          by_cases h547 : ¬ z543 = y0
          · have h547' := h547
            have h547'' : Int32.toInt z543 ≠ Int32.toInt y0 := fun z => h547 (Int32.toInt_inj.mp z)
            refine px_gx (fun _ K => px_b2 true 205 rfl rfl (decide_eq_true h547) K) ?_
            show px_Gx _ _ (205, [(4, .int 2), (3, .int z543), (2, .int z542), (5, .int 1), (1, .int fi), (0, .ref (38 + n))], [], hp541) _
            refine px_gx (fun _ K => px_a 4 (f' := (59, [(5, .int 1), (4, .int 2), (3, .int z543), (2, .int z542), (1, .int fi), (0, .ref (38 + n))], [], hp541)) rfl K) ?_
            have hn : m_st (x_T W V sh) (x0.toInt, y0.toInt, 0) (i + 1) = (z542.toInt, z543.toInt, 2) := by
              show m_nx _ (m_st (x_T W V sh) (x0.toInt, y0.toInt, 0) i) = _
              rw [hst]
              exact m_nx_r (show z542.toInt = x.toInt + m_dx 1 by show _ = _ + (0 : Int); omega) (show z543.toInt = y.toInt + m_dy 1 by show _ = _ + (1 : Int); omega) hS544
            have hw2 : ∀ q, q < i + 1 → vs539[q]? = some (.int (nI (m_st (x_T W V sh) (x0.toInt, y0.toInt, 0) q).2.2)) := by
              rw [ev539, show le = nI i from Int32.toInt_inj.mp (by rw [nI_toInt (by omega)]; omega)]
              exact c_lsx hw (by omega) (by omega) (by rw [hst]; rfl)
            have hne : i + 1 ≠ K0 := by
              intro e
              rw [e, hK] at hn
              have n1 : x0.toInt = z542.toInt := congrArg (fun q : m_P => q.1) hn
              have n2 : y0.toInt = z543.toInt := congrArg (fun q : m_P => q.2.1) hn
              have n3 : (0 : Nat) = 2 := congrArg (fun q : m_P => q.2.2) hn
              omega
            exact ih (i + 1) 2 z543 z542 hp541 z540 vs539 hm541 H541 F541 L541 hv539_541 (by omega) (by omega) ⟨by omega, by decide⟩ hn hw2
          · have h547' := h547
            have h547'' : Int32.toInt z543 = Int32.toInt y0 := congrArg Int32.toInt (Decidable.not_not.mp h547)
            refine px_gx (fun _ K => px_b2 false 205 rfl rfl (decide_eq_false h547) K) ?_
            show px_Gx _ _ (200, [(4, .int 2), (3, .int z543), (2, .int z542), (5, .int 1), (1, .int fi), (0, .ref (38 + n))], [], hp541) _
            refine px_gx (fun _ K => px_a 6 (f' := (59, [(5, .int 1), (4, .int 2), (3, .int z543), (2, .int z542), (1, .int fi), (0, .ref (38 + n))], [], hp541)) rfl K) ?_
            have hn : m_st (x_T W V sh) (x0.toInt, y0.toInt, 0) (i + 1) = (z542.toInt, z543.toInt, 2) := by
              show m_nx _ (m_st (x_T W V sh) (x0.toInt, y0.toInt, 0) i) = _
              rw [hst]
              exact m_nx_r (show z542.toInt = x.toInt + m_dx 1 by show _ = _ + (0 : Int); omega) (show z543.toInt = y.toInt + m_dy 1 by show _ = _ + (1 : Int); omega) hS544
            have hw2 : ∀ q, q < i + 1 → vs539[q]? = some (.int (nI (m_st (x_T W V sh) (x0.toInt, y0.toInt, 0) q).2.2)) := by
              rw [ev539, show le = nI i from Int32.toInt_inj.mp (by rw [nI_toInt (by omega)]; omega)]
              exact c_lsx hw (by omega) (by omega) (by rw [hst]; rfl)
            have hne : i + 1 ≠ K0 := by
              intro e
              rw [e, hK] at hn
              have n1 : x0.toInt = z542.toInt := congrArg (fun q : m_P => q.1) hn
              have n2 : y0.toInt = z543.toInt := congrArg (fun q : m_P => q.2.1) hn
              have n3 : (0 : Nat) = 2 := congrArg (fun q : m_P => q.2.2) hn
              omega
            exact ih (i + 1) 2 z543 z542 hp541 z540 vs539 hm541 H541 F541 L541 hv539_541 (by omega) (by omega) ⟨by omega, by decide⟩ hn hw2
      · obtain ⟨o548, hq548, g548, rfl, eh548⟩ := m_side_2 (d := d) hm541 H541 (b := false) (x := z542) (y := z543) (by omega) (by omega) (by omega) (by omega) (by rw [m_T_f H0 F541 (by decide), hTT]; exact hS544)
        rw [eh548] at g548
        refine px_gx (fun _ K => px_cv (38 + n) (as := [.int z542, .int z543, .int 2]) (rest := []) rfl rfl hm541 rfl rfl rfl rfl (Nat.le_of_ble_eq_true rfl) g548 K) ?_
        show px_Gx _ _ (144, [(3, .int z543), (2, .int z542), (5, .int 1), (4, .int 1), (1, .int fi), (0, .ref (38 + n))], [.int 0], hp541) _
        refine px_gx (fun _ K => px_a 5 (f' := (161, [(3, .int z543), (2, .int z542), (5, .int 1), (4, .int 1), (1, .int fi), (0, .ref (38 + n))], [.int 1, .int z543, .int z542, .ref (38 + n)], hp541)) rfl K) ?_
        rcases Bool.eq_false_or_eq_true (m_sd (x_T W V sh) z542.toInt z543.toInt 1) with hS549 | hS549
        · obtain ⟨o550, hq550, g550, rfl, eh550⟩ := m_side_1 (d := d) hm541 H541 (b := true) (x := z542) (y := z543) (by omega) (by omega) (by omega) (by omega) (by rw [m_T_f H0 F541 (by decide), hTT]; exact hS549)
          rw [eh550] at g550
          refine px_gx (fun _ K => px_cv (38 + n) (as := [.int z542, .int z543, .int 1]) (rest := []) rfl rfl hm541 rfl rfl rfl rfl (Nat.le_of_ble_eq_true rfl) g550 K) ?_
          show px_Gx _ _ (164, [(3, .int z543), (2, .int z542), (5, .int 1), (4, .int 1), (1, .int fi), (0, .ref (38 + n))], [.int 1], hp541) _
          refine px_gx (fun _ K => px_a 7 (f' := (183, [(4, .int 1), (3, .int z543), (2, .int z542), (5, .int 1), (1, .int fi), (0, .ref (38 + n))], [.ref (38 + n), .int fi, .int z542], hp541)) rfl K) ?_
          refine px_gx (fun _ K => px_gf (38 + n) 51 4 1 (.int w) rfl rfl hm541 rfl K) ?_
          show px_Gx _ _ (186, [(4, .int 1), (3, .int z543), (2, .int z542), (5, .int 1), (1, .int fi), (0, .ref (38 + n))], [.int w, .int fi, .int z542], hp541) _
          refine px_gx (fun _ K => px_irem rfl (pa_ne0 (by omega)) K) ?_
          show px_Gx _ _ (187, [(4, .int 1), (3, .int z543), (2, .int z542), (5, .int 1), (1, .int fi), (0, .ref (38 + n))], [.int (fi - fi / w * w), .int z542], hp541) _
          rw [← ex0]
          by_cases h551 : ¬ z542 = x0
          · have h551' := h551
            have h551'' : Int32.toInt z542 ≠ Int32.toInt x0 := fun z => h551 (Int32.toInt_inj.mp z)
            refine px_gx (fun _ K => px_b2 true 205 rfl rfl (decide_eq_true h551) K) ?_
            show px_Gx _ _ (205, [(4, .int 1), (3, .int z543), (2, .int z542), (5, .int 1), (1, .int fi), (0, .ref (38 + n))], [], hp541) _
            refine px_gx (fun _ K => px_a 4 (f' := (59, [(5, .int 1), (4, .int 1), (3, .int z543), (2, .int z542), (1, .int fi), (0, .ref (38 + n))], [], hp541)) rfl K) ?_
            have hn : m_st (x_T W V sh) (x0.toInt, y0.toInt, 0) (i + 1) = (z542.toInt, z543.toInt, 1) := by
              show m_nx _ (m_st (x_T W V sh) (x0.toInt, y0.toInt, 0) i) = _
              rw [hst]
              exact m_nx_s (show z542.toInt = x.toInt + m_dx 1 by show _ = _ + (0 : Int); omega) (show z543.toInt = y.toInt + m_dy 1 by show _ = _ + (1 : Int); omega) hS544 hS549
            have hw2 : ∀ q, q < i + 1 → vs539[q]? = some (.int (nI (m_st (x_T W V sh) (x0.toInt, y0.toInt, 0) q).2.2)) := by
              rw [ev539, show le = nI i from Int32.toInt_inj.mp (by rw [nI_toInt (by omega)]; omega)]
              exact c_lsx hw (by omega) (by omega) (by rw [hst]; rfl)
            have hne : i + 1 ≠ K0 := by
              intro e
              rw [e, hK] at hn
              have n1 : x0.toInt = z542.toInt := congrArg (fun q : m_P => q.1) hn
              have n2 : y0.toInt = z543.toInt := congrArg (fun q : m_P => q.2.1) hn
              have n3 : (0 : Nat) = 1 := congrArg (fun q : m_P => q.2.2) hn
              omega
            exact ih (i + 1) 1 z543 z542 hp541 z540 vs539 hm541 H541 F541 L541 hv539_541 (by omega) (by omega) ⟨by omega, by decide⟩ hn hw2
          · have h551' := h551
            have h551'' : Int32.toInt z542 = Int32.toInt x0 := congrArg Int32.toInt (Decidable.not_not.mp h551)
            refine px_gx (fun _ K => px_b2 false 205 rfl rfl (decide_eq_false h551) K) ?_
            show px_Gx _ _ (190, [(4, .int 1), (3, .int z543), (2, .int z542), (5, .int 1), (1, .int fi), (0, .ref (38 + n))], [], hp541) _
            refine px_gx (fun _ K => px_a 3 (f' := (193, [(4, .int 1), (3, .int z543), (2, .int z542), (5, .int 1), (1, .int fi), (0, .ref (38 + n))], [.ref (38 + n), .int fi, .int z543], hp541)) rfl K) ?_
            refine px_gx (fun _ K => px_gf (38 + n) 51 4 1 (.int w) rfl rfl hm541 rfl K) ?_
            show px_Gx _ _ (196, [(4, .int 1), (3, .int z543), (2, .int z542), (5, .int 1), (1, .int fi), (0, .ref (38 + n))], [.int w, .int fi, .int z543], hp541) _
            refine px_gx (fun _ K => px_idiv rfl (pa_ne0 (by omega)) K) ?_
            show px_Gx _ _ (197, [(4, .int 1), (3, .int z543), (2, .int z542), (5, .int 1), (1, .int fi), (0, .ref (38 + n))], [.int (fi / w), .int z543], hp541) _
            rw [← ey0]
            by_cases h552 : ¬ z543 = y0
            · have h552' := h552
              have h552'' : Int32.toInt z543 ≠ Int32.toInt y0 := fun z => h552 (Int32.toInt_inj.mp z)
              refine px_gx (fun _ K => px_b2 true 205 rfl rfl (decide_eq_true h552) K) ?_
              show px_Gx _ _ (205, [(4, .int 1), (3, .int z543), (2, .int z542), (5, .int 1), (1, .int fi), (0, .ref (38 + n))], [], hp541) _
              refine px_gx (fun _ K => px_a 4 (f' := (59, [(5, .int 1), (4, .int 1), (3, .int z543), (2, .int z542), (1, .int fi), (0, .ref (38 + n))], [], hp541)) rfl K) ?_
              have hn : m_st (x_T W V sh) (x0.toInt, y0.toInt, 0) (i + 1) = (z542.toInt, z543.toInt, 1) := by
                show m_nx _ (m_st (x_T W V sh) (x0.toInt, y0.toInt, 0) i) = _
                rw [hst]
                exact m_nx_s (show z542.toInt = x.toInt + m_dx 1 by show _ = _ + (0 : Int); omega) (show z543.toInt = y.toInt + m_dy 1 by show _ = _ + (1 : Int); omega) hS544 hS549
              have hw2 : ∀ q, q < i + 1 → vs539[q]? = some (.int (nI (m_st (x_T W V sh) (x0.toInt, y0.toInt, 0) q).2.2)) := by
                rw [ev539, show le = nI i from Int32.toInt_inj.mp (by rw [nI_toInt (by omega)]; omega)]
                exact c_lsx hw (by omega) (by omega) (by rw [hst]; rfl)
              have hne : i + 1 ≠ K0 := by
                intro e
                rw [e, hK] at hn
                have n1 : x0.toInt = z542.toInt := congrArg (fun q : m_P => q.1) hn
                have n2 : y0.toInt = z543.toInt := congrArg (fun q : m_P => q.2.1) hn
                have n3 : (0 : Nat) = 1 := congrArg (fun q : m_P => q.2.2) hn
                omega
              exact ih (i + 1) 1 z543 z542 hp541 z540 vs539 hm541 H541 F541 L541 hv539_541 (by omega) (by omega) ⟨by omega, by decide⟩ hn hw2
            · have h552' := h552
              have h552'' : Int32.toInt z543 = Int32.toInt y0 := congrArg Int32.toInt (Decidable.not_not.mp h552)
              refine px_gx (fun _ K => px_b2 false 205 rfl rfl (decide_eq_false h552) K) ?_
              show px_Gx _ _ (200, [(4, .int 1), (3, .int z543), (2, .int z542), (5, .int 1), (1, .int fi), (0, .ref (38 + n))], [], hp541) _
              refine px_gx (fun _ K => px_a 6 (f' := (59, [(5, .int 1), (4, .int 1), (3, .int z543), (2, .int z542), (1, .int fi), (0, .ref (38 + n))], [], hp541)) rfl K) ?_
              have hn : m_st (x_T W V sh) (x0.toInt, y0.toInt, 0) (i + 1) = (z542.toInt, z543.toInt, 1) := by
                show m_nx _ (m_st (x_T W V sh) (x0.toInt, y0.toInt, 0) i) = _
                rw [hst]
                exact m_nx_s (show z542.toInt = x.toInt + m_dx 1 by show _ = _ + (0 : Int); omega) (show z543.toInt = y.toInt + m_dy 1 by show _ = _ + (1 : Int); omega) hS544 hS549
              have hw2 : ∀ q, q < i + 1 → vs539[q]? = some (.int (nI (m_st (x_T W V sh) (x0.toInt, y0.toInt, 0) q).2.2)) := by
                rw [ev539, show le = nI i from Int32.toInt_inj.mp (by rw [nI_toInt (by omega)]; omega)]
                exact c_lsx hw (by omega) (by omega) (by rw [hst]; rfl)
              have hne : i + 1 ≠ K0 := by
                intro e
                rw [e, hK] at hn
                have n1 : x0.toInt = z542.toInt := congrArg (fun q : m_P => q.1) hn
                have n2 : y0.toInt = z543.toInt := congrArg (fun q : m_P => q.2.1) hn
                have n3 : (0 : Nat) = 1 := congrArg (fun q : m_P => q.2.2) hn
                omega
              exact ih (i + 1) 1 z543 z542 hp541 z540 vs539 hm541 H541 F541 L541 hv539_541 (by omega) (by omega) ⟨by omega, by decide⟩ hn hw2
        · obtain ⟨o553, hq553, g553, rfl, eh553⟩ := m_side_1 (d := d) hm541 H541 (b := false) (x := z542) (y := z543) (by omega) (by omega) (by omega) (by omega) (by rw [m_T_f H0 F541 (by decide), hTT]; exact hS549)
          rw [eh553] at g553
          refine px_gx (fun _ K => px_cv (38 + n) (as := [.int z542, .int z543, .int 1]) (rest := []) rfl rfl hm541 rfl rfl rfl rfl (Nat.le_of_ble_eq_true rfl) g553 K) ?_
          show px_Gx _ _ (164, [(3, .int z543), (2, .int z542), (5, .int 1), (4, .int 1), (1, .int fi), (0, .ref (38 + n))], [.int 0], hp541) _
          refine px_gx (fun _ K => px_a 10 (f' := (183, [(4, .int 0), (3, .int z543), (2, .int z542), (5, .int 1), (1, .int fi), (0, .ref (38 + n))], [.ref (38 + n), .int fi, .int z542], hp541)) rfl K) ?_
          refine px_gx (fun _ K => px_gf (38 + n) 51 4 1 (.int w) rfl rfl hm541 rfl K) ?_
          show px_Gx _ _ (186, [(4, .int 0), (3, .int z543), (2, .int z542), (5, .int 1), (1, .int fi), (0, .ref (38 + n))], [.int w, .int fi, .int z542], hp541) _
          refine px_gx (fun _ K => px_irem rfl (pa_ne0 (by omega)) K) ?_
          show px_Gx _ _ (187, [(4, .int 0), (3, .int z543), (2, .int z542), (5, .int 1), (1, .int fi), (0, .ref (38 + n))], [.int (fi - fi / w * w), .int z542], hp541) _
          rw [← ex0]
          by_cases h554 : ¬ z542 = x0
          · have h554' := h554
            have h554'' : Int32.toInt z542 ≠ Int32.toInt x0 := fun z => h554 (Int32.toInt_inj.mp z)
            refine px_gx (fun _ K => px_b2 true 205 rfl rfl (decide_eq_true h554) K) ?_
            show px_Gx _ _ (205, [(4, .int 0), (3, .int z543), (2, .int z542), (5, .int 1), (1, .int fi), (0, .ref (38 + n))], [], hp541) _
            refine px_gx (fun _ K => px_a 4 (f' := (59, [(5, .int 1), (4, .int 0), (3, .int z543), (2, .int z542), (1, .int fi), (0, .ref (38 + n))], [], hp541)) rfl K) ?_
            have hn : m_st (x_T W V sh) (x0.toInt, y0.toInt, 0) (i + 1) = (z542.toInt, z543.toInt, 0) := by
              show m_nx _ (m_st (x_T W V sh) (x0.toInt, y0.toInt, 0) i) = _
              rw [hst]
              exact m_nx_l (show z542.toInt = x.toInt + m_dx 1 by show _ = _ + (0 : Int); omega) (show z543.toInt = y.toInt + m_dy 1 by show _ = _ + (1 : Int); omega) hS544 hS549
            have hw2 : ∀ q, q < i + 1 → vs539[q]? = some (.int (nI (m_st (x_T W V sh) (x0.toInt, y0.toInt, 0) q).2.2)) := by
              rw [ev539, show le = nI i from Int32.toInt_inj.mp (by rw [nI_toInt (by omega)]; omega)]
              exact c_lsx hw (by omega) (by omega) (by rw [hst]; rfl)
            have hne : i + 1 ≠ K0 := by
              intro e
              rw [e, hK] at hn
              have n1 : x0.toInt = z542.toInt := congrArg (fun q : m_P => q.1) hn
              have n2 : y0.toInt = z543.toInt := congrArg (fun q : m_P => q.2.1) hn
              have n3 : (0 : Nat) = 0 := congrArg (fun q : m_P => q.2.2) hn
              omega
            exact ih (i + 1) 0 z543 z542 hp541 z540 vs539 hm541 H541 F541 L541 hv539_541 (by omega) (by omega) ⟨by omega, by decide⟩ hn hw2
          · have h554' := h554
            have h554'' : Int32.toInt z542 = Int32.toInt x0 := congrArg Int32.toInt (Decidable.not_not.mp h554)
            refine px_gx (fun _ K => px_b2 false 205 rfl rfl (decide_eq_false h554) K) ?_
            show px_Gx _ _ (190, [(4, .int 0), (3, .int z543), (2, .int z542), (5, .int 1), (1, .int fi), (0, .ref (38 + n))], [], hp541) _
            refine px_gx (fun _ K => px_a 3 (f' := (193, [(4, .int 0), (3, .int z543), (2, .int z542), (5, .int 1), (1, .int fi), (0, .ref (38 + n))], [.ref (38 + n), .int fi, .int z543], hp541)) rfl K) ?_
            refine px_gx (fun _ K => px_gf (38 + n) 51 4 1 (.int w) rfl rfl hm541 rfl K) ?_
            show px_Gx _ _ (196, [(4, .int 0), (3, .int z543), (2, .int z542), (5, .int 1), (1, .int fi), (0, .ref (38 + n))], [.int w, .int fi, .int z543], hp541) _
            refine px_gx (fun _ K => px_idiv rfl (pa_ne0 (by omega)) K) ?_
            show px_Gx _ _ (197, [(4, .int 0), (3, .int z543), (2, .int z542), (5, .int 1), (1, .int fi), (0, .ref (38 + n))], [.int (fi / w), .int z543], hp541) _
            rw [← ey0]
            by_cases h555 : ¬ z543 = y0
            · have h555' := h555
              have h555'' : Int32.toInt z543 ≠ Int32.toInt y0 := fun z => h555 (Int32.toInt_inj.mp z)
              refine px_gx (fun _ K => px_b2 true 205 rfl rfl (decide_eq_true h555) K) ?_
              show px_Gx _ _ (205, [(4, .int 0), (3, .int z543), (2, .int z542), (5, .int 1), (1, .int fi), (0, .ref (38 + n))], [], hp541) _
              refine px_gx (fun _ K => px_a 4 (f' := (59, [(5, .int 1), (4, .int 0), (3, .int z543), (2, .int z542), (1, .int fi), (0, .ref (38 + n))], [], hp541)) rfl K) ?_
              have hn : m_st (x_T W V sh) (x0.toInt, y0.toInt, 0) (i + 1) = (z542.toInt, z543.toInt, 0) := by
                show m_nx _ (m_st (x_T W V sh) (x0.toInt, y0.toInt, 0) i) = _
                rw [hst]
                exact m_nx_l (show z542.toInt = x.toInt + m_dx 1 by show _ = _ + (0 : Int); omega) (show z543.toInt = y.toInt + m_dy 1 by show _ = _ + (1 : Int); omega) hS544 hS549
              have hw2 : ∀ q, q < i + 1 → vs539[q]? = some (.int (nI (m_st (x_T W V sh) (x0.toInt, y0.toInt, 0) q).2.2)) := by
                rw [ev539, show le = nI i from Int32.toInt_inj.mp (by rw [nI_toInt (by omega)]; omega)]
                exact c_lsx hw (by omega) (by omega) (by rw [hst]; rfl)
              have hne : i + 1 ≠ K0 := by
                intro e
                rw [e, hK] at hn
                have n1 : x0.toInt = z542.toInt := congrArg (fun q : m_P => q.1) hn
                have n2 : y0.toInt = z543.toInt := congrArg (fun q : m_P => q.2.1) hn
                have n3 : (0 : Nat) = 0 := congrArg (fun q : m_P => q.2.2) hn
                omega
              exact ih (i + 1) 0 z543 z542 hp541 z540 vs539 hm541 H541 F541 L541 hv539_541 (by omega) (by omega) ⟨by omega, by decide⟩ hn hw2
            · have h555' := h555
              have h555'' : Int32.toInt z543 = Int32.toInt y0 := congrArg Int32.toInt (Decidable.not_not.mp h555)
              refine px_gx (fun _ K => px_b2 false 205 rfl rfl (decide_eq_false h555) K) ?_
              show px_Gx _ _ (200, [(4, .int 0), (3, .int z543), (2, .int z542), (5, .int 1), (1, .int fi), (0, .ref (38 + n))], [], hp541) _
              refine px_gx (fun _ K => px_a 5 (f' := (59, [(5, .int 0), (4, .int 0), (3, .int z543), (2, .int z542), (1, .int fi), (0, .ref (38 + n))], [], hp541)) rfl K) ?_
              have hn : m_st (x_T W V sh) (x0.toInt, y0.toInt, 0) (i + 1) = (z542.toInt, z543.toInt, 0) := by
                show m_nx _ (m_st (x_T W V sh) (x0.toInt, y0.toInt, 0) i) = _
                rw [hst]
                exact m_nx_l (show z542.toInt = x.toInt + m_dx 1 by show _ = _ + (0 : Int); omega) (show z543.toInt = y.toInt + m_dy 1 by show _ = _ + (1 : Int); omega) hS544 hS549
              have hw2 : ∀ q, q < i + 1 → vs539[q]? = some (.int (nI (m_st (x_T W V sh) (x0.toInt, y0.toInt, 0) q).2.2)) := by
                rw [ev539, show le = nI i from Int32.toInt_inj.mp (by rw [nI_toInt (by omega)]; omega)]
                exact c_lsx hw (by omega) (by omega) (by rw [hst]; rfl)
              have hK1 : i + 1 = K0 := by
                rcases Nat.lt_or_ge (i + 1) K0 with z | z
                · exact absurd (hn.trans (by rw [Decidable.not_not.mp h554, Decidable.not_not.mp h555])) (hmin (i + 1) (by omega) z)
                · omega
              refine px_gx (fun _ K => px_a 2 (f' := (215, [(5, .int 0), (4, .int 0), (3, .int z543), (2, .int z542), (1, .int fi), (0, .ref (38 + n))], [], hp541)) rfl K) ?_
              exact ⟨_, _, px_e rfl rfl, rfl, K0, fun q => (m_st (x_T W V sh) (x0.toInt, y0.toInt, 0) q).2.2, _, hwd, by rw [pa_fd_get hm541]; show some (Value.int z540) = _; rw [show z540 = nI K0 from Int32.toInt_inj.mp (by rw [nI_toInt (by omega)]; omega)], hv539_541, by rw [← hK1]; exact hw2⟩
    · change m_st (x_T W V sh) (x0.toInt, y0.toInt, 0) i = (x.toInt, y.toInt, 2) at hst
      refine px_gx (fun _ K => px_a 3 (f' := (65, [(5, .int 1), (4, .int 2), (3, .int y), (2, .int x), (1, .int fi), (0, .ref (38 + n))], [.ref (38 + n)], hp)) rfl K) ?_
      refine px_gx (fun _ K => px_gf (38 + n) 39 4 16 (.ref (48 + n)) rfl rfl hm rfl K) ?_
      show px_Gx _ _ (68, [(5, .int 1), (4, .int 2), (3, .int y), (2, .int x), (1, .int fi), (0, .ref (38 + n))], [.ref (48 + n)], hp) _
      refine px_gx (fun _ K => px_a 1 (f' := (69, [(5, .int 1), (4, .int 2), (3, .int y), (2, .int x), (1, .int fi), (0, .ref (38 + n))], [.ref (38 + n), .ref (48 + n)], hp)) rfl K) ?_
      refine px_gx (fun _ K => px_gf (38 + n) 122 4 15 (.int le) rfl rfl hm rfl K) ?_
      show px_Gx _ _ (72, [(5, .int 1), (4, .int 2), (3, .int y), (2, .int x), (1, .int fi), (0, .ref (38 + n))], [.int le, .ref (48 + n)], hp) _
      refine px_gx (fun _ K => px_a 1 (f' := (74, [(5, .int 1), (4, .int 2), (3, .int y), (2, .int x), (1, .int fi), (0, .ref (38 + n))], [.int 2, .int le, .ref (48 + n)], hp)) rfl K) ?_
      have hi556 : le.toNatClampNeg < vsw.length := by show (Int32.toInt le).toNat < _; omega
      refine px_gx (fun _ K => px_ias (48 + n) rfl hvw (by omega) (i32_nn (by omega)) hi556 K) ?_
      show px_Gx _ _ (75, [(5, .int 1), (4, .int 2), (3, .int y), (2, .int x), (1, .int fi), (0, .ref (38 + n))], [], hp.set (48 + n) (10, vsw.set le.toNatClampNeg (.int 2))) _
      have hm556 : (hp.set (48 + n) (10, vsw.set le.toNatClampNeg (.int 2)))[38 + n]? = some (4, (m_O n th w h pn pl fo le ru)) := px_ne hm (by omega)
      have H556 : pa_Hi n (hp.set (48 + n) (10, vsw.set le.toNatClampNeg (.int 2))) := pa_aS (i := 16) H (by omega) (by decide) (by decide) hvw rfl (pa_in (by omega) (by omega))
      have F556 : pa_Fr n [(24, 15), (34, 0)] hp0 (hp.set (48 + n) (10, vsw.set le.toNatClampNeg (.int 2))) := F.trans (pa_aF (i := 16) (by omega) (by decide) (by decide) hvw (by decide) (by decide))
      have L556 : (hp.set (48 + n) (10, vsw.set le.toNatClampNeg (.int 2))).length = hp0.length := List.length_set.trans L
      obtain ⟨vs557, ev557⟩ : ∃ q : List Value, q = vsw.set le.toNatClampNeg (.int 2) := ⟨_, rfl⟩
      have hv557 : (hp.set (48 + n) (10, vsw.set le.toNatClampNeg (.int 2)))[48 + n]? = some (10, vs557) := by rw [ev557]; exact px_self hvw
      generalize hp.set (48 + n) (10, vsw.set le.toNatClampNeg (.int 2)) = hp556 at hm556 H556 F556 L556 hv557 ⊢
      refine px_gx (fun _ K => px_a 2 (f' := (77, [(5, .int 1), (4, .int 2), (3, .int y), (2, .int x), (1, .int fi), (0, .ref (38 + n))], [.ref (38 + n), .ref (38 + n)], hp556)) rfl K) ?_
      refine px_gx (fun _ K => px_gf (38 + n) 122 4 15 (.int le) rfl rfl hm556 rfl K) ?_
      show px_Gx _ _ (80, [(5, .int 1), (4, .int 2), (3, .int y), (2, .int x), (1, .int fi), (0, .ref (38 + n))], [.int le, .ref (38 + n)], hp556) _
      refine px_gx (fun _ K => px_a 2 (f' := (82, [(5, .int 1), (4, .int 2), (3, .int y), (2, .int x), (1, .int fi), (0, .ref (38 + n))], [.int (le + 1), .ref (38 + n)], hp556)) rfl K) ?_
      obtain ⟨z558, ez558, fz558⟩ : ∃ qz : Int32, qz = le + 1 ∧ qz.toInt = Int32.toInt le + Int32.toInt 1 := ⟨_, rfl, i32_add (by omega) (by omega)⟩
      rw [← ez558]
      refine px_gx (fun _ K => px_pf (38 + n) 122 4 15 rfl rfl hm556 (by omega) (Nat.le_of_ble_eq_true rfl) (rfl) rfl (by decide) K) ?_
      show px_Gx _ _ (85, [(5, .int 1), (4, .int 2), (3, .int y), (2, .int x), (1, .int fi), (0, .ref (38 + n))], [], hp556.set (38 + n) (4, (m_O n th w h pn pl fo z558 ru))) _
      have hm559 : (hp556.set (38 + n) (4, (m_O n th w h pn pl fo z558 ru)))[38 + n]? = some (4, (m_O n th w h pn pl fo z558 ru)) := px_self hm556
      have H559 : pa_Hi n (hp556.set (38 + n) (4, (m_O n th w h pn pl fo z558 ru))) := pa_ms (k := 15) (v := .int z558) H556 hm556 rfl (pa_in (by omega) (by omega))
      have F559 : pa_Fr n [(24, 15), (34, 0)] hp0 (hp556.set (38 + n) (4, (m_O n th w h pn pl fo z558 ru))) := F556.trans (pa_mf (k := 15) (v := .int z558) hm556 (by decide) (by decide))
      have L559 : (hp556.set (38 + n) (4, (m_O n th w h pn pl fo z558 ru))).length = hp0.length := List.length_set.trans L556
      have hv557_559 : (hp556.set (38 + n) (4, (m_O n th w h pn pl fo z558 ru)))[48 + n]? = some (10, vs557) := px_ne hv557 (by omega)
      generalize hp556.set (38 + n) (4, (m_O n th w h pn pl fo z558 ru)) = hp559 at hm559 H559 F559 L559 hv557_559 ⊢
      refine px_gx (fun _ K => px_a 9 (f' := (107, [(5, .int 1), (4, .int 2), (3, .int y), (2, .int x), (1, .int fi), (0, .ref (38 + n))], [.int (x + (-1))], hp559)) rfl K) ?_
      obtain ⟨z560, ez560, fz560⟩ : ∃ qz : Int32, qz = x + (-1) ∧ qz.toInt = Int32.toInt x + Int32.toInt (-1) := ⟨_, rfl, i32_add (by omega) (by omega)⟩
      rw [← ez560]
      refine px_gx (fun _ K => px_a 10 (f' := (131, [(2, .int z560), (5, .int 1), (4, .int 2), (3, .int y), (1, .int fi), (0, .ref (38 + n))], [.int (y + 0)], hp559)) rfl K) ?_
      obtain ⟨z561, ez561, fz561⟩ : ∃ qz : Int32, qz = y + 0 ∧ qz.toInt = Int32.toInt y + Int32.toInt 0 := ⟨_, rfl, i32_add (by omega) (by omega)⟩
      rw [← ez561]
      refine px_gx (fun _ K => px_a 9 (f' := (141, [(3, .int z561), (2, .int z560), (5, .int 1), (4, .int 2), (1, .int fi), (0, .ref (38 + n))], [.int 3, .int z561, .int z560, .ref (38 + n)], hp559)) rfl K) ?_
      rcases Bool.eq_false_or_eq_true (m_sd (x_T W V sh) z560.toInt z561.toInt 3) with hS562 | hS562
      · obtain ⟨o563, hq563, g563, rfl, eh563⟩ := m_side_3 (d := d) hm559 H559 (b := true) (x := z560) (y := z561) (by omega) (by omega) (by omega) (by omega) (by rw [m_T_f H0 F559 (by decide), hTT]; exact hS562)
        rw [eh563] at g563
        refine px_gx (fun _ K => px_cv (38 + n) (as := [.int z560, .int z561, .int 3]) (rest := []) rfl rfl hm559 rfl rfl rfl rfl (Nat.le_of_ble_eq_true rfl) g563 K) ?_
        show px_Gx _ _ (144, [(3, .int z561), (2, .int z560), (5, .int 1), (4, .int 2), (1, .int fi), (0, .ref (38 + n))], [.int 1], hp559) _
        refine px_gx (fun _ K => px_a 11 (f' := (183, [(4, .int 3), (3, .int z561), (2, .int z560), (5, .int 1), (1, .int fi), (0, .ref (38 + n))], [.ref (38 + n), .int fi, .int z560], hp559)) rfl K) ?_
        refine px_gx (fun _ K => px_gf (38 + n) 51 4 1 (.int w) rfl rfl hm559 rfl K) ?_
        show px_Gx _ _ (186, [(4, .int 3), (3, .int z561), (2, .int z560), (5, .int 1), (1, .int fi), (0, .ref (38 + n))], [.int w, .int fi, .int z560], hp559) _
        refine px_gx (fun _ K => px_irem rfl (pa_ne0 (by omega)) K) ?_
        show px_Gx _ _ (187, [(4, .int 3), (3, .int z561), (2, .int z560), (5, .int 1), (1, .int fi), (0, .ref (38 + n))], [.int (fi - fi / w * w), .int z560], hp559) _
        rw [← ex0]
        by_cases h564 : ¬ z560 = x0
        · have h564' := h564
          have h564'' : Int32.toInt z560 ≠ Int32.toInt x0 := fun z => h564 (Int32.toInt_inj.mp z)
          refine px_gx (fun _ K => px_b2 true 205 rfl rfl (decide_eq_true h564) K) ?_
          show px_Gx _ _ (205, [(4, .int 3), (3, .int z561), (2, .int z560), (5, .int 1), (1, .int fi), (0, .ref (38 + n))], [], hp559) _
          refine px_gx (fun _ K => px_a 4 (f' := (59, [(5, .int 1), (4, .int 3), (3, .int z561), (2, .int z560), (1, .int fi), (0, .ref (38 + n))], [], hp559)) rfl K) ?_
          have hn : m_st (x_T W V sh) (x0.toInt, y0.toInt, 0) (i + 1) = (z560.toInt, z561.toInt, 3) := by
            show m_nx _ (m_st (x_T W V sh) (x0.toInt, y0.toInt, 0) i) = _
            rw [hst]
            exact m_nx_r (show z560.toInt = x.toInt + m_dx 2 by show _ = _ + (-1 : Int); omega) (show z561.toInt = y.toInt + m_dy 2 by show _ = _ + (0 : Int); omega) hS562
          have hw2 : ∀ q, q < i + 1 → vs557[q]? = some (.int (nI (m_st (x_T W V sh) (x0.toInt, y0.toInt, 0) q).2.2)) := by
            rw [ev557, show le = nI i from Int32.toInt_inj.mp (by rw [nI_toInt (by omega)]; omega)]
            exact c_lsx hw (by omega) (by omega) (by rw [hst]; rfl)
          have hne : i + 1 ≠ K0 := by
            intro e
            rw [e, hK] at hn
            have n1 : x0.toInt = z560.toInt := congrArg (fun q : m_P => q.1) hn
            have n2 : y0.toInt = z561.toInt := congrArg (fun q : m_P => q.2.1) hn
            have n3 : (0 : Nat) = 3 := congrArg (fun q : m_P => q.2.2) hn
            omega
          exact ih (i + 1) 3 z561 z560 hp559 z558 vs557 hm559 H559 F559 L559 hv557_559 (by omega) (by omega) ⟨by omega, by decide⟩ hn hw2
        · have h564' := h564
          have h564'' : Int32.toInt z560 = Int32.toInt x0 := congrArg Int32.toInt (Decidable.not_not.mp h564)
          refine px_gx (fun _ K => px_b2 false 205 rfl rfl (decide_eq_false h564) K) ?_
          show px_Gx _ _ (190, [(4, .int 3), (3, .int z561), (2, .int z560), (5, .int 1), (1, .int fi), (0, .ref (38 + n))], [], hp559) _
          refine px_gx (fun _ K => px_a 3 (f' := (193, [(4, .int 3), (3, .int z561), (2, .int z560), (5, .int 1), (1, .int fi), (0, .ref (38 + n))], [.ref (38 + n), .int fi, .int z561], hp559)) rfl K) ?_
          refine px_gx (fun _ K => px_gf (38 + n) 51 4 1 (.int w) rfl rfl hm559 rfl K) ?_
          show px_Gx _ _ (196, [(4, .int 3), (3, .int z561), (2, .int z560), (5, .int 1), (1, .int fi), (0, .ref (38 + n))], [.int w, .int fi, .int z561], hp559) _
          refine px_gx (fun _ K => px_idiv rfl (pa_ne0 (by omega)) K) ?_
          show px_Gx _ _ (197, [(4, .int 3), (3, .int z561), (2, .int z560), (5, .int 1), (1, .int fi), (0, .ref (38 + n))], [.int (fi / w), .int z561], hp559) _
          rw [← ey0]
          by_cases h565 : ¬ z561 = y0
          · have h565' := h565
            have h565'' : Int32.toInt z561 ≠ Int32.toInt y0 := fun z => h565 (Int32.toInt_inj.mp z)
            refine px_gx (fun _ K => px_b2 true 205 rfl rfl (decide_eq_true h565) K) ?_
            show px_Gx _ _ (205, [(4, .int 3), (3, .int z561), (2, .int z560), (5, .int 1), (1, .int fi), (0, .ref (38 + n))], [], hp559) _
            refine px_gx (fun _ K => px_a 4 (f' := (59, [(5, .int 1), (4, .int 3), (3, .int z561), (2, .int z560), (1, .int fi), (0, .ref (38 + n))], [], hp559)) rfl K) ?_
            have hn : m_st (x_T W V sh) (x0.toInt, y0.toInt, 0) (i + 1) = (z560.toInt, z561.toInt, 3) := by
              show m_nx _ (m_st (x_T W V sh) (x0.toInt, y0.toInt, 0) i) = _
              rw [hst]
              exact m_nx_r (show z560.toInt = x.toInt + m_dx 2 by show _ = _ + (-1 : Int); omega) (show z561.toInt = y.toInt + m_dy 2 by show _ = _ + (0 : Int); omega) hS562
            have hw2 : ∀ q, q < i + 1 → vs557[q]? = some (.int (nI (m_st (x_T W V sh) (x0.toInt, y0.toInt, 0) q).2.2)) := by
              rw [ev557, show le = nI i from Int32.toInt_inj.mp (by rw [nI_toInt (by omega)]; omega)]
              exact c_lsx hw (by omega) (by omega) (by rw [hst]; rfl)
            have hne : i + 1 ≠ K0 := by
              intro e
              rw [e, hK] at hn
              have n1 : x0.toInt = z560.toInt := congrArg (fun q : m_P => q.1) hn
              have n2 : y0.toInt = z561.toInt := congrArg (fun q : m_P => q.2.1) hn
              have n3 : (0 : Nat) = 3 := congrArg (fun q : m_P => q.2.2) hn
              omega
            exact ih (i + 1) 3 z561 z560 hp559 z558 vs557 hm559 H559 F559 L559 hv557_559 (by omega) (by omega) ⟨by omega, by decide⟩ hn hw2
          · have h565' := h565
            have h565'' : Int32.toInt z561 = Int32.toInt y0 := congrArg Int32.toInt (Decidable.not_not.mp h565)
            refine px_gx (fun _ K => px_b2 false 205 rfl rfl (decide_eq_false h565) K) ?_
            show px_Gx _ _ (200, [(4, .int 3), (3, .int z561), (2, .int z560), (5, .int 1), (1, .int fi), (0, .ref (38 + n))], [], hp559) _
            refine px_gx (fun _ K => px_a 6 (f' := (59, [(5, .int 1), (4, .int 3), (3, .int z561), (2, .int z560), (1, .int fi), (0, .ref (38 + n))], [], hp559)) rfl K) ?_
            have hn : m_st (x_T W V sh) (x0.toInt, y0.toInt, 0) (i + 1) = (z560.toInt, z561.toInt, 3) := by
              show m_nx _ (m_st (x_T W V sh) (x0.toInt, y0.toInt, 0) i) = _
              rw [hst]
              exact m_nx_r (show z560.toInt = x.toInt + m_dx 2 by show _ = _ + (-1 : Int); omega) (show z561.toInt = y.toInt + m_dy 2 by show _ = _ + (0 : Int); omega) hS562
            have hw2 : ∀ q, q < i + 1 → vs557[q]? = some (.int (nI (m_st (x_T W V sh) (x0.toInt, y0.toInt, 0) q).2.2)) := by
              rw [ev557, show le = nI i from Int32.toInt_inj.mp (by rw [nI_toInt (by omega)]; omega)]
              exact c_lsx hw (by omega) (by omega) (by rw [hst]; rfl)
            have hne : i + 1 ≠ K0 := by
              intro e
              rw [e, hK] at hn
              have n1 : x0.toInt = z560.toInt := congrArg (fun q : m_P => q.1) hn
              have n2 : y0.toInt = z561.toInt := congrArg (fun q : m_P => q.2.1) hn
              have n3 : (0 : Nat) = 3 := congrArg (fun q : m_P => q.2.2) hn
              omega
            exact ih (i + 1) 3 z561 z560 hp559 z558 vs557 hm559 H559 F559 L559 hv557_559 (by omega) (by omega) ⟨by omega, by decide⟩ hn hw2
      · obtain ⟨o566, hq566, g566, rfl, eh566⟩ := m_side_3 (d := d) hm559 H559 (b := false) (x := z560) (y := z561) (by omega) (by omega) (by omega) (by omega) (by rw [m_T_f H0 F559 (by decide), hTT]; exact hS562)
        rw [eh566] at g566
        refine px_gx (fun _ K => px_cv (38 + n) (as := [.int z560, .int z561, .int 3]) (rest := []) rfl rfl hm559 rfl rfl rfl rfl (Nat.le_of_ble_eq_true rfl) g566 K) ?_
        show px_Gx _ _ (144, [(3, .int z561), (2, .int z560), (5, .int 1), (4, .int 2), (1, .int fi), (0, .ref (38 + n))], [.int 0], hp559) _
        refine px_gx (fun _ K => px_a 5 (f' := (161, [(3, .int z561), (2, .int z560), (5, .int 1), (4, .int 2), (1, .int fi), (0, .ref (38 + n))], [.int 2, .int z561, .int z560, .ref (38 + n)], hp559)) rfl K) ?_
        rcases Bool.eq_false_or_eq_true (m_sd (x_T W V sh) z560.toInt z561.toInt 2) with hS567 | hS567
        · obtain ⟨o568, hq568, g568, rfl, eh568⟩ := m_side_2 (d := d) hm559 H559 (b := true) (x := z560) (y := z561) (by omega) (by omega) (by omega) (by omega) (by rw [m_T_f H0 F559 (by decide), hTT]; exact hS567)
          rw [eh568] at g568
          refine px_gx (fun _ K => px_cv (38 + n) (as := [.int z560, .int z561, .int 2]) (rest := []) rfl rfl hm559 rfl rfl rfl rfl (Nat.le_of_ble_eq_true rfl) g568 K) ?_
          show px_Gx _ _ (164, [(3, .int z561), (2, .int z560), (5, .int 1), (4, .int 2), (1, .int fi), (0, .ref (38 + n))], [.int 1], hp559) _
          refine px_gx (fun _ K => px_a 7 (f' := (183, [(4, .int 2), (3, .int z561), (2, .int z560), (5, .int 1), (1, .int fi), (0, .ref (38 + n))], [.ref (38 + n), .int fi, .int z560], hp559)) rfl K) ?_
          refine px_gx (fun _ K => px_gf (38 + n) 51 4 1 (.int w) rfl rfl hm559 rfl K) ?_
          show px_Gx _ _ (186, [(4, .int 2), (3, .int z561), (2, .int z560), (5, .int 1), (1, .int fi), (0, .ref (38 + n))], [.int w, .int fi, .int z560], hp559) _
          refine px_gx (fun _ K => px_irem rfl (pa_ne0 (by omega)) K) ?_
          show px_Gx _ _ (187, [(4, .int 2), (3, .int z561), (2, .int z560), (5, .int 1), (1, .int fi), (0, .ref (38 + n))], [.int (fi - fi / w * w), .int z560], hp559) _
          rw [← ex0]
          by_cases h569 : ¬ z560 = x0
          · have h569' := h569
            have h569'' : Int32.toInt z560 ≠ Int32.toInt x0 := fun z => h569 (Int32.toInt_inj.mp z)
            refine px_gx (fun _ K => px_b2 true 205 rfl rfl (decide_eq_true h569) K) ?_
            show px_Gx _ _ (205, [(4, .int 2), (3, .int z561), (2, .int z560), (5, .int 1), (1, .int fi), (0, .ref (38 + n))], [], hp559) _
            refine px_gx (fun _ K => px_a 4 (f' := (59, [(5, .int 1), (4, .int 2), (3, .int z561), (2, .int z560), (1, .int fi), (0, .ref (38 + n))], [], hp559)) rfl K) ?_
            have hn : m_st (x_T W V sh) (x0.toInt, y0.toInt, 0) (i + 1) = (z560.toInt, z561.toInt, 2) := by
              show m_nx _ (m_st (x_T W V sh) (x0.toInt, y0.toInt, 0) i) = _
              rw [hst]
              exact m_nx_s (show z560.toInt = x.toInt + m_dx 2 by show _ = _ + (-1 : Int); omega) (show z561.toInt = y.toInt + m_dy 2 by show _ = _ + (0 : Int); omega) hS562 hS567
            have hw2 : ∀ q, q < i + 1 → vs557[q]? = some (.int (nI (m_st (x_T W V sh) (x0.toInt, y0.toInt, 0) q).2.2)) := by
              rw [ev557, show le = nI i from Int32.toInt_inj.mp (by rw [nI_toInt (by omega)]; omega)]
              exact c_lsx hw (by omega) (by omega) (by rw [hst]; rfl)
            have hne : i + 1 ≠ K0 := by
              intro e
              rw [e, hK] at hn
              have n1 : x0.toInt = z560.toInt := congrArg (fun q : m_P => q.1) hn
              have n2 : y0.toInt = z561.toInt := congrArg (fun q : m_P => q.2.1) hn
              have n3 : (0 : Nat) = 2 := congrArg (fun q : m_P => q.2.2) hn
              omega
            exact ih (i + 1) 2 z561 z560 hp559 z558 vs557 hm559 H559 F559 L559 hv557_559 (by omega) (by omega) ⟨by omega, by decide⟩ hn hw2
          · have h569' := h569
            have h569'' : Int32.toInt z560 = Int32.toInt x0 := congrArg Int32.toInt (Decidable.not_not.mp h569)
            refine px_gx (fun _ K => px_b2 false 205 rfl rfl (decide_eq_false h569) K) ?_
            show px_Gx _ _ (190, [(4, .int 2), (3, .int z561), (2, .int z560), (5, .int 1), (1, .int fi), (0, .ref (38 + n))], [], hp559) _
            refine px_gx (fun _ K => px_a 3 (f' := (193, [(4, .int 2), (3, .int z561), (2, .int z560), (5, .int 1), (1, .int fi), (0, .ref (38 + n))], [.ref (38 + n), .int fi, .int z561], hp559)) rfl K) ?_
            refine px_gx (fun _ K => px_gf (38 + n) 51 4 1 (.int w) rfl rfl hm559 rfl K) ?_
            show px_Gx _ _ (196, [(4, .int 2), (3, .int z561), (2, .int z560), (5, .int 1), (1, .int fi), (0, .ref (38 + n))], [.int w, .int fi, .int z561], hp559) _
            refine px_gx (fun _ K => px_idiv rfl (pa_ne0 (by omega)) K) ?_
            show px_Gx _ _ (197, [(4, .int 2), (3, .int z561), (2, .int z560), (5, .int 1), (1, .int fi), (0, .ref (38 + n))], [.int (fi / w), .int z561], hp559) _
            rw [← ey0]
            by_cases h570 : ¬ z561 = y0
            · have h570' := h570
              have h570'' : Int32.toInt z561 ≠ Int32.toInt y0 := fun z => h570 (Int32.toInt_inj.mp z)
              refine px_gx (fun _ K => px_b2 true 205 rfl rfl (decide_eq_true h570) K) ?_
              show px_Gx _ _ (205, [(4, .int 2), (3, .int z561), (2, .int z560), (5, .int 1), (1, .int fi), (0, .ref (38 + n))], [], hp559) _
              refine px_gx (fun _ K => px_a 4 (f' := (59, [(5, .int 1), (4, .int 2), (3, .int z561), (2, .int z560), (1, .int fi), (0, .ref (38 + n))], [], hp559)) rfl K) ?_
              have hn : m_st (x_T W V sh) (x0.toInt, y0.toInt, 0) (i + 1) = (z560.toInt, z561.toInt, 2) := by
                show m_nx _ (m_st (x_T W V sh) (x0.toInt, y0.toInt, 0) i) = _
                rw [hst]
                exact m_nx_s (show z560.toInt = x.toInt + m_dx 2 by show _ = _ + (-1 : Int); omega) (show z561.toInt = y.toInt + m_dy 2 by show _ = _ + (0 : Int); omega) hS562 hS567
              have hw2 : ∀ q, q < i + 1 → vs557[q]? = some (.int (nI (m_st (x_T W V sh) (x0.toInt, y0.toInt, 0) q).2.2)) := by
                rw [ev557, show le = nI i from Int32.toInt_inj.mp (by rw [nI_toInt (by omega)]; omega)]
                exact c_lsx hw (by omega) (by omega) (by rw [hst]; rfl)
              have hne : i + 1 ≠ K0 := by
                intro e
                rw [e, hK] at hn
                have n1 : x0.toInt = z560.toInt := congrArg (fun q : m_P => q.1) hn
                have n2 : y0.toInt = z561.toInt := congrArg (fun q : m_P => q.2.1) hn
                have n3 : (0 : Nat) = 2 := congrArg (fun q : m_P => q.2.2) hn
                omega
              exact ih (i + 1) 2 z561 z560 hp559 z558 vs557 hm559 H559 F559 L559 hv557_559 (by omega) (by omega) ⟨by omega, by decide⟩ hn hw2
            · have h570' := h570
              have h570'' : Int32.toInt z561 = Int32.toInt y0 := congrArg Int32.toInt (Decidable.not_not.mp h570)
              refine px_gx (fun _ K => px_b2 false 205 rfl rfl (decide_eq_false h570) K) ?_
              show px_Gx _ _ (200, [(4, .int 2), (3, .int z561), (2, .int z560), (5, .int 1), (1, .int fi), (0, .ref (38 + n))], [], hp559) _
              refine px_gx (fun _ K => px_a 6 (f' := (59, [(5, .int 1), (4, .int 2), (3, .int z561), (2, .int z560), (1, .int fi), (0, .ref (38 + n))], [], hp559)) rfl K) ?_
              have hn : m_st (x_T W V sh) (x0.toInt, y0.toInt, 0) (i + 1) = (z560.toInt, z561.toInt, 2) := by
                show m_nx _ (m_st (x_T W V sh) (x0.toInt, y0.toInt, 0) i) = _
                rw [hst]
                exact m_nx_s (show z560.toInt = x.toInt + m_dx 2 by show _ = _ + (-1 : Int); omega) (show z561.toInt = y.toInt + m_dy 2 by show _ = _ + (0 : Int); omega) hS562 hS567
              have hw2 : ∀ q, q < i + 1 → vs557[q]? = some (.int (nI (m_st (x_T W V sh) (x0.toInt, y0.toInt, 0) q).2.2)) := by
                rw [ev557, show le = nI i from Int32.toInt_inj.mp (by rw [nI_toInt (by omega)]; omega)]
                exact c_lsx hw (by omega) (by omega) (by rw [hst]; rfl)
              have hne : i + 1 ≠ K0 := by
                intro e
                rw [e, hK] at hn
                have n1 : x0.toInt = z560.toInt := congrArg (fun q : m_P => q.1) hn
                have n2 : y0.toInt = z561.toInt := congrArg (fun q : m_P => q.2.1) hn
                have n3 : (0 : Nat) = 2 := congrArg (fun q : m_P => q.2.2) hn
                omega
              exact ih (i + 1) 2 z561 z560 hp559 z558 vs557 hm559 H559 F559 L559 hv557_559 (by omega) (by omega) ⟨by omega, by decide⟩ hn hw2
        · obtain ⟨o571, hq571, g571, rfl, eh571⟩ := m_side_2 (d := d) hm559 H559 (b := false) (x := z560) (y := z561) (by omega) (by omega) (by omega) (by omega) (by rw [m_T_f H0 F559 (by decide), hTT]; exact hS567)
          rw [eh571] at g571
          refine px_gx (fun _ K => px_cv (38 + n) (as := [.int z560, .int z561, .int 2]) (rest := []) rfl rfl hm559 rfl rfl rfl rfl (Nat.le_of_ble_eq_true rfl) g571 K) ?_
          show px_Gx _ _ (164, [(3, .int z561), (2, .int z560), (5, .int 1), (4, .int 2), (1, .int fi), (0, .ref (38 + n))], [.int 0], hp559) _
          refine px_gx (fun _ K => px_a 10 (f' := (183, [(4, .int 1), (3, .int z561), (2, .int z560), (5, .int 1), (1, .int fi), (0, .ref (38 + n))], [.ref (38 + n), .int fi, .int z560], hp559)) rfl K) ?_
          refine px_gx (fun _ K => px_gf (38 + n) 51 4 1 (.int w) rfl rfl hm559 rfl K) ?_
          show px_Gx _ _ (186, [(4, .int 1), (3, .int z561), (2, .int z560), (5, .int 1), (1, .int fi), (0, .ref (38 + n))], [.int w, .int fi, .int z560], hp559) _
          refine px_gx (fun _ K => px_irem rfl (pa_ne0 (by omega)) K) ?_
          show px_Gx _ _ (187, [(4, .int 1), (3, .int z561), (2, .int z560), (5, .int 1), (1, .int fi), (0, .ref (38 + n))], [.int (fi - fi / w * w), .int z560], hp559) _
          rw [← ex0]
          by_cases h572 : ¬ z560 = x0
          · have h572' := h572
            have h572'' : Int32.toInt z560 ≠ Int32.toInt x0 := fun z => h572 (Int32.toInt_inj.mp z)
            refine px_gx (fun _ K => px_b2 true 205 rfl rfl (decide_eq_true h572) K) ?_
            show px_Gx _ _ (205, [(4, .int 1), (3, .int z561), (2, .int z560), (5, .int 1), (1, .int fi), (0, .ref (38 + n))], [], hp559) _
            refine px_gx (fun _ K => px_a 4 (f' := (59, [(5, .int 1), (4, .int 1), (3, .int z561), (2, .int z560), (1, .int fi), (0, .ref (38 + n))], [], hp559)) rfl K) ?_
            have hn : m_st (x_T W V sh) (x0.toInt, y0.toInt, 0) (i + 1) = (z560.toInt, z561.toInt, 1) := by
              show m_nx _ (m_st (x_T W V sh) (x0.toInt, y0.toInt, 0) i) = _
              rw [hst]
              exact m_nx_l (show z560.toInt = x.toInt + m_dx 2 by show _ = _ + (-1 : Int); omega) (show z561.toInt = y.toInt + m_dy 2 by show _ = _ + (0 : Int); omega) hS562 hS567
            have hw2 : ∀ q, q < i + 1 → vs557[q]? = some (.int (nI (m_st (x_T W V sh) (x0.toInt, y0.toInt, 0) q).2.2)) := by
              rw [ev557, show le = nI i from Int32.toInt_inj.mp (by rw [nI_toInt (by omega)]; omega)]
              exact c_lsx hw (by omega) (by omega) (by rw [hst]; rfl)
            have hne : i + 1 ≠ K0 := by
              intro e
              rw [e, hK] at hn
              have n1 : x0.toInt = z560.toInt := congrArg (fun q : m_P => q.1) hn
              have n2 : y0.toInt = z561.toInt := congrArg (fun q : m_P => q.2.1) hn
              have n3 : (0 : Nat) = 1 := congrArg (fun q : m_P => q.2.2) hn
              omega
            exact ih (i + 1) 1 z561 z560 hp559 z558 vs557 hm559 H559 F559 L559 hv557_559 (by omega) (by omega) ⟨by omega, by decide⟩ hn hw2
          · have h572' := h572
            have h572'' : Int32.toInt z560 = Int32.toInt x0 := congrArg Int32.toInt (Decidable.not_not.mp h572)
            refine px_gx (fun _ K => px_b2 false 205 rfl rfl (decide_eq_false h572) K) ?_
            show px_Gx _ _ (190, [(4, .int 1), (3, .int z561), (2, .int z560), (5, .int 1), (1, .int fi), (0, .ref (38 + n))], [], hp559) _
            refine px_gx (fun _ K => px_a 3 (f' := (193, [(4, .int 1), (3, .int z561), (2, .int z560), (5, .int 1), (1, .int fi), (0, .ref (38 + n))], [.ref (38 + n), .int fi, .int z561], hp559)) rfl K) ?_
            refine px_gx (fun _ K => px_gf (38 + n) 51 4 1 (.int w) rfl rfl hm559 rfl K) ?_
            show px_Gx _ _ (196, [(4, .int 1), (3, .int z561), (2, .int z560), (5, .int 1), (1, .int fi), (0, .ref (38 + n))], [.int w, .int fi, .int z561], hp559) _
            refine px_gx (fun _ K => px_idiv rfl (pa_ne0 (by omega)) K) ?_
            show px_Gx _ _ (197, [(4, .int 1), (3, .int z561), (2, .int z560), (5, .int 1), (1, .int fi), (0, .ref (38 + n))], [.int (fi / w), .int z561], hp559) _
            rw [← ey0]
            by_cases h573 : ¬ z561 = y0
            · have h573' := h573
              have h573'' : Int32.toInt z561 ≠ Int32.toInt y0 := fun z => h573 (Int32.toInt_inj.mp z)
              refine px_gx (fun _ K => px_b2 true 205 rfl rfl (decide_eq_true h573) K) ?_
              show px_Gx _ _ (205, [(4, .int 1), (3, .int z561), (2, .int z560), (5, .int 1), (1, .int fi), (0, .ref (38 + n))], [], hp559) _
              refine px_gx (fun _ K => px_a 4 (f' := (59, [(5, .int 1), (4, .int 1), (3, .int z561), (2, .int z560), (1, .int fi), (0, .ref (38 + n))], [], hp559)) rfl K) ?_
              have hn : m_st (x_T W V sh) (x0.toInt, y0.toInt, 0) (i + 1) = (z560.toInt, z561.toInt, 1) := by
                show m_nx _ (m_st (x_T W V sh) (x0.toInt, y0.toInt, 0) i) = _
                rw [hst]
                exact m_nx_l (show z560.toInt = x.toInt + m_dx 2 by show _ = _ + (-1 : Int); omega) (show z561.toInt = y.toInt + m_dy 2 by show _ = _ + (0 : Int); omega) hS562 hS567
              have hw2 : ∀ q, q < i + 1 → vs557[q]? = some (.int (nI (m_st (x_T W V sh) (x0.toInt, y0.toInt, 0) q).2.2)) := by
                rw [ev557, show le = nI i from Int32.toInt_inj.mp (by rw [nI_toInt (by omega)]; omega)]
                exact c_lsx hw (by omega) (by omega) (by rw [hst]; rfl)
              have hne : i + 1 ≠ K0 := by
                intro e
                rw [e, hK] at hn
                have n1 : x0.toInt = z560.toInt := congrArg (fun q : m_P => q.1) hn
                have n2 : y0.toInt = z561.toInt := congrArg (fun q : m_P => q.2.1) hn
                have n3 : (0 : Nat) = 1 := congrArg (fun q : m_P => q.2.2) hn
                omega
              exact ih (i + 1) 1 z561 z560 hp559 z558 vs557 hm559 H559 F559 L559 hv557_559 (by omega) (by omega) ⟨by omega, by decide⟩ hn hw2
            · have h573' := h573
              have h573'' : Int32.toInt z561 = Int32.toInt y0 := congrArg Int32.toInt (Decidable.not_not.mp h573)
              refine px_gx (fun _ K => px_b2 false 205 rfl rfl (decide_eq_false h573) K) ?_
              show px_Gx _ _ (200, [(4, .int 1), (3, .int z561), (2, .int z560), (5, .int 1), (1, .int fi), (0, .ref (38 + n))], [], hp559) _
              refine px_gx (fun _ K => px_a 6 (f' := (59, [(5, .int 1), (4, .int 1), (3, .int z561), (2, .int z560), (1, .int fi), (0, .ref (38 + n))], [], hp559)) rfl K) ?_
              have hn : m_st (x_T W V sh) (x0.toInt, y0.toInt, 0) (i + 1) = (z560.toInt, z561.toInt, 1) := by
                show m_nx _ (m_st (x_T W V sh) (x0.toInt, y0.toInt, 0) i) = _
                rw [hst]
                exact m_nx_l (show z560.toInt = x.toInt + m_dx 2 by show _ = _ + (-1 : Int); omega) (show z561.toInt = y.toInt + m_dy 2 by show _ = _ + (0 : Int); omega) hS562 hS567
              have hw2 : ∀ q, q < i + 1 → vs557[q]? = some (.int (nI (m_st (x_T W V sh) (x0.toInt, y0.toInt, 0) q).2.2)) := by
                rw [ev557, show le = nI i from Int32.toInt_inj.mp (by rw [nI_toInt (by omega)]; omega)]
                exact c_lsx hw (by omega) (by omega) (by rw [hst]; rfl)
              have hne : i + 1 ≠ K0 := by
                intro e
                rw [e, hK] at hn
                have n1 : x0.toInt = z560.toInt := congrArg (fun q : m_P => q.1) hn
                have n2 : y0.toInt = z561.toInt := congrArg (fun q : m_P => q.2.1) hn
                have n3 : (0 : Nat) = 1 := congrArg (fun q : m_P => q.2.2) hn
                omega
              exact ih (i + 1) 1 z561 z560 hp559 z558 vs557 hm559 H559 F559 L559 hv557_559 (by omega) (by omega) ⟨by omega, by decide⟩ hn hw2
    · change m_st (x_T W V sh) (x0.toInt, y0.toInt, 0) i = (x.toInt, y.toInt, 3) at hst
      refine px_gx (fun _ K => px_a 3 (f' := (65, [(5, .int 1), (4, .int 3), (3, .int y), (2, .int x), (1, .int fi), (0, .ref (38 + n))], [.ref (38 + n)], hp)) rfl K) ?_
      refine px_gx (fun _ K => px_gf (38 + n) 39 4 16 (.ref (48 + n)) rfl rfl hm rfl K) ?_
      show px_Gx _ _ (68, [(5, .int 1), (4, .int 3), (3, .int y), (2, .int x), (1, .int fi), (0, .ref (38 + n))], [.ref (48 + n)], hp) _
      refine px_gx (fun _ K => px_a 1 (f' := (69, [(5, .int 1), (4, .int 3), (3, .int y), (2, .int x), (1, .int fi), (0, .ref (38 + n))], [.ref (38 + n), .ref (48 + n)], hp)) rfl K) ?_
      refine px_gx (fun _ K => px_gf (38 + n) 122 4 15 (.int le) rfl rfl hm rfl K) ?_
      show px_Gx _ _ (72, [(5, .int 1), (4, .int 3), (3, .int y), (2, .int x), (1, .int fi), (0, .ref (38 + n))], [.int le, .ref (48 + n)], hp) _
      refine px_gx (fun _ K => px_a 1 (f' := (74, [(5, .int 1), (4, .int 3), (3, .int y), (2, .int x), (1, .int fi), (0, .ref (38 + n))], [.int 3, .int le, .ref (48 + n)], hp)) rfl K) ?_
      have hi574 : le.toNatClampNeg < vsw.length := by show (Int32.toInt le).toNat < _; omega
      refine px_gx (fun _ K => px_ias (48 + n) rfl hvw (by omega) (i32_nn (by omega)) hi574 K) ?_
      show px_Gx _ _ (75, [(5, .int 1), (4, .int 3), (3, .int y), (2, .int x), (1, .int fi), (0, .ref (38 + n))], [], hp.set (48 + n) (10, vsw.set le.toNatClampNeg (.int 3))) _
      have hm574 : (hp.set (48 + n) (10, vsw.set le.toNatClampNeg (.int 3)))[38 + n]? = some (4, (m_O n th w h pn pl fo le ru)) := px_ne hm (by omega)
      have H574 : pa_Hi n (hp.set (48 + n) (10, vsw.set le.toNatClampNeg (.int 3))) := pa_aS (i := 16) H (by omega) (by decide) (by decide) hvw rfl (pa_in (by omega) (by omega))
      have F574 : pa_Fr n [(24, 15), (34, 0)] hp0 (hp.set (48 + n) (10, vsw.set le.toNatClampNeg (.int 3))) := F.trans (pa_aF (i := 16) (by omega) (by decide) (by decide) hvw (by decide) (by decide))
      have L574 : (hp.set (48 + n) (10, vsw.set le.toNatClampNeg (.int 3))).length = hp0.length := List.length_set.trans L
      obtain ⟨vs575, ev575⟩ : ∃ q : List Value, q = vsw.set le.toNatClampNeg (.int 3) := ⟨_, rfl⟩
      have hv575 : (hp.set (48 + n) (10, vsw.set le.toNatClampNeg (.int 3)))[48 + n]? = some (10, vs575) := by rw [ev575]; exact px_self hvw
      generalize hp.set (48 + n) (10, vsw.set le.toNatClampNeg (.int 3)) = hp574 at hm574 H574 F574 L574 hv575 ⊢
      refine px_gx (fun _ K => px_a 2 (f' := (77, [(5, .int 1), (4, .int 3), (3, .int y), (2, .int x), (1, .int fi), (0, .ref (38 + n))], [.ref (38 + n), .ref (38 + n)], hp574)) rfl K) ?_
      refine px_gx (fun _ K => px_gf (38 + n) 122 4 15 (.int le) rfl rfl hm574 rfl K) ?_
      show px_Gx _ _ (80, [(5, .int 1), (4, .int 3), (3, .int y), (2, .int x), (1, .int fi), (0, .ref (38 + n))], [.int le, .ref (38 + n)], hp574) _
      refine px_gx (fun _ K => px_a 2 (f' := (82, [(5, .int 1), (4, .int 3), (3, .int y), (2, .int x), (1, .int fi), (0, .ref (38 + n))], [.int (le + 1), .ref (38 + n)], hp574)) rfl K) ?_
      obtain ⟨z576, ez576, fz576⟩ : ∃ qz : Int32, qz = le + 1 ∧ qz.toInt = Int32.toInt le + Int32.toInt 1 := ⟨_, rfl, i32_add (by omega) (by omega)⟩
      rw [← ez576]
      refine px_gx (fun _ K => px_pf (38 + n) 122 4 15 rfl rfl hm574 (by omega) (Nat.le_of_ble_eq_true rfl) (rfl) rfl (by decide) K) ?_
      show px_Gx _ _ (85, [(5, .int 1), (4, .int 3), (3, .int y), (2, .int x), (1, .int fi), (0, .ref (38 + n))], [], hp574.set (38 + n) (4, (m_O n th w h pn pl fo z576 ru))) _
      have hm577 : (hp574.set (38 + n) (4, (m_O n th w h pn pl fo z576 ru)))[38 + n]? = some (4, (m_O n th w h pn pl fo z576 ru)) := px_self hm574
      have H577 : pa_Hi n (hp574.set (38 + n) (4, (m_O n th w h pn pl fo z576 ru))) := pa_ms (k := 15) (v := .int z576) H574 hm574 rfl (pa_in (by omega) (by omega))
      have F577 : pa_Fr n [(24, 15), (34, 0)] hp0 (hp574.set (38 + n) (4, (m_O n th w h pn pl fo z576 ru))) := F574.trans (pa_mf (k := 15) (v := .int z576) hm574 (by decide) (by decide))
      have L577 : (hp574.set (38 + n) (4, (m_O n th w h pn pl fo z576 ru))).length = hp0.length := List.length_set.trans L574
      have hv575_577 : (hp574.set (38 + n) (4, (m_O n th w h pn pl fo z576 ru)))[48 + n]? = some (10, vs575) := px_ne hv575 (by omega)
      generalize hp574.set (38 + n) (4, (m_O n th w h pn pl fo z576 ru)) = hp577 at hm577 H577 F577 L577 hv575_577 ⊢
      refine px_gx (fun _ K => px_a 8 (f' := (107, [(5, .int 1), (4, .int 3), (3, .int y), (2, .int x), (1, .int fi), (0, .ref (38 + n))], [.int (x + 0)], hp577)) rfl K) ?_
      obtain ⟨z578, ez578, fz578⟩ : ∃ qz : Int32, qz = x + 0 ∧ qz.toInt = Int32.toInt x + Int32.toInt 0 := ⟨_, rfl, i32_add (by omega) (by omega)⟩
      rw [← ez578]
      refine px_gx (fun _ K => px_a 11 (f' := (131, [(2, .int z578), (5, .int 1), (4, .int 3), (3, .int y), (1, .int fi), (0, .ref (38 + n))], [.int (y + (-1))], hp577)) rfl K) ?_
      obtain ⟨z579, ez579, fz579⟩ : ∃ qz : Int32, qz = y + (-1) ∧ qz.toInt = Int32.toInt y + Int32.toInt (-1) := ⟨_, rfl, i32_add (by omega) (by omega)⟩
      rw [← ez579]
      refine px_gx (fun _ K => px_a 9 (f' := (141, [(3, .int z579), (2, .int z578), (5, .int 1), (4, .int 3), (1, .int fi), (0, .ref (38 + n))], [.int 0, .int z579, .int z578, .ref (38 + n)], hp577)) rfl K) ?_
      rcases Bool.eq_false_or_eq_true (m_sd (x_T W V sh) z578.toInt z579.toInt 0) with hS580 | hS580
      · obtain ⟨o581, hq581, g581, rfl, eh581⟩ := m_side_0 (d := d) hm577 H577 (b := true) (x := z578) (y := z579) (by omega) (by omega) (by omega) (by omega) (by rw [m_T_f H0 F577 (by decide), hTT]; exact hS580)
        rw [eh581] at g581
        refine px_gx (fun _ K => px_cv (38 + n) (as := [.int z578, .int z579, .int 0]) (rest := []) rfl rfl hm577 rfl rfl rfl rfl (Nat.le_of_ble_eq_true rfl) g581 K) ?_
        show px_Gx _ _ (144, [(3, .int z579), (2, .int z578), (5, .int 1), (4, .int 3), (1, .int fi), (0, .ref (38 + n))], [.int 1], hp577) _
        refine px_gx (fun _ K => px_a 11 (f' := (183, [(4, .int 0), (3, .int z579), (2, .int z578), (5, .int 1), (1, .int fi), (0, .ref (38 + n))], [.ref (38 + n), .int fi, .int z578], hp577)) rfl K) ?_
        refine px_gx (fun _ K => px_gf (38 + n) 51 4 1 (.int w) rfl rfl hm577 rfl K) ?_
        show px_Gx _ _ (186, [(4, .int 0), (3, .int z579), (2, .int z578), (5, .int 1), (1, .int fi), (0, .ref (38 + n))], [.int w, .int fi, .int z578], hp577) _
        refine px_gx (fun _ K => px_irem rfl (pa_ne0 (by omega)) K) ?_
        show px_Gx _ _ (187, [(4, .int 0), (3, .int z579), (2, .int z578), (5, .int 1), (1, .int fi), (0, .ref (38 + n))], [.int (fi - fi / w * w), .int z578], hp577) _
        rw [← ex0]
        by_cases h582 : ¬ z578 = x0
        · have h582' := h582
          have h582'' : Int32.toInt z578 ≠ Int32.toInt x0 := fun z => h582 (Int32.toInt_inj.mp z)
          refine px_gx (fun _ K => px_b2 true 205 rfl rfl (decide_eq_true h582) K) ?_
          show px_Gx _ _ (205, [(4, .int 0), (3, .int z579), (2, .int z578), (5, .int 1), (1, .int fi), (0, .ref (38 + n))], [], hp577) _
          refine px_gx (fun _ K => px_a 4 (f' := (59, [(5, .int 1), (4, .int 0), (3, .int z579), (2, .int z578), (1, .int fi), (0, .ref (38 + n))], [], hp577)) rfl K) ?_
          have hn : m_st (x_T W V sh) (x0.toInt, y0.toInt, 0) (i + 1) = (z578.toInt, z579.toInt, 0) := by
            show m_nx _ (m_st (x_T W V sh) (x0.toInt, y0.toInt, 0) i) = _
            rw [hst]
            exact m_nx_r (show z578.toInt = x.toInt + m_dx 3 by show _ = _ + (0 : Int); omega) (show z579.toInt = y.toInt + m_dy 3 by show _ = _ + (-1 : Int); omega) hS580
          have hw2 : ∀ q, q < i + 1 → vs575[q]? = some (.int (nI (m_st (x_T W V sh) (x0.toInt, y0.toInt, 0) q).2.2)) := by
            rw [ev575, show le = nI i from Int32.toInt_inj.mp (by rw [nI_toInt (by omega)]; omega)]
            exact c_lsx hw (by omega) (by omega) (by rw [hst]; rfl)
          have hne : i + 1 ≠ K0 := by
            intro e
            rw [e, hK] at hn
            have n1 : x0.toInt = z578.toInt := congrArg (fun q : m_P => q.1) hn
            have n2 : y0.toInt = z579.toInt := congrArg (fun q : m_P => q.2.1) hn
            have n3 : (0 : Nat) = 0 := congrArg (fun q : m_P => q.2.2) hn
            omega
          exact ih (i + 1) 0 z579 z578 hp577 z576 vs575 hm577 H577 F577 L577 hv575_577 (by omega) (by omega) ⟨by omega, by decide⟩ hn hw2
        · have h582' := h582
          have h582'' : Int32.toInt z578 = Int32.toInt x0 := congrArg Int32.toInt (Decidable.not_not.mp h582)
          refine px_gx (fun _ K => px_b2 false 205 rfl rfl (decide_eq_false h582) K) ?_
          show px_Gx _ _ (190, [(4, .int 0), (3, .int z579), (2, .int z578), (5, .int 1), (1, .int fi), (0, .ref (38 + n))], [], hp577) _
          refine px_gx (fun _ K => px_a 3 (f' := (193, [(4, .int 0), (3, .int z579), (2, .int z578), (5, .int 1), (1, .int fi), (0, .ref (38 + n))], [.ref (38 + n), .int fi, .int z579], hp577)) rfl K) ?_
          refine px_gx (fun _ K => px_gf (38 + n) 51 4 1 (.int w) rfl rfl hm577 rfl K) ?_
          show px_Gx _ _ (196, [(4, .int 0), (3, .int z579), (2, .int z578), (5, .int 1), (1, .int fi), (0, .ref (38 + n))], [.int w, .int fi, .int z579], hp577) _
          refine px_gx (fun _ K => px_idiv rfl (pa_ne0 (by omega)) K) ?_
          show px_Gx _ _ (197, [(4, .int 0), (3, .int z579), (2, .int z578), (5, .int 1), (1, .int fi), (0, .ref (38 + n))], [.int (fi / w), .int z579], hp577) _
          rw [← ey0]
          by_cases h583 : ¬ z579 = y0
          · have h583' := h583
            have h583'' : Int32.toInt z579 ≠ Int32.toInt y0 := fun z => h583 (Int32.toInt_inj.mp z)
            refine px_gx (fun _ K => px_b2 true 205 rfl rfl (decide_eq_true h583) K) ?_
            show px_Gx _ _ (205, [(4, .int 0), (3, .int z579), (2, .int z578), (5, .int 1), (1, .int fi), (0, .ref (38 + n))], [], hp577) _
            refine px_gx (fun _ K => px_a 4 (f' := (59, [(5, .int 1), (4, .int 0), (3, .int z579), (2, .int z578), (1, .int fi), (0, .ref (38 + n))], [], hp577)) rfl K) ?_
            have hn : m_st (x_T W V sh) (x0.toInt, y0.toInt, 0) (i + 1) = (z578.toInt, z579.toInt, 0) := by
              show m_nx _ (m_st (x_T W V sh) (x0.toInt, y0.toInt, 0) i) = _
              rw [hst]
              exact m_nx_r (show z578.toInt = x.toInt + m_dx 3 by show _ = _ + (0 : Int); omega) (show z579.toInt = y.toInt + m_dy 3 by show _ = _ + (-1 : Int); omega) hS580
            have hw2 : ∀ q, q < i + 1 → vs575[q]? = some (.int (nI (m_st (x_T W V sh) (x0.toInt, y0.toInt, 0) q).2.2)) := by
              rw [ev575, show le = nI i from Int32.toInt_inj.mp (by rw [nI_toInt (by omega)]; omega)]
              exact c_lsx hw (by omega) (by omega) (by rw [hst]; rfl)
            have hne : i + 1 ≠ K0 := by
              intro e
              rw [e, hK] at hn
              have n1 : x0.toInt = z578.toInt := congrArg (fun q : m_P => q.1) hn
              have n2 : y0.toInt = z579.toInt := congrArg (fun q : m_P => q.2.1) hn
              have n3 : (0 : Nat) = 0 := congrArg (fun q : m_P => q.2.2) hn
              omega
            exact ih (i + 1) 0 z579 z578 hp577 z576 vs575 hm577 H577 F577 L577 hv575_577 (by omega) (by omega) ⟨by omega, by decide⟩ hn hw2
          · have h583' := h583
            have h583'' : Int32.toInt z579 = Int32.toInt y0 := congrArg Int32.toInt (Decidable.not_not.mp h583)
            refine px_gx (fun _ K => px_b2 false 205 rfl rfl (decide_eq_false h583) K) ?_
            show px_Gx _ _ (200, [(4, .int 0), (3, .int z579), (2, .int z578), (5, .int 1), (1, .int fi), (0, .ref (38 + n))], [], hp577) _
            refine px_gx (fun _ K => px_a 5 (f' := (59, [(5, .int 0), (4, .int 0), (3, .int z579), (2, .int z578), (1, .int fi), (0, .ref (38 + n))], [], hp577)) rfl K) ?_
            have hn : m_st (x_T W V sh) (x0.toInt, y0.toInt, 0) (i + 1) = (z578.toInt, z579.toInt, 0) := by
              show m_nx _ (m_st (x_T W V sh) (x0.toInt, y0.toInt, 0) i) = _
              rw [hst]
              exact m_nx_r (show z578.toInt = x.toInt + m_dx 3 by show _ = _ + (0 : Int); omega) (show z579.toInt = y.toInt + m_dy 3 by show _ = _ + (-1 : Int); omega) hS580
            have hw2 : ∀ q, q < i + 1 → vs575[q]? = some (.int (nI (m_st (x_T W V sh) (x0.toInt, y0.toInt, 0) q).2.2)) := by
              rw [ev575, show le = nI i from Int32.toInt_inj.mp (by rw [nI_toInt (by omega)]; omega)]
              exact c_lsx hw (by omega) (by omega) (by rw [hst]; rfl)
            have hK1 : i + 1 = K0 := by
              rcases Nat.lt_or_ge (i + 1) K0 with z | z
              · exact absurd (hn.trans (by rw [Decidable.not_not.mp h582, Decidable.not_not.mp h583])) (hmin (i + 1) (by omega) z)
              · omega
            refine px_gx (fun _ K => px_a 2 (f' := (215, [(5, .int 0), (4, .int 0), (3, .int z579), (2, .int z578), (1, .int fi), (0, .ref (38 + n))], [], hp577)) rfl K) ?_
            exact ⟨_, _, px_e rfl rfl, rfl, K0, fun q => (m_st (x_T W V sh) (x0.toInt, y0.toInt, 0) q).2.2, _, hwd, by rw [pa_fd_get hm577]; show some (Value.int z576) = _; rw [show z576 = nI K0 from Int32.toInt_inj.mp (by rw [nI_toInt (by omega)]; omega)], hv575_577, by rw [← hK1]; exact hw2⟩
      · obtain ⟨o584, hq584, g584, rfl, eh584⟩ := m_side_0 (d := d) hm577 H577 (b := false) (x := z578) (y := z579) (by omega) (by omega) (by omega) (by omega) (by rw [m_T_f H0 F577 (by decide), hTT]; exact hS580)
        rw [eh584] at g584
        refine px_gx (fun _ K => px_cv (38 + n) (as := [.int z578, .int z579, .int 0]) (rest := []) rfl rfl hm577 rfl rfl rfl rfl (Nat.le_of_ble_eq_true rfl) g584 K) ?_
        show px_Gx _ _ (144, [(3, .int z579), (2, .int z578), (5, .int 1), (4, .int 3), (1, .int fi), (0, .ref (38 + n))], [.int 0], hp577) _
        refine px_gx (fun _ K => px_a 5 (f' := (161, [(3, .int z579), (2, .int z578), (5, .int 1), (4, .int 3), (1, .int fi), (0, .ref (38 + n))], [.int 3, .int z579, .int z578, .ref (38 + n)], hp577)) rfl K) ?_
        rcases Bool.eq_false_or_eq_true (m_sd (x_T W V sh) z578.toInt z579.toInt 3) with hS585 | hS585
        · obtain ⟨o586, hq586, g586, rfl, eh586⟩ := m_side_3 (d := d) hm577 H577 (b := true) (x := z578) (y := z579) (by omega) (by omega) (by omega) (by omega) (by rw [m_T_f H0 F577 (by decide), hTT]; exact hS585)
          rw [eh586] at g586
          refine px_gx (fun _ K => px_cv (38 + n) (as := [.int z578, .int z579, .int 3]) (rest := []) rfl rfl hm577 rfl rfl rfl rfl (Nat.le_of_ble_eq_true rfl) g586 K) ?_
          show px_Gx _ _ (164, [(3, .int z579), (2, .int z578), (5, .int 1), (4, .int 3), (1, .int fi), (0, .ref (38 + n))], [.int 1], hp577) _
          refine px_gx (fun _ K => px_a 7 (f' := (183, [(4, .int 3), (3, .int z579), (2, .int z578), (5, .int 1), (1, .int fi), (0, .ref (38 + n))], [.ref (38 + n), .int fi, .int z578], hp577)) rfl K) ?_
          refine px_gx (fun _ K => px_gf (38 + n) 51 4 1 (.int w) rfl rfl hm577 rfl K) ?_
          show px_Gx _ _ (186, [(4, .int 3), (3, .int z579), (2, .int z578), (5, .int 1), (1, .int fi), (0, .ref (38 + n))], [.int w, .int fi, .int z578], hp577) _
          refine px_gx (fun _ K => px_irem rfl (pa_ne0 (by omega)) K) ?_
          show px_Gx _ _ (187, [(4, .int 3), (3, .int z579), (2, .int z578), (5, .int 1), (1, .int fi), (0, .ref (38 + n))], [.int (fi - fi / w * w), .int z578], hp577) _
          rw [← ex0]
          by_cases h587 : ¬ z578 = x0
          · have h587' := h587
            have h587'' : Int32.toInt z578 ≠ Int32.toInt x0 := fun z => h587 (Int32.toInt_inj.mp z)
            refine px_gx (fun _ K => px_b2 true 205 rfl rfl (decide_eq_true h587) K) ?_
            show px_Gx _ _ (205, [(4, .int 3), (3, .int z579), (2, .int z578), (5, .int 1), (1, .int fi), (0, .ref (38 + n))], [], hp577) _
            refine px_gx (fun _ K => px_a 4 (f' := (59, [(5, .int 1), (4, .int 3), (3, .int z579), (2, .int z578), (1, .int fi), (0, .ref (38 + n))], [], hp577)) rfl K) ?_
            have hn : m_st (x_T W V sh) (x0.toInt, y0.toInt, 0) (i + 1) = (z578.toInt, z579.toInt, 3) := by
              show m_nx _ (m_st (x_T W V sh) (x0.toInt, y0.toInt, 0) i) = _
              rw [hst]
              exact m_nx_s (show z578.toInt = x.toInt + m_dx 3 by show _ = _ + (0 : Int); omega) (show z579.toInt = y.toInt + m_dy 3 by show _ = _ + (-1 : Int); omega) hS580 hS585
            have hw2 : ∀ q, q < i + 1 → vs575[q]? = some (.int (nI (m_st (x_T W V sh) (x0.toInt, y0.toInt, 0) q).2.2)) := by
              rw [ev575, show le = nI i from Int32.toInt_inj.mp (by rw [nI_toInt (by omega)]; omega)]
              exact c_lsx hw (by omega) (by omega) (by rw [hst]; rfl)
            have hne : i + 1 ≠ K0 := by
              intro e
              rw [e, hK] at hn
              have n1 : x0.toInt = z578.toInt := congrArg (fun q : m_P => q.1) hn
              have n2 : y0.toInt = z579.toInt := congrArg (fun q : m_P => q.2.1) hn
              have n3 : (0 : Nat) = 3 := congrArg (fun q : m_P => q.2.2) hn
              omega
            exact ih (i + 1) 3 z579 z578 hp577 z576 vs575 hm577 H577 F577 L577 hv575_577 (by omega) (by omega) ⟨by omega, by decide⟩ hn hw2
          · have h587' := h587
            have h587'' : Int32.toInt z578 = Int32.toInt x0 := congrArg Int32.toInt (Decidable.not_not.mp h587)
            refine px_gx (fun _ K => px_b2 false 205 rfl rfl (decide_eq_false h587) K) ?_
            show px_Gx _ _ (190, [(4, .int 3), (3, .int z579), (2, .int z578), (5, .int 1), (1, .int fi), (0, .ref (38 + n))], [], hp577) _
            refine px_gx (fun _ K => px_a 3 (f' := (193, [(4, .int 3), (3, .int z579), (2, .int z578), (5, .int 1), (1, .int fi), (0, .ref (38 + n))], [.ref (38 + n), .int fi, .int z579], hp577)) rfl K) ?_
            refine px_gx (fun _ K => px_gf (38 + n) 51 4 1 (.int w) rfl rfl hm577 rfl K) ?_
            show px_Gx _ _ (196, [(4, .int 3), (3, .int z579), (2, .int z578), (5, .int 1), (1, .int fi), (0, .ref (38 + n))], [.int w, .int fi, .int z579], hp577) _
            refine px_gx (fun _ K => px_idiv rfl (pa_ne0 (by omega)) K) ?_
            show px_Gx _ _ (197, [(4, .int 3), (3, .int z579), (2, .int z578), (5, .int 1), (1, .int fi), (0, .ref (38 + n))], [.int (fi / w), .int z579], hp577) _
            rw [← ey0]
            by_cases h588 : ¬ z579 = y0
            · have h588' := h588
              have h588'' : Int32.toInt z579 ≠ Int32.toInt y0 := fun z => h588 (Int32.toInt_inj.mp z)
              refine px_gx (fun _ K => px_b2 true 205 rfl rfl (decide_eq_true h588) K) ?_
              show px_Gx _ _ (205, [(4, .int 3), (3, .int z579), (2, .int z578), (5, .int 1), (1, .int fi), (0, .ref (38 + n))], [], hp577) _
              refine px_gx (fun _ K => px_a 4 (f' := (59, [(5, .int 1), (4, .int 3), (3, .int z579), (2, .int z578), (1, .int fi), (0, .ref (38 + n))], [], hp577)) rfl K) ?_
              have hn : m_st (x_T W V sh) (x0.toInt, y0.toInt, 0) (i + 1) = (z578.toInt, z579.toInt, 3) := by
                show m_nx _ (m_st (x_T W V sh) (x0.toInt, y0.toInt, 0) i) = _
                rw [hst]
                exact m_nx_s (show z578.toInt = x.toInt + m_dx 3 by show _ = _ + (0 : Int); omega) (show z579.toInt = y.toInt + m_dy 3 by show _ = _ + (-1 : Int); omega) hS580 hS585
              have hw2 : ∀ q, q < i + 1 → vs575[q]? = some (.int (nI (m_st (x_T W V sh) (x0.toInt, y0.toInt, 0) q).2.2)) := by
                rw [ev575, show le = nI i from Int32.toInt_inj.mp (by rw [nI_toInt (by omega)]; omega)]
                exact c_lsx hw (by omega) (by omega) (by rw [hst]; rfl)
              have hne : i + 1 ≠ K0 := by
                intro e
                rw [e, hK] at hn
                have n1 : x0.toInt = z578.toInt := congrArg (fun q : m_P => q.1) hn
                have n2 : y0.toInt = z579.toInt := congrArg (fun q : m_P => q.2.1) hn
                have n3 : (0 : Nat) = 3 := congrArg (fun q : m_P => q.2.2) hn
                omega
              exact ih (i + 1) 3 z579 z578 hp577 z576 vs575 hm577 H577 F577 L577 hv575_577 (by omega) (by omega) ⟨by omega, by decide⟩ hn hw2
            · have h588' := h588
              have h588'' : Int32.toInt z579 = Int32.toInt y0 := congrArg Int32.toInt (Decidable.not_not.mp h588)
              refine px_gx (fun _ K => px_b2 false 205 rfl rfl (decide_eq_false h588) K) ?_
              show px_Gx _ _ (200, [(4, .int 3), (3, .int z579), (2, .int z578), (5, .int 1), (1, .int fi), (0, .ref (38 + n))], [], hp577) _
              refine px_gx (fun _ K => px_a 6 (f' := (59, [(5, .int 1), (4, .int 3), (3, .int z579), (2, .int z578), (1, .int fi), (0, .ref (38 + n))], [], hp577)) rfl K) ?_
              have hn : m_st (x_T W V sh) (x0.toInt, y0.toInt, 0) (i + 1) = (z578.toInt, z579.toInt, 3) := by
                show m_nx _ (m_st (x_T W V sh) (x0.toInt, y0.toInt, 0) i) = _
                rw [hst]
                exact m_nx_s (show z578.toInt = x.toInt + m_dx 3 by show _ = _ + (0 : Int); omega) (show z579.toInt = y.toInt + m_dy 3 by show _ = _ + (-1 : Int); omega) hS580 hS585
              have hw2 : ∀ q, q < i + 1 → vs575[q]? = some (.int (nI (m_st (x_T W V sh) (x0.toInt, y0.toInt, 0) q).2.2)) := by
                rw [ev575, show le = nI i from Int32.toInt_inj.mp (by rw [nI_toInt (by omega)]; omega)]
                exact c_lsx hw (by omega) (by omega) (by rw [hst]; rfl)
              have hne : i + 1 ≠ K0 := by
                intro e
                rw [e, hK] at hn
                have n1 : x0.toInt = z578.toInt := congrArg (fun q : m_P => q.1) hn
                have n2 : y0.toInt = z579.toInt := congrArg (fun q : m_P => q.2.1) hn
                have n3 : (0 : Nat) = 3 := congrArg (fun q : m_P => q.2.2) hn
                omega
              exact ih (i + 1) 3 z579 z578 hp577 z576 vs575 hm577 H577 F577 L577 hv575_577 (by omega) (by omega) ⟨by omega, by decide⟩ hn hw2
        · obtain ⟨o589, hq589, g589, rfl, eh589⟩ := m_side_3 (d := d) hm577 H577 (b := false) (x := z578) (y := z579) (by omega) (by omega) (by omega) (by omega) (by rw [m_T_f H0 F577 (by decide), hTT]; exact hS585)
          rw [eh589] at g589
          refine px_gx (fun _ K => px_cv (38 + n) (as := [.int z578, .int z579, .int 3]) (rest := []) rfl rfl hm577 rfl rfl rfl rfl (Nat.le_of_ble_eq_true rfl) g589 K) ?_
          show px_Gx _ _ (164, [(3, .int z579), (2, .int z578), (5, .int 1), (4, .int 3), (1, .int fi), (0, .ref (38 + n))], [.int 0], hp577) _
          refine px_gx (fun _ K => px_a 10 (f' := (183, [(4, .int 2), (3, .int z579), (2, .int z578), (5, .int 1), (1, .int fi), (0, .ref (38 + n))], [.ref (38 + n), .int fi, .int z578], hp577)) rfl K) ?_
          refine px_gx (fun _ K => px_gf (38 + n) 51 4 1 (.int w) rfl rfl hm577 rfl K) ?_
          show px_Gx _ _ (186, [(4, .int 2), (3, .int z579), (2, .int z578), (5, .int 1), (1, .int fi), (0, .ref (38 + n))], [.int w, .int fi, .int z578], hp577) _
          refine px_gx (fun _ K => px_irem rfl (pa_ne0 (by omega)) K) ?_
          show px_Gx _ _ (187, [(4, .int 2), (3, .int z579), (2, .int z578), (5, .int 1), (1, .int fi), (0, .ref (38 + n))], [.int (fi - fi / w * w), .int z578], hp577) _
          rw [← ex0]
          by_cases h590 : ¬ z578 = x0
          · have h590' := h590
            have h590'' : Int32.toInt z578 ≠ Int32.toInt x0 := fun z => h590 (Int32.toInt_inj.mp z)
            refine px_gx (fun _ K => px_b2 true 205 rfl rfl (decide_eq_true h590) K) ?_
            show px_Gx _ _ (205, [(4, .int 2), (3, .int z579), (2, .int z578), (5, .int 1), (1, .int fi), (0, .ref (38 + n))], [], hp577) _
            refine px_gx (fun _ K => px_a 4 (f' := (59, [(5, .int 1), (4, .int 2), (3, .int z579), (2, .int z578), (1, .int fi), (0, .ref (38 + n))], [], hp577)) rfl K) ?_
            have hn : m_st (x_T W V sh) (x0.toInt, y0.toInt, 0) (i + 1) = (z578.toInt, z579.toInt, 2) := by
              show m_nx _ (m_st (x_T W V sh) (x0.toInt, y0.toInt, 0) i) = _
              rw [hst]
              exact m_nx_l (show z578.toInt = x.toInt + m_dx 3 by show _ = _ + (0 : Int); omega) (show z579.toInt = y.toInt + m_dy 3 by show _ = _ + (-1 : Int); omega) hS580 hS585
            have hw2 : ∀ q, q < i + 1 → vs575[q]? = some (.int (nI (m_st (x_T W V sh) (x0.toInt, y0.toInt, 0) q).2.2)) := by
              rw [ev575, show le = nI i from Int32.toInt_inj.mp (by rw [nI_toInt (by omega)]; omega)]
              exact c_lsx hw (by omega) (by omega) (by rw [hst]; rfl)
            have hne : i + 1 ≠ K0 := by
              intro e
              rw [e, hK] at hn
              have n1 : x0.toInt = z578.toInt := congrArg (fun q : m_P => q.1) hn
              have n2 : y0.toInt = z579.toInt := congrArg (fun q : m_P => q.2.1) hn
              have n3 : (0 : Nat) = 2 := congrArg (fun q : m_P => q.2.2) hn
              omega
            exact ih (i + 1) 2 z579 z578 hp577 z576 vs575 hm577 H577 F577 L577 hv575_577 (by omega) (by omega) ⟨by omega, by decide⟩ hn hw2
          · have h590' := h590
            have h590'' : Int32.toInt z578 = Int32.toInt x0 := congrArg Int32.toInt (Decidable.not_not.mp h590)
            refine px_gx (fun _ K => px_b2 false 205 rfl rfl (decide_eq_false h590) K) ?_
            show px_Gx _ _ (190, [(4, .int 2), (3, .int z579), (2, .int z578), (5, .int 1), (1, .int fi), (0, .ref (38 + n))], [], hp577) _
            refine px_gx (fun _ K => px_a 3 (f' := (193, [(4, .int 2), (3, .int z579), (2, .int z578), (5, .int 1), (1, .int fi), (0, .ref (38 + n))], [.ref (38 + n), .int fi, .int z579], hp577)) rfl K) ?_
            refine px_gx (fun _ K => px_gf (38 + n) 51 4 1 (.int w) rfl rfl hm577 rfl K) ?_
            show px_Gx _ _ (196, [(4, .int 2), (3, .int z579), (2, .int z578), (5, .int 1), (1, .int fi), (0, .ref (38 + n))], [.int w, .int fi, .int z579], hp577) _
            refine px_gx (fun _ K => px_idiv rfl (pa_ne0 (by omega)) K) ?_
            show px_Gx _ _ (197, [(4, .int 2), (3, .int z579), (2, .int z578), (5, .int 1), (1, .int fi), (0, .ref (38 + n))], [.int (fi / w), .int z579], hp577) _
            rw [← ey0]
            by_cases h591 : ¬ z579 = y0
            · have h591' := h591
              have h591'' : Int32.toInt z579 ≠ Int32.toInt y0 := fun z => h591 (Int32.toInt_inj.mp z)
              refine px_gx (fun _ K => px_b2 true 205 rfl rfl (decide_eq_true h591) K) ?_
              show px_Gx _ _ (205, [(4, .int 2), (3, .int z579), (2, .int z578), (5, .int 1), (1, .int fi), (0, .ref (38 + n))], [], hp577) _
              refine px_gx (fun _ K => px_a 4 (f' := (59, [(5, .int 1), (4, .int 2), (3, .int z579), (2, .int z578), (1, .int fi), (0, .ref (38 + n))], [], hp577)) rfl K) ?_
              have hn : m_st (x_T W V sh) (x0.toInt, y0.toInt, 0) (i + 1) = (z578.toInt, z579.toInt, 2) := by
                show m_nx _ (m_st (x_T W V sh) (x0.toInt, y0.toInt, 0) i) = _
                rw [hst]
                exact m_nx_l (show z578.toInt = x.toInt + m_dx 3 by show _ = _ + (0 : Int); omega) (show z579.toInt = y.toInt + m_dy 3 by show _ = _ + (-1 : Int); omega) hS580 hS585
              have hw2 : ∀ q, q < i + 1 → vs575[q]? = some (.int (nI (m_st (x_T W V sh) (x0.toInt, y0.toInt, 0) q).2.2)) := by
                rw [ev575, show le = nI i from Int32.toInt_inj.mp (by rw [nI_toInt (by omega)]; omega)]
                exact c_lsx hw (by omega) (by omega) (by rw [hst]; rfl)
              have hne : i + 1 ≠ K0 := by
                intro e
                rw [e, hK] at hn
                have n1 : x0.toInt = z578.toInt := congrArg (fun q : m_P => q.1) hn
                have n2 : y0.toInt = z579.toInt := congrArg (fun q : m_P => q.2.1) hn
                have n3 : (0 : Nat) = 2 := congrArg (fun q : m_P => q.2.2) hn
                omega
              exact ih (i + 1) 2 z579 z578 hp577 z576 vs575 hm577 H577 F577 L577 hv575_577 (by omega) (by omega) ⟨by omega, by decide⟩ hn hw2
            · have h591' := h591
              have h591'' : Int32.toInt z579 = Int32.toInt y0 := congrArg Int32.toInt (Decidable.not_not.mp h591)
              refine px_gx (fun _ K => px_b2 false 205 rfl rfl (decide_eq_false h591) K) ?_
              show px_Gx _ _ (200, [(4, .int 2), (3, .int z579), (2, .int z578), (5, .int 1), (1, .int fi), (0, .ref (38 + n))], [], hp577) _
              refine px_gx (fun _ K => px_a 6 (f' := (59, [(5, .int 1), (4, .int 2), (3, .int z579), (2, .int z578), (1, .int fi), (0, .ref (38 + n))], [], hp577)) rfl K) ?_
              have hn : m_st (x_T W V sh) (x0.toInt, y0.toInt, 0) (i + 1) = (z578.toInt, z579.toInt, 2) := by
                show m_nx _ (m_st (x_T W V sh) (x0.toInt, y0.toInt, 0) i) = _
                rw [hst]
                exact m_nx_l (show z578.toInt = x.toInt + m_dx 3 by show _ = _ + (0 : Int); omega) (show z579.toInt = y.toInt + m_dy 3 by show _ = _ + (-1 : Int); omega) hS580 hS585
              have hw2 : ∀ q, q < i + 1 → vs575[q]? = some (.int (nI (m_st (x_T W V sh) (x0.toInt, y0.toInt, 0) q).2.2)) := by
                rw [ev575, show le = nI i from Int32.toInt_inj.mp (by rw [nI_toInt (by omega)]; omega)]
                exact c_lsx hw (by omega) (by omega) (by rw [hst]; rfl)
              have hne : i + 1 ≠ K0 := by
                intro e
                rw [e, hK] at hn
                have n1 : x0.toInt = z578.toInt := congrArg (fun q : m_P => q.1) hn
                have n2 : y0.toInt = z579.toInt := congrArg (fun q : m_P => q.2.1) hn
                have n3 : (0 : Nat) = 2 := congrArg (fun q : m_P => q.2.2) hn
                omega
              exact ih (i + 1) 2 z579 z578 hp577 z576 vs575 hm577 H577 F577 L577 hv575_577 (by omega) (by omega) ⟨by omega, by decide⟩ hn hw2
set_option maxRecDepth 20000 in
set_option maxHeartbeats 4000000 in
theorem m_walkx_f {d n W V : Nat} {sh : Int64} {hp0 hp : px_H} {th w h pn pl fo ru : Int32} {cc : Int} {vsu : List Value} (hW : W ≤ 6) (hV : V ≤ 6) (w1 : 1 ≤ W) (hw8 : w = nI W) (hnn : n = W * V) (hcc : cc = w.toInt * h.toInt) (hcn : cc = n) (H0 : pa_Hi n hp0) (hTT : m_T n hp0 w.toInt h.toInt = x_T W V sh) (q1 : ∀ c, c < n → vsu[c]? = some (.int (if x_bt sh c = true then 1 else 0))) (q3 : ∀ c, x_bt sh c = true → c < n) (hm : hp[38 + n]? = some (4, m_O n th w h pn pl fo 0 ru)) (H : pa_Hi n hp) (F : pa_Fr n [(24, 15), (34, 0)] hp0 hp) (L : hp.length = hp0.length) (hvu : hp[39 + n]? = some (12, vsu)) : ∀ (k : Nat) (fi : Int32), (∀ c, c < fi.toInt.toNat → x_bt sh c = false) → fi.toInt + k = cc + 1 → 0 ≤ fi.toInt → fi.toInt ≤ cc → px_Gx (d + 3) 100 (7, [(1, .int fi), (0, .ref (38 + n))], [], hp) (fun o hp' => o = .inl none ∧ ∃ (K : Nat) (f : Nat → Nat) (vs' : List Value), x_Wd W V sh K f ∧ pa_fd hp' (38 + n) 15 = some (.int (nI K)) ∧ hp'[48 + n]? = some (10, vs') ∧ ∀ i, i < K → vs'[i]? = some (.int (nI (f i)))) := by
  have cl0 : Int32.toInt 0 = 0 := rfl
  have cl1 : Int32.toInt 1 = 1 := rfl
  intro k
  induction k with
  | zero =>
    intro fi Z g1 g2 g3
    omega
  | succ k ih =>
    intro fi Z g1 g2 g3
    obtain ⟨bth1, bth2, bw1, bw2, bh1, bh2, bpn1, bpn2, bpl1, bpl2, bfo1, bfo2, ble1, ble2, bru1, bru2⟩ := pa_bnd H hm
    obtain ⟨vsq, hvq, hlu, hgu⟩ := pa_ara (a := 39 + n) (i := 7) (lo := 0) (hi := 1) H (by omega) (by decide) (by decide) rfl
    obtain rfl : vsu = vsq := by rw [hvu] at hvq; cases hvq; rfl
    refine px_gx (fun _ K => px_a 2 (f' := (9, [(1, .int fi), (0, .ref (38 + n))], [.ref (38 + n), .int fi], hp)) rfl K) ?_
    refine px_gx (fun _ K => px_cv (38 + n) (as := []) (rest := [.int fi]) rfl rfl hm rfl rfl rfl rfl (Nat.le_of_ble_eq_true rfl) (p_cells hm) K) ?_
    show px_Gx _ _ (12, [(1, .int fi), (0, .ref (38 + n))], [.int (w * h), .int fi], hp) _
    obtain ⟨z592, ez592, fz592⟩ : ∃ qz : Int32, qz = w * h ∧ qz.toInt = w.toInt * h.toInt ∧ 1 ≤ qz.toInt ∧ qz.toInt ≤ 36 := ⟨_, rfl, m_mul6 (by omega) (by omega) (by omega) (by omega)⟩
    rw [← ez592]
    by_cases h593 : z592 ≤ fi
    · have h593' := h593
      rw [Int32.le_iff_toInt_le] at h593'
      refine px_gx (fun _ K => px_b2 true 30 rfl rfl (decide_eq_true h593) K) ?_
      show px_Gx _ _ (30, [(1, .int fi), (0, .ref (38 + n))], [], hp) _
      refine px_gx (fun _ K => px_a 2 (f' := (32, [(1, .int fi), (0, .ref (38 + n))], [.ref (38 + n), .int fi], hp)) rfl K) ?_
      refine px_gx (fun _ K => px_cv (38 + n) (as := []) (rest := [.int fi]) rfl rfl hm rfl rfl rfl rfl (Nat.le_of_ble_eq_true rfl) (p_cells hm) K) ?_
      show px_Gx _ _ (35, [(1, .int fi), (0, .ref (38 + n))], [.int (w * h), .int fi], hp) _
      rw [← ez592]
      by_cases h594 : ¬ fi = z592
      · have h594' := h594
        have h594'' : Int32.toInt fi ≠ Int32.toInt z592 := fun z => h594 (Int32.toInt_inj.mp z)
        refine px_gx (fun _ K => px_b2 true 39 rfl rfl (decide_eq_true h594) K) ?_
        show px_Gx _ _ (39, [(1, .int fi), (0, .ref (38 + n))], [], hp) _
        omega
      · have h594' := h594
        have h594'' : Int32.toInt fi = Int32.toInt z592 := congrArg Int32.toInt (Decidable.not_not.mp h594)
        refine px_gx (fun _ K => px_b2 false 39 rfl rfl (decide_eq_false h594) K) ?_
        show px_Gx _ _ (38, [(1, .int fi), (0, .ref (38 + n))], [], hp) _
        have z0 : sh = 0 := by
          by_cases q : sh = 0
          · exact q
          · obtain ⟨c0, -, b1, -⟩ := x_nz q
            have := q3 c0 b1
            rw [Z c0 (by omega)] at b1
            cases b1
        obtain ⟨vsw, hvw, -, -⟩ := pa_ara (a := 48 + n) (i := 16) (lo := 0) (hi := 3) H (by omega) (by decide) (by decide) rfl
        exact ⟨_, _, px_e rfl rfl, rfl, 0, fun _ => 0, vsw, Or.inl ⟨z0, rfl⟩, by rw [pa_fd_get hm]; rfl, hvw, fun i hi => absurd hi (Nat.not_lt_zero i)⟩
    · have h593' := h593
      rw [Int32.le_iff_toInt_le] at h593'
      refine px_gx (fun _ K => px_b2 false 30 rfl rfl (decide_eq_false h593) K) ?_
      show px_Gx _ _ (15, [(1, .int fi), (0, .ref (38 + n))], [], hp) _
      refine px_gx (fun _ K => px_a 1 (f' := (16, [(1, .int fi), (0, .ref (38 + n))], [.ref (38 + n)], hp)) rfl K) ?_
      refine px_gx (fun _ K => px_gf (38 + n) 7 4 3 (.ref (39 + n)) rfl rfl hm rfl K) ?_
      show px_Gx _ _ (19, [(1, .int fi), (0, .ref (38 + n))], [.ref (39 + n)], hp) _
      refine px_gx (fun _ K => px_a 1 (f' := (20, [(1, .int fi), (0, .ref (38 + n))], [.int fi, .ref (39 + n)], hp)) rfl K) ?_
      have hi595 : fi.toNatClampNeg < vsu.length := by show (Int32.toInt fi).toNat < _; omega
      obtain ⟨z595, ez595, lz595, uz595⟩ := hgu _ hi595
      refine px_gx (fun _ K => px_al (39 + n) (.int z595) rfl hvu (Or.inr (Or.inr (Or.inl ⟨rfl, rfl⟩))) (i32_nn (by omega)) ez595 K) ?_
      show px_Gx _ _ (21, [(1, .int fi), (0, .ref (38 + n))], [.int z595], hp) _
      by_cases h596 : ¬ z595 = 0
      · have h596' := h596
        have h596'' : Int32.toInt z595 ≠ Int32.toInt 0 := fun z => h596 (Int32.toInt_inj.mp z)
        refine px_gx (fun _ K => px_b1 true 30 rfl rfl (decide_eq_true h596) K) ?_
        show px_Gx _ _ (30, [(1, .int fi), (0, .ref (38 + n))], [], hp) _
        refine px_gx (fun _ K => px_a 2 (f' := (32, [(1, .int fi), (0, .ref (38 + n))], [.ref (38 + n), .int fi], hp)) rfl K) ?_
        refine px_gx (fun _ K => px_cv (38 + n) (as := []) (rest := [.int fi]) rfl rfl hm rfl rfl rfl rfl (Nat.le_of_ble_eq_true rfl) (p_cells hm) K) ?_
        show px_Gx _ _ (35, [(1, .int fi), (0, .ref (38 + n))], [.int (w * h), .int fi], hp) _
        rw [← ez592]
        by_cases h597 : ¬ fi = z592
        · have h597' := h597
          have h597'' : Int32.toInt fi ≠ Int32.toInt z592 := fun z => h597 (Int32.toInt_inj.mp z)
          refine px_gx (fun _ K => px_b2 true 39 rfl rfl (decide_eq_true h597) K) ?_
          show px_Gx _ _ (39, [(1, .int fi), (0, .ref (38 + n))], [], hp) _
          have fin : fi.toInt.toNat < n := by omega
          have b1 : x_bt sh fi.toInt.toNat = true := by
            have e := q1 fi.toInt.toNat fin
            rw [show fi.toInt.toNat = fi.toNatClampNeg from rfl, ez595] at e
            cases hx : x_bt sh fi.toInt.toNat
            · rw [show fi.toInt.toNat = fi.toNatClampNeg from rfl] at hx; rw [hx] at e; cases e; exact absurd rfl h596
            · rfl
          refine px_gx (fun _ K => px_a 2 (f' := (41, [(1, .int fi), (0, .ref (38 + n))], [.ref (38 + n), .int fi], hp)) rfl K) ?_
          refine px_gx (fun _ K => px_gf (38 + n) 51 4 1 (.int w) rfl rfl hm rfl K) ?_
          show px_Gx _ _ (44, [(1, .int fi), (0, .ref (38 + n))], [.int w, .int fi], hp) _
          refine px_gx (fun _ K => px_irem rfl (pa_ne0 (by omega)) K) ?_
          show px_Gx _ _ (45, [(1, .int fi), (0, .ref (38 + n))], [.int (fi - fi / w * w)], hp) _
          obtain ⟨z598, ez598, fz598⟩ : ∃ qz : Int32, qz = (fi - fi / w * w) ∧ qz.toInt = Int32.toInt fi % Int32.toInt w := ⟨_, rfl, i32_remE (by omega) (by omega)⟩
          rw [← ez598]
          refine px_gx (fun _ K => px_a 3 (f' := (48, [(2, .int z598), (1, .int fi), (0, .ref (38 + n))], [.ref (38 + n), .int fi], hp)) rfl K) ?_
          refine px_gx (fun _ K => px_gf (38 + n) 51 4 1 (.int w) rfl rfl hm rfl K) ?_
          show px_Gx _ _ (51, [(2, .int z598), (1, .int fi), (0, .ref (38 + n))], [.int w, .int fi], hp) _
          refine px_gx (fun _ K => px_idiv rfl (pa_ne0 (by omega)) K) ?_
          show px_Gx _ _ (52, [(2, .int z598), (1, .int fi), (0, .ref (38 + n))], [.int (fi / w)], hp) _
          obtain ⟨z599, ez599, fz599⟩ : ∃ qz : Int32, qz = (fi / w) ∧ qz.toInt = Int32.toInt fi / Int32.toInt w := ⟨_, rfl, i32_divE (by omega) (by omega)⟩
          rw [← ez599]
          refine px_gx (fun _ K => px_a 5 (f' := (59, [(5, .int 1), (4, .int 0), (3, .int z599), (2, .int z598), (1, .int fi), (0, .ref (38 + n))], [], hp)) rfl K) ?_
          have wt : w.toInt = W := by rw [hw8]; exact nI_toInt (by omega)
          have efi : fi.toInt = ((fi.toInt.toNat : Nat) : Int) := by omega
          have exn : z598.toInt = ((fi.toInt.toNat % W : Nat) : Int) := by rw [fz598, wt, efi]; rfl
          have eyn : z599.toInt = ((fi.toInt.toNat / W : Nat) : Int) := by rw [fz599, wt, efi]; rfl
          have hs0 := x_start (W := W) (V := V) (by omega) (by rw [← hnn]; exact fin) b1 Z
          obtain ⟨K0, k1, k2, k3, k4⟩ := m_ret84 (x_T6 hW hV) hs0
          have hwd : x_Wd W V sh K0 (fun q => (m_st (x_T W V sh) (x_ft W fi.toInt.toNat) q).2.2) := Or.inr ⟨_, b1, Z, k1, k2, k3, k4, fun i _ => rfl⟩
          have e0 : x_ft W fi.toInt.toNat = (z598.toInt, z599.toInt, 0) := by rw [exn, eyn]; rfl
          rw [e0] at hs0 k3 k4 hwd
          obtain ⟨vsw, hvw, -, -⟩ := pa_ara (a := 48 + n) (i := 16) (lo := 0) (hi := 3) H (by omega) (by decide) (by decide) rfl
          exact m_walkx_l hW hV H0 hTT ez598 ez599 hs0 k2 k3 k4 hwd K0 0 0 z599 z598 hp 0 vsw hm H F L hvw (by omega) k1 ⟨by omega, by decide⟩ rfl (fun i hi => absurd hi (Nat.not_lt_zero i))
        · have h597' := h597
          have h597'' : Int32.toInt fi = Int32.toInt z592 := congrArg Int32.toInt (Decidable.not_not.mp h597)
          refine px_gx (fun _ K => px_b2 false 39 rfl rfl (decide_eq_false h597) K) ?_
          show px_Gx _ _ (38, [(1, .int fi), (0, .ref (38 + n))], [], hp) _
          have z0 : sh = 0 := by
            by_cases q : sh = 0
            · exact q
            · obtain ⟨c0, -, b1, -⟩ := x_nz q
              have := q3 c0 b1
              rw [Z c0 (by omega)] at b1
              cases b1
          obtain ⟨vsw, hvw, -, -⟩ := pa_ara (a := 48 + n) (i := 16) (lo := 0) (hi := 3) H (by omega) (by decide) (by decide) rfl
          exact ⟨_, _, px_e rfl rfl, rfl, 0, fun _ => 0, vsw, Or.inl ⟨z0, rfl⟩, by rw [pa_fd_get hm]; rfl, hvw, fun i hi => absurd hi (Nat.not_lt_zero i)⟩
      · have h596' := h596
        have h596'' : Int32.toInt z595 = Int32.toInt 0 := congrArg Int32.toInt (Decidable.not_not.mp h596)
        refine px_gx (fun _ K => px_b1 false 30 rfl rfl (decide_eq_false h596) K) ?_
        show px_Gx _ _ (24, [(1, .int fi), (0, .ref (38 + n))], [], hp) _
        refine px_gx (fun _ K => px_a 1 (f' := (27, [(1, .int (fi + 1)), (0, .ref (38 + n))], [], hp)) rfl K) ?_
        obtain ⟨z600, ez600, fz600⟩ : ∃ qz : Int32, qz = fi + 1 ∧ qz.toInt = Int32.toInt fi + Int32.toInt 1 := ⟨_, rfl, i32_add (by omega) (by omega)⟩
        rw [← ez600]
        refine px_gx (fun _ K => px_a 1 (f' := (7, [(1, .int z600), (0, .ref (38 + n))], [], hp)) rfl K) ?_
        have Z2 : ∀ c, c < (z600).toInt.toNat → x_bt sh c = false := by
          intro c hc
          by_cases e : c = fi.toInt.toNat
          · subst e
            have e := q1 fi.toInt.toNat (by omega)
            rw [show fi.toInt.toNat = fi.toNatClampNeg from rfl, ez595, Decidable.not_not.mp h596] at e
            cases hx : x_bt sh fi.toInt.toNat
            · rfl
            · rw [show fi.toInt.toNat = fi.toNatClampNeg from rfl] at hx; rw [hx] at e; cases e
          · exact Z c (by omega)
        exact ih z600 Z2 (by omega) (by omega) (by omega)
set_option maxRecDepth 20000 in
set_option maxHeartbeats 4000000 in
theorem m_walkx {d n W V : Nat} {sh : Int64} {hp0 : px_H} {th w h pn pl fo le ru : Int32} {vsu : List Value} (hW : W ≤ 6) (hV : V ≤ 6) (w1 : 1 ≤ W) (hw8 : w = nI W) (hh8 : h = nI V) (hnn : n = W * V) (q1 : ∀ c, c < n → vsu[c]? = some (.int (if x_bt sh c = true then 1 else 0))) (q3 : ∀ c, x_bt sh c = true → c < n) (hm : hp0[38 + n]? = some (4, m_O n th w h pn pl fo le ru)) (H : pa_Hi n hp0) (hvu : hp0[39 + n]? = some (12, vsu)) : px_Gx (d + 3) 100 (0, [(0, .ref (38 + n))], [], hp0) (fun o hp' => o = .inl none ∧ ∃ (K : Nat) (f : Nat → Nat) (vs' : List Value), x_Wd W V sh K f ∧ pa_fd hp' (38 + n) 15 = some (.int (nI K)) ∧ hp'[48 + n]? = some (10, vs') ∧ ∀ i, i < K → vs'[i]? = some (.int (nI (f i)))) := by
  have cl0 : Int32.toInt 0 = 0 := rfl
  obtain ⟨bth1, bth2, bw1, bw2, bh1, bh2, bpn1, bpn2, bpl1, bpl2, bfo1, bfo2, ble1, ble2, bru1, bru2⟩ := pa_bnd H hm
  have F : pa_Fr n [(24, 15), (34, 0)] hp0 hp0 := pa_Fr.refl _
  have L : hp0.length = hp0.length := rfl
  have hcn : w.toInt * h.toInt = n := by rw [hw8, hh8, nI_toInt (by omega), nI_toInt (by omega), hnn]; push_cast; rfl
  refine px_gx (fun _ K => px_a 2 (f' := (2, [(0, .ref (38 + n))], [.int 0, .ref (38 + n)], hp0)) rfl K) ?_
  refine px_gx (fun _ K => px_pf (38 + n) 122 4 15 rfl rfl hm (by omega) (Nat.le_of_ble_eq_true rfl) (rfl) rfl (by decide) K) ?_
  show px_Gx _ _ (5, [(0, .ref (38 + n))], [], hp0.set (38 + n) (4, (m_O n th w h pn pl fo 0 ru))) _
  have hm601 : (hp0.set (38 + n) (4, (m_O n th w h pn pl fo 0 ru)))[38 + n]? = some (4, (m_O n th w h pn pl fo 0 ru)) := px_self hm
  have H601 : pa_Hi n (hp0.set (38 + n) (4, (m_O n th w h pn pl fo 0 ru))) := pa_ms (k := 15) (v := .int 0) H hm rfl (pa_in (by omega) (by omega))
  have F601 : pa_Fr n [(24, 15), (34, 0)] hp0 (hp0.set (38 + n) (4, (m_O n th w h pn pl fo 0 ru))) := F.trans (pa_mf (k := 15) (v := .int 0) hm (by decide) (by decide))
  have L601 : (hp0.set (38 + n) (4, (m_O n th w h pn pl fo 0 ru))).length = hp0.length := List.length_set.trans L
  have hvu_601 : (hp0.set (38 + n) (4, (m_O n th w h pn pl fo 0 ru)))[39 + n]? = some (12, vsu) := px_ne hvu (by omega)
  generalize hp0.set (38 + n) (4, (m_O n th w h pn pl fo 0 ru)) = hp601 at hm601 H601 F601 L601 hvu_601 ⊢
  refine px_gx (fun _ K => px_a 2 (f' := (7, [(1, .int 0), (0, .ref (38 + n))], [], hp601)) rfl K) ?_
  have e1 := m_mul6 bw1 bw2 bh1 bh2
  exact m_walkx_f (cc := w.toInt * h.toInt) hW hV w1 hw8 hnn rfl hcn H (by rw [hw8, hh8]; exact m_T_x hW hV hnn hvu q1) q1 q3 hm601 H601 F601 L601 hvu_601 (w.toInt * h.toInt + 1).toNat 0 (fun c hc => absurd hc (Nat.not_lt_zero c)) (by omega) (by omega) (by omega)
