theorem f_rot : ∀ k, k < 8 → ∀ i, i < 4 → ∀ j, j < 4 → m_rot (k : Nat) (f_iv k i j : Nat) = ((i : Int) - f_ox k, (j : Int) - f_oy k) := by decide +kernel
theorem pl_MD {W V N S : Nat} {sh : Int64} {l : List Nat} (hW : W ≤ 6) (hV : V ≤ 6) (hN : N < 65536) (hne : ∃ i j, f_F N i j) (hl : ∀ q, q ∈ l ↔ N.testBit q = true) (l16 : ∀ q, q ∈ l → q < 16) : pl_M W V N (fun t => x_bt sh t = true) S ↔ m_D W V sh l 8 (-3) (-3) S := by
  have to : ∀ k, k < 8 → ∀ i j, f_F (f_T k N) i j → ∃ j0 : Nat, l[j0]? = some (f_iv k i j) := fun k hk i j hf => by
    have h1 := (f_T_b hf.1 hf.2.1 k hk).mp hf.2.2
    exact List.getElem?_of_mem ((hl _).mpr h1)
  have fr : ∀ k, k < 8 → ∀ (j0 q : Nat), l[j0]? = some q → ∃ i j, f_F (f_T k N) i j ∧ q = f_iv k i j := fun k hk j0 q hq => by
    have hm := List.mem_of_getElem? hq
    obtain ⟨i, hi, j, hj, e⟩ := f_iv_s k hk q (l16 q hm)
    exact ⟨i, j, ⟨hi, hj, (f_T_b hi hj k hk).mpr (by rw [e]; exact (hl q).mp hm)⟩, e.symm⟩
  constructor
  · rintro ⟨k, dx, dy, hk, d1, d2, d3, d4, hin, hbt, hs⟩
    refine ⟨(k : Int), dy, dx, by omega, d3, d4, d1, d2, Or.inl (by omega), ?_, ?_, ?_⟩
    · intro z
      obtain ⟨i, j, hf⟩ := f_T_ne hk hne
      obtain ⟨a1, a2, a3, a4⟩ := hin i j hf
      have hb := m_bn hW hV a1 a2 a3 a4
      have := (hbt ((W : Int) * ((j : Int) + (dy - f_oy k)) + ((i : Int) + (dx - f_ox k))).toNat).mpr ⟨i, j, hf, by omega⟩
      rw [z, Nat.zero_testBit] at this
      cases this
    · intro j0 q hq
      obtain ⟨i, j, hf, rfl⟩ := fr k hk j0 q hq
      obtain ⟨a1, a2, a3, a4⟩ := hin i j hf
      have hb := m_bn hW hV a1 a2 a3 a4
      refine m_okI (f_rot k hk i hf.1 j hf.2.1) (Xc := (i : Int) + (dx - f_ox k)) (Yc := (j : Int) + (dy - f_oy k)) (by omega) (by omega) a1 a2 a3 a4 ?_
      exact hs _ ((hbt _).mpr ⟨i, j, hf, by omega⟩)
    · intro t
      rw [hbt t]
      constructor
      · rintro ⟨i, j, hf, e⟩
        obtain ⟨j0, hj0⟩ := to k hk i j hf
        refine ⟨j0, _, hj0, ?_⟩
        rw [f_rot k hk i hf.1 j hf.2.1, e]
        dsimp only
        rw [show (j : Int) - f_oy k + dy = (j : Int) + (dy - f_oy k) by omega, show (i : Int) - f_ox k + dx = (i : Int) + (dx - f_ox k) by omega]
      · rintro ⟨j0, q, hq, e⟩
        obtain ⟨i, j, hf, rfl⟩ := fr k hk j0 q hq
        refine ⟨i, j, hf, ?_⟩
        rw [f_rot k hk i hf.1 j hf.2.1] at e
        dsimp only at e
        rw [show (j : Int) - f_oy k + dy = (j : Int) + (dy - f_oy k) by omega, show (i : Int) - f_ox k + dx = (i : Int) + (dx - f_ox k) by omega] at e
        exact e
  · rintro ⟨tu, dy, dx, k1, k2, k3, k4, k5, k6, hS, hok, hbt⟩
    obtain ⟨k, rfl⟩ : ∃ k : Nat, tu = (k : Int) := ⟨tu.toNat, by omega⟩
    have hk : k < 8 := by omega
    have hin : pl_in W V (f_T k N) (dx - f_ox k) (dy - f_oy k) := by
      intro i j hf
      obtain ⟨j0, hj0⟩ := to k hk i j hf
      have := m_okE (f_rot k hk i hf.1 j hf.2.1) (Xc := (i : Int) + (dx - f_ox k)) (Yc := (j : Int) + (dy - f_oy k)) (by omega) (by omega) (hok j0 _ hj0)
      exact ⟨this.1, this.2.1, this.2.2.1, this.2.2.2.1⟩
    have hbt2 : pl_bt W (f_T k N) (dx - f_ox k) (dy - f_oy k) S := by
      intro t
      rw [hbt t]
      constructor
      · rintro ⟨j0, q, hq, e⟩
        obtain ⟨i, j, hf, rfl⟩ := fr k hk j0 q hq
        refine ⟨i, j, hf, ?_⟩
        rw [f_rot k hk i hf.1 j hf.2.1] at e
        dsimp only at e
        rw [show (j : Int) - f_oy k + dy = (j : Int) + (dy - f_oy k) by omega, show (i : Int) - f_ox k + dx = (i : Int) + (dx - f_ox k) by omega] at e
        exact e
      · rintro ⟨i, j, hf, e⟩
        obtain ⟨j0, hj0⟩ := to k hk i j hf
        refine ⟨j0, _, hj0, ?_⟩
        rw [f_rot k hk i hf.1 j hf.2.1, e]
        dsimp only
        rw [show (j : Int) - f_oy k + dy = (j : Int) + (dy - f_oy k) by omega, show (i : Int) - f_ox k + dx = (i : Int) + (dx - f_ox k) by omega]
    refine ⟨k, dx, dy, hk, k4, k5, k2, k3, hin, hbt2, fun t ht => ?_⟩
    obtain ⟨i, j, hf, e⟩ := (hbt2 t).mp ht
    obtain ⟨j0, hj0⟩ := to k hk i j hf
    have := (m_okE (f_rot k hk i hf.1 j hf.2.1) (Xc := (i : Int) + (dx - f_ox k)) (Yc := (j : Int) + (dy - f_oy k)) (by omega) (by omega) (hok j0 _ hj0)).2.2.2.2
    rw [← e] at this
    exact this
theorem pl_same {W V N c c' : Nat} {sh : Int64} {l wl : List Nat} {f f' : Nat → Nat} (hW : W ≤ 6) (hV : V ≤ 6) (hN : N < 65536) (hwl : (N = 0 ∧ wl = []) ∨ (N ≠ 0 ∧ wl = f_ws N 8)) (hl : ∀ q, q ∈ l ↔ N.testBit q = true) (l16 : ∀ q, q ∈ l → q < 16) (h : pl_L c f (pl_D W V wl sh)) (h' : pl_L c' f' (m_D W V sh l 8 (-3) (-3))) : c = c' ∧ ∀ j, j < c → f j = f' j := by
  refine pl_L_u (pl_L_c h (fun S => ?_)) h'
  rcases hwl with ⟨rfl, rfl⟩ | ⟨h0, rfl⟩
  · have ln : l = [] := by
      cases l with
      | nil => rfl
      | cons a r =>
        have := (hl a).mp List.mem_cons_self
        rw [Nat.zero_testBit] at this
        cases this
    subst ln
    constructor
    · rintro ⟨P, hP, -⟩
      exact absurd hP List.not_mem_nil
    · rintro ⟨tu, dy, dx, -, -, -, -, -, -, hS, -, hbt⟩
      refine absurd ?_ hS
      apply Nat.eq_of_testBit_eq
      intro t
      rw [Nat.zero_testBit]
      cases e : S.testBit t
      · rfl
      · obtain ⟨j, q, z, -⟩ := (hbt t).mp e
        rw [List.getElem?_nil] at z
        cases z
  · have hne := f_some hN h0
    rw [← pl_MD hW hV hN hne hl l16, ← pl_eq hN hne hW hV]
    constructor
    · rintro ⟨P, hP, x, y, z⟩
      obtain ⟨k, hk, rfl⟩ := (f_ws_mem 8).mp hP
      exact ⟨k, x, y, hk, z⟩
    · rintro ⟨k, x, y, hk, z⟩
      exact ⟨f_w k N, (f_ws_mem 8).mpr ⟨k, hk, rfl⟩, x, y, z⟩
theorem m_plsO {d n : Nat} {hp : px_H} {th w h pn pl fo le ru p : Int32} (hm : hp[38 + n]? = some (4, m_O n th w h pn pl fo le ru)) (ho : p < 0 ∨ pn ≤ p) : px_Gx (d + 1) 87 (0, [(0, .ref (38 + n)), (1, .int p)], [], hp) (fun o hp' => o = .inl (some (.int 0)) ∧ pa_fd hp' (38 + n) 0 = some (.int 1)) := by
  · 
    refine px_gx (fun _ K9 => px_a 4 (f' := (4, [(0, .ref (38 + n)), (1, .int p)], [.int p, .ref (38 + n), .int 1, .ref (38 + n)], hp)) rfl K9) ?_
    refine px_gx (fun _ K9 => px_cv (38 + n) (as := [.int p]) (rest := [.int 1, .ref (38 + n)]) rfl rfl hm rfl rfl rfl rfl (Nat.le_of_ble_eq_true rfl) (p_isPiece_o hm ho) K9) ?_
    show px_Gx _ _ (7, [(0, .ref (38 + n)), (1, .int p)], [.int 0, .int 1, .ref (38 + n)], hp) _
    refine px_gx (fun _ K9 => px_a 3 (f' := (15, [(0, .ref (38 + n)), (1, .int p)], [.int 1, .int 1, .ref (38 + n)], hp)) rfl K9) ?_
    refine px_gx (fun _ K9 => px_cv (38 + n) (as := [.int 1, .int 1]) (rest := []) rfl rfl hm rfl rfl rfl rfl (Nat.le_of_ble_eq_true rfl) (p_throwsIf_1 hm (by omega)) K9) ?_
    show px_Gx _ _ (18, [(0, .ref (38 + n)), (1, .int p)], [.int 1], (hp.set (38 + n) (4, [.int 1, .int w, .int h, .ref (39 + n), .int pn, .ref (40 + n), .ref (41 + n), .ref (42 + n), .int pl, .ref (43 + n), .ref (44 + n), .ref (45 + n), .ref (46 + n), .int fo, .ref (47 + n), .int le, .ref (48 + n), .int ru, .ref (49 + n), .ref (50 + n), .ref (51 + n)]))) _
    refine px_gx (fun _ K9 => px_a 2 (f' := (22, [(0, .ref (38 + n)), (1, .int p)], [.int 0], (hp.set (38 + n) (4, [.int 1, .int w, .int h, .ref (39 + n), .int pn, .ref (40 + n), .ref (41 + n), .ref (42 + n), .int pl, .ref (43 + n), .ref (44 + n), .ref (45 + n), .ref (46 + n), .int fo, .ref (47 + n), .int le, .ref (48 + n), .int ru, .ref (49 + n), .ref (50 + n), .ref (51 + n)])))) rfl K9) ?_
    exact ⟨_, _, px_ri rfl rfl rfl, rfl, by rw [pa_fd_get (px_self hm)]; rfl⟩
set_option maxRecDepth 20000 in
theorem m_plsX {d n W V kk : Nat} {hp : px_H} {th w h pn pl fo le ru : Int32} {sh : Int64} {l : List Nat} {vsu vsz vsq : List Value} (hW : W ≤ 6) (hV : V ≤ 6) (hnn : n = W * V) (ew : w.toInt = W) (eh : h.toInt = V) (H : pa_Hi n hp) (hm : hp[38 + n]? = some (4, m_O n th w h pn pl fo le ru)) (hvu0 : hp[39 + n]? = some (12, vsu)) (hvz0 : hp[40 + n]? = some (10, vsz)) (hvq0 : hp[41 + n]? = some (10, vsq)) (q1 : ∀ c, c < n → vsu[c]? = some (.int (if x_bt sh c = true then 1 else 0))) (hz0 : vsz[kk]? = some (.int (nI l.length))) (l6 : l.length ≤ 6) (hu0 : ∀ (j q : Nat), l[j]? = some q → vsq[6 * kk + j]? = some (.int (nI q)) ∧ q < 16) {p : Int32} (hpk : p.toInt = (kk : Int)) (k5 : kk < 6) (ho : ¬ (p < 0 ∨ pn ≤ p)) : px_Gx (d + 3) 87 (0, [(0, .ref (38 + n)), (1, .int p)], [], hp) (fun o hp' => ∃ c, c ≤ 512 ∧ o = .inl (some (.int (nI c))) ∧ pl_N n 0 w h pn fo le ru hp' c (m_D W V sh l 8 (-3) (-3))) := by
  have hm0 : (hp.set (38 + n) (4, [.int 0, .int w, .int h, .ref (39 + n), .int pn, .ref (40 + n), .ref (41 + n), .ref (42 + n), .int pl, .ref (43 + n), .ref (44 + n), .ref (45 + n), .ref (46 + n), .int fo, .ref (47 + n), .int le, .ref (48 + n), .int ru, .ref (49 + n), .ref (50 + n), .ref (51 + n)]))[38 + n]? = some (4, m_O n 0 w h pn pl fo le ru) := px_self hm
  have Hs : pa_Hi n (hp.set (38 + n) (4, [.int 0, .int w, .int h, .ref (39 + n), .int pn, .ref (40 + n), .ref (41 + n), .ref (42 + n), .int pl, .ref (43 + n), .ref (44 + n), .ref (45 + n), .ref (46 + n), .int fo, .ref (47 + n), .int le, .ref (48 + n), .int ru, .ref (49 + n), .ref (50 + n), .ref (51 + n)])) := pa_ms (k := 0) (v := .int 0) H hm rfl (pa_in (by decide) (by decide))
  obtain ⟨o, hp1, g, e, c, c512, st1, f1, hm1, hr1⟩ := m_placeX (d := d) hW hV hnn ew eh Hs (px_ne hvu0 (by omega)) (px_ne hvz0 (by omega)) (px_ne hvq0 (by omega)) q1 hz0 l6 hu0 hpk (by omega) (by omega) hm0
  subst e
  refine px_gx (fun _ K9 => px_a 4 (f' := (4, [(0, .ref (38 + n)), (1, .int p)], [.int p, .ref (38 + n), .int 1, .ref (38 + n)], hp)) rfl K9) ?_
  refine px_gx (fun _ K9 => px_cv (38 + n) (as := [.int p]) (rest := [.int 1, .ref (38 + n)]) rfl rfl hm rfl rfl rfl rfl (Nat.le_of_ble_eq_true rfl) (p_isPiece_i hm ho) K9) ?_
  show px_Gx _ _ (7, [(0, .ref (38 + n)), (1, .int p)], [.int 1, .int 1, .ref (38 + n)], hp) _
  refine px_gx (fun _ K9 => px_a 2 (f' := (15, [(0, .ref (38 + n)), (1, .int p)], [.int 0, .int 1, .ref (38 + n)], hp)) rfl K9) ?_
  refine px_gx (fun _ K9 => px_cv (38 + n) (as := [.int 1, .int 0]) (rest := []) rfl rfl hm rfl rfl rfl rfl (Nat.le_of_ble_eq_true rfl) (p_throwsIf_0 hm (by omega)) K9) ?_
  show px_Gx _ _ (18, [(0, .ref (38 + n)), (1, .int p)], [.int 0], (hp.set (38 + n) (4, [.int 0, .int w, .int h, .ref (39 + n), .int pn, .ref (40 + n), .ref (41 + n), .ref (42 + n), .int pl, .ref (43 + n), .ref (44 + n), .ref (45 + n), .ref (46 + n), .int fo, .ref (47 + n), .int le, .ref (48 + n), .int ru, .ref (49 + n), .ref (50 + n), .ref (51 + n)]))) _
  refine px_gx (fun _ K9 => px_a 3 (f' := (25, [(0, .ref (38 + n)), (1, .int p)], [.int p, .ref (38 + n)], (hp.set (38 + n) (4, [.int 0, .int w, .int h, .ref (39 + n), .int pn, .ref (40 + n), .ref (41 + n), .ref (42 + n), .int pl, .ref (43 + n), .ref (44 + n), .ref (45 + n), .ref (46 + n), .int fo, .ref (47 + n), .int le, .ref (48 + n), .int ru, .ref (49 + n), .ref (50 + n), .ref (51 + n)])))) rfl K9) ?_
  refine px_gx (fun _ K9 => px_cv (38 + n) (as := [.int p]) (rest := []) rfl rfl hm0 rfl rfl rfl rfl (Nat.le_of_ble_eq_true rfl) (g) K9) ?_
  show px_Gx _ _ (28, [(0, .ref (38 + n)), (1, .int p)], [], hp1) _
  refine px_gx (fun _ K9 => px_a 1 (f' := (29, [(0, .ref (38 + n)), (1, .int p)], [.ref (38 + n)], hp1)) rfl K9) ?_
  refine px_gx (fun _ K9 => px_gf (38 + n) 80 4 8 (.int (nI c)) rfl rfl hm1 rfl K9) ?_
  show px_Gx _ _ (32, [(0, .ref (38 + n)), (1, .int p)], [.int (nI c)], hp1) _
  exact ⟨_, _, px_ri rfl rfl rfl, c, c512, rfl, st1, f1, hm1, hr1⟩
