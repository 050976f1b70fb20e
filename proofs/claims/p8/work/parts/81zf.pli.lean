def pl_D (W V : Nat) (wl : List Nat) (ss : Int64) (S : Nat) : Prop := ∃ P, P ∈ wl ∧ ∃ x y, x + f_co P 4 ≤ W ∧ y + f_ro P 4 ≤ V ∧ S = f_cS W P x y ∧ pl_sub ss S
theorem f_tk {g : Nat → Nat} : ∀ {l : List Nat} {w : Nat} (h : w < l.length), ((l.take (w + 1)).map g).sum = ((l.take w).map g).sum + g l[w]
  | [], _, h => absurd h (Nat.not_lt_zero _)
  | a :: l, 0, _ => by
    show ([a].map g).sum = 0 + g a
    rw [List.map_cons, List.map_nil, List.sum_cons, List.sum_nil]
    omega
  | a :: l, w + 1, h => by
    have h' : w < l.length := Nat.lt_of_succ_lt_succ h
    show ((a :: l.take (w + 1)).map g).sum = ((a :: l.take w).map g).sum + g (l[w]'h')
    rw [List.map_cons, List.sum_cons, List.map_cons, List.sum_cons, f_tk h']
    omega
theorem f_tl {g : Nat → Nat} : ∀ (l : List Nat) (w : Nat), ((l.take w).map g).sum ≤ (l.map g).sum
  | [], w => by rw [List.take_nil]; exact Nat.le_refl _
  | a :: l, 0 => Nat.zero_le _
  | a :: l, w + 1 => by
    rw [List.take_succ_cons, List.map_cons, List.sum_cons, List.map_cons, List.sum_cons]
    exact Nat.add_le_add_left (f_tl l w) _
theorem f_tm {l : List Nat} {w P : Nat} (h : w < l.length) : P ∈ l.take (w + 1) ↔ P ∈ l.take w ∨ P = l[w] := by
  rw [← List.take_append_getElem h, List.mem_append, List.mem_singleton]
theorem f_tn {l : List Nat} {w : Nat} (h : w < l.length) (nd : l.Pairwise (· ≠ ·)) : ¬ l[w] ∈ l.take w := by
  intro z
  obtain ⟨i, hi, e⟩ := List.mem_take_iff_getElem.mp z
  exact List.pairwise_iff_getElem.mp nd i w (by omega) h (by omega) e
set_option maxRecDepth 20000 in
theorem c_prl {d k : Nat} {hp0 : px_H} {W V N : Nat} {sh : Int64} {wl : List Nat} {ws : List Value} (hW : W ≤ 6) (hV : V ≤ 6) (hC : ∀ P ∈ wl, f_C P) (nd : wl.Pairwise (· ≠ ·)) (tot : (wl.map f_A).sum ≤ 160) (l8 : wl.length ≤ 8) (rep : f_rep ws wl) : ∀ m w, w + m = wl.length → ∀ (hp : px_H) (c : Nat) (hw : hp[11 + 3 * k]? = some (10, ws)), c ≤ ((wl.take w).map f_A).sum → pl_G k W V N (nI wl.length) sh hp c (pl_D W V (wl.take w) sh) → (∀ a, a ≠ 10 + 3 * k → a ≠ 12 + 3 * k → hp[a]? = hp0[a]?) → px_Gx (d + 2) 27 (22, [(3, .int (nI w)), (0, .ref (10 + 3 * k)), (1, .long sh)], [], hp) (fun o hp' => o = .inl none ∧ ∃ c', pl_G k W V N (nI wl.length) sh hp' c' (pl_D W V wl sh) ∧ (∀ a, a ≠ 10 + 3 * k → a ≠ 12 + 3 * k → hp'[a]? = hp0[a]?)) := by
  intro m
  induction m with
  | zero =>
    intro w h hp c hw hc G hsm
    obtain ⟨st, f, hf, hr⟩ := G
    refine px_gx (fun _ K9 => px_a 2 (f' := (24, [(3, .int (nI w)), (0, .ref (10 + 3 * k)), (1, .long sh)], [.ref (10 + 3 * k), .int (nI w)], hp)) rfl K9) ?_
    refine px_gx (fun _ K9 => px_gf (10 + 3 * k) 49 1 5 (.int (nI wl.length)) rfl rfl hf rfl K9) ?_
    show px_Gx _ _ (27, [(3, .int (nI w)), (0, .ref (10 + 3 * k)), (1, .long sh)], [.int (nI wl.length), .int (nI w)], hp) _
    refine px_gx (fun _ K9 => px_b2 true 46 rfl rfl (decide_eq_true (show nI wl.length ≤ nI w by rw [Int32.le_iff_toInt_le, nI_toInt (by omega), nI_toInt (by omega)]; omega)) K9) ?_
    show px_Gx _ _ (46, [(3, .int (nI w)), (0, .ref (10 + 3 * k)), (1, .long sh)], [], hp) _
    refine ⟨_, _, px_e rfl rfl, rfl, c, ?_, hsm⟩
    rw [show wl.take w = wl from List.take_of_length_le (by omega)] at hr
    exact ⟨st, f, hf, hr⟩
  | succ m ih =>
    intro w h hp c hw hc G hsm
    have hwl : w < wl.length := by omega
    have t1 := f_tk (g := f_A) hwl
    have t2 := f_tl (g := f_A) wl (w + 1)
    obtain ⟨st, f, hf, hr⟩ := G
    obtain ⟨o1, hp1, hg, e1, c1, k1, k2, k3⟩ := c_pw (d := d) hW hV (hC _ (List.getElem_mem hwl)) (by omega) (fun x y hx hy z => by
      obtain ⟨P, hP, x', y', z1, z2, z3, -⟩ := z
      have q := f_inj (hC _ (List.getElem_mem hwl)) (hC P (List.mem_of_mem_take hP)) hx z1 z3
      exact f_tn hwl nd (by rw [q.1]; exact hP)) ⟨st, f, hf, hr⟩
    subst e1
    refine px_gx (fun _ K9 => px_a 2 (f' := (24, [(3, .int (nI w)), (0, .ref (10 + 3 * k)), (1, .long sh)], [.ref (10 + 3 * k), .int (nI w)], hp)) rfl K9) ?_
    refine px_gx (fun _ K9 => px_gf (10 + 3 * k) 49 1 5 (.int (nI wl.length)) rfl rfl hf rfl K9) ?_
    show px_Gx _ _ (27, [(3, .int (nI w)), (0, .ref (10 + 3 * k)), (1, .long sh)], [.int (nI wl.length), .int (nI w)], hp) _
    refine px_gx (fun _ K9 => px_b2 false 46 rfl rfl (decide_eq_false (show ¬ nI wl.length ≤ nI w by rw [Int32.le_iff_toInt_le, nI_toInt (by omega), nI_toInt (by omega)]; omega)) K9) ?_
    show px_Gx _ _ (30, [(3, .int (nI w)), (0, .ref (10 + 3 * k)), (1, .long sh)], [], hp) _
    refine px_gx (fun _ K9 => px_a 2 (f' := (32, [(3, .int (nI w)), (0, .ref (10 + 3 * k)), (1, .long sh)], [.ref (10 + 3 * k), .ref (10 + 3 * k)], hp)) rfl K9) ?_
    refine px_gx (fun _ K9 => px_gf (10 + 3 * k) 18 1 2 (.ref (11 + 3 * k)) rfl rfl hf rfl K9) ?_
    show px_Gx _ _ (35, [(3, .int (nI w)), (0, .ref (10 + 3 * k)), (1, .long sh)], [.ref (11 + 3 * k), .ref (10 + 3 * k)], hp) _
    refine px_gx (fun _ K9 => px_a 1 (f' := (36, [(3, .int (nI w)), (0, .ref (10 + 3 * k)), (1, .long sh)], [.int (nI w), .ref (11 + 3 * k), .ref (10 + 3 * k)], hp)) rfl K9) ?_
    refine px_gx (fun _ K9 => px_al (11 + 3 * k) (.int (nI wl[w])) rfl hw (Or.inl ⟨rfl, Or.inl rfl⟩) (nI_pos (by omega)) (by rw [nI_clamp (by omega)]; exact rep w hwl) K9) ?_
    show px_Gx _ _ (37, [(3, .int (nI w)), (0, .ref (10 + 3 * k)), (1, .long sh)], [.int (nI wl[w]), .ref (10 + 3 * k)], hp) _
    refine px_gx (fun _ K9 => px_cv (10 + 3 * k) (as := [.int (nI wl[w])]) (rest := []) rfl rfl hf rfl rfl rfl rfl (Nat.le_of_ble_eq_true rfl) (hg) K9) ?_
    show px_Gx _ _ (40, [(3, .int (nI w)), (0, .ref (10 + 3 * k)), (1, .long sh)], [], hp1) _
    refine px_gx (fun _ K9 => px_a 2 (f' := (22, [(3, .int ((nI w) + 1)), (0, .ref (10 + 3 * k)), (1, .long sh)], [], hp1)) rfl K9) ?_
    rw [p_s16 w (by omega)]
    refine px_wk [(3, .int (nI (w + 1))), (0, .ref (10 + 3 * k)), (1, .long sh)] ⟨rfl, rfl, rfl, trivial⟩ ?_
    refine ih (w + 1) (by omega) hp1 c1 ((k3 _ (by omega) (by omega)).trans hw) (by omega) (pl_G_c k2 (fun S => ?_)) (fun a h1 h2 => (k3 a h1 h2).trans (hsm a h1 h2))
    unfold pl_D
    constructor
    · rintro (⟨P, hP, z⟩ | z)
      · exact ⟨P, (f_tm hwl).mpr (Or.inl hP), z⟩
      · exact ⟨_, (f_tm hwl).mpr (Or.inr rfl), z⟩
    · rintro ⟨P, hP, z⟩
      rcases (f_tm hwl).mp hP with q | rfl
      · exact Or.inl ⟨P, q, z⟩
      · exact Or.inr z
set_option maxRecDepth 20000 in
theorem c_pr {d k : Nat} {hp : px_H} {W V N c : Nat} {ss sh : Int64} {wl : List Nat} {ws : List Value} (hW : W ≤ 6) (hV : V ≤ 6) (hC : ∀ P ∈ wl, f_C P) (nd : wl.Pairwise (· ≠ ·)) (tot : (wl.map f_A).sum ≤ 160) (l8 : wl.length ≤ 8) (rep : f_rep ws wl) (hw : hp[11 + 3 * k]? = some (10, ws)) (G : pl_G k W V N (nI wl.length) ss hp c (pl_D W V wl ss)) : px_Gx (d + 2) 27 (0, [(0, .ref (10 + 3 * k)), (1, .long sh)], [], hp) (fun o hp' => o = .inl none ∧ ∃ c', pl_G k W V N (nI wl.length) sh hp' c' (pl_D W V wl sh) ∧ (∀ a, a ≠ 10 + 3 * k → a ≠ 12 + 3 * k → hp'[a]? = hp[a]?)) := by
  obtain ⟨st, f, hf, hs, hr⟩ := G
  by_cases h : ss = sh
  · 
    refine px_gx (fun _ K9 => px_a 1 (f' := (1, [(0, .ref (10 + 3 * k)), (1, .long sh)], [.ref (10 + 3 * k)], hp)) rfl K9) ?_
    refine px_gx (fun _ K9 => px_gf (10 + 3 * k) 39 1 7 (.long ss) rfl rfl hf rfl K9) ?_
    show px_Gx _ _ (4, [(0, .ref (10 + 3 * k)), (1, .long sh)], [.long ss], hp) _
    refine px_gx (fun _ K9 => px_a 2 (f' := (6, [(0, .ref (10 + 3 * k)), (1, .long sh)], [.int (lg_cmp ss sh)], hp)) rfl K9) ?_
    refine px_gx (fun _ K9 => px_b1 false 10 rfl rfl (decide_eq_false (not_not_intro (x_cmp0.mpr h))) K9) ?_
    show px_Gx _ _ (9, [(0, .ref (10 + 3 * k)), (1, .long sh)], [], hp) _
    exact ⟨_, _, px_e rfl rfl, rfl, c, by rw [← h]; exact ⟨st, f, hf, hs, hr⟩, fun a _ _ => rfl⟩
  · 
    refine px_gx (fun _ K9 => px_a 1 (f' := (1, [(0, .ref (10 + 3 * k)), (1, .long sh)], [.ref (10 + 3 * k)], hp)) rfl K9) ?_
    refine px_gx (fun _ K9 => px_gf (10 + 3 * k) 39 1 7 (.long ss) rfl rfl hf rfl K9) ?_
    show px_Gx _ _ (4, [(0, .ref (10 + 3 * k)), (1, .long sh)], [.long ss], hp) _
    refine px_gx (fun _ K9 => px_a 2 (f' := (6, [(0, .ref (10 + 3 * k)), (1, .long sh)], [.int (lg_cmp ss sh)], hp)) rfl K9) ?_
    refine px_gx (fun _ K9 => px_b1 true 10 rfl rfl (decide_eq_true (fun z => h (x_cmp0.mp z))) K9) ?_
    show px_Gx _ _ (10, [(0, .ref (10 + 3 * k)), (1, .long sh)], [], hp) _
    refine px_gx (fun _ K9 => px_a 2 (f' := (12, [(0, .ref (10 + 3 * k)), (1, .long sh)], [.long sh, .ref (10 + 3 * k)], hp)) rfl K9) ?_
    refine px_gx (fun _ K9 => px_pf (10 + 3 * k) 39 1 7 rfl rfl hf (by omega) (by simp) rfl rfl (by decide) K9) ?_
    have hf1__10___3___k_ : (hp.set (10 + 3 * k) (1, [.int (nI W), .int (nI V), .ref (11 + 3 * k), .ref (12 + 3 * k), .int (nI N), .int (nI wl.length), .int (nI c), .long sh]))[(10 + 3 * k)]? = some (1, [.int (nI W), .int (nI V), .ref (11 + 3 * k), .ref (12 + 3 * k), .int (nI N), .int (nI wl.length), .int (nI c), .long sh]) := px_self hf
    have hf1__11___3___k_ : (hp.set (10 + 3 * k) (1, [.int (nI W), .int (nI V), .ref (11 + 3 * k), .ref (12 + 3 * k), .int (nI N), .int (nI wl.length), .int (nI c), .long sh]))[(11 + 3 * k)]? = some (10, ws) := px_ne hw (by omega)
    have hf1__12___3___k_ : (hp.set (10 + 3 * k) (1, [.int (nI W), .int (nI V), .ref (11 + 3 * k), .ref (12 + 3 * k), .int (nI N), .int (nI wl.length), .int (nI c), .long sh]))[(12 + 3 * k)]? = some (11, st) := px_ne hs (by omega)
    show px_Gx _ _ (15, [(0, .ref (10 + 3 * k)), (1, .long sh)], [], (hp.set (10 + 3 * k) (1, [.int (nI W), .int (nI V), .ref (11 + 3 * k), .ref (12 + 3 * k), .int (nI N), .int (nI wl.length), .int (nI c), .long sh]))) _
    refine px_gx (fun _ K9 => px_a 2 (f' := (17, [(0, .ref (10 + 3 * k)), (1, .long sh)], [.int 0, .ref (10 + 3 * k)], (hp.set (10 + 3 * k) (1, [.int (nI W), .int (nI V), .ref (11 + 3 * k), .ref (12 + 3 * k), .int (nI N), .int (nI wl.length), .int (nI c), .long sh])))) rfl K9) ?_
    refine px_gx (fun _ K9 => px_pf (10 + 3 * k) 43 1 6 rfl rfl hf1__10___3___k_ (by omega) (by simp) rfl rfl (by decide) K9) ?_
    have hf2__10___3___k_ : (((hp.set (10 + 3 * k) (1, [.int (nI W), .int (nI V), .ref (11 + 3 * k), .ref (12 + 3 * k), .int (nI N), .int (nI wl.length), .int (nI c), .long sh]))).set (10 + 3 * k) (1, [.int (nI W), .int (nI V), .ref (11 + 3 * k), .ref (12 + 3 * k), .int (nI N), .int (nI wl.length), .int 0, .long sh]))[(10 + 3 * k)]? = some (1, [.int (nI W), .int (nI V), .ref (11 + 3 * k), .ref (12 + 3 * k), .int (nI N), .int (nI wl.length), .int 0, .long sh]) := px_self hf1__10___3___k_
    have hf2__11___3___k_ : (((hp.set (10 + 3 * k) (1, [.int (nI W), .int (nI V), .ref (11 + 3 * k), .ref (12 + 3 * k), .int (nI N), .int (nI wl.length), .int (nI c), .long sh]))).set (10 + 3 * k) (1, [.int (nI W), .int (nI V), .ref (11 + 3 * k), .ref (12 + 3 * k), .int (nI N), .int (nI wl.length), .int 0, .long sh]))[(11 + 3 * k)]? = some (10, ws) := px_ne hf1__11___3___k_ (by omega)
    have hf2__12___3___k_ : (((hp.set (10 + 3 * k) (1, [.int (nI W), .int (nI V), .ref (11 + 3 * k), .ref (12 + 3 * k), .int (nI N), .int (nI wl.length), .int (nI c), .long sh]))).set (10 + 3 * k) (1, [.int (nI W), .int (nI V), .ref (11 + 3 * k), .ref (12 + 3 * k), .int (nI N), .int (nI wl.length), .int 0, .long sh]))[(12 + 3 * k)]? = some (11, st) := px_ne hf1__12___3___k_ (by omega)
    show px_Gx _ _ (20, [(0, .ref (10 + 3 * k)), (1, .long sh)], [], (((hp.set (10 + 3 * k) (1, [.int (nI W), .int (nI V), .ref (11 + 3 * k), .ref (12 + 3 * k), .int (nI N), .int (nI wl.length), .int (nI c), .long sh]))).set (10 + 3 * k) (1, [.int (nI W), .int (nI V), .ref (11 + 3 * k), .ref (12 + 3 * k), .int (nI N), .int (nI wl.length), .int 0, .long sh]))) _
    refine px_gx (fun _ K9 => px_a 2 (f' := (22, [(3, .int 0), (0, .ref (10 + 3 * k)), (1, .long sh)], [], (((hp.set (10 + 3 * k) (1, [.int (nI W), .int (nI V), .ref (11 + 3 * k), .ref (12 + 3 * k), .int (nI N), .int (nI wl.length), .int (nI c), .long sh]))).set (10 + 3 * k) (1, [.int (nI W), .int (nI V), .ref (11 + 3 * k), .ref (12 + 3 * k), .int (nI N), .int (nI wl.length), .int 0, .long sh])))) rfl K9) ?_
    obtain ⟨o2, hp2, g2, e2, c2, b1, b2⟩ := c_prl (d := d) (hp0 := hp) (sh := sh) (N := N) hW hV hC nd tot l8 rep wl.length 0 (by omega) _ 0 hf2__11___3___k_ (Nat.zero_le _) ⟨st, fun _ => 0, hf2__10___3___k_, hf2__12___3___k_, hr.1, fun j hj => absurd hj (Nat.not_lt_zero j), fun j hj => absurd hj (Nat.not_lt_zero j), fun i j _ hj => absurd hj (Nat.not_lt_zero j), fun S => ⟨fun ⟨P, hP, _⟩ => by rw [List.take_zero] at hP; exact absurd hP List.not_mem_nil, fun ⟨i, hi, _⟩ => absurd hi (Nat.not_lt_zero i)⟩⟩ (fun a h1 h2 => by rw [List.getElem?_set_ne (Ne.symm h1), List.getElem?_set_ne (Ne.symm h1)])
    exact ⟨o2, hp2, g2, e2, c2, b1, b2⟩
