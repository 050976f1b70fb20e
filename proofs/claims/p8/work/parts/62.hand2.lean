theorem px_gx {d j : Nat} {f f' : px_F} {P : px_O → px_H → Prop} (h : ∀ r, px_Go d j f' r → px_Go d j f r) (K : px_Gx d j f' P) : px_Gx d j f P := by
  obtain ⟨o, hp', h1, h2⟩ := K
  exact ⟨o, hp', h _ h1, h2⟩
theorem px_irem {d j pc : Nat} {lv : px_L} {hp : px_H} {rs : List Value} {x y : Int32} {r : px_E} (hi : px_ins (px_tab j) pc = some .irem) (hy : ¬ y = 0) (K : px_Go d j (pc + 1, lv, .int (x - x / y * y) :: rs, hp) r) : px_Go d j (pc, lv, .int y :: .int x :: rs, hp) r :=
  px_r hi (by simp only [px_step, px_iz, if_neg hy]; rfl) K
theorem px_idiv {d j pc : Nat} {lv : px_L} {hp : px_H} {rs : List Value} {x y : Int32} {r : px_E} (hi : px_ins (px_tab j) pc = some .idiv) (hy : ¬ y = 0) (K : px_Go d j (pc + 1, lv, .int (x / y) :: rs, hp) r) : px_Go d j (pc, lv, .int y :: .int x :: rs, hp) r :=
  px_r hi (by simp only [px_step, px_iz, if_neg hy]; rfl) K
theorem pa_ne0 {y : Int32} (h : y.toInt ≠ 0) : ¬ y = 0 := fun e => h (by rw [e]; rfl)
theorem pa_nb {x : Int32} (h1 : 0 ≤ x.toInt) (h2 : x.toInt ≤ 1) : narrow .boolean (.int x) = .int x := by
  rcases pa_01 h1 h2 with rfl | rfl <;> rfl
theorem i32_neg {x : Int32} (h : -2147483647 ≤ x.toInt) : (-x).toInt = - x.toInt := by
  rw [Int32.toInt_neg]
  have := Int32.toInt_lt x
  dsimp only [Int.bmod]
  split <;> omega
theorem i32_mulL {a b : Int32} {c : Int} (ha : a.toInt = c) (h1 : -2147483648 ≤ c * b.toInt) (h2 : c * b.toInt ≤ 2147483647) : (a * b).toInt = c * b.toInt := by
  subst ha
  exact i32_mul h1 h2
theorem i32_mulR {a b : Int32} {c : Int} (hb : b.toInt = c) (h1 : -2147483648 ≤ a.toInt * c) (h2 : a.toInt * c ≤ 2147483647) : (a * b).toInt = a.toInt * c := by
  subst hb
  exact i32_mul h1 h2
theorem pa_lgk {n : Nat} (x : Int64) : pa_gv n pa_lg (.long x) := ⟨x, rfl⟩
theorem pa_gr0 {n : Nat} {v : Option Value} (h : pa_gr n none v) : v = none := by
  cases v with
  | none => rfl
  | some x => exact h.elim
theorem pa_gri {n : Nat} {lo hi : Int} {v : Option Value} (h : pa_gr n (some (pa_i lo hi)) v) : ∃ x : Int32, v = some (.int x) ∧ lo ≤ x.toInt ∧ x.toInt ≤ hi := by
  cases v with
  | none => exact h.elim
  | some x =>
    obtain ⟨y, rfl, h1, h2⟩ := h
    rw [pa_ev_0] at h1 h2
    exact ⟨y, rfl, h1, h2⟩
theorem pa_grl {n : Nat} {v : Option Value} (h : pa_gr n (some pa_lg) v) : ∃ x : Int64, v = some (.long x) := by
  cases v with
  | none => exact h.elim
  | some x =>
    obtain ⟨y, rfl⟩ := h
    exact ⟨y, rfl⟩
theorem pa_ara {n : Nat} {hp : px_H} {a i t : Nat} {len lo hi : Int} (H : pa_Hi n hp) (ha : a = 32 + n + i) (hi20 : i ≤ 20) (h1 : i ≠ 1) (hs : pa_rs (18 + i) = (t, .inr ((len, 0), pa_i lo hi))) : ∃ vs, hp[a]? = some (t, vs) ∧ (vs.length : Int) = len ∧ ∀ k, k < vs.length → ∃ x : Int32, vs[k]? = some (.int x) ∧ lo ≤ x.toInt ∧ x.toInt ≤ hi := by
  subst ha
  exact pa_ari H hi20 h1 hs
theorem pa_arl {n : Nat} {hp : px_H} {a i t : Nat} {len : Int} (H : pa_Hi n hp) (ha : a = 32 + n + i) (hi20 : i ≤ 20) (h1 : i ≠ 1) (hs : pa_rs (18 + i) = (t, .inr ((len, 0), pa_lg))) : ∃ vs, hp[a]? = some (t, vs) ∧ (vs.length : Int) = len ∧ ∀ k, k < vs.length → ∃ x : Int64, vs[k]? = some (.long x) := by
  subst ha
  obtain ⟨vs, e1, e2⟩ := pa_Hi_get H (pa_rgm' hi20 h1) (by omega)
  rw [hs] at e1 e2
  obtain ⟨e3, e4⟩ := e2
  refine ⟨vs, e1, by rw [e3, pa_ev_0], ?_⟩
  intro k hk
  obtain ⟨x, hx⟩ := e4 vs[k] (List.getElem_mem hk)
  exact ⟨x, by rw [List.getElem?_eq_getElem hk, hx]⟩
theorem pa_aS {n : Nat} {hp : px_H} {a i t k : Nat} {vs : List Value} {v : Value} {q : pa_B × pa_V} (H : pa_Hi n hp) (ha : a = 32 + n + i) (hi20 : i ≤ 20) (h1 : i ≠ 1) (hh : hp[a]? = some (t, vs)) (hs : pa_rs (18 + i) = (t, .inr q)) (hv : pa_gv n q.2 v) : pa_Hi n (hp.set a (t, vs.set k v)) := by
  subst ha
  refine pa_Hi_set H (pa_rgm' hi20 h1) (by omega) hh ?_ (by omega)
  rw [hs]
  exact hv
theorem pa_aF {n : Nat} {M : pa_M} {hp : px_H} {a i t k : Nat} {vs : List Value} {v : Value} (ha : a = 32 + n + i) (hi20 : i ≤ 20) (h1 : i ≠ 1) (hh : hp[a]? = some (t, vs)) (ht : 10 ≤ t) (hM : (18 + i, 0) ∈ M) : pa_Fr n M hp (hp.set a (t, vs.set k v)) := by
  subst ha
  refine pa_Fr_set hh ?_
  rw [if_neg (by omega), pa_rgm' hi20 h1]
  exact hM
theorem m_size_l {d n : Nat} {hp : px_H} {th w h pn pl fo le ru : Int32} {cc : Int32} (hm : hp[38 + n]? = some (4, [.int th, .int w, .int h, .ref (39 + n), .int pn, .ref (40 + n), .ref (41 + n), .ref (42 + n), .int pl, .ref (43 + n), .ref (44 + n), .ref (45 + n), .ref (46 + n), .int fo, .ref (47 + n), .int le, .ref (48 + n), .int ru, .ref (49 + n), .ref (50 + n), .ref (51 + n)])) (bth1 : 0 ≤ th.toInt) (bth2 : th.toInt ≤ 2) (bw1 : 1 ≤ w.toInt) (bw2 : w.toInt ≤ 6) (bh1 : 1 ≤ h.toInt) (bh2 : h.toInt ≤ 6) (bpn1 : 0 ≤ pn.toInt) (bpn2 : pn.toInt ≤ 6) (bpl1 : 0 ≤ pl.toInt) (bpl2 : pl.toInt ≤ 512) (bfo1 : 0 ≤ fo.toInt) (bfo2 : fo.toInt ≤ 1) (ble1 : 0 ≤ le.toInt) (ble2 : le.toInt ≤ 200) (bru1 : 0 ≤ ru.toInt) (bru2 : ru.toInt ≤ 200) (hcc : cc = w * h) (hc1 : 0 ≤ cc.toInt) (hc2 : cc.toInt ≤ 36) (H : pa_Hi n hp) : ∀ (k : Nat) (x y : Int32), (x.toInt + k : Int) = cc.toInt + 1 → 0 ≤ y.toInt → y.toInt ≤ x.toInt → x.toInt ≤ cc.toInt → px_Gx (d + 1) 92 (4, [(2, .int x), (1, .int y), (0, .ref (38 + n))], [], hp) (fun o hp' => ∃ z : Int32, o = .inl (some (.int z)) ∧ hp' = hp ∧ 0 ≤ z.toInt ∧ z.toInt ≤ 36) := by
  have cl0 : Int32.toInt 0 = 0 := rfl
  have cl1 : Int32.toInt 1 = 1 := rfl
  intro k
  induction k with
  | zero =>
    intro x y h1 h2 h3 h4
    omega
  | succ k ih =>
    intro x y h1 h2 h3 h4
    refine px_gx (fun _ K => px_a 2 (f' := (6, [(2, .int x), (1, .int y), (0, .ref (38 + n))], [.ref (38 + n), .int x], hp)) rfl K) ?_
    refine px_gx (fun _ K => px_cv (38 + n) (as := []) (rest := [.int x]) rfl rfl hm rfl rfl rfl rfl (Nat.le_of_ble_eq_true rfl) (p_cells hm) K) ?_
    show px_Gx _ _ (9, [(2, .int x), (1, .int y), (0, .ref (38 + n))], [.int (w * h), .int x], hp) _
    rw [← hcc]
    show px_Gx _ _ (9, [(2, .int x), (1, .int y), (0, .ref (38 + n))], [.int cc, .int x], hp) _
    by_cases h1 : cc ≤ x
    · have h1' := h1
      rw [Int32.le_iff_toInt_le] at h1'
      refine px_gx (fun _ K => px_b2 true 35 rfl rfl (decide_eq_true h1) K) ?_
      show px_Gx _ _ (35, [(2, .int x), (1, .int y), (0, .ref (38 + n))], [], hp) _
      refine px_gx (fun _ K => px_a 1 (f' := (36, [(2, .int x), (1, .int y), (0, .ref (38 + n))], [.int y], hp)) rfl K) ?_
      exact ⟨_, _, px_ri rfl rfl rfl, y, rfl, rfl, by omega, by omega⟩
    · have h1' := h1
      rw [Int32.le_iff_toInt_le] at h1'
      refine px_gx (fun _ K => px_b2 false 35 rfl rfl (decide_eq_false h1) K) ?_
      show px_Gx _ _ (12, [(2, .int x), (1, .int y), (0, .ref (38 + n))], [], hp) _
      refine px_gx (fun _ K => px_a 2 (f' := (14, [(2, .int x), (1, .int y), (0, .ref (38 + n))], [.ref (38 + n), .int y], hp)) rfl K) ?_
      refine px_gx (fun _ K => px_gf (38 + n) 7 4 3 (.ref (39 + n)) rfl rfl hm rfl K) ?_
      show px_Gx _ _ (17, [(2, .int x), (1, .int y), (0, .ref (38 + n))], [.ref (39 + n), .int y], hp) _
      refine px_gx (fun _ K => px_a 1 (f' := (18, [(2, .int x), (1, .int y), (0, .ref (38 + n))], [.int x, .ref (39 + n), .int y], hp)) rfl K) ?_
      obtain ⟨vs3, hv3, hl3, hg3⟩ := pa_ara (a := 39 + n) (i := 7) (lo := 0) (hi := 1) H (by omega) (by decide) (by decide) rfl
      have hi2 : x.toNatClampNeg < vs3.length := by show (Int32.toInt x).toNat < _; omega
      obtain ⟨z2, ez2, lz2, uz2⟩ := hg3 _ hi2
      refine px_gx (fun _ K => px_al (39 + n) (.int z2) rfl hv3 (Or.inr (Or.inr (Or.inl ⟨rfl, rfl⟩))) (i32_nn (by omega)) ez2 K) ?_
      show px_Gx _ _ (19, [(2, .int x), (1, .int y), (0, .ref (38 + n))], [.int z2, .int y], hp) _
      by_cases h4 : z2 = 0
      · have h4' := h4
        replace h4' := congrArg Int32.toInt h4
        refine px_gx (fun _ K => px_b1 true 26 rfl rfl (decide_eq_true h4) K) ?_
        show px_Gx _ _ (26, [(2, .int x), (1, .int y), (0, .ref (38 + n))], [.int y], hp) _
        refine px_gx (fun _ K => px_a 2 (f' := (28, [(2, .int x), (1, .int y), (0, .ref (38 + n))], [.int (y + 0)], hp)) rfl K) ?_
        obtain ⟨z5, ez5, fz5⟩ : ∃ q : Int32, q = y + 0 ∧ q.toInt = Int32.toInt y + Int32.toInt 0 := ⟨_, rfl, i32_add (by omega) (by omega)⟩
        rw [← ez5]
        refine px_gx (fun _ K => px_a 2 (f' := (32, [(2, .int (x + 1)), (1, .int z5), (0, .ref (38 + n))], [], hp)) rfl K) ?_
        obtain ⟨z6, ez6, fz6⟩ : ∃ q : Int32, q = x + 1 ∧ q.toInt = Int32.toInt x + Int32.toInt 1 := ⟨_, rfl, i32_add (by omega) (by omega)⟩
        rw [← ez6]
        refine px_gx (fun _ K => px_a 1 (f' := (4, [(2, .int z6), (1, .int z5), (0, .ref (38 + n))], [], hp)) rfl K) ?_
        exact ih z6 z5 (by omega) (by omega) (by omega) (by omega)
      · have h4' := h4
        have h4'' : Int32.toInt z2 ≠ Int32.toInt 0 := fun z => h4 (Int32.toInt_inj.mp z)
        refine px_gx (fun _ K => px_b1 false 26 rfl rfl (decide_eq_false h4) K) ?_
        show px_Gx _ _ (22, [(2, .int x), (1, .int y), (0, .ref (38 + n))], [.int y], hp) _
        refine px_gx (fun _ K => px_a 3 (f' := (28, [(2, .int x), (1, .int y), (0, .ref (38 + n))], [.int (y + 1)], hp)) rfl K) ?_
        obtain ⟨z7, ez7, fz7⟩ : ∃ q : Int32, q = y + 1 ∧ q.toInt = Int32.toInt y + Int32.toInt 1 := ⟨_, rfl, i32_add (by omega) (by omega)⟩
        rw [← ez7]
        refine px_gx (fun _ K => px_a 2 (f' := (32, [(2, .int (x + 1)), (1, .int z7), (0, .ref (38 + n))], [], hp)) rfl K) ?_
        obtain ⟨z8, ez8, fz8⟩ : ∃ q : Int32, q = x + 1 ∧ q.toInt = Int32.toInt x + Int32.toInt 1 := ⟨_, rfl, i32_add (by omega) (by omega)⟩
        rw [← ez8]
        refine px_gx (fun _ K => px_a 1 (f' := (4, [(2, .int z8), (1, .int z7), (0, .ref (38 + n))], [], hp)) rfl K) ?_
        exact ih z8 z7 (by omega) (by omega) (by omega) (by omega)
def ck_92 : pa_K := ([pa_rf 24], some (pa_i 0 36), false, [])
theorem m_mul6 {w h : Int32} (w1 : 1 ≤ w.toInt) (w2 : w.toInt ≤ 6) (h1 : 1 ≤ h.toInt) (h2 : h.toInt ≤ 6) : (w * h).toInt = w.toInt * h.toInt ∧ 1 ≤ (w * h).toInt ∧ (w * h).toInt ≤ 36 := by
  have p1 : w.toInt * h.toInt ≤ 6 * 6 := Int.mul_le_mul w2 h2 (by omega) (by omega)
  have p0 : 1 * 1 ≤ w.toInt * h.toInt := Int.mul_le_mul w1 h1 (by omega) (by omega)
  have e := i32_mul (a := w) (b := h) (by omega) (by omega)
  rw [e]
  omega
theorem ct_92 {n : Nat} (_ : pa_N n) : pa_Ct pa_tb n 92 ck_92 2 := by
  intro as hp H ha
  obtain ⟨u0, us0, rfl, ⟨a, rfl, ha24, -⟩, ha1⟩ := pa_as1 ha
  obtain rfl := pa_g24 ha24
  obtain rfl := pa_as0 ha1
  obtain ⟨th, w, h, pn, pl, fo, le, ru, hm, bth1, bth2, bw1, bw2, bh1, bh2, bpn1, bpn2, bpl1, bpl2, bfo1, bfo2, ble1, ble2, bru1, bru2⟩ := pa_mod H
  obtain ⟨e1, e2, e3⟩ := m_mul6 bw1 bw2 bh1 bh2
  obtain ⟨o, hp', hg, z, rfl, rfl, z1, z2⟩ := m_size_l (d := 1) (n := n) (cc := w * h) hm bth1 bth2 bw1 bw2 bh1 bh2 bpn1 bpn2 bpl1 bpl2 bfo1 bfo2 ble1 ble2 bru1 bru2 rfl (by omega) (by omega) H ((w * h).toInt.toNat + 1) 0 0 (by have e0 : Int32.toInt 0 = 0 := rfl; omega) (by decide) (by decide) (by have e0 : Int32.toInt 0 = 0 := rfl; omega)
  refine ⟨.inl (some (.int z)), _, ?_, ⟨H, pa_Fr.refl _, Or.inl ⟨_, rfl, pa_in z1 z2, rfl⟩⟩, Or.inl rfl⟩
  show px_Go 2 92 (0, [(0, .ref (38 + n))], [], _) _
  refine px_a 4 (f' := (4, [(2, .int 0), (1, .int 0), (0, .ref (38 + n))], [], _)) rfl ?_
  exact hg
