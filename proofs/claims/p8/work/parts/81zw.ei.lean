def h_Q (n m : Nat) (hp : px_H) (A : (Nat → Int) → Prop) : Prop := ∃ kd kr, h_H n hp kd kr ∧ h_R m kd kr ∧ (∀ w, h_S m kd kr w ↔ A w) ∧ ∃ xv : List Value, hp[46 + n]? = some (10, xv) ∧ xv.length = 37
theorem h_Q_c {n m : Nat} {hp : px_H} {A B : (Nat → Int) → Prop} (e : ∀ w, A w ↔ B w) (h : h_Q n m hp A) : h_Q n m hp B := by
  obtain ⟨kd, kr, a1, a2, a3, a4⟩ := h
  exact ⟨kd, kr, a1, a2, fun w => (a3 w).trans (e w), a4⟩
theorem h_Q_m {n m : Nat} {hp hp' : px_H} {A : (Nat → Int) → Prop} (h4 : hp'[44 + n]? = hp[44 + n]?) (h5 : hp'[45 + n]? = hp[45 + n]?) {xv : List Value} (h6 : hp'[46 + n]? = some (10, xv)) (l6 : xv.length = 37) (h : h_Q n m hp A) : h_Q n m hp' A := by
  obtain ⟨kd, kr, ⟨⟨kv, b1, b2⟩, ks, b3, b4⟩, a2, a3, -⟩ := h
  exact ⟨kd, kr, ⟨⟨kv, h4.trans b1, b2⟩, ks, h5.trans b3, b4⟩, a2, a3, xv, h6, l6⟩
theorem h_kq {n m : Nat} {hp : px_H} {kd : Nat → Bool} {kr : Nat → Nat → Nat} (m14 : 2 ≤ m ∧ m < 14) (hh : h_H n hp kd kr) (G : h_R m kd kr) : m_kq n (nI m).toInt hp 36 37 := by
  obtain ⟨⟨kv, hk, lk, hkv⟩, ks, hks, lks, hkr⟩ := hh
  intro us vs h1 h2 c hc hu
  rw [hk] at h1
  cases h1
  rw [hks] at h2
  cases h2
  rw [if_neg (by omega)]
  have hl : kd c = true := by
    rw [hkv c hc] at hu
    cases e : kd c
    · rw [e] at hu
      cases hu
    · rfl
  obtain ⟨g1, g2, g3⟩ := G c hc hl
  intro k hk2
  have e3 := g3 k hk2
  refine ⟨nI (kr c k), hkr c hc hl k hk2, ?_, ?_, fun z => ?_⟩
  · rw [nI_toInt (by omega)]
    omega
  · rw [nI_toInt (by omega), nI_toInt (by omega)]
    omega
  · subst z
    rw [nI_toInt (by omega)]
    omega
def h_x (s : Int64) (b d : Nat) : Nat := if d = 36 then b else g_bt s d
theorem h_xS {m b : Nat} {s : Int64} {w : Nat → Int} : e_S m 36 (fun d => (h_x s b d : Int)) (h_x s b 36 : Nat) w ↔ e_S m 36 (fun d => (g_bt s d : Int)) b w := by
  unfold e_S
  have e1 : h_x s b 36 = b := if_pos rfl
  have e2 : e_d (fun d => (h_x s b d : Int)) w 36 = e_d (fun d => (g_bt s d : Int)) w 36 := e_d_c 36 (fun c hc => by
    show ((h_x s b c : Nat) : Int) * w c = _
    unfold h_x
    rw [if_neg (by omega)])
  rw [e1, e2]
theorem k_keepQ {d0 n m b : Nat} {s : Int64} {th w h pn pl fo le ru : Int32} (pm : m = 2 ∨ m = 3 ∨ m = 5 ∨ m = 7 ∨ m = 11 ∨ m = 13) {A : (Nat → Int) → Prop} {hp : px_H} {xv : List Value} (hb : b ≤ 1) (H : pa_Hi n hp) (hm : hp[38 + n]? = some (4, m_O n th w h pn pl fo le ru)) (q : h_Q n m hp A) (hx : hp[46 + n]? = some (10, xv)) (lx : xv.length = 37) (hxx : ∀ d, d < 36 → xv[d]? = some (.int (nI (g_bt s d)))) (hxb : xv[36]? = some (.int (nI b))) : ∃ (z : Int32) (hp1 : px_H), px_Go (d0 + 1) 82 (0, [(0, .ref (38 + n)), (1, .int (nI m))], [], hp) (.inl (some (.int z)), hp1) ∧ pa_Hi n hp1 ∧ (∀ a, a ≠ 44 + n → a ≠ 45 + n → a ≠ 46 + n → hp1[a]? = hp[a]?) ∧ ((z = 1 ∧ h_Q n m hp1 (fun w => A w ∧ e_S m 36 (fun d => (g_bt s d : Int)) b w) ∧ ∃ w, A w ∧ e_S m 36 (fun d => (g_bt s d : Int)) b w) ∨ (z = 0 ∧ ∀ w, A w → ¬ e_S m 36 (fun d => (g_bt s d : Int)) b w)) := by
  have m14 := g_pm pm
  have em : (nI m).toInt = m := nI_toInt (by omega)
  obtain ⟨kd, kr, a1, a2, a3, -⟩ := q
  have hx2 : ∀ d, d < 37 → xv[d]? = some (.int (nI (h_x s b d))) := fun d hd => by
    unfold h_x
    by_cases e : d = 36
    · rw [if_pos e, e]
      exact hxb
    · rw [if_neg e]
      exact hxx d (by omega)
  have xm : ∀ d, d < 37 → h_x s b d < m := fun d hd => by
    unfold h_x
    have := g_bt_le s d
    split <;> omega
  obtain ⟨o, hp1, g, sm, kx, cx⟩ := k_kX (d0 := d0) (x0 := h_x s b) pm a2 hm a1 hx lx hx2 xm
  obtain ⟨o2, hp2, g2, ⟨H2, G2, -⟩, -⟩ := m_keep (d := d0) (p := nI m) (by rw [em]; unfold m_pr; omega) hm H (fun vs hv k hk => by
    rw [hx] at hv
    cases hv
    have x1 := xm k hk
    exact ⟨_, hx2 k hk, by rw [nI_toInt (by omega)]; omega, by rw [em, nI_toInt (by omega)]; omega⟩) (h_kq m14 a1 a2)
  have e2 := px_det g g2
  cases e2
  rcases cx with ⟨rfl, kd', kr', b1, b2, b3⟩ | ⟨rfl, -, b3⟩
  · have e : ∀ w, h_S m kd' kr' w ↔ A w ∧ e_S m 36 (fun d => (g_bt s d : Int)) b w := fun w => (b3 w).trans (and_congr (a3 w) h_xS)
    obtain ⟨w, hw⟩ := h_sat pm b2
    exact ⟨1, hp1, g, H2, sm, Or.inl ⟨rfl, ⟨kd', kr', b1, b2, e, kx⟩, w, (e w).mp hw⟩⟩
  · exact ⟨0, hp1, g, H2, sm, Or.inr ⟨rfl, fun w hA he => b3 w ((a3 w).mpr hA) (h_xS.mpr he)⟩⟩
set_option maxRecDepth 20000 in
theorem q_fill {d0 n m c0 k p : Nat} {th w h pn fo le ru : Int32} {s : Int64} {st1 : List Value} {hp0 : px_H} {Q : px_O → px_H → Prop} (k512 : k < 512) (hst : st1[k]? = some (.long s)) (K : ∀ (hp : px_H) (xv : List Value), pa_Hi n hp → hp[46 + n]? = some (10, xv) → xv.length = 37 → (∀ d, d < 36 → xv[d]? = some (.int (nI (g_bt s d)))) → (∀ a, a ≠ 46 + n → hp[a]? = hp0[a]?) → px_Gx d0 75 (81, [(3, .int (nI k)), (2, .int (nI p)), (0, .ref (38 + n)), (1, .int (nI m))], [], hp) Q) : ∀ q c, c + q = 36 → ∀ (hp : px_H) (xv : List Value) (H : pa_Hi n hp) (hm : hp[38 + n]? = some (4, m_O n th w h pn (nI c0) fo le ru)) (hs1 : hp[43 + n]? = some (11, st1)) (hx : hp[46 + n]? = some (10, xv)) (lx : xv.length = 37) (f1 : ∀ d, d < c → xv[d]? = some (.int (nI (g_bt s d)))) (sm : ∀ a, a ≠ 46 + n → hp[a]? = hp0[a]?), px_Gx d0 75 (49, [(4, .int (nI c)), (3, .int (nI k)), (2, .int (nI p)), (0, .ref (38 + n)), (1, .int (nI m))], [], hp) Q := by
  intro q
  induction q with
  | zero =>
    intro c hq0 hp xv H hm hs1 hx lx f1 sm
    refine px_gx (fun _ K9 => px_a 2 (f' := (53, [(4, .int (nI c)), (3, .int (nI k)), (2, .int (nI p)), (0, .ref (38 + n)), (1, .int (nI m))], [.int 36, .int (nI c)], hp)) rfl K9) ?_
    refine px_gx (fun _ K9 => px_b2 true 81 rfl rfl (decide_eq_true (show nI 36 ≤ nI c by rw [Int32.le_iff_toInt_le, nI_toInt (by omega), nI_toInt (by omega)]; omega)) K9) ?_
    show px_Gx _ _ (81, [(4, .int (nI c)), (3, .int (nI k)), (2, .int (nI p)), (0, .ref (38 + n)), (1, .int (nI m))], [], hp) _
    exact px_wk [(3, .int (nI k)), (2, .int (nI p)), (0, .ref (38 + n)), (1, .int (nI m))] ⟨rfl, rfl, rfl, rfl, trivial⟩ (K hp xv H hx lx (fun d hd => f1 d (by omega)) sm)
  | succ q ih =>
    intro c hq0 hp xv H hm hs1 hx lx f1 sm
    refine px_gx (fun _ K9 => px_a 2 (f' := (53, [(4, .int (nI c)), (3, .int (nI k)), (2, .int (nI p)), (0, .ref (38 + n)), (1, .int (nI m))], [.int 36, .int (nI c)], hp)) rfl K9) ?_
    refine px_gx (fun _ K9 => px_b2 false 81 rfl rfl (decide_eq_false (show ¬ nI 36 ≤ nI c by rw [Int32.le_iff_toInt_le, nI_toInt (by omega), nI_toInt (by omega)]; omega)) K9) ?_
    show px_Gx _ _ (56, [(4, .int (nI c)), (3, .int (nI k)), (2, .int (nI p)), (0, .ref (38 + n)), (1, .int (nI m))], [], hp) _
    refine px_gx (fun _ K9 => px_a 1 (f' := (57, [(4, .int (nI c)), (3, .int (nI k)), (2, .int (nI p)), (0, .ref (38 + n)), (1, .int (nI m))], [.ref (38 + n)], hp)) rfl K9) ?_
    refine px_gx (fun _ K9 => px_gf (38 + n) 33 4 12 (.ref (46 + n)) rfl rfl hm rfl K9) ?_
    show px_Gx _ _ (60, [(4, .int (nI c)), (3, .int (nI k)), (2, .int (nI p)), (0, .ref (38 + n)), (1, .int (nI m))], [.ref (46 + n)], hp) _
    refine px_gx (fun _ K9 => px_a 2 (f' := (63, [(4, .int (nI c)), (3, .int (nI k)), (2, .int (nI p)), (0, .ref (38 + n)), (1, .int (nI m))], [.ref (38 + n), .int (nI c), .ref (46 + n)], hp)) rfl K9) ?_
    refine px_gx (fun _ K9 => px_gf (38 + n) 23 4 9 (.ref (43 + n)) rfl rfl hm rfl K9) ?_
    show px_Gx _ _ (66, [(4, .int (nI c)), (3, .int (nI k)), (2, .int (nI p)), (0, .ref (38 + n)), (1, .int (nI m))], [.ref (43 + n), .int (nI c), .ref (46 + n)], hp) _
    refine px_gx (fun _ K9 => px_a 1 (f' := (67, [(4, .int (nI c)), (3, .int (nI k)), (2, .int (nI p)), (0, .ref (38 + n)), (1, .int (nI m))], [.int (nI k), .ref (43 + n), .int (nI c), .ref (46 + n)], hp)) rfl K9) ?_
    refine px_gx (fun _ K9 => px_al (43 + n) (.long s) rfl hs1 (Or.inr (Or.inl ⟨rfl, rfl⟩)) (nI_pos (by omega)) (by rw [nI_clamp (by omega)]; exact hst) K9) ?_
    show px_Gx _ _ (68, [(4, .int (nI c)), (3, .int (nI k)), (2, .int (nI p)), (0, .ref (38 + n)), (1, .int (nI m))], [.long s, .int (nI c), .ref (46 + n)], hp) _
    refine px_gx (fun _ K9 => px_a 5 (f' := (74, [(4, .int (nI c)), (3, .int (nI k)), (2, .int (nI p)), (0, .ref (38 + n)), (1, .int (nI m))], [.int (Int64.toInt32 ((s >>> (Int32.toInt64 (nI c) &&& 63)) &&& 1)), .int (nI c), .ref (46 + n)], hp)) rfl K9) ?_
    have ev : (Int64.toInt32 ((s >>> (Int32.toInt64 (nI c) &&& 63)) &&& 1)) = (nI (g_bt s c)) := g_btv (by omega)
    show px_Gx _ _ (74, [(4, .int (nI c)), (3, .int (nI k)), (2, .int (nI p)), (0, .ref (38 + n)), (1, .int (nI m))], [.int (Int64.toInt32 ((s >>> (Int32.toInt64 (nI c) &&& 63)) &&& 1)), .int (nI c), .ref (46 + n)], hp) _
    rw [ev]
    show px_Gx _ _ (74, [(4, .int (nI c)), (3, .int (nI k)), (2, .int (nI p)), (0, .ref (38 + n)), (1, .int (nI m))], [.int (nI (g_bt s c)), .int (nI c), .ref (46 + n)], hp) _
    refine px_gx (fun _ K9 => px_ias (46 + n) rfl hx (by omega) (nI_pos (by omega)) (by rw [nI_clamp (by omega)]; omega) K9) ?_
    have hf1__38___n_ : (hp.set (46 + n) (10, (xv.set (nI c).toNatClampNeg (.int (nI (g_bt s c))))))[(38 + n)]? = some (4, [.int th, .int w, .int h, .ref (39 + n), .int pn, .ref (40 + n), .ref (41 + n), .ref (42 + n), .int (nI c0), .ref (43 + n), .ref (44 + n), .ref (45 + n), .ref (46 + n), .int fo, .ref (47 + n), .int le, .ref (48 + n), .int ru, .ref (49 + n), .ref (50 + n), .ref (51 + n)]) := px_ne hm (by omega)
    have hf1__43___n_ : (hp.set (46 + n) (10, (xv.set (nI c).toNatClampNeg (.int (nI (g_bt s c))))))[(43 + n)]? = some (11, st1) := px_ne hs1 (by omega)
    have hf1__46___n_ : (hp.set (46 + n) (10, (xv.set (nI c).toNatClampNeg (.int (nI (g_bt s c))))))[(46 + n)]? = some (10, (xv.set (nI c).toNatClampNeg (.int (nI (g_bt s c))))) := px_self hx
    show px_Gx _ _ (75, [(4, .int (nI c)), (3, .int (nI k)), (2, .int (nI p)), (0, .ref (38 + n)), (1, .int (nI m))], [], (hp.set (46 + n) (10, (xv.set (nI c).toNatClampNeg (.int (nI (g_bt s c))))))) _
    refine px_gx (fun _ K9 => px_a 2 (f' := (49, [(4, .int ((nI c) + 1)), (3, .int (nI k)), (2, .int (nI p)), (0, .ref (38 + n)), (1, .int (nI m))], [], (hp.set (46 + n) (10, (xv.set (nI c).toNatClampNeg (.int (nI (g_bt s c)))))))) rfl K9) ?_
    rw [p_s16 c (by omega)]
    exact ih (c + 1) (by omega) _ _ (pa_aS (i := 14) H (by omega) (by decide) (by decide) hx rfl (pa_top_ok _)) hf1__38___n_ hf1__43___n_ hf1__46___n_ (by rw [List.length_set]; exact lx) (fun d hd => by
      rw [nI_clamp (by omega)]
      by_cases e : d = c
      · subst e
        exact List.getElem?_set_self (by omega)
      · rw [List.getElem?_set_ne (by omega)]
        exact f1 d (by omega)) (fun a ha => (List.getElem?_set_ne (Ne.symm ha)).trans (sm a ha))
set_option maxRecDepth 20000 in
theorem q_pl {d0 n m c0 p : Nat} {th w h pn fo le ru : Int32} {st1 : List Value} {f : Nat → Nat} {hp0 : px_H} {Q : px_O → px_H → Prop} (pm : m = 2 ∨ m = 3 ∨ m = 5 ∨ m = 7 ∨ m = 11 ∨ m = 13) (c512 : c0 ≤ 512) (r1 : ∀ j, j < c0 → st1[j]? = some (.long (lN (f j)))) : ∀ t k, k + t = c0 → ∀ (hp : px_H) (A : (Nat → Int) → Prop) (H : pa_Hi n hp) (hm : hp[38 + n]? = some (4, m_O n th w h pn (nI c0) fo le ru)) (hs1 : hp[43 + n]? = some (11, st1)) (q : h_Q n m hp A) (A0 : A (fun _ => 0)) (sm : ∀ a, a ≠ 44 + n → a ≠ 45 + n → a ≠ 46 + n → hp[a]? = hp0[a]?), (∀ hp', pa_Hi n hp' → (∀ a, a ≠ 44 + n → a ≠ 45 + n → a ≠ 46 + n → hp'[a]? = hp0[a]?) → h_Q n m hp' (fun w => A w ∧ ∀ i, k ≤ i → i < c0 → e_S m 36 (fun d => (g_bt (lN (f i)) d : Int)) 0 w) → px_Gx (d0 + 2) 75 (101, [(2, .int (nI p)), (0, .ref (38 + n)), (1, .int (nI m))], [], hp') Q) → px_Gx (d0 + 2) 75 (38, [(3, .int (nI k)), (2, .int (nI p)), (0, .ref (38 + n)), (1, .int (nI m))], [], hp) Q := by
  intro t
  induction t with
  | zero =>
    intro k hq0 hp A H hm hs1 q A0 sm K
    obtain ⟨xv, hx, lx⟩ : ∃ xv : List Value, hp[46 + n]? = some (10, xv) ∧ xv.length = 37 := by
      obtain ⟨kd, kr, -, -, -, z⟩ := q
      exact z
    refine px_gx (fun _ K9 => px_a 2 (f' := (40, [(3, .int (nI k)), (2, .int (nI p)), (0, .ref (38 + n)), (1, .int (nI m))], [.ref (38 + n), .int (nI k)], hp)) rfl K9) ?_
    refine px_gx (fun _ K9 => px_gf (38 + n) 80 4 8 (.int (nI c0)) rfl rfl hm rfl K9) ?_
    show px_Gx _ _ (43, [(3, .int (nI k)), (2, .int (nI p)), (0, .ref (38 + n)), (1, .int (nI m))], [.int (nI c0), .int (nI k)], hp) _
    refine px_gx (fun _ K9 => px_b2 true 101 rfl rfl (decide_eq_true (show nI c0 ≤ nI k by rw [Int32.le_iff_toInt_le, nI_toInt (by omega), nI_toInt (by omega)]; omega)) K9) ?_
    show px_Gx _ _ (101, [(3, .int (nI k)), (2, .int (nI p)), (0, .ref (38 + n)), (1, .int (nI m))], [], hp) _
    exact px_wk [(2, .int (nI p)), (0, .ref (38 + n)), (1, .int (nI m))] ⟨rfl, rfl, rfl, trivial⟩ (K hp H sm (h_Q_c (fun w => ⟨fun z => ⟨z, fun i h1 h2 => absurd h1 (by omega)⟩, fun z => z.1⟩) q))
  | succ t ih =>
    intro k hq0 hp A H hm hs1 q A0 sm K
    have hk : k < c0 := by omega
    obtain ⟨xv, hx, lx⟩ : ∃ xv : List Value, hp[46 + n]? = some (10, xv) ∧ xv.length = 37 := by
      obtain ⟨kd, kr, -, -, -, z⟩ := q
      exact z
    refine px_gx (fun _ K9 => px_a 2 (f' := (40, [(3, .int (nI k)), (2, .int (nI p)), (0, .ref (38 + n)), (1, .int (nI m))], [.ref (38 + n), .int (nI k)], hp)) rfl K9) ?_
    refine px_gx (fun _ K9 => px_gf (38 + n) 80 4 8 (.int (nI c0)) rfl rfl hm rfl K9) ?_
    show px_Gx _ _ (43, [(3, .int (nI k)), (2, .int (nI p)), (0, .ref (38 + n)), (1, .int (nI m))], [.int (nI c0), .int (nI k)], hp) _
    refine px_gx (fun _ K9 => px_b2 false 101 rfl rfl (decide_eq_false (show ¬ nI c0 ≤ nI k by rw [Int32.le_iff_toInt_le, nI_toInt (by omega), nI_toInt (by omega)]; omega)) K9) ?_
    show px_Gx _ _ (46, [(3, .int (nI k)), (2, .int (nI p)), (0, .ref (38 + n)), (1, .int (nI m))], [], hp) _
    refine px_gx (fun _ K9 => px_a 2 (f' := (49, [(4, .int 0), (3, .int (nI k)), (2, .int (nI p)), (0, .ref (38 + n)), (1, .int (nI m))], [], hp)) rfl K9) ?_
    refine px_wk [(4, .int (nI 0)), (3, .int (nI k)), (2, .int (nI p)), (0, .ref (38 + n)), (1, .int (nI m))] ⟨rfl, rfl, rfl, rfl, rfl, trivial⟩ ?_
    refine q_fill (d0 := d0 + 2) (hp0 := hp) (c0 := c0) (by omega) (r1 k hk) (fun hp2 xv2 H2 hx2 lx2 f2 sm2 => ?_) 36 0 (by omega) hp xv H hm hs1 hx lx (fun d hd => absurd hd (Nat.not_lt_zero d)) (fun a _ => rfl)
    · have hm2 := (sm2 _ (by omega)).trans hm
      have l36 : Int32.toNatClampNeg 36 < xv2.length := by show (36 : Nat) < xv2.length; omega
      have H3 : pa_Hi n (hp2.set (46 + n) (10, (xv2.set (36 : Int32).toNatClampNeg (.int 0)))) := pa_aS (i := 14) H2 (by omega) (by decide) (by decide) hx2 rfl (pa_top_ok _)
      have q3 : h_Q n m (hp2.set (46 + n) (10, (xv2.set (36 : Int32).toNatClampNeg (.int 0)))) A := h_Q_m ((List.getElem?_set_ne (by omega)).trans (sm2 _ (by omega))) ((List.getElem?_set_ne (by omega)).trans (sm2 _ (by omega))) (px_self hx2) (by rw [List.length_set]; exact lx2) q
      obtain ⟨z, hp3, g3, H4, sm4, cx⟩ := k_keepQ (d0 := d0) (b := 0) (s := lN (f k)) pm (by omega) H3 (px_ne hm2 (by omega)) q3 (px_self hx2) (by rw [List.length_set]; exact lx2) (fun d hd => by
        rw [List.getElem?_set_ne (show Int32.toNatClampNeg 36 ≠ d from by show (36 : Nat) ≠ d; omega)]
        exact f2 d hd) (List.getElem?_set_self l36)
      obtain ⟨rfl, q4, -⟩ := cx.resolve_right (fun z => z.2 _ A0 e_S00)
      show px_Gx _ _ (81, [(3, .int (nI k)), (2, .int (nI p)), (0, .ref (38 + n)), (1, .int (nI m))], [], hp2) _
      refine px_gx (fun _ K9 => px_a 1 (f' := (82, [(3, .int (nI k)), (2, .int (nI p)), (0, .ref (38 + n)), (1, .int (nI m))], [.ref (38 + n)], hp2)) rfl K9) ?_
      refine px_gx (fun _ K9 => px_gf (38 + n) 33 4 12 (.ref (46 + n)) rfl rfl hm2 rfl K9) ?_
      show px_Gx _ _ (85, [(3, .int (nI k)), (2, .int (nI p)), (0, .ref (38 + n)), (1, .int (nI m))], [.ref (46 + n)], hp2) _
      refine px_gx (fun _ K9 => px_a 2 (f' := (88, [(3, .int (nI k)), (2, .int (nI p)), (0, .ref (38 + n)), (1, .int (nI m))], [.int 0, .int 36, .ref (46 + n)], hp2)) rfl K9) ?_
      refine px_gx (fun _ K9 => px_ias (46 + n) rfl hx2 (by omega) (by decide) (by show (36 : Nat) < xv2.length; omega) K9) ?_
      have hf1__38___n_ : (hp2.set (46 + n) (10, (xv2.set (36 : Int32).toNatClampNeg (.int 0))))[(38 + n)]? = some (4, [.int th, .int w, .int h, .ref (39 + n), .int pn, .ref (40 + n), .ref (41 + n), .ref (42 + n), .int (nI c0), .ref (43 + n), .ref (44 + n), .ref (45 + n), .ref (46 + n), .int fo, .ref (47 + n), .int le, .ref (48 + n), .int ru, .ref (49 + n), .ref (50 + n), .ref (51 + n)]) := px_ne hm2 (by omega)
      have hf1__46___n_ : (hp2.set (46 + n) (10, (xv2.set (36 : Int32).toNatClampNeg (.int 0))))[(46 + n)]? = some (10, (xv2.set (36 : Int32).toNatClampNeg (.int 0))) := px_self hx2
      show px_Gx _ _ (89, [(3, .int (nI k)), (2, .int (nI p)), (0, .ref (38 + n)), (1, .int (nI m))], [], (hp2.set (46 + n) (10, (xv2.set (36 : Int32).toNatClampNeg (.int 0))))) _
      refine px_gx (fun _ K9 => px_a 2 (f' := (91, [(3, .int (nI k)), (2, .int (nI p)), (0, .ref (38 + n)), (1, .int (nI m))], [.int (nI m), .ref (38 + n)], (hp2.set (46 + n) (10, (xv2.set (36 : Int32).toNatClampNeg (.int 0)))))) rfl K9) ?_
      refine px_gx (fun _ K9 => px_cv (38 + n) (as := [.int (nI m)]) (rest := []) rfl rfl hf1__38___n_ rfl rfl rfl rfl (Nat.le_of_ble_eq_true rfl) (g3) K9) ?_
      show px_Gx _ _ (94, [(3, .int (nI k)), (2, .int (nI p)), (0, .ref (38 + n)), (1, .int (nI m))], [.int 1], hp3) _
      refine px_gx (fun _ K9 => px_a 3 (f' := (38, [(3, .int ((nI k) + 1)), (2, .int (nI p)), (0, .ref (38 + n)), (1, .int (nI m))], [], hp3)) rfl K9) ?_
      rw [p_s512 k (by omega)]
      refine px_wk [(3, .int (nI (k + 1))), (2, .int (nI p)), (0, .ref (38 + n)), (1, .int (nI m))] ⟨rfl, rfl, rfl, rfl, trivial⟩ ?_
      have sm5 : ∀ a, a ≠ 44 + n → a ≠ 45 + n → a ≠ 46 + n → hp3[a]? = hp[a]? := fun a h1 h2 h3 => (sm4 a h1 h2 h3).trans ((List.getElem?_set_ne (Ne.symm h3)).trans (sm2 a h3))
      refine ih (k + 1) (by omega) hp3 _ H4 ((sm5 _ (by omega) (by omega) (by omega)).trans hm) ((sm5 _ (by omega) (by omega) (by omega)).trans hs1) q4 ⟨A0, e_S00⟩ (fun a h1 h2 h3 => (sm5 a h1 h2 h3).trans (sm a h1 h2 h3)) (fun hp' H' sm' q' => K hp' H' sm' (h_Q_c (fun w => ⟨fun z => ⟨z.1.1, fun i h1 h2 => ?_⟩, fun z => ⟨⟨z.1, z.2 k (Nat.le_refl k) hk⟩, fun i h1 h2 => z.2 i (by omega) h2⟩⟩) q'))
      by_cases e : i = k
      · rw [e]
        exact z.1.2
      · exact z.2 i (by omega) h2
