theorem x_bit1 {k : Nat} (hk : k < 64) (s : Int64) : ((s >>> ((nI k).toInt64 &&& 63)) &&& 1) = 1 ↔ x_bt s k = true := by
  constructor
  · intro h
    cases e : x_bt s k
    · rw [(x_bit hk s).mpr e] at h
      exact absurd h (by decide)
    · rfl
  · intro h
    have hn : ((s >>> ((nI k).toInt64 &&& 63)) &&& 1) ≠ 0 := fun z => by
      rw [(x_bit hk s).mp z] at h
      cases h
    generalize (s >>> ((nI k).toInt64 &&& 63)) = t at hn ⊢
    apply Int64.toBitVec_inj.mp
    apply BitVec.eq_of_getLsbD_eq
    intro i hi
    have e1 : (1 : Int64).toBitVec.getLsbD i = decide (i = 0) := by
      show (1#64).getLsbD i = _
      rw [BitVec.getLsbD_one]
      simp
    rw [Int64.toBitVec_and, BitVec.getLsbD_and, e1]
    by_cases e : i = 0
    · subst e
      rw [decide_eq_true rfl, Bool.and_true]
      cases q : t.toBitVec.getLsbD 0
      · refine absurd ?_ hn
        apply Int64.toBitVec_inj.mp
        apply BitVec.eq_of_getLsbD_eq
        intro j hj
        have e2 : (1 : Int64).toBitVec.getLsbD j = decide (j = 0) := by
          show (1#64).getLsbD j = _
          rw [BitVec.getLsbD_one]
          simp
        rw [Int64.toBitVec_and, BitVec.getLsbD_and, e2]
        by_cases z : j = 0
        · subst z
          rw [q]
          rfl
        · rw [decide_eq_false z, Bool.and_false]
          exact (x_bt0 j).symm
      · rfl
    · rw [decide_eq_false e, Bool.and_false]
def g_bt (s : Int64) (c : Nat) : Nat := if x_bt s c = true then 1 else 0
theorem g_btv {s : Int64} {c : Nat} (hc : c < 64) : Int64.toInt32 ((s >>> (Int32.toInt64 (nI c) &&& 63)) &&& 1) = nI (g_bt s c) := by
  unfold g_bt
  cases e : x_bt s c
  · rw [(x_bit hc s).mpr e, if_neg (by decide)]
    rfl
  · rw [(x_bit1 hc s).mpr e, if_pos rfl]
    rfl
theorem g_bt_le (s : Int64) (c : Nat) : g_bt s c ≤ 1 := by
  unfold g_bt
  split <;> omega
set_option maxRecDepth 20000 in
theorem c_addf {d0 n m b : Nat} {s : Int64} {hp0 : px_H} {Q : px_O → px_H → Prop} (n36 : n ≤ 36) (K : ∀ (hp : px_H) (wv : List Value), hp[33 + n]? = some (10, wv) → wv.length = n + 1 → (∀ d, d < n → wv[d]? = some (.int (nI (g_bt s d)))) → wv[n]? = some (.int (nI b)) → (∀ a, a ≠ 33 + n → hp[a]? = hp0[a]?) → px_Gx d0 12 (45, [(4, .int (nI 0)), (0, .ref 30), (1, .long s), (3, .int (nI b))], [], hp) Q) : ∀ q c, c + q = n → ∀ (hp : px_H) (h30 : hp[(30 : Nat)]? = some (0, [.int (nI n), .ref 31, .ref (32 + n), .ref (33 + n), .int (nI m)])) (wv : List Value) (hw : hp[33 + n]? = some (10, wv)) (lw : wv.length = n + 1) (f1 : ∀ d, d < c → wv[d]? = some (.int (nI (g_bt s d)))) (sm : ∀ a, a ≠ 33 + n → hp[a]? = hp0[a]?), px_Gx d0 12 (3, [(4, .int (nI c)), (0, .ref 30), (1, .long s), (3, .int (nI b))], [], hp) Q := by
  intro q
  induction q with
  | zero =>
    intro c h hp h30 wv hw lw f1 sm
    refine px_gx (fun _ K9 => px_a 2 (f' := (6, [(4, .int (nI c)), (0, .ref 30), (1, .long s), (3, .int (nI b))], [.ref 30, .int (nI c)], hp)) rfl K9) ?_
    refine px_gx (fun _ K9 => px_gf 30 7 0 0 (.int (nI n)) rfl rfl h30 rfl K9) ?_
    show px_Gx _ _ (9, [(4, .int (nI c)), (0, .ref 30), (1, .long s), (3, .int (nI b))], [.int (nI n), .int (nI c)], hp) _
    refine px_gx (fun _ K9 => px_b2 true 32 rfl rfl (decide_eq_true (show nI n ≤ nI c by rw [Int32.le_iff_toInt_le, nI_toInt (by omega), nI_toInt (by omega)]; omega)) K9) ?_
    show px_Gx _ _ (32, [(4, .int (nI c)), (0, .ref 30), (1, .long s), (3, .int (nI b))], [], hp) _
    refine px_gx (fun _ K9 => px_a 1 (f' := (33, [(4, .int (nI c)), (0, .ref 30), (1, .long s), (3, .int (nI b))], [.ref 30], hp)) rfl K9) ?_
    refine px_gx (fun _ K9 => px_gf 30 22 0 3 (.ref (33 + n)) rfl rfl h30 rfl K9) ?_
    show px_Gx _ _ (36, [(4, .int (nI c)), (0, .ref 30), (1, .long s), (3, .int (nI b))], [.ref (33 + n)], hp) _
    refine px_gx (fun _ K9 => px_a 1 (f' := (37, [(4, .int (nI c)), (0, .ref 30), (1, .long s), (3, .int (nI b))], [.ref 30, .ref (33 + n)], hp)) rfl K9) ?_
    refine px_gx (fun _ K9 => px_gf 30 7 0 0 (.int (nI n)) rfl rfl h30 rfl K9) ?_
    show px_Gx _ _ (40, [(4, .int (nI c)), (0, .ref 30), (1, .long s), (3, .int (nI b))], [.int (nI n), .ref (33 + n)], hp) _
    refine px_gx (fun _ K9 => px_a 1 (f' := (41, [(4, .int (nI c)), (0, .ref 30), (1, .long s), (3, .int (nI b))], [.int (nI b), .int (nI n), .ref (33 + n)], hp)) rfl K9) ?_
    refine px_gx (fun _ K9 => px_ias (33 + n) rfl hw (by omega) (nI_pos (by omega)) (by rw [nI_clamp (by omega)]; omega) K9) ?_
    have hf1_30 : (hp.set (33 + n) (10, (wv.set (nI n).toNatClampNeg (.int (nI b)))))[(30 : Nat)]? = some (0, [.int (nI n), .ref 31, .ref (32 + n), .ref (33 + n), .int (nI m)]) := px_ne h30 (by omega)
    have hf1__33___n_ : (hp.set (33 + n) (10, (wv.set (nI n).toNatClampNeg (.int (nI b)))))[(33 + n)]? = some (10, (wv.set (nI n).toNatClampNeg (.int (nI b)))) := px_self hw
    show px_Gx _ _ (42, [(4, .int (nI c)), (0, .ref 30), (1, .long s), (3, .int (nI b))], [], (hp.set (33 + n) (10, (wv.set (nI n).toNatClampNeg (.int (nI b)))))) _
    refine px_gx (fun _ K9 => px_a 2 (f' := (45, [(4, .int 0), (0, .ref 30), (1, .long s), (3, .int (nI b))], [], (hp.set (33 + n) (10, (wv.set (nI n).toNatClampNeg (.int (nI b))))))) rfl K9) ?_
    refine K _ _ hf1__33___n_ (by rw [List.length_set]; exact lw) (fun d hd => ?_) ?_ (fun a ha => (List.getElem?_set_ne (Ne.symm ha)).trans (sm a ha))
    · rw [nI_clamp (by omega), List.getElem?_set_ne (by omega)]
      exact f1 d (by omega)
    · rw [nI_clamp (by omega)]
      exact List.getElem?_set_self (by omega)
  | succ q ih =>
    intro c h hp h30 wv hw lw f1 sm
    refine px_gx (fun _ K9 => px_a 2 (f' := (6, [(4, .int (nI c)), (0, .ref 30), (1, .long s), (3, .int (nI b))], [.ref 30, .int (nI c)], hp)) rfl K9) ?_
    refine px_gx (fun _ K9 => px_gf 30 7 0 0 (.int (nI n)) rfl rfl h30 rfl K9) ?_
    show px_Gx _ _ (9, [(4, .int (nI c)), (0, .ref 30), (1, .long s), (3, .int (nI b))], [.int (nI n), .int (nI c)], hp) _
    refine px_gx (fun _ K9 => px_b2 false 32 rfl rfl (decide_eq_false (show ¬ nI n ≤ nI c by rw [Int32.le_iff_toInt_le, nI_toInt (by omega), nI_toInt (by omega)]; omega)) K9) ?_
    show px_Gx _ _ (12, [(4, .int (nI c)), (0, .ref 30), (1, .long s), (3, .int (nI b))], [], hp) _
    refine px_gx (fun _ K9 => px_a 1 (f' := (13, [(4, .int (nI c)), (0, .ref 30), (1, .long s), (3, .int (nI b))], [.ref 30], hp)) rfl K9) ?_
    refine px_gx (fun _ K9 => px_gf 30 22 0 3 (.ref (33 + n)) rfl rfl h30 rfl K9) ?_
    show px_Gx _ _ (16, [(4, .int (nI c)), (0, .ref 30), (1, .long s), (3, .int (nI b))], [.ref (33 + n)], hp) _
    refine px_gx (fun _ K9 => px_a 7 (f' := (25, [(4, .int (nI c)), (0, .ref 30), (1, .long s), (3, .int (nI b))], [.int (Int64.toInt32 ((s >>> (Int32.toInt64 (nI c) &&& 63)) &&& 1)), .int (nI c), .ref (33 + n)], hp)) rfl K9) ?_
    have ev : (Int64.toInt32 ((s >>> (Int32.toInt64 (nI c) &&& 63)) &&& 1)) = (nI (g_bt s c)) := g_btv (by omega)
    show px_Gx _ _ (25, [(4, .int (nI c)), (0, .ref 30), (1, .long s), (3, .int (nI b))], [.int (Int64.toInt32 ((s >>> (Int32.toInt64 (nI c) &&& 63)) &&& 1)), .int (nI c), .ref (33 + n)], hp) _
    rw [ev]
    show px_Gx _ _ (25, [(4, .int (nI c)), (0, .ref 30), (1, .long s), (3, .int (nI b))], [.int (nI (g_bt s c)), .int (nI c), .ref (33 + n)], hp) _
    refine px_gx (fun _ K9 => px_ias (33 + n) rfl hw (by omega) (nI_pos (by omega)) (by rw [nI_clamp (by omega)]; omega) K9) ?_
    have hf1_30 : (hp.set (33 + n) (10, (wv.set (nI c).toNatClampNeg (.int (nI (g_bt s c))))))[(30 : Nat)]? = some (0, [.int (nI n), .ref 31, .ref (32 + n), .ref (33 + n), .int (nI m)]) := px_ne h30 (by omega)
    have hf1__33___n_ : (hp.set (33 + n) (10, (wv.set (nI c).toNatClampNeg (.int (nI (g_bt s c))))))[(33 + n)]? = some (10, (wv.set (nI c).toNatClampNeg (.int (nI (g_bt s c))))) := px_self hw
    show px_Gx _ _ (26, [(4, .int (nI c)), (0, .ref 30), (1, .long s), (3, .int (nI b))], [], (hp.set (33 + n) (10, (wv.set (nI c).toNatClampNeg (.int (nI (g_bt s c))))))) _
    refine px_gx (fun _ K9 => px_a 2 (f' := (3, [(4, .int ((nI c) + 1)), (0, .ref 30), (1, .long s), (3, .int (nI b))], [], (hp.set (33 + n) (10, (wv.set (nI c).toNatClampNeg (.int (nI (g_bt s c)))))))) rfl K9) ?_
    rw [p_s16 c (by omega)]
    exact ih (c + 1) (by omega) _ hf1_30 _ hf1__33___n_ (by rw [List.length_set]; exact lw) (fun d hd => by
      rw [nI_clamp (by omega)]
      by_cases e : d = c
      · subst e
        exact List.getElem?_set_self (by omega)
      · rw [List.getElem?_set_ne (by omega)]
        exact f1 d (by omega)) (fun a ha => (List.getElem?_set_ne (Ne.symm ha)).trans (sm a ha))
theorem e_S0 {m n b : Nat} {x : Nat → Nat} {w : Nat → Int} (h : ∀ d, d < n → x d = 0) : e_S m n (fun d => (x d : Int)) b w ↔ (m : Int) ∣ b := by
  unfold e_S
  rw [e_d_0 n (fun c hc => by show ((x c : Nat) : Int) = 0; rw [h c hc]; rfl), Int.zero_sub, Int.dvd_neg]
set_option maxRecDepth 20000 in
theorem c_addr {d0 n m b : Nat} {s : Int64} {ld : Nat → Bool} {r : Nat → Nat → Nat} {rb : Nat → Nat} {hp0 : px_H} (pm : m = 2 ∨ m = 3 ∨ m = 5 ∨ m = 7 ∨ m = 11 ∨ m = 13) (n36 : n ≤ 36) (G : g_R m n ld r rb) : ∀ q c, c + q = n → ∀ (hp : px_H) (x : Nat → Nat) (xb : Nat), g_H n m hp ld r rb → g_W n hp x xb → (∀ d, d < n → x d < m) → xb < m → (∀ d, d < c → ld d = true → x d = 0) → (∀ w, g_S m n ld r rb w → (e_S m n (fun d => (x d : Int)) xb w ↔ e_S m n (fun d => (g_bt s d : Int)) b w)) → (∀ a, ¬ (32 ≤ a ∧ a ≤ 33 + n) → hp[a]? = hp0[a]?) → px_Gx (d0 + 2) 12 (45, [(4, .int (nI c)), (0, .ref 30), (1, .long s), (3, .int (nI b))], [], hp) (fun o hp' => (∀ a, ¬ (32 ≤ a ∧ a ≤ 33 + n) → hp'[a]? = hp0[a]?) ∧ (∃ wv : List Value, hp'[33 + n]? = some (10, wv) ∧ wv.length = n + 1) ∧ ((o = .inl (some (.int 1)) ∧ ∃ ld' r' rb', g_H n m hp' ld' r' rb' ∧ g_R m n ld' r' rb' ∧ ∀ w, g_S m n ld' r' rb' w ↔ g_S m n ld r rb w ∧ e_S m n (fun d => (g_bt s d : Int)) b w) ∨ (o = .inl (some (.int 0)) ∧ ∀ w, g_S m n ld r rb w → ¬ e_S m n (fun d => (g_bt s d : Int)) b w))) := by
  have m14 := g_pm pm
  intro q
  induction q with
  | zero =>
    intro c h hp x xb gh gw xm xbm z0 eqv sm
    have gh2 := gh
    have gw2 := gw
    obtain ⟨h30, h31, ⟨lv, hl, ll, hlv⟩, rows⟩ := gh
    obtain ⟨wv, hw, lw, hx, hxb⟩ := gw
    refine px_gx (fun _ K9 => px_a 2 (f' := (48, [(4, .int (nI c)), (0, .ref 30), (1, .long s), (3, .int (nI b))], [.ref 30, .int (nI c)], hp)) rfl K9) ?_
    refine px_gx (fun _ K9 => px_gf 30 7 0 0 (.int (nI n)) rfl rfl h30 rfl K9) ?_
    show px_Gx _ _ (51, [(4, .int (nI c)), (0, .ref 30), (1, .long s), (3, .int (nI b))], [.int (nI n), .int (nI c)], hp) _
    refine px_gx (fun _ K9 => px_b2 true 97 rfl rfl (decide_eq_true (show nI n ≤ nI c by rw [Int32.le_iff_toInt_le, nI_toInt (by omega), nI_toInt (by omega)]; omega)) K9) ?_
    show px_Gx _ _ (97, [(4, .int (nI c)), (0, .ref 30), (1, .long s), (3, .int (nI b))], [], hp) _
    obtain ⟨ol, hpl, gl, el, cl⟩ := c_last (d0 := d0 + 1) n36 m14 h30 hw xm hx
    rw [el] at gl
    rcases cl with ⟨all0, eo⟩ | ⟨L, hL, xL, zL, eo⟩
    · rw [eo] at gl
      by_cases hz : xb = 0
      · 
        refine px_gx (fun _ K9 => px_a 1 (f' := (98, [(4, .int (nI c)), (0, .ref 30), (1, .long s), (3, .int (nI b))], [.ref 30], hp)) rfl K9) ?_
        refine px_gx (fun _ K9 => px_cv 30 (as := []) (rest := []) rfl rfl h30 rfl rfl rfl rfl (Nat.le_of_ble_eq_true rfl) (gl) K9) ?_
        show px_Gx _ _ (101, [(4, .int (nI c)), (0, .ref 30), (1, .long s), (3, .int (nI b))], [.int (-1)], hp) _
        refine px_gx (fun _ K9 => px_a 4 (f' := (109, [(4, .int (-1)), (0, .ref 30), (1, .long s), (3, .int (nI b))], [.ref 30], hp)) rfl K9) ?_
        refine px_gx (fun _ K9 => px_gf 30 22 0 3 (.ref (33 + n)) rfl rfl h30 rfl K9) ?_
        show px_Gx _ _ (112, [(4, .int (-1)), (0, .ref 30), (1, .long s), (3, .int (nI b))], [.ref (33 + n)], hp) _
        refine px_gx (fun _ K9 => px_a 1 (f' := (113, [(4, .int (-1)), (0, .ref 30), (1, .long s), (3, .int (nI b))], [.ref 30, .ref (33 + n)], hp)) rfl K9) ?_
        refine px_gx (fun _ K9 => px_gf 30 7 0 0 (.int (nI n)) rfl rfl h30 rfl K9) ?_
        show px_Gx _ _ (116, [(4, .int (-1)), (0, .ref 30), (1, .long s), (3, .int (nI b))], [.int (nI n), .ref (33 + n)], hp) _
        refine px_gx (fun _ K9 => px_al (33 + n) (.int (nI xb)) rfl hw (Or.inl ⟨rfl, Or.inl rfl⟩) (nI_pos (by omega)) (by rw [nI_clamp (by omega)]; exact hxb) K9) ?_
        show px_Gx _ _ (117, [(4, .int (-1)), (0, .ref 30), (1, .long s), (3, .int (nI b))], [.int (nI xb)], hp) _
        refine px_gx (fun _ K9 => px_b1 false 124 rfl rfl (decide_eq_false (not_not_intro (by rw [hz]; rfl))) K9) ?_
        show px_Gx _ _ (120, [(4, .int (-1)), (0, .ref 30), (1, .long s), (3, .int (nI b))], [], hp) _
        refine px_gx (fun _ K9 => px_a 2 (f' := (125, [(4, .int (-1)), (0, .ref 30), (1, .long s), (3, .int (nI b))], [.int 1], hp)) rfl K9) ?_
        refine ⟨_, _, px_ri rfl rfl rfl, sm, ⟨wv, hw, lw⟩, Or.inl ⟨rfl, ld, r, rb, gh2, G, fun w => ⟨fun hs => ⟨hs, ?_⟩, fun hs => hs.1⟩⟩⟩
        rw [← eqv w hs, e_S0 all0, hz]
        exact Int.dvd_zero _
      · 
        refine px_gx (fun _ K9 => px_a 1 (f' := (98, [(4, .int (nI c)), (0, .ref 30), (1, .long s), (3, .int (nI b))], [.ref 30], hp)) rfl K9) ?_
        refine px_gx (fun _ K9 => px_cv 30 (as := []) (rest := []) rfl rfl h30 rfl rfl rfl rfl (Nat.le_of_ble_eq_true rfl) (gl) K9) ?_
        show px_Gx _ _ (101, [(4, .int (nI c)), (0, .ref 30), (1, .long s), (3, .int (nI b))], [.int (-1)], hp) _
        refine px_gx (fun _ K9 => px_a 4 (f' := (109, [(4, .int (-1)), (0, .ref 30), (1, .long s), (3, .int (nI b))], [.ref 30], hp)) rfl K9) ?_
        refine px_gx (fun _ K9 => px_gf 30 22 0 3 (.ref (33 + n)) rfl rfl h30 rfl K9) ?_
        show px_Gx _ _ (112, [(4, .int (-1)), (0, .ref 30), (1, .long s), (3, .int (nI b))], [.ref (33 + n)], hp) _
        refine px_gx (fun _ K9 => px_a 1 (f' := (113, [(4, .int (-1)), (0, .ref 30), (1, .long s), (3, .int (nI b))], [.ref 30, .ref (33 + n)], hp)) rfl K9) ?_
        refine px_gx (fun _ K9 => px_gf 30 7 0 0 (.int (nI n)) rfl rfl h30 rfl K9) ?_
        show px_Gx _ _ (116, [(4, .int (-1)), (0, .ref 30), (1, .long s), (3, .int (nI b))], [.int (nI n), .ref (33 + n)], hp) _
        refine px_gx (fun _ K9 => px_al (33 + n) (.int (nI xb)) rfl hw (Or.inl ⟨rfl, Or.inl rfl⟩) (nI_pos (by omega)) (by rw [nI_clamp (by omega)]; exact hxb) K9) ?_
        show px_Gx _ _ (117, [(4, .int (-1)), (0, .ref 30), (1, .long s), (3, .int (nI b))], [.int (nI xb)], hp) _
        refine px_gx (fun _ K9 => px_b1 true 124 rfl rfl (decide_eq_true (fun z => hz ((nI_eq (a := xb) (b := 0) (by omega) (by decide)).mp z))) K9) ?_
        show px_Gx _ _ (124, [(4, .int (-1)), (0, .ref 30), (1, .long s), (3, .int (nI b))], [], hp) _
        refine px_gx (fun _ K9 => px_a 1 (f' := (125, [(4, .int (-1)), (0, .ref 30), (1, .long s), (3, .int (nI b))], [.int 0], hp)) rfl K9) ?_
        refine ⟨_, _, px_ri rfl rfl rfl, sm, ⟨wv, hw, lw⟩, Or.inr ⟨rfl, fun w hs he => ?_⟩⟩
        rw [← eqv w hs, e_S0 all0] at he
        have := Int.le_of_dvd (by omega) he
        omega
    · rw [eo] at gl
      have nL : ld L = false := by
        cases e : ld L
        · rfl
        · exact absurd (z0 L (by omega) e) xL
      obtain ⟨ok, hp1, gk, ek, k, hk, gh3, sm3⟩ := c_kwX (d0 := d0) pm n36 hL G nL xm xbm xL gh2 gw2
      subst ek
      obtain ⟨G3, E3⟩ := g_keep (k := k) (xb := xb) m14.1 G hL hk zL (fun d hd hl2 => z0 d (by omega) hl2) xL
      refine px_gx (fun _ K9 => px_a 1 (f' := (98, [(4, .int (nI c)), (0, .ref 30), (1, .long s), (3, .int (nI b))], [.ref 30], hp)) rfl K9) ?_
      refine px_gx (fun _ K9 => px_cv 30 (as := []) (rest := []) rfl rfl h30 rfl rfl rfl rfl (Nat.le_of_ble_eq_true rfl) (gl) K9) ?_
      show px_Gx _ _ (101, [(4, .int (nI c)), (0, .ref 30), (1, .long s), (3, .int (nI b))], [.int (nI L)], hp) _
      refine px_gx (fun _ K9 => px_a 2 (f' := (105, [(4, .int (nI L)), (0, .ref 30), (1, .long s), (3, .int (nI b))], [.int (nI L)], hp)) rfl K9) ?_
      refine px_gx (fun _ K9 => px_b1 true 126 rfl rfl (decide_eq_true (Int32.not_lt.mp (nI_pos (by omega)))) K9) ?_
      show px_Gx _ _ (126, [(4, .int (nI L)), (0, .ref 30), (1, .long s), (3, .int (nI b))], [], hp) _
      refine px_gx (fun _ K9 => px_a 2 (f' := (129, [(4, .int (nI L)), (0, .ref 30), (1, .long s), (3, .int (nI b))], [.int (nI L), .ref 30], hp)) rfl K9) ?_
      refine px_gx (fun _ K9 => px_cv 30 (as := [.int (nI L)]) (rest := []) rfl rfl h30 rfl rfl rfl rfl (Nat.le_of_ble_eq_true rfl) (gk) K9) ?_
      show px_Gx _ _ (132, [(4, .int (nI L)), (0, .ref 30), (1, .long s), (3, .int (nI b))], [], hp1) _
      refine px_gx (fun _ K9 => px_a 1 (f' := (133, [(4, .int (nI L)), (0, .ref 30), (1, .long s), (3, .int (nI b))], [.int 1], hp1)) rfl K9) ?_
      refine ⟨_, _, px_ri rfl rfl rfl, fun a ha => (sm3 a (by omega)).trans (sm a ha), ⟨wv, (sm3 _ (by omega)).trans hw, lw⟩, Or.inl ⟨rfl, _, _, _, gh3, G3, fun w => (E3 w).trans ?_⟩⟩
      exact ⟨fun hs => ⟨hs.1, (eqv w hs.1).mp hs.2⟩, fun hs => ⟨hs.1, (eqv w hs.1).mpr hs.2⟩⟩
  | succ q ih =>
    intro c h hp x xb gh gw xm xbm z0 eqv sm
    have gh2 := gh
    have gw2 := gw
    obtain ⟨h30, h31, ⟨lv, hl, ll, hlv⟩, rows⟩ := gh
    obtain ⟨wv, hw, lw, hx, hxb⟩ := gw
    have hcn : c < n := by omega
    have xc := xm c hcn
    cases hlc : ld c
    · 
      refine px_gx (fun _ K9 => px_a 2 (f' := (48, [(4, .int (nI c)), (0, .ref 30), (1, .long s), (3, .int (nI b))], [.ref 30, .int (nI c)], hp)) rfl K9) ?_
      refine px_gx (fun _ K9 => px_gf 30 7 0 0 (.int (nI n)) rfl rfl h30 rfl K9) ?_
      show px_Gx _ _ (51, [(4, .int (nI c)), (0, .ref 30), (1, .long s), (3, .int (nI b))], [.int (nI n), .int (nI c)], hp) _
      refine px_gx (fun _ K9 => px_b2 false 97 rfl rfl (decide_eq_false (show ¬ nI n ≤ nI c by rw [Int32.le_iff_toInt_le, nI_toInt (by omega), nI_toInt (by omega)]; omega)) K9) ?_
      show px_Gx _ _ (54, [(4, .int (nI c)), (0, .ref 30), (1, .long s), (3, .int (nI b))], [], hp) _
      refine px_gx (fun _ K9 => px_a 1 (f' := (55, [(4, .int (nI c)), (0, .ref 30), (1, .long s), (3, .int (nI b))], [.ref 30], hp)) rfl K9) ?_
      refine px_gx (fun _ K9 => px_gf 30 18 0 2 (.ref (32 + n)) rfl rfl h30 rfl K9) ?_
      show px_Gx _ _ (58, [(4, .int (nI c)), (0, .ref 30), (1, .long s), (3, .int (nI b))], [.ref (32 + n)], hp) _
      refine px_gx (fun _ K9 => px_a 1 (f' := (60, [(4, .int (nI c)), (0, .ref 30), (1, .long s), (3, .int (nI b))], [.int (nI c), .ref (32 + n)], hp)) rfl K9) ?_
      refine px_gx (fun _ K9 => px_al (32 + n) (.int 0) rfl hl (Or.inr (Or.inr (Or.inl ⟨rfl, rfl⟩))) (nI_pos (by omega)) (by rw [nI_clamp (by omega), hlv c (by omega), hlc]; rfl) K9) ?_
      show px_Gx _ _ (61, [(4, .int (nI c)), (0, .ref 30), (1, .long s), (3, .int (nI b))], [.int 0], hp) _
      refine px_gx (fun _ K9 => px_a 3 (f' := (45, [(4, .int ((nI c) + 1)), (0, .ref 30), (1, .long s), (3, .int (nI b))], [], hp)) rfl K9) ?_
      rw [p_s16 c (by omega)]
      refine ih (c + 1) (by omega) hp x xb gh2 gw2 xm xbm (fun d hd hl2 => ?_) eqv sm
      by_cases e : d = c
      · rw [e, hlc] at hl2
        cases hl2
      · exact z0 d (by omega) hl2
    · by_cases hz : x c = 0
      · 
        refine px_gx (fun _ K9 => px_a 2 (f' := (48, [(4, .int (nI c)), (0, .ref 30), (1, .long s), (3, .int (nI b))], [.ref 30, .int (nI c)], hp)) rfl K9) ?_
        refine px_gx (fun _ K9 => px_gf 30 7 0 0 (.int (nI n)) rfl rfl h30 rfl K9) ?_
        show px_Gx _ _ (51, [(4, .int (nI c)), (0, .ref 30), (1, .long s), (3, .int (nI b))], [.int (nI n), .int (nI c)], hp) _
        refine px_gx (fun _ K9 => px_b2 false 97 rfl rfl (decide_eq_false (show ¬ nI n ≤ nI c by rw [Int32.le_iff_toInt_le, nI_toInt (by omega), nI_toInt (by omega)]; omega)) K9) ?_
        show px_Gx _ _ (54, [(4, .int (nI c)), (0, .ref 30), (1, .long s), (3, .int (nI b))], [], hp) _
        refine px_gx (fun _ K9 => px_a 1 (f' := (55, [(4, .int (nI c)), (0, .ref 30), (1, .long s), (3, .int (nI b))], [.ref 30], hp)) rfl K9) ?_
        refine px_gx (fun _ K9 => px_gf 30 18 0 2 (.ref (32 + n)) rfl rfl h30 rfl K9) ?_
        show px_Gx _ _ (58, [(4, .int (nI c)), (0, .ref 30), (1, .long s), (3, .int (nI b))], [.ref (32 + n)], hp) _
        refine px_gx (fun _ K9 => px_a 1 (f' := (60, [(4, .int (nI c)), (0, .ref 30), (1, .long s), (3, .int (nI b))], [.int (nI c), .ref (32 + n)], hp)) rfl K9) ?_
        refine px_gx (fun _ K9 => px_al (32 + n) (.int 1) rfl hl (Or.inr (Or.inr (Or.inl ⟨rfl, rfl⟩))) (nI_pos (by omega)) (by rw [nI_clamp (by omega), hlv c (by omega), hlc]; rfl) K9) ?_
        show px_Gx _ _ (61, [(4, .int (nI c)), (0, .ref 30), (1, .long s), (3, .int (nI b))], [.int 1], hp) _
        refine px_gx (fun _ K9 => px_a 2 (f' := (65, [(4, .int (nI c)), (0, .ref 30), (1, .long s), (3, .int (nI b))], [.ref 30], hp)) rfl K9) ?_
        refine px_gx (fun _ K9 => px_gf 30 22 0 3 (.ref (33 + n)) rfl rfl h30 rfl K9) ?_
        show px_Gx _ _ (68, [(4, .int (nI c)), (0, .ref 30), (1, .long s), (3, .int (nI b))], [.ref (33 + n)], hp) _
        refine px_gx (fun _ K9 => px_a 1 (f' := (70, [(4, .int (nI c)), (0, .ref 30), (1, .long s), (3, .int (nI b))], [.int (nI c), .ref (33 + n)], hp)) rfl K9) ?_
        refine px_gx (fun _ K9 => px_al (33 + n) (.int (nI (x c))) rfl hw (Or.inl ⟨rfl, Or.inl rfl⟩) (nI_pos (by omega)) (by rw [nI_clamp (by omega)]; exact hx c (by omega)) K9) ?_
        show px_Gx _ _ (71, [(4, .int (nI c)), (0, .ref 30), (1, .long s), (3, .int (nI b))], [.int (nI (x c))], hp) _
        refine px_gx (fun _ K9 => px_b1 true 91 rfl rfl (decide_eq_true (by rw [hz]; rfl)) K9) ?_
        show px_Gx _ _ (91, [(4, .int (nI c)), (0, .ref 30), (1, .long s), (3, .int (nI b))], [], hp) _
        refine px_gx (fun _ K9 => px_a 2 (f' := (45, [(4, .int ((nI c) + 1)), (0, .ref 30), (1, .long s), (3, .int (nI b))], [], hp)) rfl K9) ?_
        rw [p_s16 c (by omega)]
        refine ih (c + 1) (by omega) hp x xb gh2 gw2 xm xbm (fun d hd hl2 => ?_) eqv sm
        by_cases e : d = c
        · rw [e]; exact hz
        · exact z0 d (by omega) hl2
      · obtain ⟨G1, G2, G3, G4, G5⟩ := G c hcn hlc
        obtain ⟨rv, hr, lr, hrr⟩ := rows c hcn
        obtain ⟨hr1, hrb⟩ := hrr hlc
        obtain ⟨o, hp1, g, e, fv, b1, b2, b3, b4, b5⟩ := c_sub (d0 := d0 + 1) (t := x c) (x := x) (xb := xb) (r := r c) (rb := rb c) (fa := 33 + n) m14 n36 hcn (Nat.le_of_lt xc) (by omega) (by omega) xm G4 xbm G5 lr hr1 hrb h30 h31 hr hw lw hx hxb
        subst e
        refine px_gx (fun _ K9 => px_a 2 (f' := (48, [(4, .int (nI c)), (0, .ref 30), (1, .long s), (3, .int (nI b))], [.ref 30, .int (nI c)], hp)) rfl K9) ?_
        refine px_gx (fun _ K9 => px_gf 30 7 0 0 (.int (nI n)) rfl rfl h30 rfl K9) ?_
        show px_Gx _ _ (51, [(4, .int (nI c)), (0, .ref 30), (1, .long s), (3, .int (nI b))], [.int (nI n), .int (nI c)], hp) _
        refine px_gx (fun _ K9 => px_b2 false 97 rfl rfl (decide_eq_false (show ¬ nI n ≤ nI c by rw [Int32.le_iff_toInt_le, nI_toInt (by omega), nI_toInt (by omega)]; omega)) K9) ?_
        show px_Gx _ _ (54, [(4, .int (nI c)), (0, .ref 30), (1, .long s), (3, .int (nI b))], [], hp) _
        refine px_gx (fun _ K9 => px_a 1 (f' := (55, [(4, .int (nI c)), (0, .ref 30), (1, .long s), (3, .int (nI b))], [.ref 30], hp)) rfl K9) ?_
        refine px_gx (fun _ K9 => px_gf 30 18 0 2 (.ref (32 + n)) rfl rfl h30 rfl K9) ?_
        show px_Gx _ _ (58, [(4, .int (nI c)), (0, .ref 30), (1, .long s), (3, .int (nI b))], [.ref (32 + n)], hp) _
        refine px_gx (fun _ K9 => px_a 1 (f' := (60, [(4, .int (nI c)), (0, .ref 30), (1, .long s), (3, .int (nI b))], [.int (nI c), .ref (32 + n)], hp)) rfl K9) ?_
        refine px_gx (fun _ K9 => px_al (32 + n) (.int 1) rfl hl (Or.inr (Or.inr (Or.inl ⟨rfl, rfl⟩))) (nI_pos (by omega)) (by rw [nI_clamp (by omega), hlv c (by omega), hlc]; rfl) K9) ?_
        show px_Gx _ _ (61, [(4, .int (nI c)), (0, .ref 30), (1, .long s), (3, .int (nI b))], [.int 1], hp) _
        refine px_gx (fun _ K9 => px_a 2 (f' := (65, [(4, .int (nI c)), (0, .ref 30), (1, .long s), (3, .int (nI b))], [.ref 30], hp)) rfl K9) ?_
        refine px_gx (fun _ K9 => px_gf 30 22 0 3 (.ref (33 + n)) rfl rfl h30 rfl K9) ?_
        show px_Gx _ _ (68, [(4, .int (nI c)), (0, .ref 30), (1, .long s), (3, .int (nI b))], [.ref (33 + n)], hp) _
        refine px_gx (fun _ K9 => px_a 1 (f' := (70, [(4, .int (nI c)), (0, .ref 30), (1, .long s), (3, .int (nI b))], [.int (nI c), .ref (33 + n)], hp)) rfl K9) ?_
        refine px_gx (fun _ K9 => px_al (33 + n) (.int (nI (x c))) rfl hw (Or.inl ⟨rfl, Or.inl rfl⟩) (nI_pos (by omega)) (by rw [nI_clamp (by omega)]; exact hx c (by omega)) K9) ?_
        show px_Gx _ _ (71, [(4, .int (nI c)), (0, .ref 30), (1, .long s), (3, .int (nI b))], [.int (nI (x c))], hp) _
        refine px_gx (fun _ K9 => px_b1 false 91 rfl rfl (decide_eq_false (fun z => hz ((nI_eq (a := x c) (b := 0) (by omega) (by decide)).mp z))) K9) ?_
        show px_Gx _ _ (74, [(4, .int (nI c)), (0, .ref 30), (1, .long s), (3, .int (nI b))], [], hp) _
        refine px_gx (fun _ K9 => px_a 3 (f' := (78, [(4, .int (nI c)), (0, .ref 30), (1, .long s), (3, .int (nI b))], [.ref 30, .int (nI c), .ref 30], hp)) rfl K9) ?_
        refine px_gx (fun _ K9 => px_gf 30 22 0 3 (.ref (33 + n)) rfl rfl h30 rfl K9) ?_
        show px_Gx _ _ (81, [(4, .int (nI c)), (0, .ref 30), (1, .long s), (3, .int (nI b))], [.ref (33 + n), .int (nI c), .ref 30], hp) _
        refine px_gx (fun _ K9 => px_a 1 (f' := (83, [(4, .int (nI c)), (0, .ref 30), (1, .long s), (3, .int (nI b))], [.int (nI c), .ref (33 + n), .int (nI c), .ref 30], hp)) rfl K9) ?_
        refine px_gx (fun _ K9 => px_al (33 + n) (.int (nI (x c))) rfl hw (Or.inl ⟨rfl, Or.inl rfl⟩) (nI_pos (by omega)) (by rw [nI_clamp (by omega)]; exact hx c (by omega)) K9) ?_
        show px_Gx _ _ (84, [(4, .int (nI c)), (0, .ref 30), (1, .long s), (3, .int (nI b))], [.int (nI (x c)), .int (nI c), .ref 30], hp) _
        refine px_gx (fun _ K9 => px_a 1 (f' := (85, [(4, .int (nI c)), (0, .ref 30), (1, .long s), (3, .int (nI b))], [.ref 30, .int (nI (x c)), .int (nI c), .ref 30], hp)) rfl K9) ?_
        refine px_gx (fun _ K9 => px_gf 30 22 0 3 (.ref (33 + n)) rfl rfl h30 rfl K9) ?_
        show px_Gx _ _ (88, [(4, .int (nI c)), (0, .ref 30), (1, .long s), (3, .int (nI b))], [.ref (33 + n), .int (nI (x c)), .int (nI c), .ref 30], hp) _
        refine px_gx (fun _ K9 => px_cv 30 (as := [.int (nI c), .int (nI (x c)), .ref (33 + n)]) (rest := []) rfl rfl h30 rfl rfl rfl rfl (Nat.le_of_ble_eq_true rfl) (g) K9) ?_
        show px_Gx _ _ (91, [(4, .int (nI c)), (0, .ref 30), (1, .long s), (3, .int (nI b))], [], hp1) _
        refine px_gx (fun _ K9 => px_a 2 (f' := (45, [(4, .int ((nI c) + 1)), (0, .ref 30), (1, .long s), (3, .int (nI b))], [], hp1)) rfl K9) ?_
        rw [p_s16 c (by omega)]
        refine ih (c + 1) (by omega) hp1 (g_x m x (x c) c (r c)) ((xb + (m - x c) * rb c) % m) ?_ ⟨fv, b1, b2, b3, b4⟩ (g_x_lt m14.1 xm) (Nat.mod_lt _ (by omega)) (fun d hd hl2 => ?_) (fun w hs => ?_) (fun a ha => (b5 a (by omega)).trans (sm a ha))
        · exact ⟨(b5 _ (by omega)).trans h30, (b5 _ (by omega)).trans h31, ⟨lv, (b5 _ (by omega)).trans hl, ll, hlv⟩, fun c' hc' => by
            obtain ⟨rv', q1, q2⟩ := rows c' hc'
            exact ⟨rv', (b5 _ (by omega)).trans q1, q2⟩⟩
        · by_cases e : d = c
          · rw [e]
            exact g_x_L rfl (Nat.le_of_lt xc) G1
          · exact g_x_0 (z0 d (by omega) hl2) (G3 d (by omega) hl2 e)
        · rw [← eqv w hs]
          exact g_x_S (Nat.le_of_lt xc) (fun d h1 h2 => G2 d h1 h2) (hs c hcn hlc)
set_option maxRecDepth 20000 in
theorem c_addX {d0 n m b : Nat} {s : Int64} {ld : Nat → Bool} {r : Nat → Nat → Nat} {rb : Nat → Nat} {hp0 : px_H} (pm : m = 2 ∨ m = 3 ∨ m = 5 ∨ m = 7 ∨ m = 11 ∨ m = 13) (n36 : n ≤ 36) (hb : b ≤ 1) (G : g_R m n ld r rb) (gh : g_H n m hp0 ld r rb) {wv : List Value} (hw : hp0[33 + n]? = some (10, wv)) (lw : wv.length = n + 1) : px_Gx (d0 + 2) 12 (0, [(0, .ref 30), (1, .long s), (3, .int (nI b))], [], hp0) (fun o hp' => (∀ a, ¬ (32 ≤ a ∧ a ≤ 33 + n) → hp'[a]? = hp0[a]?) ∧ (∃ wv : List Value, hp'[33 + n]? = some (10, wv) ∧ wv.length = n + 1) ∧ ((o = .inl (some (.int 1)) ∧ ∃ ld' r' rb', g_H n m hp' ld' r' rb' ∧ g_R m n ld' r' rb' ∧ ∀ w, g_S m n ld' r' rb' w ↔ g_S m n ld r rb w ∧ e_S m n (fun d => (g_bt s d : Int)) b w) ∨ (o = .inl (some (.int 0)) ∧ ∀ w, g_S m n ld r rb w → ¬ e_S m n (fun d => (g_bt s d : Int)) b w))) := by
  have m14 := g_pm pm
  show px_Gx _ _ (0, [(0, .ref 30), (1, .long s), (3, .int (nI b))], [], hp0) _
  refine px_gx (fun _ K9 => px_a 2 (f' := (3, [(4, .int 0), (0, .ref 30), (1, .long s), (3, .int (nI b))], [], hp0)) rfl K9) ?_
  refine c_addf (hp0 := hp0) n36 (fun hp wv' k1 k2 k3 k4 k5 => ?_) n 0 (by omega) hp0 gh.1 wv hw lw (fun d hd => absurd hd (Nat.not_lt_zero d)) (fun a _ => rfl)
  obtain ⟨h30, h31, ⟨lv, hl, ll, hlv⟩, rows⟩ := gh
  refine c_addr (d0 := d0) (b := b) (s := s) pm n36 G n 0 (by omega) hp (g_bt s) b ⟨(k5 _ (by omega)).trans h30, (k5 _ (by omega)).trans h31, ⟨lv, (k5 _ (by omega)).trans hl, ll, hlv⟩, fun c hc => ?_⟩ ⟨wv', k1, k2, k3, k4⟩ (fun d _ => by have := g_bt_le s d; omega) (by omega) (fun d hd => absurd hd (Nat.not_lt_zero d)) (fun w _ => Iff.rfl) (fun a ha => k5 a (by omega))
  obtain ⟨rv, q1, q2⟩ := rows c hc
  exact ⟨rv, (k5 _ (by omega)).trans q1, q2⟩
