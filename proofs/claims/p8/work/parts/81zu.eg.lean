def h_R (m : Nat) (kd : Nat → Bool) (kr : Nat → Nat → Nat) : Prop := ∀ c, c < 36 → kd c = true → 0 < kr c c ∧ (∀ d, c < d → d < 36 → kr c d = 0) ∧ ∀ d, d < 37 → kr c d < m
def h_S (m : Nat) (kd : Nat → Bool) (kr : Nat → Nat → Nat) (w : Nat → Int) : Prop := ∀ c, c < 36 → kd c = true → e_S m 36 (fun d => (kr c d : Int)) (kr c 36 : Nat) w
theorem h_sat {m : Nat} {kd : Nat → Bool} {kr : Nat → Nat → Nat} (pm : m = 2 ∨ m = 3 ∨ m = 5 ∨ m = 7 ∨ m = 11 ∨ m = 13) (G : h_R m kd kr) : ∃ w, h_S m kd kr w := by
  have m14 := g_pm pm
  obtain ⟨w, hw⟩ := e_tri (m := (m : Int)) (C := 36) (ld := fun c => kd c = true) (r := fun c d => (kr c d : Int)) (rb := fun c => (kr c 36 : Int)) (fun c hc hl d h1 h2 => by
    show ((kr c d : Nat) : Int) = 0
    rw [(G c hc hl).2.1 d h1 h2]
    rfl) (fun c hc hl => by
    obtain ⟨k, -, hk⟩ := e_p m m14.2 pm (kr c c) ((G c hc hl).2.2 c (by omega)) (G c hc hl).1
    refine ⟨k, ?_⟩
    have := e_inv hk
    rw [Int.mul_comm] at this
    exact this)
  exact ⟨w, hw⟩
def h_r (L : Nat) (x : Nat → Nat) (kr : Nat → Nat → Nat) (c d : Nat) : Nat := if c = L then x d else kr c d
theorem h_keep {m L : Nat} {kd : Nat → Bool} {x : Nat → Nat} {kr : Nat → Nat → Nat} (G : h_R m kd kr) (hL : L < 36) (nL : kd L = false) (xL : x L ≠ 0) (hz : ∀ d, L < d → d < 36 → x d = 0) (xm : ∀ d, d < 37 → x d < m) : h_R m (g_l kd L) (h_r L x kr) ∧ ∀ w, h_S m (g_l kd L) (h_r L x kr) w ↔ h_S m kd kr w ∧ e_S m 36 (fun d => (x d : Int)) (x 36 : Nat) w := by
  have eL : ∀ d, h_r L x kr L d = x d := fun d => if_pos rfl
  have eC : ∀ c, c ≠ L → ∀ d, h_r L x kr c d = kr c d := fun c e d => if_neg e
  have ldc : ∀ c, g_l kd L c = true → c = L ∨ (c ≠ L ∧ kd c = true) := fun c h => by
    unfold g_l at h
    rw [Bool.or_eq_true, decide_eq_true_eq] at h
    by_cases e : c = L
    · exact Or.inl e
    · exact Or.inr ⟨e, h.resolve_right e⟩
  refine ⟨fun c hc hlc => ?_, fun w => ?_⟩
  · rcases ldc c hlc with rfl | ⟨e, h2⟩
    · exact ⟨by rw [eL]; exact Nat.pos_of_ne_zero xL, fun d h1 h2 => by rw [eL]; exact hz d h1 h2, fun d hd => by rw [eL]; exact xm d hd⟩
    · obtain ⟨g1, g2, g3⟩ := G c hc h2
      exact ⟨by rw [eC c e]; exact g1, fun d h1 h2 => by rw [eC c e]; exact g2 d h1 h2, fun d hd => by rw [eC c e]; exact g3 d hd⟩
  · have kL : e_S m 36 (fun d => (h_r L x kr L d : Int)) (h_r L x kr L 36 : Nat) w ↔ e_S m 36 (fun d => (x d : Int)) (x 36 : Nat) w := by
      have e1 : (fun d => (h_r L x kr L d : Int)) = fun d => (x d : Int) := by
        funext d
        rw [eL]
      rw [e1, eL]
    have kC : ∀ c, c ≠ L → (e_S m 36 (fun d => (h_r L x kr c d : Int)) (h_r L x kr c 36 : Nat) w ↔ e_S m 36 (fun d => (kr c d : Int)) (kr c 36 : Nat) w) := fun c e => by
      have e1 : (fun d => (h_r L x kr c d : Int)) = fun d => (kr c d : Int) := by
        funext d
        rw [eC c e]
      rw [e1, eC c e]
    constructor
    · intro h
      refine ⟨fun c hc hl => ?_, kL.mp (h L hL (by unfold g_l; rw [decide_eq_true rfl, Bool.or_true]))⟩
      have e : c ≠ L := fun z => by
        rw [z, nL] at hl
        cases hl
      exact (kC c e).mp (h c hc (by unfold g_l; rw [hl, Bool.true_or]))
    · rintro ⟨h, hx⟩ c hc hlc
      rcases ldc c hlc with rfl | ⟨e, h2⟩
      · exact kL.mpr hx
      · exact (kC c e).mpr (h c hc h2)
theorem h_el {m x v k : Nat} (m0 : 0 < m) (hk : v * k % m = 1) : (x + (m - x * k % m) * v) % m = 0 := by
  have tm : x * k % m ≤ m := Nat.le_of_lt (Nat.mod_lt _ m0)
  have h1 := e_sr (m := m) (x := x) (r := v) (t := x * k % m) tm
  have h2 := e_md (m := m) (x := x * k % m) (y := x * k) rfl
  have h3 := e_inv (m := m) (v := k) (k := v) hk
  have h4 := Int.dvd_add h1 (Int.dvd_neg.mpr (Int.dvd_add (e_dl h2 (v : Int)) (e_dr h3 (x : Int))))
  have e : (((x + (m - x * k % m) * v) % m : Nat) : Int) - ((x : Int) - ((x * k % m : Nat) : Int) * v) + -((((x * k % m : Nat) : Int) - ((x * k : Nat) : Int)) * v + x * ((v : Int) * k - 1)) = (((x + (m - x * k % m) * v) % m : Nat) : Int) := by
    rw [Int.sub_mul, Int.mul_sub, Int.mul_one, Int.natCast_mul, Int.mul_assoc (x : Int), Int.mul_comm (k : Int) (v : Int)]
    omega
  rw [e] at h4
  have h5 : m ∣ (x + (m - x * k % m) * v) % m := Int.natCast_dvd_natCast.mp h4
  have h6 : (x + (m - x * k % m) * v) % m < m := Nat.mod_lt _ m0
  exact Nat.eq_zero_of_dvd_of_lt h5 h6
theorem h_ix (c i : Nat) : (37 : Int32) * nI c + nI i = nI (37 * c + i) := by rw [show (37 : Int32) = nI 37 from rfl, pk_mul, nI_add]
theorem h_s37 : ∀ i, i < 38 → nI i + 1 = nI (i + 1) := by decide +kernel
def h_H (n : Nat) (hp : px_H) (kd : Nat → Bool) (kr : Nat → Nat → Nat) : Prop := (∃ kv : List Value, hp[44 + n]? = some (12, kv) ∧ kv.length = 36 ∧ ∀ c, c < 36 → kv[c]? = some (.int (if kd c = true then 1 else 0))) ∧ ∃ ks : List Value, hp[45 + n]? = some (10, ks) ∧ ks.length = 1332 ∧ ∀ c, c < 36 → kd c = true → ∀ d, d < 37 → ks[37 * c + d]? = some (.int (nI (kr c d)))
theorem h_inv {d a m : Nat} {hp : px_H} (pm : m = 2 ∨ m = 3 ∨ m = 5 ∨ m = 7 ∨ m = 11 ∨ m = 13) (a0 : 0 < a) (am : a < m) : ∃ k : Nat, k < m ∧ a * k % m = 1 ∧ px_Go d 77 (0, [(0, .int (nI a)), (1, .int (nI m))], [], hp) (.inl (some (.int (nI k))), hp) := by
  have m14 := g_pm pm
  have ea : (nI a).toInt = a := nI_toInt (by omega)
  have em : (nI m).toInt = m := nI_toInt (by omega)
  obtain ⟨o, hp', g, k, rfl, rfl, k1, k2, k3⟩ := m_inverse (d := d) (hp := hp) (v := nI a) (p := nI m) (by rw [em]; unfold m_pr; omega) (by omega) (by omega)
  rw [ea, em] at k3
  rw [em] at k2
  refine ⟨k.toInt.toNat, by omega, ?_, ?_⟩
  · have e : ((a * k.toInt.toNat % m : Nat) : Int) = 1 := by
      rw [Int.natCast_emod, Int.natCast_mul, Int.toNat_of_nonneg (by omega)]
      exact k3
    omega
  · have e : nI k.toInt.toNat = k := by
      apply Int32.toInt_inj.mp
      rw [nI_toInt (by omega)]
      omega
    rw [e]
    exact g
set_option maxRecDepth 20000 in
theorem k_el {d0 n m t c : Nat} {th w h pn pl fo le ru : Int32} {x kc : Nat → Nat} {ks : List Value} {hp0 : px_H} {Q : px_O → px_H → Prop} (m14 : 2 ≤ m ∧ m < 14) (tm : t ≤ m) (hc : c < 36) (xm : ∀ d, d < 37 → x d < m) (km : ∀ d, d < 37 → kc d < m) (lks : ks.length = 1332) (hkc : ∀ d, d < 37 → ks[37 * c + d]? = some (.int (nI (kc d)))) (K : ∀ (hp : px_H) (xv : List Value), hp[46 + n]? = some (10, xv) → xv.length = 37 → (∀ d, d < 37 → xv[d]? = some (.int (nI ((x d + (m - t) * kc d) % m)))) → (∀ a, a ≠ 46 + n → hp[a]? = hp0[a]?) → px_Gx d0 82 (142, [(2, .int (nI c)), (0, .ref (38 + n)), (1, .int (nI m))], [], hp) Q) : ∀ q i, i + q = 37 → ∀ (hp : px_H) (xv kv : List Value) (hm : hp[38 + n]? = some (4, m_O n th w h pn pl fo le ru)) (hk : hp[44 + n]? = some (12, kv)) (hks : hp[45 + n]? = some (10, ks)) (hx : hp[46 + n]? = some (10, xv)) (lx : xv.length = 37) (f1 : ∀ d, d < i → xv[d]? = some (.int (nI ((x d + (m - t) * kc d) % m)))) (f2 : ∀ d, i ≤ d → d < 37 → xv[d]? = some (.int (nI (x d)))) (sm : ∀ a, a ≠ 46 + n → hp[a]? = hp0[a]?), px_Gx d0 82 (96, [(4, .int (nI i)), (3, .int (nI t)), (2, .int (nI c)), (0, .ref (38 + n)), (1, .int (nI m))], [], hp) Q := by
  intro q
  induction q with
  | zero =>
    intro i hq0 hp xv kv hm hk hks hx lx f1 f2 sm
    refine px_gx (fun _ K9 => px_a 2 (f' := (100, [(4, .int (nI i)), (3, .int (nI t)), (2, .int (nI c)), (0, .ref (38 + n)), (1, .int (nI m))], [.int 37, .int (nI i)], hp)) rfl K9) ?_
    refine px_gx (fun _ K9 => px_b2 true 142 rfl rfl (decide_eq_true (show nI 37 ≤ nI i by rw [Int32.le_iff_toInt_le, nI_toInt (by omega), nI_toInt (by omega)]; omega)) K9) ?_
    show px_Gx _ _ (142, [(4, .int (nI i)), (3, .int (nI t)), (2, .int (nI c)), (0, .ref (38 + n)), (1, .int (nI m))], [], hp) _
    exact px_wk [(2, .int (nI c)), (0, .ref (38 + n)), (1, .int (nI m))] ⟨rfl, rfl, rfl, trivial⟩ (K hp xv hx lx (fun d hd => f1 d (by omega)) sm)
  | succ q ih =>
    intro i hq0 hp xv kv hm hk hks hx lx f1 f2 sm
    have x1 := xm i (by omega)
    have r1 := km i (by omega)
    have k1 := g_ml (a := m - t) (b := kc i) (by omega) (by omega)
    refine px_gx (fun _ K9 => px_a 2 (f' := (100, [(4, .int (nI i)), (3, .int (nI t)), (2, .int (nI c)), (0, .ref (38 + n)), (1, .int (nI m))], [.int 37, .int (nI i)], hp)) rfl K9) ?_
    refine px_gx (fun _ K9 => px_b2 false 142 rfl rfl (decide_eq_false (show ¬ nI 37 ≤ nI i by rw [Int32.le_iff_toInt_le, nI_toInt (by omega), nI_toInt (by omega)]; omega)) K9) ?_
    show px_Gx _ _ (103, [(4, .int (nI i)), (3, .int (nI t)), (2, .int (nI c)), (0, .ref (38 + n)), (1, .int (nI m))], [], hp) _
    refine px_gx (fun _ K9 => px_a 1 (f' := (104, [(4, .int (nI i)), (3, .int (nI t)), (2, .int (nI c)), (0, .ref (38 + n)), (1, .int (nI m))], [.ref (38 + n)], hp)) rfl K9) ?_
    refine px_gx (fun _ K9 => px_gf (38 + n) 33 4 12 (.ref (46 + n)) rfl rfl hm rfl K9) ?_
    show px_Gx _ _ (107, [(4, .int (nI i)), (3, .int (nI t)), (2, .int (nI c)), (0, .ref (38 + n)), (1, .int (nI m))], [.ref (46 + n)], hp) _
    refine px_gx (fun _ K9 => px_a 2 (f' := (110, [(4, .int (nI i)), (3, .int (nI t)), (2, .int (nI c)), (0, .ref (38 + n)), (1, .int (nI m))], [.ref (38 + n), .int (nI i), .ref (46 + n)], hp)) rfl K9) ?_
    refine px_gx (fun _ K9 => px_gf (38 + n) 33 4 12 (.ref (46 + n)) rfl rfl hm rfl K9) ?_
    show px_Gx _ _ (113, [(4, .int (nI i)), (3, .int (nI t)), (2, .int (nI c)), (0, .ref (38 + n)), (1, .int (nI m))], [.ref (46 + n), .int (nI i), .ref (46 + n)], hp) _
    refine px_gx (fun _ K9 => px_a 1 (f' := (115, [(4, .int (nI i)), (3, .int (nI t)), (2, .int (nI c)), (0, .ref (38 + n)), (1, .int (nI m))], [.int (nI i), .ref (46 + n), .int (nI i), .ref (46 + n)], hp)) rfl K9) ?_
    refine px_gx (fun _ K9 => px_al (46 + n) (.int (nI (x i))) rfl hx (Or.inl ⟨rfl, Or.inl rfl⟩) (nI_pos (by omega)) (by rw [nI_clamp (by omega)]; exact f2 i (Nat.le_refl i) (by omega)) K9) ?_
    show px_Gx _ _ (116, [(4, .int (nI i)), (3, .int (nI t)), (2, .int (nI c)), (0, .ref (38 + n)), (1, .int (nI m))], [.int (nI (x i)), .int (nI i), .ref (46 + n)], hp) _
    refine px_gx (fun _ K9 => px_a 2 (f' := (118, [(4, .int (nI i)), (3, .int (nI t)), (2, .int (nI c)), (0, .ref (38 + n)), (1, .int (nI m))], [.int (nI t), .int (nI m), .int (nI (x i)), .int (nI i), .ref (46 + n)], hp)) rfl K9) ?_
    refine px_gx (fun _ K9 => px_a 1 (f' := (119, [(4, .int (nI i)), (3, .int (nI t)), (2, .int (nI c)), (0, .ref (38 + n)), (1, .int (nI m))], [.int ((nI m) - (nI t)), .int (nI (x i)), .int (nI i), .ref (46 + n)], hp)) rfl K9) ?_
    have ev : ((nI m) - (nI t)) = (nI (m - t)) := pk_sub (by omega)
    show px_Gx _ _ (119, [(4, .int (nI i)), (3, .int (nI t)), (2, .int (nI c)), (0, .ref (38 + n)), (1, .int (nI m))], [.int ((nI m) - (nI t)), .int (nI (x i)), .int (nI i), .ref (46 + n)], hp) _
    rw [ev]
    show px_Gx _ _ (119, [(4, .int (nI i)), (3, .int (nI t)), (2, .int (nI c)), (0, .ref (38 + n)), (1, .int (nI m))], [.int (nI (m - t)), .int (nI (x i)), .int (nI i), .ref (46 + n)], hp) _
    refine px_gx (fun _ K9 => px_a 1 (f' := (120, [(4, .int (nI i)), (3, .int (nI t)), (2, .int (nI c)), (0, .ref (38 + n)), (1, .int (nI m))], [.ref (38 + n), .int (nI (m - t)), .int (nI (x i)), .int (nI i), .ref (46 + n)], hp)) rfl K9) ?_
    refine px_gx (fun _ K9 => px_gf (38 + n) 30 4 11 (.ref (45 + n)) rfl rfl hm rfl K9) ?_
    show px_Gx _ _ (123, [(4, .int (nI i)), (3, .int (nI t)), (2, .int (nI c)), (0, .ref (38 + n)), (1, .int (nI m))], [.ref (45 + n), .int (nI (m - t)), .int (nI (x i)), .int (nI i), .ref (46 + n)], hp) _
    refine px_gx (fun _ K9 => px_a 5 (f' := (130, [(4, .int (nI i)), (3, .int (nI t)), (2, .int (nI c)), (0, .ref (38 + n)), (1, .int (nI m))], [.int ((37 * (nI c)) + (nI i)), .ref (45 + n), .int (nI (m - t)), .int (nI (x i)), .int (nI i), .ref (46 + n)], hp)) rfl K9) ?_
    refine px_gx (fun _ K9 => px_al (45 + n) (.int (nI (kc i))) rfl hks (Or.inl ⟨rfl, Or.inl rfl⟩) (by rw [h_ix]; exact nI_pos (by omega)) (by rw [h_ix, nI_clamp (by omega)]; exact hkc i (by omega)) K9) ?_
    show px_Gx _ _ (131, [(4, .int (nI i)), (3, .int (nI t)), (2, .int (nI c)), (0, .ref (38 + n)), (1, .int (nI m))], [.int (nI (kc i)), .int (nI (m - t)), .int (nI (x i)), .int (nI i), .ref (46 + n)], hp) _
    refine px_gx (fun _ K9 => px_a 3 (f' := (134, [(4, .int (nI i)), (3, .int (nI t)), (2, .int (nI c)), (0, .ref (38 + n)), (1, .int (nI m))], [.int (nI m), .int ((nI (x i)) + ((nI (m - t)) * (nI (kc i)))), .int (nI i), .ref (46 + n)], hp)) rfl K9) ?_
    refine px_gx (fun _ K9 => px_irem rfl (g_n0 (by omega) (by omega)) K9) ?_
    have ev : (((nI (x i)) + ((nI (m - t)) * (nI (kc i)))) - ((nI (x i)) + ((nI (m - t)) * (nI (kc i)))) / (nI m) * (nI m)) = (nI ((x i + (m - t) * kc i) % m)) := by rw [pk_mul, nI_add, g_mr (by omega) (by omega) (by omega)]
    show px_Gx _ _ (135, [(4, .int (nI i)), (3, .int (nI t)), (2, .int (nI c)), (0, .ref (38 + n)), (1, .int (nI m))], [.int (((nI (x i)) + ((nI (m - t)) * (nI (kc i)))) - ((nI (x i)) + ((nI (m - t)) * (nI (kc i)))) / (nI m) * (nI m)), .int (nI i), .ref (46 + n)], hp) _
    rw [ev]
    show px_Gx _ _ (135, [(4, .int (nI i)), (3, .int (nI t)), (2, .int (nI c)), (0, .ref (38 + n)), (1, .int (nI m))], [.int (nI ((x i + (m - t) * kc i) % m)), .int (nI i), .ref (46 + n)], hp) _
    refine px_gx (fun _ K9 => px_ias (46 + n) rfl hx (by omega) (nI_pos (by omega)) (by rw [nI_clamp (by omega)]; omega) K9) ?_
    have hf1__38___n_ : (hp.set (46 + n) (10, (xv.set (nI i).toNatClampNeg (.int (nI ((x i + (m - t) * kc i) % m))))))[(38 + n)]? = some (4, [.int th, .int w, .int h, .ref (39 + n), .int pn, .ref (40 + n), .ref (41 + n), .ref (42 + n), .int pl, .ref (43 + n), .ref (44 + n), .ref (45 + n), .ref (46 + n), .int fo, .ref (47 + n), .int le, .ref (48 + n), .int ru, .ref (49 + n), .ref (50 + n), .ref (51 + n)]) := px_ne hm (by omega)
    have hf1__44___n_ : (hp.set (46 + n) (10, (xv.set (nI i).toNatClampNeg (.int (nI ((x i + (m - t) * kc i) % m))))))[(44 + n)]? = some (12, kv) := px_ne hk (by omega)
    have hf1__45___n_ : (hp.set (46 + n) (10, (xv.set (nI i).toNatClampNeg (.int (nI ((x i + (m - t) * kc i) % m))))))[(45 + n)]? = some (10, ks) := px_ne hks (by omega)
    have hf1__46___n_ : (hp.set (46 + n) (10, (xv.set (nI i).toNatClampNeg (.int (nI ((x i + (m - t) * kc i) % m))))))[(46 + n)]? = some (10, (xv.set (nI i).toNatClampNeg (.int (nI ((x i + (m - t) * kc i) % m))))) := px_self hx
    show px_Gx _ _ (136, [(4, .int (nI i)), (3, .int (nI t)), (2, .int (nI c)), (0, .ref (38 + n)), (1, .int (nI m))], [], (hp.set (46 + n) (10, (xv.set (nI i).toNatClampNeg (.int (nI ((x i + (m - t) * kc i) % m))))))) _
    refine px_gx (fun _ K9 => px_a 2 (f' := (96, [(4, .int ((nI i) + 1)), (3, .int (nI t)), (2, .int (nI c)), (0, .ref (38 + n)), (1, .int (nI m))], [], (hp.set (46 + n) (10, (xv.set (nI i).toNatClampNeg (.int (nI ((x i + (m - t) * kc i) % m)))))))) rfl K9) ?_
    rw [h_s37 i (by omega)]
    exact ih (i + 1) (by omega) _ _ kv hf1__38___n_ hf1__44___n_ hf1__45___n_ hf1__46___n_ (by rw [List.length_set]; exact lx) (fun d hd => by
      rw [nI_clamp (by omega)]
      by_cases e : d = i
      · subst e
        exact List.getElem?_set_self (by omega)
      · rw [List.getElem?_set_ne (by omega)]
        exact f1 d (by omega)) (fun d h1 h2 => by
      rw [nI_clamp (by omega), List.getElem?_set_ne (by omega)]
      exact f2 d (by omega) h2) (fun a ha => (List.getElem?_set_ne (Ne.symm ha)).trans (sm a ha))
set_option maxRecDepth 20000 in
theorem k_cp {d0 n m c : Nat} {th w h pn pl fo le ru : Int32} {x : Nat → Nat} {xv : List Value} {hp0 : px_H} {ks0 : List Value} (hc : c < 36) (lx : xv.length = 37) (hxx : ∀ d, d < 37 → xv[d]? = some (.int (nI (x d)))) : ∀ q i, i + q = 37 → ∀ (hp : px_H) (ks kv : List Value) (hm : hp[38 + n]? = some (4, m_O n th w h pn pl fo le ru)) (hk : hp[44 + n]? = some (12, kv)) (hks : hp[45 + n]? = some (10, ks)) (hx : hp[46 + n]? = some (10, xv)) (lks : ks.length = 1332) (f1 : ∀ d, d < i → ks[37 * c + d]? = some (.int (nI (x d)))) (f2 : ∀ j, (j < 37 * c ∨ 37 * c + 37 ≤ j) → ks[j]? = ks0[j]?) (sm : ∀ a, a ≠ 45 + n → hp[a]? = hp0[a]?), px_Gx d0 82 (37, [(3, .int (nI i)), (2, .int (nI c)), (0, .ref (38 + n)), (1, .int (nI m))], [], hp) (fun o hp' => o = .inl (some (.int 1)) ∧ (∃ ks : List Value, hp'[45 + n]? = some (10, ks) ∧ ks.length = 1332 ∧ (∀ d, d < 37 → ks[37 * c + d]? = some (.int (nI (x d)))) ∧ ∀ j, (j < 37 * c ∨ 37 * c + 37 ≤ j) → ks[j]? = ks0[j]?) ∧ ∀ a, a ≠ 45 + n → hp'[a]? = hp0[a]?) := by
  intro q
  induction q with
  | zero =>
    intro i hq0 hp ks kv hm hk hks hx lks f1 f2 sm
    refine px_gx (fun _ K9 => px_a 2 (f' := (40, [(3, .int (nI i)), (2, .int (nI c)), (0, .ref (38 + n)), (1, .int (nI m))], [.int 37, .int (nI i)], hp)) rfl K9) ?_
    refine px_gx (fun _ K9 => px_b2 true 66 rfl rfl (decide_eq_true (show nI 37 ≤ nI i by rw [Int32.le_iff_toInt_le, nI_toInt (by omega), nI_toInt (by omega)]; omega)) K9) ?_
    show px_Gx _ _ (66, [(3, .int (nI i)), (2, .int (nI c)), (0, .ref (38 + n)), (1, .int (nI m))], [], hp) _
    refine px_gx (fun _ K9 => px_a 1 (f' := (67, [(3, .int (nI i)), (2, .int (nI c)), (0, .ref (38 + n)), (1, .int (nI m))], [.int 1], hp)) rfl K9) ?_
    exact ⟨_, _, px_ri rfl rfl rfl, rfl, ⟨ks, hks, lks, fun d hd => f1 d (by omega), f2⟩, sm⟩
  | succ q ih =>
    intro i hq0 hp ks kv hm hk hks hx lks f1 f2 sm
    refine px_gx (fun _ K9 => px_a 2 (f' := (40, [(3, .int (nI i)), (2, .int (nI c)), (0, .ref (38 + n)), (1, .int (nI m))], [.int 37, .int (nI i)], hp)) rfl K9) ?_
    refine px_gx (fun _ K9 => px_b2 false 66 rfl rfl (decide_eq_false (show ¬ nI 37 ≤ nI i by rw [Int32.le_iff_toInt_le, nI_toInt (by omega), nI_toInt (by omega)]; omega)) K9) ?_
    show px_Gx _ _ (43, [(3, .int (nI i)), (2, .int (nI c)), (0, .ref (38 + n)), (1, .int (nI m))], [], hp) _
    refine px_gx (fun _ K9 => px_a 1 (f' := (44, [(3, .int (nI i)), (2, .int (nI c)), (0, .ref (38 + n)), (1, .int (nI m))], [.ref (38 + n)], hp)) rfl K9) ?_
    refine px_gx (fun _ K9 => px_gf (38 + n) 30 4 11 (.ref (45 + n)) rfl rfl hm rfl K9) ?_
    show px_Gx _ _ (47, [(3, .int (nI i)), (2, .int (nI c)), (0, .ref (38 + n)), (1, .int (nI m))], [.ref (45 + n)], hp) _
    refine px_gx (fun _ K9 => px_a 6 (f' := (54, [(3, .int (nI i)), (2, .int (nI c)), (0, .ref (38 + n)), (1, .int (nI m))], [.ref (38 + n), .int ((37 * (nI c)) + (nI i)), .ref (45 + n)], hp)) rfl K9) ?_
    refine px_gx (fun _ K9 => px_gf (38 + n) 33 4 12 (.ref (46 + n)) rfl rfl hm rfl K9) ?_
    show px_Gx _ _ (57, [(3, .int (nI i)), (2, .int (nI c)), (0, .ref (38 + n)), (1, .int (nI m))], [.ref (46 + n), .int ((37 * (nI c)) + (nI i)), .ref (45 + n)], hp) _
    refine px_gx (fun _ K9 => px_a 1 (f' := (58, [(3, .int (nI i)), (2, .int (nI c)), (0, .ref (38 + n)), (1, .int (nI m))], [.int (nI i), .ref (46 + n), .int ((37 * (nI c)) + (nI i)), .ref (45 + n)], hp)) rfl K9) ?_
    refine px_gx (fun _ K9 => px_al (46 + n) (.int (nI (x i))) rfl hx (Or.inl ⟨rfl, Or.inl rfl⟩) (nI_pos (by omega)) (by rw [nI_clamp (by omega)]; exact hxx i (by omega)) K9) ?_
    show px_Gx _ _ (59, [(3, .int (nI i)), (2, .int (nI c)), (0, .ref (38 + n)), (1, .int (nI m))], [.int (nI (x i)), .int ((37 * (nI c)) + (nI i)), .ref (45 + n)], hp) _
    refine px_gx (fun _ K9 => px_ias (45 + n) rfl hks (by omega) (by rw [h_ix]; exact nI_pos (by omega)) (by rw [h_ix, nI_clamp (by omega)]; omega) K9) ?_
    have hf1__38___n_ : (hp.set (45 + n) (10, (ks.set (37 * nI c + nI i).toNatClampNeg (.int (nI (x i))))))[(38 + n)]? = some (4, [.int th, .int w, .int h, .ref (39 + n), .int pn, .ref (40 + n), .ref (41 + n), .ref (42 + n), .int pl, .ref (43 + n), .ref (44 + n), .ref (45 + n), .ref (46 + n), .int fo, .ref (47 + n), .int le, .ref (48 + n), .int ru, .ref (49 + n), .ref (50 + n), .ref (51 + n)]) := px_ne hm (by omega)
    have hf1__44___n_ : (hp.set (45 + n) (10, (ks.set (37 * nI c + nI i).toNatClampNeg (.int (nI (x i))))))[(44 + n)]? = some (12, kv) := px_ne hk (by omega)
    have hf1__45___n_ : (hp.set (45 + n) (10, (ks.set (37 * nI c + nI i).toNatClampNeg (.int (nI (x i))))))[(45 + n)]? = some (10, (ks.set (37 * nI c + nI i).toNatClampNeg (.int (nI (x i))))) := px_self hks
    have hf1__46___n_ : (hp.set (45 + n) (10, (ks.set (37 * nI c + nI i).toNatClampNeg (.int (nI (x i))))))[(46 + n)]? = some (10, xv) := px_ne hx (by omega)
    show px_Gx _ _ (60, [(3, .int (nI i)), (2, .int (nI c)), (0, .ref (38 + n)), (1, .int (nI m))], [], (hp.set (45 + n) (10, (ks.set (37 * nI c + nI i).toNatClampNeg (.int (nI (x i))))))) _
    refine px_gx (fun _ K9 => px_a 2 (f' := (37, [(3, .int ((nI i) + 1)), (2, .int (nI c)), (0, .ref (38 + n)), (1, .int (nI m))], [], (hp.set (45 + n) (10, (ks.set (37 * nI c + nI i).toNatClampNeg (.int (nI (x i)))))))) rfl K9) ?_
    rw [h_s37 i (by omega)]
    exact ih (i + 1) (by omega) _ _ kv hf1__38___n_ hf1__44___n_ hf1__45___n_ hf1__46___n_ (by rw [List.length_set]; exact lks) (fun d hd => by
      rw [h_ix, nI_clamp (by omega)]
      by_cases e : d = i
      · subst e
        exact List.getElem?_set_self (by omega)
      · rw [List.getElem?_set_ne (by omega)]
        exact f1 d (by omega)) (fun j hj => by
      rw [h_ix, nI_clamp (by omega), List.getElem?_set_ne (by omega)]
      exact f2 j hj) (fun a ha => (List.getElem?_set_ne (Ne.symm ha)).trans (sm a ha))
