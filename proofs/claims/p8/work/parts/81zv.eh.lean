set_option maxRecDepth 20000 in
theorem k_kl {d0 n m : Nat} {th w h pn pl fo le ru : Int32} {kd : Nat → Bool} {kr : Nat → Nat → Nat} {x0 : Nat → Nat} {hp0 : px_H} (pm : m = 2 ∨ m = 3 ∨ m = 5 ∨ m = 7 ∨ m = 11 ∨ m = 13) (G : h_R m kd kr) : ∀ e, e ≤ 36 → ∀ (hp : px_H) (x : Nat → Nat) (xv : List Value) (hm : hp[38 + n]? = some (4, m_O n th w h pn pl fo le ru)) (hh : h_H n hp kd kr) (hx : hp[46 + n]? = some (10, xv)) (lx : xv.length = 37) (hxx : ∀ d, d < 37 → xv[d]? = some (.int (nI (x d)))) (xm : ∀ d, d < 37 → x d < m) (hz : ∀ d, e ≤ d → d < 36 → x d = 0) (eqv : ∀ w, h_S m kd kr w → (e_S m 36 (fun d => (x d : Int)) (x 36 : Nat) w ↔ e_S m 36 (fun d => (x0 d : Int)) (x0 36 : Nat) w)) (sm : ∀ a, a ≠ 44 + n → a ≠ 45 + n → a ≠ 46 + n → hp[a]? = hp0[a]?), px_Gx (d0 + 1) 82 (3, [(2, .int (nI e - 1)), (0, .ref (38 + n)), (1, .int (nI m))], [], hp) (fun o hp' => (∀ a, a ≠ 44 + n → a ≠ 45 + n → a ≠ 46 + n → hp'[a]? = hp0[a]?) ∧ (∃ xv : List Value, hp'[46 + n]? = some (10, xv) ∧ xv.length = 37) ∧ ((o = .inl (some (.int 1)) ∧ ∃ kd' kr', h_H n hp' kd' kr' ∧ h_R m kd' kr' ∧ ∀ w, h_S m kd' kr' w ↔ h_S m kd kr w ∧ e_S m 36 (fun d => (x0 d : Int)) (x0 36 : Nat) w) ∨ (o = .inl (some (.int 0)) ∧ h_H n hp' kd kr ∧ ∀ w, h_S m kd kr w → ¬ e_S m 36 (fun d => (x0 d : Int)) (x0 36 : Nat) w))) := by
  have m14 := g_pm pm
  intro e1
  induction e1 with
  | zero =>
    intro he hp x xv hm hh hx lx hxx xm hz eqv sm
    have hh2 := hh
    obtain ⟨⟨kv, hk, lk, hkv⟩, ks, hks, lks, hkr⟩ := hh
    show px_Gx _ _ (3, [(2, .int (-1)), (0, .ref (38 + n)), (1, .int (nI m))], [], hp) _
    have x36 := xm 36 (by omega)
    by_cases e : x 36 = 0
    · 
      refine px_gx (fun _ K9 => px_a 3 (f' := (149, [(2, .int (-1)), (0, .ref (38 + n)), (1, .int (nI m))], [.ref (38 + n)], hp)) rfl K9) ?_
      refine px_gx (fun _ K9 => px_gf (38 + n) 33 4 12 (.ref (46 + n)) rfl rfl hm rfl K9) ?_
      show px_Gx _ _ (152, [(2, .int (-1)), (0, .ref (38 + n)), (1, .int (nI m))], [.ref (46 + n)], hp) _
      refine px_gx (fun _ K9 => px_a 1 (f' := (154, [(2, .int (-1)), (0, .ref (38 + n)), (1, .int (nI m))], [.int 36, .ref (46 + n)], hp)) rfl K9) ?_
      refine px_gx (fun _ K9 => px_al (46 + n) (.int (nI (x 36))) rfl hx (Or.inl ⟨rfl, Or.inl rfl⟩) (by decide) (hxx 36 (by omega)) K9) ?_
      show px_Gx _ _ (155, [(2, .int (-1)), (0, .ref (38 + n)), (1, .int (nI m))], [.int (nI (x 36))], hp) _
      refine px_gx (fun _ K9 => px_b1 false 162 rfl rfl (decide_eq_false (not_not_intro (by rw [e]; rfl))) K9) ?_
      show px_Gx _ _ (158, [(2, .int (-1)), (0, .ref (38 + n)), (1, .int (nI m))], [], hp) _
      refine px_gx (fun _ K9 => px_a 2 (f' := (163, [(2, .int (-1)), (0, .ref (38 + n)), (1, .int (nI m))], [.int 1], hp)) rfl K9) ?_
      refine ⟨_, _, px_ri rfl rfl rfl, sm, ⟨xv, hx, lx⟩, Or.inl ⟨rfl, kd, kr, hh2, G, fun w => ⟨fun hs => ⟨hs, ?_⟩, fun hs => hs.1⟩⟩⟩
      rw [← eqv w hs, e_S0 (fun d hd => hz d (Nat.zero_le d) hd), e]
      exact Int.dvd_zero _
    · 
      refine px_gx (fun _ K9 => px_a 3 (f' := (149, [(2, .int (-1)), (0, .ref (38 + n)), (1, .int (nI m))], [.ref (38 + n)], hp)) rfl K9) ?_
      refine px_gx (fun _ K9 => px_gf (38 + n) 33 4 12 (.ref (46 + n)) rfl rfl hm rfl K9) ?_
      show px_Gx _ _ (152, [(2, .int (-1)), (0, .ref (38 + n)), (1, .int (nI m))], [.ref (46 + n)], hp) _
      refine px_gx (fun _ K9 => px_a 1 (f' := (154, [(2, .int (-1)), (0, .ref (38 + n)), (1, .int (nI m))], [.int 36, .ref (46 + n)], hp)) rfl K9) ?_
      refine px_gx (fun _ K9 => px_al (46 + n) (.int (nI (x 36))) rfl hx (Or.inl ⟨rfl, Or.inl rfl⟩) (by decide) (hxx 36 (by omega)) K9) ?_
      show px_Gx _ _ (155, [(2, .int (-1)), (0, .ref (38 + n)), (1, .int (nI m))], [.int (nI (x 36))], hp) _
      refine px_gx (fun _ K9 => px_b1 true 162 rfl rfl (decide_eq_true (fun z => e ((nI_eq (a := x 36) (b := 0) (by omega) (by decide)).mp z))) K9) ?_
      show px_Gx _ _ (162, [(2, .int (-1)), (0, .ref (38 + n)), (1, .int (nI m))], [], hp) _
      refine px_gx (fun _ K9 => px_a 1 (f' := (163, [(2, .int (-1)), (0, .ref (38 + n)), (1, .int (nI m))], [.int 0], hp)) rfl K9) ?_
      refine ⟨_, _, px_ri rfl rfl rfl, sm, ⟨xv, hx, lx⟩, Or.inr ⟨rfl, hh2, fun w hs hE => ?_⟩⟩
      rw [← eqv w hs, e_S0 (fun d hd => hz d (Nat.zero_le d) hd)] at hE
      have := Int.le_of_dvd (by omega) hE
      omega
  | succ c ih =>
    intro he hp x xv hm hh hx lx hxx xm hz eqv sm
    have hh2 := hh
    obtain ⟨⟨kv, hk, lk, hkv⟩, ks, hks, lks, hkr⟩ := hh
    have xc := xm c (by omega)
    rw [nI_pred]
    by_cases e : x c = 0
    · 
      refine px_gx (fun _ K9 => px_a 1 (f' := (4, [(2, .int (nI c)), (0, .ref (38 + n)), (1, .int (nI m))], [.int (nI c)], hp)) rfl K9) ?_
      refine px_gx (fun _ K9 => px_b1 false 148 rfl rfl (decide_eq_false (nI_pos (by omega))) K9) ?_
      show px_Gx _ _ (7, [(2, .int (nI c)), (0, .ref (38 + n)), (1, .int (nI m))], [], hp) _
      refine px_gx (fun _ K9 => px_a 1 (f' := (8, [(2, .int (nI c)), (0, .ref (38 + n)), (1, .int (nI m))], [.ref (38 + n)], hp)) rfl K9) ?_
      refine px_gx (fun _ K9 => px_gf (38 + n) 33 4 12 (.ref (46 + n)) rfl rfl hm rfl K9) ?_
      show px_Gx _ _ (11, [(2, .int (nI c)), (0, .ref (38 + n)), (1, .int (nI m))], [.ref (46 + n)], hp) _
      refine px_gx (fun _ K9 => px_a 1 (f' := (12, [(2, .int (nI c)), (0, .ref (38 + n)), (1, .int (nI m))], [.int (nI c), .ref (46 + n)], hp)) rfl K9) ?_
      refine px_gx (fun _ K9 => px_al (46 + n) (.int (nI (x c))) rfl hx (Or.inl ⟨rfl, Or.inl rfl⟩) (nI_pos (by omega)) (by rw [nI_clamp (by omega)]; exact hxx c (by omega)) K9) ?_
      show px_Gx _ _ (13, [(2, .int (nI c)), (0, .ref (38 + n)), (1, .int (nI m))], [.int (nI (x c))], hp) _
      refine px_gx (fun _ K9 => px_b1 false 19 rfl rfl (decide_eq_false (not_not_intro (by rw [e]; rfl))) K9) ?_
      show px_Gx _ _ (16, [(2, .int (nI c)), (0, .ref (38 + n)), (1, .int (nI m))], [], hp) _
      refine px_gx (fun _ K9 => px_a 3 (f' := (3, [(2, .int ((nI c) + (-1))), (0, .ref (38 + n)), (1, .int (nI m))], [], hp)) rfl K9) ?_
      rw [show nI c + -1 = nI c - 1 from (Int32.sub_eq_add_neg _ _).symm]
      exact ih (by omega) hp x xv hm hh2 hx lx hxx xm (fun d h1 h2 => by
        by_cases q : d = c
        · rw [q]; exact e
        · exact hz d (by omega) h2) eqv sm
    cases hkc : kd c
    · obtain ⟨G3, E3⟩ := h_keep G (show c < 36 by omega) hkc e (fun d h1 h2 => hz d (by omega) h2) xm
      · 
        refine px_gx (fun _ K9 => px_a 1 (f' := (4, [(2, .int (nI c)), (0, .ref (38 + n)), (1, .int (nI m))], [.int (nI c)], hp)) rfl K9) ?_
        refine px_gx (fun _ K9 => px_b1 false 148 rfl rfl (decide_eq_false (nI_pos (by omega))) K9) ?_
        show px_Gx _ _ (7, [(2, .int (nI c)), (0, .ref (38 + n)), (1, .int (nI m))], [], hp) _
        refine px_gx (fun _ K9 => px_a 1 (f' := (8, [(2, .int (nI c)), (0, .ref (38 + n)), (1, .int (nI m))], [.ref (38 + n)], hp)) rfl K9) ?_
        refine px_gx (fun _ K9 => px_gf (38 + n) 33 4 12 (.ref (46 + n)) rfl rfl hm rfl K9) ?_
        show px_Gx _ _ (11, [(2, .int (nI c)), (0, .ref (38 + n)), (1, .int (nI m))], [.ref (46 + n)], hp) _
        refine px_gx (fun _ K9 => px_a 1 (f' := (12, [(2, .int (nI c)), (0, .ref (38 + n)), (1, .int (nI m))], [.int (nI c), .ref (46 + n)], hp)) rfl K9) ?_
        refine px_gx (fun _ K9 => px_al (46 + n) (.int (nI (x c))) rfl hx (Or.inl ⟨rfl, Or.inl rfl⟩) (nI_pos (by omega)) (by rw [nI_clamp (by omega)]; exact hxx c (by omega)) K9) ?_
        show px_Gx _ _ (13, [(2, .int (nI c)), (0, .ref (38 + n)), (1, .int (nI m))], [.int (nI (x c))], hp) _
        refine px_gx (fun _ K9 => px_b1 true 19 rfl rfl (decide_eq_true (fun z => e ((nI_eq (a := x c) (b := 0) (by omega) (by decide)).mp z))) K9) ?_
        show px_Gx _ _ (19, [(2, .int (nI c)), (0, .ref (38 + n)), (1, .int (nI m))], [], hp) _
        refine px_gx (fun _ K9 => px_a 1 (f' := (20, [(2, .int (nI c)), (0, .ref (38 + n)), (1, .int (nI m))], [.ref (38 + n)], hp)) rfl K9) ?_
        refine px_gx (fun _ K9 => px_gf (38 + n) 27 4 10 (.ref (44 + n)) rfl rfl hm rfl K9) ?_
        show px_Gx _ _ (23, [(2, .int (nI c)), (0, .ref (38 + n)), (1, .int (nI m))], [.ref (44 + n)], hp) _
        refine px_gx (fun _ K9 => px_a 1 (f' := (24, [(2, .int (nI c)), (0, .ref (38 + n)), (1, .int (nI m))], [.int (nI c), .ref (44 + n)], hp)) rfl K9) ?_
        refine px_gx (fun _ K9 => px_al (44 + n) (.int 0) rfl hk (Or.inr (Or.inr (Or.inl ⟨rfl, rfl⟩))) (nI_pos (by omega)) (by rw [nI_clamp (by omega), hkv c (by omega), hkc]; rfl) K9) ?_
        show px_Gx _ _ (25, [(2, .int (nI c)), (0, .ref (38 + n)), (1, .int (nI m))], [.int 0], hp) _
        refine px_gx (fun _ K9 => px_a 2 (f' := (29, [(2, .int (nI c)), (0, .ref (38 + n)), (1, .int (nI m))], [.ref (38 + n)], hp)) rfl K9) ?_
        refine px_gx (fun _ K9 => px_gf (38 + n) 27 4 10 (.ref (44 + n)) rfl rfl hm rfl K9) ?_
        show px_Gx _ _ (32, [(2, .int (nI c)), (0, .ref (38 + n)), (1, .int (nI m))], [.ref (44 + n)], hp) _
        refine px_gx (fun _ K9 => px_a 2 (f' := (34, [(2, .int (nI c)), (0, .ref (38 + n)), (1, .int (nI m))], [.int 1, .int (nI c), .ref (44 + n)], hp)) rfl K9) ?_
        refine px_gx (fun _ K9 => px_zas (44 + n) rfl hk (by omega) (nI_pos (by omega)) (by rw [nI_clamp (by omega)]; omega) rfl K9) ?_
        have hf1__38___n_ : (hp.set (44 + n) (12, (kv.set (nI c).toNatClampNeg (.int 1))))[(38 + n)]? = some (4, [.int th, .int w, .int h, .ref (39 + n), .int pn, .ref (40 + n), .ref (41 + n), .ref (42 + n), .int pl, .ref (43 + n), .ref (44 + n), .ref (45 + n), .ref (46 + n), .int fo, .ref (47 + n), .int le, .ref (48 + n), .int ru, .ref (49 + n), .ref (50 + n), .ref (51 + n)]) := px_ne hm (by omega)
        have hf1__44___n_ : (hp.set (44 + n) (12, (kv.set (nI c).toNatClampNeg (.int 1))))[(44 + n)]? = some (12, (kv.set (nI c).toNatClampNeg (.int 1))) := px_self hk
        have hf1__45___n_ : (hp.set (44 + n) (12, (kv.set (nI c).toNatClampNeg (.int 1))))[(45 + n)]? = some (10, ks) := px_ne hks (by omega)
        have hf1__46___n_ : (hp.set (44 + n) (12, (kv.set (nI c).toNatClampNeg (.int 1))))[(46 + n)]? = some (10, xv) := px_ne hx (by omega)
        show px_Gx _ _ (35, [(2, .int (nI c)), (0, .ref (38 + n)), (1, .int (nI m))], [], (hp.set (44 + n) (12, (kv.set (nI c).toNatClampNeg (.int 1))))) _
        refine px_gx (fun _ K9 => px_a 2 (f' := (37, [(3, .int 0), (2, .int (nI c)), (0, .ref (38 + n)), (1, .int (nI m))], [], (hp.set (44 + n) (12, (kv.set (nI c).toNatClampNeg (.int 1)))))) rfl K9) ?_
        refine px_wk [(3, .int (nI 0)), (2, .int (nI c)), (0, .ref (38 + n)), (1, .int (nI m))] ⟨rfl, rfl, rfl, rfl, trivial⟩ ?_
        obtain ⟨o, hp', g, eo, ⟨ks', k1, k2, k3, k4⟩, k5⟩ := k_cp (d0 := d0 + 1) (c := c) (m := m) (x := x) (ks0 := ks) (by omega) lx hxx 37 0 (by omega) _ ks _ hf1__38___n_ hf1__44___n_ hf1__45___n_ hf1__46___n_ lks (fun d hd => absurd hd (Nat.not_lt_zero d)) (fun j _ => rfl) (fun a _ => rfl)
        refine ⟨o, hp', g, fun a h1 h2 h3 => ((k5 a h2).trans (List.getElem?_set_ne (Ne.symm h1))).trans (sm a h1 h2 h3), ⟨xv, (k5 _ (by omega)).trans (px_ne hx (by omega)), lx⟩, Or.inl ⟨eo, _, _, ⟨⟨_, (k5 _ (by omega)).trans (px_self hk), by rw [List.length_set]; exact lk, fun c' hc' => ?_⟩, ks', k1, k2, fun c' hc' hl d hd => ?_⟩, G3, fun w => (E3 w).trans ⟨fun hs => ⟨hs.1, (eqv w hs.1).mp hs.2⟩, fun hs => ⟨hs.1, (eqv w hs.1).mpr hs.2⟩⟩⟩⟩
        · rw [nI_clamp (by omega)]
          by_cases q : c' = c
          · subst q
            rw [List.getElem?_set_self (by omega)]
            unfold g_l
            rw [decide_eq_true rfl, Bool.or_true, if_pos rfl]
          · rw [List.getElem?_set_ne (by omega), hkv c' hc']
            unfold g_l
            rw [decide_eq_false q, Bool.or_false]
        · unfold h_r
          by_cases q : c' = c
          · rw [if_pos q, q]
            exact k3 d hd
          · rw [if_neg q, k4 _ (by omega)]
            unfold g_l at hl
            rw [decide_eq_false q, Bool.or_false] at hl
            exact hkr c' hc' hl d hd
    · obtain ⟨G1, G2, G3⟩ := G c (by omega) hkc
      obtain ⟨k, km, hkk, gi⟩ := h_inv (d := d0) (hp := hp) pm G1 (G3 c (by omega))
      have k1 := g_ml (a := x c) (b := k) (by omega) (by omega)
      have tm : x c * k % m ≤ m := Nat.le_of_lt (Nat.mod_lt _ (by omega))
      · 
        refine px_gx (fun _ K9 => px_a 1 (f' := (4, [(2, .int (nI c)), (0, .ref (38 + n)), (1, .int (nI m))], [.int (nI c)], hp)) rfl K9) ?_
        refine px_gx (fun _ K9 => px_b1 false 148 rfl rfl (decide_eq_false (nI_pos (by omega))) K9) ?_
        show px_Gx _ _ (7, [(2, .int (nI c)), (0, .ref (38 + n)), (1, .int (nI m))], [], hp) _
        refine px_gx (fun _ K9 => px_a 1 (f' := (8, [(2, .int (nI c)), (0, .ref (38 + n)), (1, .int (nI m))], [.ref (38 + n)], hp)) rfl K9) ?_
        refine px_gx (fun _ K9 => px_gf (38 + n) 33 4 12 (.ref (46 + n)) rfl rfl hm rfl K9) ?_
        show px_Gx _ _ (11, [(2, .int (nI c)), (0, .ref (38 + n)), (1, .int (nI m))], [.ref (46 + n)], hp) _
        refine px_gx (fun _ K9 => px_a 1 (f' := (12, [(2, .int (nI c)), (0, .ref (38 + n)), (1, .int (nI m))], [.int (nI c), .ref (46 + n)], hp)) rfl K9) ?_
        refine px_gx (fun _ K9 => px_al (46 + n) (.int (nI (x c))) rfl hx (Or.inl ⟨rfl, Or.inl rfl⟩) (nI_pos (by omega)) (by rw [nI_clamp (by omega)]; exact hxx c (by omega)) K9) ?_
        show px_Gx _ _ (13, [(2, .int (nI c)), (0, .ref (38 + n)), (1, .int (nI m))], [.int (nI (x c))], hp) _
        refine px_gx (fun _ K9 => px_b1 true 19 rfl rfl (decide_eq_true (fun z => e ((nI_eq (a := x c) (b := 0) (by omega) (by decide)).mp z))) K9) ?_
        show px_Gx _ _ (19, [(2, .int (nI c)), (0, .ref (38 + n)), (1, .int (nI m))], [], hp) _
        refine px_gx (fun _ K9 => px_a 1 (f' := (20, [(2, .int (nI c)), (0, .ref (38 + n)), (1, .int (nI m))], [.ref (38 + n)], hp)) rfl K9) ?_
        refine px_gx (fun _ K9 => px_gf (38 + n) 27 4 10 (.ref (44 + n)) rfl rfl hm rfl K9) ?_
        show px_Gx _ _ (23, [(2, .int (nI c)), (0, .ref (38 + n)), (1, .int (nI m))], [.ref (44 + n)], hp) _
        refine px_gx (fun _ K9 => px_a 1 (f' := (24, [(2, .int (nI c)), (0, .ref (38 + n)), (1, .int (nI m))], [.int (nI c), .ref (44 + n)], hp)) rfl K9) ?_
        refine px_gx (fun _ K9 => px_al (44 + n) (.int 1) rfl hk (Or.inr (Or.inr (Or.inl ⟨rfl, rfl⟩))) (nI_pos (by omega)) (by rw [nI_clamp (by omega), hkv c (by omega), hkc]; rfl) K9) ?_
        show px_Gx _ _ (25, [(2, .int (nI c)), (0, .ref (38 + n)), (1, .int (nI m))], [.int 1], hp) _
        refine px_gx (fun _ K9 => px_a 2 (f' := (69, [(2, .int (nI c)), (0, .ref (38 + n)), (1, .int (nI m))], [.ref (38 + n)], hp)) rfl K9) ?_
        refine px_gx (fun _ K9 => px_gf (38 + n) 33 4 12 (.ref (46 + n)) rfl rfl hm rfl K9) ?_
        show px_Gx _ _ (72, [(2, .int (nI c)), (0, .ref (38 + n)), (1, .int (nI m))], [.ref (46 + n)], hp) _
        refine px_gx (fun _ K9 => px_a 1 (f' := (73, [(2, .int (nI c)), (0, .ref (38 + n)), (1, .int (nI m))], [.int (nI c), .ref (46 + n)], hp)) rfl K9) ?_
        refine px_gx (fun _ K9 => px_al (46 + n) (.int (nI (x c))) rfl hx (Or.inl ⟨rfl, Or.inl rfl⟩) (nI_pos (by omega)) (by rw [nI_clamp (by omega)]; exact hxx c (by omega)) K9) ?_
        show px_Gx _ _ (74, [(2, .int (nI c)), (0, .ref (38 + n)), (1, .int (nI m))], [.int (nI (x c))], hp) _
        refine px_gx (fun _ K9 => px_a 1 (f' := (75, [(2, .int (nI c)), (0, .ref (38 + n)), (1, .int (nI m))], [.ref (38 + n), .int (nI (x c))], hp)) rfl K9) ?_
        refine px_gx (fun _ K9 => px_gf (38 + n) 30 4 11 (.ref (45 + n)) rfl rfl hm rfl K9) ?_
        show px_Gx _ _ (78, [(2, .int (nI c)), (0, .ref (38 + n)), (1, .int (nI m))], [.ref (45 + n), .int (nI (x c))], hp) _
        refine px_gx (fun _ K9 => px_a 5 (f' := (84, [(2, .int (nI c)), (0, .ref (38 + n)), (1, .int (nI m))], [.int ((37 * (nI c)) + (nI c)), .ref (45 + n), .int (nI (x c))], hp)) rfl K9) ?_
        refine px_gx (fun _ K9 => px_al (45 + n) (.int (nI (kr c c))) rfl hks (Or.inl ⟨rfl, Or.inl rfl⟩) (by rw [h_ix]; exact nI_pos (by omega)) (by rw [h_ix, nI_clamp (by omega)]; exact hkr c (by omega) hkc c (by omega)) K9) ?_
        show px_Gx _ _ (85, [(2, .int (nI c)), (0, .ref (38 + n)), (1, .int (nI m))], [.int (nI (kr c c)), .int (nI (x c))], hp) _
        refine px_gx (fun _ K9 => px_a 1 (f' := (86, [(2, .int (nI c)), (0, .ref (38 + n)), (1, .int (nI m))], [.int (nI m), .int (nI (kr c c)), .int (nI (x c))], hp)) rfl K9) ?_
        refine px_gx (fun _ K9 => px_cl (as := [.int (nI (kr c c)), .int (nI m)]) (rest := [.int (nI (x c))]) rfl rfl (gi) K9) ?_
        show px_Gx _ _ (89, [(2, .int (nI c)), (0, .ref (38 + n)), (1, .int (nI m))], [.int (nI k), .int (nI (x c))], hp) _
        refine px_gx (fun _ K9 => px_a 2 (f' := (91, [(2, .int (nI c)), (0, .ref (38 + n)), (1, .int (nI m))], [.int (nI m), .int ((nI (x c)) * (nI k))], hp)) rfl K9) ?_
        refine px_gx (fun _ K9 => px_irem rfl (g_n0 (by omega) (by omega)) K9) ?_
        have ev : (((nI (x c)) * (nI k)) - ((nI (x c)) * (nI k)) / (nI m) * (nI m)) = (nI (x c * k % m)) := by rw [pk_mul, g_mr (by omega) (by omega) (by omega)]
        show px_Gx _ _ (92, [(2, .int (nI c)), (0, .ref (38 + n)), (1, .int (nI m))], [.int (((nI (x c)) * (nI k)) - ((nI (x c)) * (nI k)) / (nI m) * (nI m))], hp) _
        rw [ev]
        show px_Gx _ _ (92, [(2, .int (nI c)), (0, .ref (38 + n)), (1, .int (nI m))], [.int (nI (x c * k % m))], hp) _
        refine px_gx (fun _ K9 => px_a 3 (f' := (96, [(4, .int 0), (3, .int (nI (x c * k % m))), (2, .int (nI c)), (0, .ref (38 + n)), (1, .int (nI m))], [], hp)) rfl K9) ?_
        refine px_wk [(4, .int (nI 0)), (3, .int (nI (x c * k % m))), (2, .int (nI c)), (0, .ref (38 + n)), (1, .int (nI m))] ⟨rfl, rfl, rfl, rfl, rfl, trivial⟩ ?_
        refine k_el (d0 := d0 + 1) (hp0 := hp) (kc := kr c) m14 tm (by omega) xm G3 lks (hkr c (by omega) hkc) (fun hp1 xv1 q1 q2 q3 q4 => ?_) 37 0 (by omega) hp xv kv hm hk hks hx lx (fun d hd => absurd hd (Nat.not_lt_zero d)) (fun d _ h2 => hxx d h2) (fun a _ => rfl)
        · show px_Gx _ _ (142, [(2, .int (nI c)), (0, .ref (38 + n)), (1, .int (nI m))], [], hp1) _
          refine px_gx (fun _ K9 => px_a 2 (f' := (3, [(2, .int ((nI c) + (-1))), (0, .ref (38 + n)), (1, .int (nI m))], [], hp1)) rfl K9) ?_
          rw [show nI c + -1 = nI c - 1 from (Int32.sub_eq_add_neg _ _).symm]
          have eg : ∀ d, d < 37 → (x d + (m - x c * k % m) * kr c d) % m = g_x m x (x c * k % m) 36 (kr c) d := fun d hd => (if_pos (by omega)).symm
          refine ih (by omega) hp1 (g_x m x (x c * k % m) 36 (kr c)) xv1 ((q4 _ (by omega)).trans hm) ⟨⟨kv, (q4 _ (by omega)).trans hk, lk, hkv⟩, ks, (q4 _ (by omega)).trans hks, lks, hkr⟩ q1 q2 (fun d hd => by rw [← eg d hd]; exact q3 d hd) (fun d hd => by rw [← eg d hd]; exact Nat.mod_lt _ (by omega)) (fun d h1 h2 => ?_) (fun w hs => ?_) (fun a h1 h2 h3 => (q4 a h3).trans (sm a h1 h2 h3))
          · by_cases q : d = c
            · rw [q, ← eg c (by omega)]
              exact h_el (by omega) hkk
            · exact g_x_0 (hz d (by omega) h2) (G2 d (by omega) h2)
          · rw [← eqv w hs, ← eg 36 (by omega)]
            exact g_x_S tm (fun d h1 h2 => absurd h1 (by omega)) (hs c (by omega) hkc)
theorem k_kX {d0 n m : Nat} {th w h pn pl fo le ru : Int32} {kd : Nat → Bool} {kr : Nat → Nat → Nat} {x0 : Nat → Nat} {hp0 : px_H} {xv : List Value} (pm : m = 2 ∨ m = 3 ∨ m = 5 ∨ m = 7 ∨ m = 11 ∨ m = 13) (G : h_R m kd kr) (hm : hp0[38 + n]? = some (4, m_O n th w h pn pl fo le ru)) (hh : h_H n hp0 kd kr) (hx : hp0[46 + n]? = some (10, xv)) (lx : xv.length = 37) (hxx : ∀ d, d < 37 → xv[d]? = some (.int (nI (x0 d)))) (xm : ∀ d, d < 37 → x0 d < m) : px_Gx (d0 + 1) 82 (0, [(0, .ref (38 + n)), (1, .int (nI m))], [], hp0) (fun o hp' => (∀ a, a ≠ 44 + n → a ≠ 45 + n → a ≠ 46 + n → hp'[a]? = hp0[a]?) ∧ (∃ xv : List Value, hp'[46 + n]? = some (10, xv) ∧ xv.length = 37) ∧ ((o = .inl (some (.int 1)) ∧ ∃ kd' kr', h_H n hp' kd' kr' ∧ h_R m kd' kr' ∧ ∀ w, h_S m kd' kr' w ↔ h_S m kd kr w ∧ e_S m 36 (fun d => (x0 d : Int)) (x0 36 : Nat) w) ∨ (o = .inl (some (.int 0)) ∧ h_H n hp' kd kr ∧ ∀ w, h_S m kd kr w → ¬ e_S m 36 (fun d => (x0 d : Int)) (x0 36 : Nat) w))) := by
  refine px_gx (fun _ K9 => px_a 2 (f' := (3, [(2, .int 35), (0, .ref (38 + n)), (1, .int (nI m))], [], hp0)) rfl K9) ?_
  exact k_kl pm G 36 (Nat.le_refl 36) hp0 x0 xv hm hh hx lx hxx xm (fun d h1 h2 => absurd h1 (by omega)) (fun w _ => Iff.rfl) (fun a _ _ _ => rfl)
