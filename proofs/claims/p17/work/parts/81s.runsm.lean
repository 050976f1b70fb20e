theorem x_modc {m p v : Nat} (p1 : 1 ≤ p) (p2 : p < m) (v2 : v < m) : (p + v) % m = if p + v = m then 0 else if m < p + v then p + v - m else p + v := by
  by_cases h : p + v = m
  · rw [if_pos h, h, Nat.mod_self]
  · rw [if_neg h]
    by_cases h2 : m < p + v
    · rw [if_pos h2, Nat.mod_eq_sub_mod (by omega), Nat.mod_eq_of_lt (by omega)]
    · rw [if_neg h2, Nat.mod_eq_of_lt (by omega)]
set_option maxRecDepth 20000 in
set_option maxHeartbeats 8000000 in
theorem m_trx_l {d n K m : Nat} {th w h pn pl fo : Int32} {f : Nat → Nat} {vw : List Value} (hm2 : 2 ≤ m) (hm9 : m ≤ 9) (hK : K ≤ 84) (hf : ∀ i, i < K → f i < 4) (hw : ∀ i, i < K → vw[i]? = some (.int (nI (f i)))) : ∀ (q i : Nat) (hp : px_H) (ax am : List Value) (hm : hp[38 + n]? = some (4, m_O n th w h pn pl fo (nI K) (nI (x_fd m f i).length))) (hax : hp[49 + n]? = some (10, ax)) (ham : hp[50 + n]? = some (10, am)) (hvw : hp[48 + n]? = some (10, vw)) (la : ax.length = 200) (lm : am.length = 200) (hr : x_rep ax am (x_fd m f i)), i + q = K → px_Gx d 97 (11, [(2, .int (nI i)), (0, .ref (38 + n)), (1, .int (nI m))], [], hp) (fun o hp' => o = .inl none ∧ ∃ ax' am' : List Value, hp'[38 + n]? = some (4, m_O n th w h pn pl fo (nI K) (nI (x_fd m f K).length)) ∧ hp'[49 + n]? = some (10, ax') ∧ hp'[50 + n]? = some (10, am') ∧ hp'[48 + n]? = some (10, vw) ∧ ax'.length = 200 ∧ am'.length = 200 ∧ x_rep ax' am' (x_fd m f K)) := by
  intro q
  induction q with
  | zero =>
    intro i hp ax am hm hax ham hvw la lm hr g1
    obtain rfl : i = K := by omega
    refine px_gx (fun _ K9 => px_a 2 (f' := (13, [(2, .int (nI i)), (0, .ref (38 + n)), (1, .int (nI m))], [.ref (38 + n), .int (nI i)], hp)) rfl K9) ?_
    refine px_gx (fun _ K9 => px_gf (38 + n) 122 4 15 (.int (nI i)) rfl rfl hm rfl K9) ?_
    show px_Gx _ _ (16, [(2, .int (nI i)), (0, .ref (38 + n)), (1, .int (nI m))], [.int (nI i), .int (nI i)], hp) _
    refine px_gx (fun _ K9 => px_b2 true 152 rfl rfl (decide_eq_true (nI_le (by omega) (by omega))) K9) ?_
    show px_Gx _ _ (152, [(2, .int (nI i)), (0, .ref (38 + n)), (1, .int (nI m))], [], hp) _
    exact ⟨_, _, px_e rfl rfl, rfl, ax, am, hm, hax, ham, hvw, la, lm, hr⟩
  | succ q ih =>
    intro i hp ax am hm hax ham hvw la lm hr g1
    have h84 : (x_fd m f i).length < 84 := Nat.lt_of_le_of_lt (x_fd_len m f i) (by omega)
    have hz := hw i (by omega)
    have h4 := hf i (by omega)
    rcases (show f i = 0 ∨ f i = 1 ∨ f i = 2 ∨ f i = 3 by omega) with hl | hl | hl | hl
    · cases est : x_fd m f i with
      | nil =>
        rw [est] at hm hr h84
        refine px_gx (fun _ K9 => px_a 2 (f' := (13, [(2, .int (nI i)), (0, .ref (38 + n)), (1, .int (nI m))], [.ref (38 + n), .int (nI i)], hp)) rfl K9) ?_
        refine px_gx (fun _ K9 => px_gf (38 + n) 122 4 15 (.int (nI K)) rfl rfl hm rfl K9) ?_
        show px_Gx _ _ (16, [(2, .int (nI i)), (0, .ref (38 + n)), (1, .int (nI m))], [.int (nI K), .int (nI i)], hp) _
        refine px_gx (fun _ K9 => px_b2 false 152 rfl rfl (decide_eq_false (nI_ge (by omega) (by omega))) K9) ?_
        show px_Gx _ _ (19, [(2, .int (nI i)), (0, .ref (38 + n)), (1, .int (nI m))], [], hp) _
        refine px_gx (fun _ K9 => px_a 1 (f' := (20, [(2, .int (nI i)), (0, .ref (38 + n)), (1, .int (nI m))], [.ref (38 + n)], hp)) rfl K9) ?_
        refine px_gx (fun _ K9 => px_gf (38 + n) 39 4 16 (.ref (48 + n)) rfl rfl hm rfl K9) ?_
        show px_Gx _ _ (23, [(2, .int (nI i)), (0, .ref (38 + n)), (1, .int (nI m))], [.ref (48 + n)], hp) _
        refine px_gx (fun _ K9 => px_a 1 (f' := (24, [(2, .int (nI i)), (0, .ref (38 + n)), (1, .int (nI m))], [.int (nI i), .ref (48 + n)], hp)) rfl K9) ?_
        refine px_gx (fun _ K9 => px_al (48 + n) (.int 0) rfl hvw (Or.inl ⟨rfl, Or.inl rfl⟩) (nI_pos (by omega)) (by rw [nI_clamp (by omega), hz, hl]; rfl) K9) ?_
        show px_Gx _ _ (25, [(2, .int (nI i)), (0, .ref (38 + n)), (1, .int (nI m))], [.int 0], hp) _
        refine px_gx (fun _ K9 => px_a 4 (f' := (29, [(3, .int 0), (2, .int (nI i)), (0, .ref (38 + n)), (1, .int (nI m))], [.ref (38 + n)], hp)) rfl K9) ?_
        refine px_gx (fun _ K9 => px_gf (38 + n) 132 4 17 (.int 0) rfl rfl hm rfl K9) ?_
        show px_Gx _ _ (32, [(3, .int 0), (2, .int (nI i)), (0, .ref (38 + n)), (1, .int (nI m))], [.int 0], hp) _
        refine px_gx (fun _ K9 => px_a 2 (f' := (51, [(3, .int 0), (2, .int (nI i)), (0, .ref (38 + n)), (1, .int (nI m))], [.ref (38 + n)], hp)) rfl K9) ?_
        refine px_gx (fun _ K9 => px_gf (38 + n) 42 4 18 (.ref (49 + n)) rfl rfl hm rfl K9) ?_
        show px_Gx _ _ (54, [(3, .int 0), (2, .int (nI i)), (0, .ref (38 + n)), (1, .int (nI m))], [.ref (49 + n)], hp) _
        refine px_gx (fun _ K9 => px_a 1 (f' := (55, [(3, .int 0), (2, .int (nI i)), (0, .ref (38 + n)), (1, .int (nI m))], [.ref (38 + n), .ref (49 + n)], hp)) rfl K9) ?_
        refine px_gx (fun _ K9 => px_gf (38 + n) 132 4 17 (.int 0) rfl rfl hm rfl K9) ?_
        show px_Gx _ _ (58, [(3, .int 0), (2, .int (nI i)), (0, .ref (38 + n)), (1, .int (nI m))], [.int 0, .ref (49 + n)], hp) _
        refine px_gx (fun _ K9 => px_a 1 (f' := (59, [(3, .int 0), (2, .int (nI i)), (0, .ref (38 + n)), (1, .int (nI m))], [.int 0, .int 0, .ref (49 + n)], hp)) rfl K9) ?_
        refine px_gx (fun _ K9 => px_ias (49 + n) rfl hax (by omega) (by decide) (by show (0 : Nat) < ax.length; omega) K9) ?_
        have hf1__38___n_ : (hp.set (49 + n) (10, ax.set (Int32.toNatClampNeg 0) (.int 0)))[(38 + n)]? = some (4, [.int th, .int w, .int h, .ref (39 + n), .int pn, .ref (40 + n), .ref (41 + n), .ref (42 + n), .int pl, .ref (43 + n), .ref (44 + n), .ref (45 + n), .ref (46 + n), .int fo, .ref (47 + n), .int (nI K), .ref (48 + n), .int 0, .ref (49 + n), .ref (50 + n), .ref (51 + n)]) := px_ne hm (by omega)
        have hf1__48___n_ : (hp.set (49 + n) (10, ax.set (Int32.toNatClampNeg 0) (.int 0)))[(48 + n)]? = some (10, vw) := px_ne hvw (by omega)
        have hf1__49___n_ : (hp.set (49 + n) (10, ax.set (Int32.toNatClampNeg 0) (.int 0)))[(49 + n)]? = some (10, ax.set (Int32.toNatClampNeg 0) (.int 0)) := px_self hax
        have hf1__50___n_ : (hp.set (49 + n) (10, ax.set (Int32.toNatClampNeg 0) (.int 0)))[(50 + n)]? = some (10, am) := px_ne ham (by omega)
        show px_Gx _ _ (60, [(3, .int 0), (2, .int (nI i)), (0, .ref (38 + n)), (1, .int (nI m))], [], (hp.set (49 + n) (10, ax.set (Int32.toNatClampNeg 0) (.int 0)))) _
        refine px_gx (fun _ K9 => px_a 1 (f' := (61, [(3, .int 0), (2, .int (nI i)), (0, .ref (38 + n)), (1, .int (nI m))], [.ref (38 + n)], (hp.set (49 + n) (10, ax.set (Int32.toNatClampNeg 0) (.int 0))))) rfl K9) ?_
        refine px_gx (fun _ K9 => px_gf (38 + n) 45 4 19 (.ref (50 + n)) rfl rfl hf1__38___n_ rfl K9) ?_
        show px_Gx _ _ (64, [(3, .int 0), (2, .int (nI i)), (0, .ref (38 + n)), (1, .int (nI m))], [.ref (50 + n)], (hp.set (49 + n) (10, ax.set (Int32.toNatClampNeg 0) (.int 0)))) _
        refine px_gx (fun _ K9 => px_a 1 (f' := (65, [(3, .int 0), (2, .int (nI i)), (0, .ref (38 + n)), (1, .int (nI m))], [.ref (38 + n), .ref (50 + n)], (hp.set (49 + n) (10, ax.set (Int32.toNatClampNeg 0) (.int 0))))) rfl K9) ?_
        refine px_gx (fun _ K9 => px_gf (38 + n) 132 4 17 (.int 0) rfl rfl hf1__38___n_ rfl K9) ?_
        show px_Gx _ _ (68, [(3, .int 0), (2, .int (nI i)), (0, .ref (38 + n)), (1, .int (nI m))], [.int 0, .ref (50 + n)], (hp.set (49 + n) (10, ax.set (Int32.toNatClampNeg 0) (.int 0)))) _
        refine px_gx (fun _ K9 => px_a 1 (f' := (69, [(3, .int 0), (2, .int (nI i)), (0, .ref (38 + n)), (1, .int (nI m))], [.int 0, .int 0, .ref (50 + n)], (hp.set (49 + n) (10, ax.set (Int32.toNatClampNeg 0) (.int 0))))) rfl K9) ?_
        refine px_gx (fun _ K9 => px_ias (50 + n) rfl hf1__50___n_ (by omega) (by decide) (by show (0 : Nat) < am.length; omega) K9) ?_
        have hf2__38___n_ : (((hp.set (49 + n) (10, ax.set (Int32.toNatClampNeg 0) (.int 0)))).set (50 + n) (10, am.set (Int32.toNatClampNeg 0) (.int 0)))[(38 + n)]? = some (4, [.int th, .int w, .int h, .ref (39 + n), .int pn, .ref (40 + n), .ref (41 + n), .ref (42 + n), .int pl, .ref (43 + n), .ref (44 + n), .ref (45 + n), .ref (46 + n), .int fo, .ref (47 + n), .int (nI K), .ref (48 + n), .int 0, .ref (49 + n), .ref (50 + n), .ref (51 + n)]) := px_ne hf1__38___n_ (by omega)
        have hf2__48___n_ : (((hp.set (49 + n) (10, ax.set (Int32.toNatClampNeg 0) (.int 0)))).set (50 + n) (10, am.set (Int32.toNatClampNeg 0) (.int 0)))[(48 + n)]? = some (10, vw) := px_ne hf1__48___n_ (by omega)
        have hf2__49___n_ : (((hp.set (49 + n) (10, ax.set (Int32.toNatClampNeg 0) (.int 0)))).set (50 + n) (10, am.set (Int32.toNatClampNeg 0) (.int 0)))[(49 + n)]? = some (10, ax.set (Int32.toNatClampNeg 0) (.int 0)) := px_ne hf1__49___n_ (by omega)
        have hf2__50___n_ : (((hp.set (49 + n) (10, ax.set (Int32.toNatClampNeg 0) (.int 0)))).set (50 + n) (10, am.set (Int32.toNatClampNeg 0) (.int 0)))[(50 + n)]? = some (10, am.set (Int32.toNatClampNeg 0) (.int 0)) := px_self hf1__50___n_
        show px_Gx _ _ (70, [(3, .int 0), (2, .int (nI i)), (0, .ref (38 + n)), (1, .int (nI m))], [], (((hp.set (49 + n) (10, ax.set (Int32.toNatClampNeg 0) (.int 0)))).set (50 + n) (10, am.set (Int32.toNatClampNeg 0) (.int 0)))) _
        refine px_gx (fun _ K9 => px_a 2 (f' := (72, [(3, .int 0), (2, .int (nI i)), (0, .ref (38 + n)), (1, .int (nI m))], [.ref (38 + n), .ref (38 + n)], (((hp.set (49 + n) (10, ax.set (Int32.toNatClampNeg 0) (.int 0)))).set (50 + n) (10, am.set (Int32.toNatClampNeg 0) (.int 0))))) rfl K9) ?_
        refine px_gx (fun _ K9 => px_gf (38 + n) 132 4 17 (.int 0) rfl rfl hf2__38___n_ rfl K9) ?_
        show px_Gx _ _ (75, [(3, .int 0), (2, .int (nI i)), (0, .ref (38 + n)), (1, .int (nI m))], [.int 0, .ref (38 + n)], (((hp.set (49 + n) (10, ax.set (Int32.toNatClampNeg 0) (.int 0)))).set (50 + n) (10, am.set (Int32.toNatClampNeg 0) (.int 0)))) _
        refine px_gx (fun _ K9 => px_a 2 (f' := (77, [(3, .int 0), (2, .int (nI i)), (0, .ref (38 + n)), (1, .int (nI m))], [.int 1, .ref (38 + n)], (((hp.set (49 + n) (10, ax.set (Int32.toNatClampNeg 0) (.int 0)))).set (50 + n) (10, am.set (Int32.toNatClampNeg 0) (.int 0))))) rfl K9) ?_
        refine px_gx (fun _ K9 => px_pf (38 + n) 132 4 17 rfl rfl hf2__38___n_ (by omega) (by simp) rfl rfl (by decide) K9) ?_
        have hf3__38___n_ : (((((hp.set (49 + n) (10, ax.set (Int32.toNatClampNeg 0) (.int 0)))).set (50 + n) (10, am.set (Int32.toNatClampNeg 0) (.int 0)))).set (38 + n) (4, [.int th, .int w, .int h, .ref (39 + n), .int pn, .ref (40 + n), .ref (41 + n), .ref (42 + n), .int pl, .ref (43 + n), .ref (44 + n), .ref (45 + n), .ref (46 + n), .int fo, .ref (47 + n), .int (nI K), .ref (48 + n), .int 1, .ref (49 + n), .ref (50 + n), .ref (51 + n)]))[(38 + n)]? = some (4, [.int th, .int w, .int h, .ref (39 + n), .int pn, .ref (40 + n), .ref (41 + n), .ref (42 + n), .int pl, .ref (43 + n), .ref (44 + n), .ref (45 + n), .ref (46 + n), .int fo, .ref (47 + n), .int (nI K), .ref (48 + n), .int 1, .ref (49 + n), .ref (50 + n), .ref (51 + n)]) := px_self hf2__38___n_
        have hf3__48___n_ : (((((hp.set (49 + n) (10, ax.set (Int32.toNatClampNeg 0) (.int 0)))).set (50 + n) (10, am.set (Int32.toNatClampNeg 0) (.int 0)))).set (38 + n) (4, [.int th, .int w, .int h, .ref (39 + n), .int pn, .ref (40 + n), .ref (41 + n), .ref (42 + n), .int pl, .ref (43 + n), .ref (44 + n), .ref (45 + n), .ref (46 + n), .int fo, .ref (47 + n), .int (nI K), .ref (48 + n), .int 1, .ref (49 + n), .ref (50 + n), .ref (51 + n)]))[(48 + n)]? = some (10, vw) := px_ne hf2__48___n_ (by omega)
        have hf3__49___n_ : (((((hp.set (49 + n) (10, ax.set (Int32.toNatClampNeg 0) (.int 0)))).set (50 + n) (10, am.set (Int32.toNatClampNeg 0) (.int 0)))).set (38 + n) (4, [.int th, .int w, .int h, .ref (39 + n), .int pn, .ref (40 + n), .ref (41 + n), .ref (42 + n), .int pl, .ref (43 + n), .ref (44 + n), .ref (45 + n), .ref (46 + n), .int fo, .ref (47 + n), .int (nI K), .ref (48 + n), .int 1, .ref (49 + n), .ref (50 + n), .ref (51 + n)]))[(49 + n)]? = some (10, ax.set (Int32.toNatClampNeg 0) (.int 0)) := px_ne hf2__49___n_ (by omega)
        have hf3__50___n_ : (((((hp.set (49 + n) (10, ax.set (Int32.toNatClampNeg 0) (.int 0)))).set (50 + n) (10, am.set (Int32.toNatClampNeg 0) (.int 0)))).set (38 + n) (4, [.int th, .int w, .int h, .ref (39 + n), .int pn, .ref (40 + n), .ref (41 + n), .ref (42 + n), .int pl, .ref (43 + n), .ref (44 + n), .ref (45 + n), .ref (46 + n), .int fo, .ref (47 + n), .int (nI K), .ref (48 + n), .int 1, .ref (49 + n), .ref (50 + n), .ref (51 + n)]))[(50 + n)]? = some (10, am.set (Int32.toNatClampNeg 0) (.int 0)) := px_ne hf2__50___n_ (by omega)
        show px_Gx _ _ (80, [(3, .int 0), (2, .int (nI i)), (0, .ref (38 + n)), (1, .int (nI m))], [], (((((hp.set (49 + n) (10, ax.set (Int32.toNatClampNeg 0) (.int 0)))).set (50 + n) (10, am.set (Int32.toNatClampNeg 0) (.int 0)))).set (38 + n) (4, [.int th, .int w, .int h, .ref (39 + n), .int pn, .ref (40 + n), .ref (41 + n), .ref (42 + n), .int pl, .ref (43 + n), .ref (44 + n), .ref (45 + n), .ref (46 + n), .int fo, .ref (47 + n), .int (nI K), .ref (48 + n), .int 1, .ref (49 + n), .ref (50 + n), .ref (51 + n)]))) _
        have hm2x := hf3__38___n_
        have hax2 := hf3__49___n_
        have ham2 := hf3__50___n_
        have hvw2 := hf3__48___n_
        generalize (((((hp.set (49 + n) (10, ax.set (Int32.toNatClampNeg 0) (.int 0)))).set (50 + n) (10, am.set (Int32.toNatClampNeg 0) (.int 0)))).set (38 + n) (4, [.int th, .int w, .int h, .ref (39 + n), .int pn, .ref (40 + n), .ref (41 + n), .ref (42 + n), .int pl, .ref (43 + n), .ref (44 + n), .ref (45 + n), .ref (46 + n), .int fo, .ref (47 + n), .int (nI K), .ref (48 + n), .int 1, .ref (49 + n), .ref (50 + n), .ref (51 + n)])) = hp2 at hm2x hax2 ham2 hvw2 ⊢
        refine px_gx (fun _ K9 => px_a 1 (f' := (81, [(3, .int 0), (2, .int (nI i)), (0, .ref (38 + n)), (1, .int (nI m))], [.ref (38 + n)], hp2)) rfl K9) ?_
        refine px_gx (fun _ K9 => px_gf (38 + n) 45 4 19 (.ref (50 + n)) rfl rfl hm2x rfl K9) ?_
        show px_Gx _ _ (84, [(3, .int 0), (2, .int (nI i)), (0, .ref (38 + n)), (1, .int (nI m))], [.ref (50 + n)], hp2) _
        refine px_gx (fun _ K9 => px_a 1 (f' := (85, [(3, .int 0), (2, .int (nI i)), (0, .ref (38 + n)), (1, .int (nI m))], [.ref (38 + n), .ref (50 + n)], hp2)) rfl K9) ?_
        refine px_gx (fun _ K9 => px_gf (38 + n) 132 4 17 (.int 1) rfl rfl hm2x rfl K9) ?_
        show px_Gx _ _ (88, [(3, .int 0), (2, .int (nI i)), (0, .ref (38 + n)), (1, .int (nI m))], [.int 1, .ref (50 + n)], hp2) _
        refine px_gx (fun _ K9 => px_a 3 (f' := (91, [(3, .int 0), (2, .int (nI i)), (0, .ref (38 + n)), (1, .int (nI m))], [.ref (38 + n), .int 0, .ref (50 + n)], hp2)) rfl K9) ?_
        refine px_gx (fun _ K9 => px_gf (38 + n) 45 4 19 (.ref (50 + n)) rfl rfl hm2x rfl K9) ?_
        show px_Gx _ _ (94, [(3, .int 0), (2, .int (nI i)), (0, .ref (38 + n)), (1, .int (nI m))], [.ref (50 + n), .int 0, .ref (50 + n)], hp2) _
        refine px_gx (fun _ K9 => px_a 1 (f' := (95, [(3, .int 0), (2, .int (nI i)), (0, .ref (38 + n)), (1, .int (nI m))], [.ref (38 + n), .ref (50 + n), .int 0, .ref (50 + n)], hp2)) rfl K9) ?_
        refine px_gx (fun _ K9 => px_gf (38 + n) 132 4 17 (.int 1) rfl rfl hm2x rfl K9) ?_
        show px_Gx _ _ (98, [(3, .int 0), (2, .int (nI i)), (0, .ref (38 + n)), (1, .int (nI m))], [.int 1, .ref (50 + n), .int 0, .ref (50 + n)], hp2) _
        refine px_gx (fun _ K9 => px_a 2 (f' := (100, [(3, .int 0), (2, .int (nI i)), (0, .ref (38 + n)), (1, .int (nI m))], [.int 0, .ref (50 + n), .int 0, .ref (50 + n)], hp2)) rfl K9) ?_
        refine px_gx (fun _ K9 => px_al (50 + n) (.int 0) rfl ham2 (Or.inl ⟨rfl, Or.inl rfl⟩) (by decide) (List.getElem?_set_self (by show (0 : Nat) < am.length; omega)) K9) ?_
        show px_Gx _ _ (101, [(3, .int 0), (2, .int (nI i)), (0, .ref (38 + n)), (1, .int (nI m))], [.int 0, .int 0, .ref (50 + n)], hp2) _
        refine px_gx (fun _ K9 => px_a 1 (f' := (102, [(3, .int 0), (2, .int (nI i)), (0, .ref (38 + n)), (1, .int (nI m))], [.ref (38 + n), .int 0, .int 0, .ref (50 + n)], hp2)) rfl K9) ?_
        refine px_gx (fun _ K9 => px_gf (38 + n) 39 4 16 (.ref (48 + n)) rfl rfl hm2x rfl K9) ?_
        show px_Gx _ _ (105, [(3, .int 0), (2, .int (nI i)), (0, .ref (38 + n)), (1, .int (nI m))], [.ref (48 + n), .int 0, .int 0, .ref (50 + n)], hp2) _
        refine px_gx (fun _ K9 => px_a 1 (f' := (106, [(3, .int 0), (2, .int (nI i)), (0, .ref (38 + n)), (1, .int (nI m))], [.int (nI i), .ref (48 + n), .int 0, .int 0, .ref (50 + n)], hp2)) rfl K9) ?_
        refine px_gx (fun _ K9 => px_al (48 + n) (.int 0) rfl hvw2 (Or.inl ⟨rfl, Or.inl rfl⟩) (nI_pos (by omega)) (by rw [nI_clamp (by omega), hz, hl]; rfl) K9) ?_
        show px_Gx _ _ (107, [(3, .int 0), (2, .int (nI i)), (0, .ref (38 + n)), (1, .int (nI m))], [.int 0, .int 0, .int 0, .ref (50 + n)], hp2) _
        refine px_gx (fun _ K9 => px_a 6 (f' := (120, [(3, .int 0), (2, .int (nI i)), (0, .ref (38 + n)), (1, .int (nI m))], [.int (nI m), .int 1, .int 0, .ref (50 + n)], hp2)) rfl K9) ?_
        refine px_gx (fun _ K9 => px_irem rfl (nI_ne0 (by omega) (by omega)) K9) ?_
        have e121 : (1 - 1 / (nI m) * (nI m)) = nI 1 := by rw [show (1 : Int32) = nI 1 from rfl, pk_rem (by omega) (by omega) (by omega), Nat.mod_eq_of_lt (by omega)]
        rw [e121]
        refine px_gx (fun _ K9 => px_ias (50 + n) rfl ham2 (by omega) (by decide) (by first | (show (0 : Nat) < _; rw [List.length_set]; omega) | (rw [List.length_set]; omega) | omega) K9) ?_
        have hf1__38___n_ : (hp2.set (50 + n) (10, (am.set (Int32.toNatClampNeg 0) (.int 0)).set (Int32.toNatClampNeg 0) (.int (nI 1))))[(38 + n)]? = some (4, [.int th, .int w, .int h, .ref (39 + n), .int pn, .ref (40 + n), .ref (41 + n), .ref (42 + n), .int pl, .ref (43 + n), .ref (44 + n), .ref (45 + n), .ref (46 + n), .int fo, .ref (47 + n), .int (nI K), .ref (48 + n), .int 1, .ref (49 + n), .ref (50 + n), .ref (51 + n)]) := px_ne hm2x (by omega)
        have hf1__48___n_ : (hp2.set (50 + n) (10, (am.set (Int32.toNatClampNeg 0) (.int 0)).set (Int32.toNatClampNeg 0) (.int (nI 1))))[(48 + n)]? = some (10, vw) := px_ne hvw2 (by omega)
        have hf1__49___n_ : (hp2.set (50 + n) (10, (am.set (Int32.toNatClampNeg 0) (.int 0)).set (Int32.toNatClampNeg 0) (.int (nI 1))))[(49 + n)]? = some (10, ax.set (Int32.toNatClampNeg 0) (.int 0)) := px_ne hax2 (by omega)
        have hf1__50___n_ : (hp2.set (50 + n) (10, (am.set (Int32.toNatClampNeg 0) (.int 0)).set (Int32.toNatClampNeg 0) (.int (nI 1))))[(50 + n)]? = some (10, (am.set (Int32.toNatClampNeg 0) (.int 0)).set (Int32.toNatClampNeg 0) (.int (nI 1))) := px_self ham2
        show px_Gx _ _ (122, [(3, .int 0), (2, .int (nI i)), (0, .ref (38 + n)), (1, .int (nI m))], [], (hp2.set (50 + n) (10, (am.set (Int32.toNatClampNeg 0) (.int 0)).set (Int32.toNatClampNeg 0) (.int (nI 1))))) _
        refine px_gx (fun _ K9 => px_a 1 (f' := (123, [(3, .int 0), (2, .int (nI i)), (0, .ref (38 + n)), (1, .int (nI m))], [.ref (38 + n)], (hp2.set (50 + n) (10, (am.set (Int32.toNatClampNeg 0) (.int 0)).set (Int32.toNatClampNeg 0) (.int (nI 1)))))) rfl K9) ?_
        refine px_gx (fun _ K9 => px_gf (38 + n) 45 4 19 (.ref (50 + n)) rfl rfl hf1__38___n_ rfl K9) ?_
        show px_Gx _ _ (126, [(3, .int 0), (2, .int (nI i)), (0, .ref (38 + n)), (1, .int (nI m))], [.ref (50 + n)], (hp2.set (50 + n) (10, (am.set (Int32.toNatClampNeg 0) (.int 0)).set (Int32.toNatClampNeg 0) (.int (nI 1))))) _
        refine px_gx (fun _ K9 => px_a 1 (f' := (127, [(3, .int 0), (2, .int (nI i)), (0, .ref (38 + n)), (1, .int (nI m))], [.ref (38 + n), .ref (50 + n)], (hp2.set (50 + n) (10, (am.set (Int32.toNatClampNeg 0) (.int 0)).set (Int32.toNatClampNeg 0) (.int (nI 1)))))) rfl K9) ?_
        refine px_gx (fun _ K9 => px_gf (38 + n) 132 4 17 (.int 1) rfl rfl hf1__38___n_ rfl K9) ?_
        show px_Gx _ _ (130, [(3, .int 0), (2, .int (nI i)), (0, .ref (38 + n)), (1, .int (nI m))], [.int 1, .ref (50 + n)], (hp2.set (50 + n) (10, (am.set (Int32.toNatClampNeg 0) (.int 0)).set (Int32.toNatClampNeg 0) (.int (nI 1))))) _
        refine px_gx (fun _ K9 => px_a 2 (f' := (132, [(3, .int 0), (2, .int (nI i)), (0, .ref (38 + n)), (1, .int (nI m))], [.int 0, .ref (50 + n)], (hp2.set (50 + n) (10, (am.set (Int32.toNatClampNeg 0) (.int 0)).set (Int32.toNatClampNeg 0) (.int (nI 1)))))) rfl K9) ?_
        refine px_gx (fun _ K9 => px_al (50 + n) (.int (nI 1)) rfl hf1__50___n_ (Or.inl ⟨rfl, Or.inl rfl⟩) (by decide) (List.getElem?_set_self (by first | (show (0 : Nat) < _; rw [List.length_set]; omega) | (rw [List.length_set]; omega) | omega)) K9) ?_
        show px_Gx _ _ (133, [(3, .int 0), (2, .int (nI i)), (0, .ref (38 + n)), (1, .int (nI m))], [.int (nI 1)], (hp2.set (50 + n) (10, (am.set (Int32.toNatClampNeg 0) (.int 0)).set (Int32.toNatClampNeg 0) (.int (nI 1))))) _
        refine px_gx (fun _ K9 => px_b1 true 146 rfl rfl (by decide) K9) ?_
        show px_Gx _ _ (146, [(3, .int 0), (2, .int (nI i)), (0, .ref (38 + n)), (1, .int (nI m))], [], (hp2.set (50 + n) (10, (am.set (Int32.toNatClampNeg 0) (.int 0)).set (Int32.toNatClampNeg 0) (.int (nI 1))))) _
        refine px_gx (fun _ K9 => px_a 2 (f' := (11, [(2, .int ((nI i) + 1)), (3, .int 0), (0, .ref (38 + n)), (1, .int (nI m))], [], (hp2.set (50 + n) (10, (am.set (Int32.toNatClampNeg 0) (.int 0)).set (Int32.toNatClampNeg 0) (.int (nI 1)))))) rfl K9) ?_
        rw [nI_1]
        refine px_wk [(2, .int (nI (i + 1))), (0, .ref (38 + n)), (1, .int (nI m))] ⟨rfl, rfl, rfl, trivial⟩ ?_
        have es : x_fd m f (i + 1) = (0, 1) :: [] := by show x_psh m (f i % 2) (x_am m (f i)) _ = _; rw [hl, est]; rfl
        exact ih (i + 1) _ _ _ (by rw [es]; exact hf1__38___n_) hf1__49___n_ hf1__50___n_ hf1__48___n_ (by first | exact la | (rw [List.length_set]; exact la)) (by first | exact lm | (repeat rw [List.length_set]); exact lm) (by rw [es]; exact ⟨List.getElem?_set_self (by show (0 : Nat) < _; omega), List.getElem?_set_self (by (repeat rw [List.length_set]); show (0 : Nat) < _; omega), trivial⟩) (by omega)
      | cons p r =>
        rw [est] at hm hr h84
        have hl2 : (p :: r).length = r.length + 1 := rfl
        rw [hl2] at hm h84
        have hso := x_fd_so (f := f) hm2 i
        rw [est] at hso
        have hpp := hso p List.mem_cons_self
        by_cases h1 : p.1 = 0
        · skip
          refine px_gx (fun _ K9 => px_a 2 (f' := (13, [(2, .int (nI i)), (0, .ref (38 + n)), (1, .int (nI m))], [.ref (38 + n), .int (nI i)], hp)) rfl K9) ?_
          refine px_gx (fun _ K9 => px_gf (38 + n) 122 4 15 (.int (nI K)) rfl rfl hm rfl K9) ?_
          show px_Gx _ _ (16, [(2, .int (nI i)), (0, .ref (38 + n)), (1, .int (nI m))], [.int (nI K), .int (nI i)], hp) _
          refine px_gx (fun _ K9 => px_b2 false 152 rfl rfl (decide_eq_false (nI_ge (by omega) (by omega))) K9) ?_
          show px_Gx _ _ (19, [(2, .int (nI i)), (0, .ref (38 + n)), (1, .int (nI m))], [], hp) _
          refine px_gx (fun _ K9 => px_a 1 (f' := (20, [(2, .int (nI i)), (0, .ref (38 + n)), (1, .int (nI m))], [.ref (38 + n)], hp)) rfl K9) ?_
          refine px_gx (fun _ K9 => px_gf (38 + n) 39 4 16 (.ref (48 + n)) rfl rfl hm rfl K9) ?_
          show px_Gx _ _ (23, [(2, .int (nI i)), (0, .ref (38 + n)), (1, .int (nI m))], [.ref (48 + n)], hp) _
          refine px_gx (fun _ K9 => px_a 1 (f' := (24, [(2, .int (nI i)), (0, .ref (38 + n)), (1, .int (nI m))], [.int (nI i), .ref (48 + n)], hp)) rfl K9) ?_
          refine px_gx (fun _ K9 => px_al (48 + n) (.int 0) rfl hvw (Or.inl ⟨rfl, Or.inl rfl⟩) (nI_pos (by omega)) (by rw [nI_clamp (by omega), hz, hl]; rfl) K9) ?_
          show px_Gx _ _ (25, [(2, .int (nI i)), (0, .ref (38 + n)), (1, .int (nI m))], [.int 0], hp) _
          refine px_gx (fun _ K9 => px_a 4 (f' := (29, [(3, .int 0), (2, .int (nI i)), (0, .ref (38 + n)), (1, .int (nI m))], [.ref (38 + n)], hp)) rfl K9) ?_
          refine px_gx (fun _ K9 => px_gf (38 + n) 132 4 17 (.int (nI (r.length + 1))) rfl rfl hm rfl K9) ?_
          show px_Gx _ _ (32, [(3, .int 0), (2, .int (nI i)), (0, .ref (38 + n)), (1, .int (nI m))], [.int (nI (r.length + 1))], hp) _
          refine px_gx (fun _ K9 => px_b1 false 50 rfl rfl (decide_eq_false (nI_ne0 (by omega) (by omega))) K9) ?_
          show px_Gx _ _ (35, [(3, .int 0), (2, .int (nI i)), (0, .ref (38 + n)), (1, .int (nI m))], [], hp) _
          refine px_gx (fun _ K9 => px_a 1 (f' := (36, [(3, .int 0), (2, .int (nI i)), (0, .ref (38 + n)), (1, .int (nI m))], [.ref (38 + n)], hp)) rfl K9) ?_
          refine px_gx (fun _ K9 => px_gf (38 + n) 42 4 18 (.ref (49 + n)) rfl rfl hm rfl K9) ?_
          show px_Gx _ _ (39, [(3, .int 0), (2, .int (nI i)), (0, .ref (38 + n)), (1, .int (nI m))], [.ref (49 + n)], hp) _
          refine px_gx (fun _ K9 => px_a 1 (f' := (40, [(3, .int 0), (2, .int (nI i)), (0, .ref (38 + n)), (1, .int (nI m))], [.ref (38 + n), .ref (49 + n)], hp)) rfl K9) ?_
          refine px_gx (fun _ K9 => px_gf (38 + n) 132 4 17 (.int (nI (r.length + 1))) rfl rfl hm rfl K9) ?_
          show px_Gx _ _ (43, [(3, .int 0), (2, .int (nI i)), (0, .ref (38 + n)), (1, .int (nI m))], [.int (nI (r.length + 1)), .ref (49 + n)], hp) _
          refine px_gx (fun _ K9 => px_a 2 (f' := (45, [(3, .int 0), (2, .int (nI i)), (0, .ref (38 + n)), (1, .int (nI m))], [.int ((nI (r.length + 1)) - 1), .ref (49 + n)], hp)) rfl K9) ?_
          refine px_gx (fun _ K9 => px_al (49 + n) (.int (nI p.1)) rfl hax (Or.inl ⟨rfl, Or.inl rfl⟩) (by rw [nI_pred]; exact nI_pos (by omega)) (by rw [nI_pred, nI_clamp (by omega)]; exact hr.1) K9) ?_
          show px_Gx _ _ (46, [(3, .int 0), (2, .int (nI i)), (0, .ref (38 + n)), (1, .int (nI m))], [.int (nI p.1)], hp) _
          refine px_gx (fun _ K9 => px_a 1 (f' := (47, [(3, .int 0), (2, .int (nI i)), (0, .ref (38 + n)), (1, .int (nI m))], [.int 0, .int (nI p.1)], hp)) rfl K9) ?_
          refine px_gx (fun _ K9 => px_b2 true 80 rfl rfl (decide_eq_true (by rw [h1]; rfl)) K9) ?_
          show px_Gx _ _ (80, [(3, .int 0), (2, .int (nI i)), (0, .ref (38 + n)), (1, .int (nI m))], [], hp) _
          have hm2x := hm
          have hax2 := hax
          have ham2 := ham
          have hvw2 := hvw
          refine px_gx (fun _ K9 => px_a 1 (f' := (81, [(3, .int 0), (2, .int (nI i)), (0, .ref (38 + n)), (1, .int (nI m))], [.ref (38 + n)], hp)) rfl K9) ?_
          refine px_gx (fun _ K9 => px_gf (38 + n) 45 4 19 (.ref (50 + n)) rfl rfl hm2x rfl K9) ?_
          show px_Gx _ _ (84, [(3, .int 0), (2, .int (nI i)), (0, .ref (38 + n)), (1, .int (nI m))], [.ref (50 + n)], hp) _
          refine px_gx (fun _ K9 => px_a 1 (f' := (85, [(3, .int 0), (2, .int (nI i)), (0, .ref (38 + n)), (1, .int (nI m))], [.ref (38 + n), .ref (50 + n)], hp)) rfl K9) ?_
          refine px_gx (fun _ K9 => px_gf (38 + n) 132 4 17 (.int (nI (r.length + 1))) rfl rfl hm2x rfl K9) ?_
          show px_Gx _ _ (88, [(3, .int 0), (2, .int (nI i)), (0, .ref (38 + n)), (1, .int (nI m))], [.int (nI (r.length + 1)), .ref (50 + n)], hp) _
          refine px_gx (fun _ K9 => px_a 3 (f' := (91, [(3, .int 0), (2, .int (nI i)), (0, .ref (38 + n)), (1, .int (nI m))], [.ref (38 + n), .int ((nI (r.length + 1)) - 1), .ref (50 + n)], hp)) rfl K9) ?_
          refine px_gx (fun _ K9 => px_gf (38 + n) 45 4 19 (.ref (50 + n)) rfl rfl hm2x rfl K9) ?_
          show px_Gx _ _ (94, [(3, .int 0), (2, .int (nI i)), (0, .ref (38 + n)), (1, .int (nI m))], [.ref (50 + n), .int ((nI (r.length + 1)) - 1), .ref (50 + n)], hp) _
          refine px_gx (fun _ K9 => px_a 1 (f' := (95, [(3, .int 0), (2, .int (nI i)), (0, .ref (38 + n)), (1, .int (nI m))], [.ref (38 + n), .ref (50 + n), .int ((nI (r.length + 1)) - 1), .ref (50 + n)], hp)) rfl K9) ?_
          refine px_gx (fun _ K9 => px_gf (38 + n) 132 4 17 (.int (nI (r.length + 1))) rfl rfl hm2x rfl K9) ?_
          show px_Gx _ _ (98, [(3, .int 0), (2, .int (nI i)), (0, .ref (38 + n)), (1, .int (nI m))], [.int (nI (r.length + 1)), .ref (50 + n), .int ((nI (r.length + 1)) - 1), .ref (50 + n)], hp) _
          refine px_gx (fun _ K9 => px_a 2 (f' := (100, [(3, .int 0), (2, .int (nI i)), (0, .ref (38 + n)), (1, .int (nI m))], [.int ((nI (r.length + 1)) - 1), .ref (50 + n), .int ((nI (r.length + 1)) - 1), .ref (50 + n)], hp)) rfl K9) ?_
          refine px_gx (fun _ K9 => px_al (50 + n) (.int (nI p.2)) rfl ham2 (Or.inl ⟨rfl, Or.inl rfl⟩) (by rw [nI_pred]; exact nI_pos (by omega)) (by rw [nI_pred, nI_clamp (by omega)]; exact hr.2.1) K9) ?_
          show px_Gx _ _ (101, [(3, .int 0), (2, .int (nI i)), (0, .ref (38 + n)), (1, .int (nI m))], [.int (nI p.2), .int ((nI (r.length + 1)) - 1), .ref (50 + n)], hp) _
          refine px_gx (fun _ K9 => px_a 1 (f' := (102, [(3, .int 0), (2, .int (nI i)), (0, .ref (38 + n)), (1, .int (nI m))], [.ref (38 + n), .int (nI p.2), .int ((nI (r.length + 1)) - 1), .ref (50 + n)], hp)) rfl K9) ?_
          refine px_gx (fun _ K9 => px_gf (38 + n) 39 4 16 (.ref (48 + n)) rfl rfl hm2x rfl K9) ?_
          show px_Gx _ _ (105, [(3, .int 0), (2, .int (nI i)), (0, .ref (38 + n)), (1, .int (nI m))], [.ref (48 + n), .int (nI p.2), .int ((nI (r.length + 1)) - 1), .ref (50 + n)], hp) _
          refine px_gx (fun _ K9 => px_a 1 (f' := (106, [(3, .int 0), (2, .int (nI i)), (0, .ref (38 + n)), (1, .int (nI m))], [.int (nI i), .ref (48 + n), .int (nI p.2), .int ((nI (r.length + 1)) - 1), .ref (50 + n)], hp)) rfl K9) ?_
          refine px_gx (fun _ K9 => px_al (48 + n) (.int 0) rfl hvw2 (Or.inl ⟨rfl, Or.inl rfl⟩) (nI_pos (by omega)) (by rw [nI_clamp (by omega), hz, hl]; rfl) K9) ?_
          show px_Gx _ _ (107, [(3, .int 0), (2, .int (nI i)), (0, .ref (38 + n)), (1, .int (nI m))], [.int 0, .int (nI p.2), .int ((nI (r.length + 1)) - 1), .ref (50 + n)], hp) _
          refine px_gx (fun _ K9 => px_a 6 (f' := (120, [(3, .int 0), (2, .int (nI i)), (0, .ref (38 + n)), (1, .int (nI m))], [.int (nI m), .int ((nI p.2) + 1), .int ((nI (r.length + 1)) - 1), .ref (50 + n)], hp)) rfl K9) ?_
          refine px_gx (fun _ K9 => px_irem rfl (nI_ne0 (by omega) (by omega)) K9) ?_
          have e121 : (((nI p.2) + 1) - ((nI p.2) + 1) / (nI m) * (nI m)) = nI ((p.2 + 1) % m) := by rw [show (1 : Int32) = nI 1 from rfl, nI_add, pk_rem (by omega) (by omega) (by omega)]
          rw [e121]
          have emc := x_modc (m := m) (p := p.2) (v := 1) (by omega) (by omega) (by omega)
          by_cases h2 : p.2 + 1 = m
          · refine px_gx (fun _ K9 => px_ias (50 + n) rfl ham2 (by omega) (by rw [nI_pred]; exact nI_pos (by omega)) (by rw [nI_pred, nI_clamp (by omega)]; first | (show (0 : Nat) < _; rw [List.length_set]; omega) | (rw [List.length_set]; omega) | omega) K9) ?_
            have hf1__38___n_ : (hp.set (50 + n) (10, (am).set (Int32.toNatClampNeg ((nI (r.length + 1)) - 1)) (.int (nI ((p.2 + 1) % m)))))[(38 + n)]? = some (4, [.int th, .int w, .int h, .ref (39 + n), .int pn, .ref (40 + n), .ref (41 + n), .ref (42 + n), .int pl, .ref (43 + n), .ref (44 + n), .ref (45 + n), .ref (46 + n), .int fo, .ref (47 + n), .int (nI K), .ref (48 + n), .int (nI (r.length + 1)), .ref (49 + n), .ref (50 + n), .ref (51 + n)]) := px_ne hm2x (by omega)
            have hf1__48___n_ : (hp.set (50 + n) (10, (am).set (Int32.toNatClampNeg ((nI (r.length + 1)) - 1)) (.int (nI ((p.2 + 1) % m)))))[(48 + n)]? = some (10, vw) := px_ne hvw2 (by omega)
            have hf1__49___n_ : (hp.set (50 + n) (10, (am).set (Int32.toNatClampNeg ((nI (r.length + 1)) - 1)) (.int (nI ((p.2 + 1) % m)))))[(49 + n)]? = some (10, ax) := px_ne hax2 (by omega)
            have hf1__50___n_ : (hp.set (50 + n) (10, (am).set (Int32.toNatClampNeg ((nI (r.length + 1)) - 1)) (.int (nI ((p.2 + 1) % m)))))[(50 + n)]? = some (10, (am).set (Int32.toNatClampNeg ((nI (r.length + 1)) - 1)) (.int (nI ((p.2 + 1) % m)))) := px_self ham2
            show px_Gx _ _ (122, [(3, .int 0), (2, .int (nI i)), (0, .ref (38 + n)), (1, .int (nI m))], [], (hp.set (50 + n) (10, (am).set (Int32.toNatClampNeg ((nI (r.length + 1)) - 1)) (.int (nI ((p.2 + 1) % m)))))) _
            refine px_gx (fun _ K9 => px_a 1 (f' := (123, [(3, .int 0), (2, .int (nI i)), (0, .ref (38 + n)), (1, .int (nI m))], [.ref (38 + n)], (hp.set (50 + n) (10, (am).set (Int32.toNatClampNeg ((nI (r.length + 1)) - 1)) (.int (nI ((p.2 + 1) % m))))))) rfl K9) ?_
            refine px_gx (fun _ K9 => px_gf (38 + n) 45 4 19 (.ref (50 + n)) rfl rfl hf1__38___n_ rfl K9) ?_
            show px_Gx _ _ (126, [(3, .int 0), (2, .int (nI i)), (0, .ref (38 + n)), (1, .int (nI m))], [.ref (50 + n)], (hp.set (50 + n) (10, (am).set (Int32.toNatClampNeg ((nI (r.length + 1)) - 1)) (.int (nI ((p.2 + 1) % m)))))) _
            refine px_gx (fun _ K9 => px_a 1 (f' := (127, [(3, .int 0), (2, .int (nI i)), (0, .ref (38 + n)), (1, .int (nI m))], [.ref (38 + n), .ref (50 + n)], (hp.set (50 + n) (10, (am).set (Int32.toNatClampNeg ((nI (r.length + 1)) - 1)) (.int (nI ((p.2 + 1) % m))))))) rfl K9) ?_
            refine px_gx (fun _ K9 => px_gf (38 + n) 132 4 17 (.int (nI (r.length + 1))) rfl rfl hf1__38___n_ rfl K9) ?_
            show px_Gx _ _ (130, [(3, .int 0), (2, .int (nI i)), (0, .ref (38 + n)), (1, .int (nI m))], [.int (nI (r.length + 1)), .ref (50 + n)], (hp.set (50 + n) (10, (am).set (Int32.toNatClampNeg ((nI (r.length + 1)) - 1)) (.int (nI ((p.2 + 1) % m)))))) _
            refine px_gx (fun _ K9 => px_a 2 (f' := (132, [(3, .int 0), (2, .int (nI i)), (0, .ref (38 + n)), (1, .int (nI m))], [.int ((nI (r.length + 1)) - 1), .ref (50 + n)], (hp.set (50 + n) (10, (am).set (Int32.toNatClampNeg ((nI (r.length + 1)) - 1)) (.int (nI ((p.2 + 1) % m))))))) rfl K9) ?_
            refine px_gx (fun _ K9 => px_al (50 + n) (.int (nI ((p.2 + 1) % m))) rfl hf1__50___n_ (Or.inl ⟨rfl, Or.inl rfl⟩) (by rw [nI_pred]; exact nI_pos (by omega)) (List.getElem?_set_self (by rw [nI_pred, nI_clamp (by omega)]; first | (show (0 : Nat) < _; rw [List.length_set]; omega) | (rw [List.length_set]; omega) | omega)) K9) ?_
            show px_Gx _ _ (133, [(3, .int 0), (2, .int (nI i)), (0, .ref (38 + n)), (1, .int (nI m))], [.int (nI ((p.2 + 1) % m))], (hp.set (50 + n) (10, (am).set (Int32.toNatClampNeg ((nI (r.length + 1)) - 1)) (.int (nI ((p.2 + 1) % m)))))) _
            refine px_gx (fun _ K9 => px_b1 false 146 rfl rfl (decide_eq_false (not_not_intro (by rw [emc, if_pos h2]; rfl))) K9) ?_
            show px_Gx _ _ (136, [(3, .int 0), (2, .int (nI i)), (0, .ref (38 + n)), (1, .int (nI m))], [], (hp.set (50 + n) (10, (am).set (Int32.toNatClampNeg ((nI (r.length + 1)) - 1)) (.int (nI ((p.2 + 1) % m)))))) _
            refine px_gx (fun _ K9 => px_a 2 (f' := (138, [(3, .int 0), (2, .int (nI i)), (0, .ref (38 + n)), (1, .int (nI m))], [.ref (38 + n), .ref (38 + n)], (hp.set (50 + n) (10, (am).set (Int32.toNatClampNeg ((nI (r.length + 1)) - 1)) (.int (nI ((p.2 + 1) % m))))))) rfl K9) ?_
            refine px_gx (fun _ K9 => px_gf (38 + n) 132 4 17 (.int (nI (r.length + 1))) rfl rfl hf1__38___n_ rfl K9) ?_
            show px_Gx _ _ (141, [(3, .int 0), (2, .int (nI i)), (0, .ref (38 + n)), (1, .int (nI m))], [.int (nI (r.length + 1)), .ref (38 + n)], (hp.set (50 + n) (10, (am).set (Int32.toNatClampNeg ((nI (r.length + 1)) - 1)) (.int (nI ((p.2 + 1) % m)))))) _
            refine px_gx (fun _ K9 => px_a 2 (f' := (143, [(3, .int 0), (2, .int (nI i)), (0, .ref (38 + n)), (1, .int (nI m))], [.int ((nI (r.length + 1)) - 1), .ref (38 + n)], (hp.set (50 + n) (10, (am).set (Int32.toNatClampNeg ((nI (r.length + 1)) - 1)) (.int (nI ((p.2 + 1) % m))))))) rfl K9) ?_
            refine px_gx (fun _ K9 => px_pf (38 + n) 132 4 17 rfl rfl hf1__38___n_ (by omega) (by simp) rfl rfl (by decide) K9) ?_
            have hf2__38___n_ : (((hp.set (50 + n) (10, (am).set (Int32.toNatClampNeg ((nI (r.length + 1)) - 1)) (.int (nI ((p.2 + 1) % m)))))).set (38 + n) (4, [.int th, .int w, .int h, .ref (39 + n), .int pn, .ref (40 + n), .ref (41 + n), .ref (42 + n), .int pl, .ref (43 + n), .ref (44 + n), .ref (45 + n), .ref (46 + n), .int fo, .ref (47 + n), .int (nI K), .ref (48 + n), .int ((nI (r.length + 1)) - 1), .ref (49 + n), .ref (50 + n), .ref (51 + n)]))[(38 + n)]? = some (4, [.int th, .int w, .int h, .ref (39 + n), .int pn, .ref (40 + n), .ref (41 + n), .ref (42 + n), .int pl, .ref (43 + n), .ref (44 + n), .ref (45 + n), .ref (46 + n), .int fo, .ref (47 + n), .int (nI K), .ref (48 + n), .int ((nI (r.length + 1)) - 1), .ref (49 + n), .ref (50 + n), .ref (51 + n)]) := px_self hf1__38___n_
            have hf2__48___n_ : (((hp.set (50 + n) (10, (am).set (Int32.toNatClampNeg ((nI (r.length + 1)) - 1)) (.int (nI ((p.2 + 1) % m)))))).set (38 + n) (4, [.int th, .int w, .int h, .ref (39 + n), .int pn, .ref (40 + n), .ref (41 + n), .ref (42 + n), .int pl, .ref (43 + n), .ref (44 + n), .ref (45 + n), .ref (46 + n), .int fo, .ref (47 + n), .int (nI K), .ref (48 + n), .int ((nI (r.length + 1)) - 1), .ref (49 + n), .ref (50 + n), .ref (51 + n)]))[(48 + n)]? = some (10, vw) := px_ne hf1__48___n_ (by omega)
            have hf2__49___n_ : (((hp.set (50 + n) (10, (am).set (Int32.toNatClampNeg ((nI (r.length + 1)) - 1)) (.int (nI ((p.2 + 1) % m)))))).set (38 + n) (4, [.int th, .int w, .int h, .ref (39 + n), .int pn, .ref (40 + n), .ref (41 + n), .ref (42 + n), .int pl, .ref (43 + n), .ref (44 + n), .ref (45 + n), .ref (46 + n), .int fo, .ref (47 + n), .int (nI K), .ref (48 + n), .int ((nI (r.length + 1)) - 1), .ref (49 + n), .ref (50 + n), .ref (51 + n)]))[(49 + n)]? = some (10, ax) := px_ne hf1__49___n_ (by omega)
            have hf2__50___n_ : (((hp.set (50 + n) (10, (am).set (Int32.toNatClampNeg ((nI (r.length + 1)) - 1)) (.int (nI ((p.2 + 1) % m)))))).set (38 + n) (4, [.int th, .int w, .int h, .ref (39 + n), .int pn, .ref (40 + n), .ref (41 + n), .ref (42 + n), .int pl, .ref (43 + n), .ref (44 + n), .ref (45 + n), .ref (46 + n), .int fo, .ref (47 + n), .int (nI K), .ref (48 + n), .int ((nI (r.length + 1)) - 1), .ref (49 + n), .ref (50 + n), .ref (51 + n)]))[(50 + n)]? = some (10, (am).set (Int32.toNatClampNeg ((nI (r.length + 1)) - 1)) (.int (nI ((p.2 + 1) % m)))) := px_ne hf1__50___n_ (by omega)
            show px_Gx _ _ (146, [(3, .int 0), (2, .int (nI i)), (0, .ref (38 + n)), (1, .int (nI m))], [], (((hp.set (50 + n) (10, (am).set (Int32.toNatClampNeg ((nI (r.length + 1)) - 1)) (.int (nI ((p.2 + 1) % m)))))).set (38 + n) (4, [.int th, .int w, .int h, .ref (39 + n), .int pn, .ref (40 + n), .ref (41 + n), .ref (42 + n), .int pl, .ref (43 + n), .ref (44 + n), .ref (45 + n), .ref (46 + n), .int fo, .ref (47 + n), .int (nI K), .ref (48 + n), .int ((nI (r.length + 1)) - 1), .ref (49 + n), .ref (50 + n), .ref (51 + n)]))) _
            refine px_gx (fun _ K9 => px_a 2 (f' := (11, [(2, .int ((nI i) + 1)), (3, .int 0), (0, .ref (38 + n)), (1, .int (nI m))], [], (((hp.set (50 + n) (10, (am).set (Int32.toNatClampNeg ((nI (r.length + 1)) - 1)) (.int (nI ((p.2 + 1) % m)))))).set (38 + n) (4, [.int th, .int w, .int h, .ref (39 + n), .int pn, .ref (40 + n), .ref (41 + n), .ref (42 + n), .int pl, .ref (43 + n), .ref (44 + n), .ref (45 + n), .ref (46 + n), .int fo, .ref (47 + n), .int (nI K), .ref (48 + n), .int ((nI (r.length + 1)) - 1), .ref (49 + n), .ref (50 + n), .ref (51 + n)])))) rfl K9) ?_
            rw [nI_1]
            refine px_wk [(2, .int (nI (i + 1))), (0, .ref (38 + n)), (1, .int (nI m))] ⟨rfl, rfl, rfl, trivial⟩ ?_
            have es : x_fd m f (i + 1) = r := by show x_psh m (f i % 2) (x_am m (f i)) _ = _; rw [hl, est]; show (if p.1 = _ then _ else _) = _; rw [if_pos h1]; exact if_pos h2
            exact ih (i + 1) _ _ _ (by rw [es]; exact (nI_pred r.length) ▸ hf2__38___n_) hf2__49___n_ hf2__50___n_ hf2__48___n_ (by first | exact la | (rw [List.length_set]; exact la)) (by first | exact lm | (repeat rw [List.length_set]); exact lm) (by rw [es]; rw [nI_pred, nI_clamp (by omega)]; exact x_rep_setb hr.2.2 (Nat.le_refl _)) (by omega)
          · refine px_gx (fun _ K9 => px_ias (50 + n) rfl ham2 (by omega) (by rw [nI_pred]; exact nI_pos (by omega)) (by rw [nI_pred, nI_clamp (by omega)]; first | (show (0 : Nat) < _; rw [List.length_set]; omega) | (rw [List.length_set]; omega) | omega) K9) ?_
            have hf1__38___n_ : (hp.set (50 + n) (10, (am).set (Int32.toNatClampNeg ((nI (r.length + 1)) - 1)) (.int (nI ((p.2 + 1) % m)))))[(38 + n)]? = some (4, [.int th, .int w, .int h, .ref (39 + n), .int pn, .ref (40 + n), .ref (41 + n), .ref (42 + n), .int pl, .ref (43 + n), .ref (44 + n), .ref (45 + n), .ref (46 + n), .int fo, .ref (47 + n), .int (nI K), .ref (48 + n), .int (nI (r.length + 1)), .ref (49 + n), .ref (50 + n), .ref (51 + n)]) := px_ne hm2x (by omega)
            have hf1__48___n_ : (hp.set (50 + n) (10, (am).set (Int32.toNatClampNeg ((nI (r.length + 1)) - 1)) (.int (nI ((p.2 + 1) % m)))))[(48 + n)]? = some (10, vw) := px_ne hvw2 (by omega)
            have hf1__49___n_ : (hp.set (50 + n) (10, (am).set (Int32.toNatClampNeg ((nI (r.length + 1)) - 1)) (.int (nI ((p.2 + 1) % m)))))[(49 + n)]? = some (10, ax) := px_ne hax2 (by omega)
            have hf1__50___n_ : (hp.set (50 + n) (10, (am).set (Int32.toNatClampNeg ((nI (r.length + 1)) - 1)) (.int (nI ((p.2 + 1) % m)))))[(50 + n)]? = some (10, (am).set (Int32.toNatClampNeg ((nI (r.length + 1)) - 1)) (.int (nI ((p.2 + 1) % m)))) := px_self ham2
            show px_Gx _ _ (122, [(3, .int 0), (2, .int (nI i)), (0, .ref (38 + n)), (1, .int (nI m))], [], (hp.set (50 + n) (10, (am).set (Int32.toNatClampNeg ((nI (r.length + 1)) - 1)) (.int (nI ((p.2 + 1) % m)))))) _
            refine px_gx (fun _ K9 => px_a 1 (f' := (123, [(3, .int 0), (2, .int (nI i)), (0, .ref (38 + n)), (1, .int (nI m))], [.ref (38 + n)], (hp.set (50 + n) (10, (am).set (Int32.toNatClampNeg ((nI (r.length + 1)) - 1)) (.int (nI ((p.2 + 1) % m))))))) rfl K9) ?_
            refine px_gx (fun _ K9 => px_gf (38 + n) 45 4 19 (.ref (50 + n)) rfl rfl hf1__38___n_ rfl K9) ?_
            show px_Gx _ _ (126, [(3, .int 0), (2, .int (nI i)), (0, .ref (38 + n)), (1, .int (nI m))], [.ref (50 + n)], (hp.set (50 + n) (10, (am).set (Int32.toNatClampNeg ((nI (r.length + 1)) - 1)) (.int (nI ((p.2 + 1) % m)))))) _
            refine px_gx (fun _ K9 => px_a 1 (f' := (127, [(3, .int 0), (2, .int (nI i)), (0, .ref (38 + n)), (1, .int (nI m))], [.ref (38 + n), .ref (50 + n)], (hp.set (50 + n) (10, (am).set (Int32.toNatClampNeg ((nI (r.length + 1)) - 1)) (.int (nI ((p.2 + 1) % m))))))) rfl K9) ?_
            refine px_gx (fun _ K9 => px_gf (38 + n) 132 4 17 (.int (nI (r.length + 1))) rfl rfl hf1__38___n_ rfl K9) ?_
            show px_Gx _ _ (130, [(3, .int 0), (2, .int (nI i)), (0, .ref (38 + n)), (1, .int (nI m))], [.int (nI (r.length + 1)), .ref (50 + n)], (hp.set (50 + n) (10, (am).set (Int32.toNatClampNeg ((nI (r.length + 1)) - 1)) (.int (nI ((p.2 + 1) % m)))))) _
            refine px_gx (fun _ K9 => px_a 2 (f' := (132, [(3, .int 0), (2, .int (nI i)), (0, .ref (38 + n)), (1, .int (nI m))], [.int ((nI (r.length + 1)) - 1), .ref (50 + n)], (hp.set (50 + n) (10, (am).set (Int32.toNatClampNeg ((nI (r.length + 1)) - 1)) (.int (nI ((p.2 + 1) % m))))))) rfl K9) ?_
            refine px_gx (fun _ K9 => px_al (50 + n) (.int (nI ((p.2 + 1) % m))) rfl hf1__50___n_ (Or.inl ⟨rfl, Or.inl rfl⟩) (by rw [nI_pred]; exact nI_pos (by omega)) (List.getElem?_set_self (by rw [nI_pred, nI_clamp (by omega)]; first | (show (0 : Nat) < _; rw [List.length_set]; omega) | (rw [List.length_set]; omega) | omega)) K9) ?_
            show px_Gx _ _ (133, [(3, .int 0), (2, .int (nI i)), (0, .ref (38 + n)), (1, .int (nI m))], [.int (nI ((p.2 + 1) % m))], (hp.set (50 + n) (10, (am).set (Int32.toNatClampNeg ((nI (r.length + 1)) - 1)) (.int (nI ((p.2 + 1) % m)))))) _
            refine px_gx (fun _ K9 => px_b1 true 146 rfl rfl (decide_eq_true (nI_ne0 (by rw [emc, if_neg h2]; split <;> omega) (Nat.lt_of_lt_of_le (Nat.mod_lt _ (by omega)) (by omega)))) K9) ?_
            show px_Gx _ _ (146, [(3, .int 0), (2, .int (nI i)), (0, .ref (38 + n)), (1, .int (nI m))], [], (hp.set (50 + n) (10, (am).set (Int32.toNatClampNeg ((nI (r.length + 1)) - 1)) (.int (nI ((p.2 + 1) % m)))))) _
            refine px_gx (fun _ K9 => px_a 2 (f' := (11, [(2, .int ((nI i) + 1)), (3, .int 0), (0, .ref (38 + n)), (1, .int (nI m))], [], (hp.set (50 + n) (10, (am).set (Int32.toNatClampNeg ((nI (r.length + 1)) - 1)) (.int (nI ((p.2 + 1) % m))))))) rfl K9) ?_
            rw [nI_1]
            refine px_wk [(2, .int (nI (i + 1))), (0, .ref (38 + n)), (1, .int (nI m))] ⟨rfl, rfl, rfl, trivial⟩ ?_
            have es : x_fd m f (i + 1) = (0, (p.2 + 1) % m) :: r := by show x_psh m (f i % 2) (x_am m (f i)) _ = _; rw [hl, est]; rw [show (0 : Nat) % 2 = 0 from rfl, show x_am m 0 = 1 from rfl, x_psh_c, if_pos h1, if_neg h2, emc, if_neg h2]
            exact ih (i + 1) _ _ _ (by rw [es]; exact hf1__38___n_) hf1__49___n_ hf1__50___n_ hf1__48___n_ (by first | exact la | (rw [List.length_set]; exact la)) (by first | exact lm | (repeat rw [List.length_set]); exact lm) (by rw [es]; rw [nI_pred, nI_clamp (by omega)]; exact ⟨by rw [hr.1, h1], List.getElem?_set_self (by (repeat rw [List.length_set]); omega), x_rep_setb hr.2.2 (Nat.le_refl _)⟩) (by omega)
        · skip
          refine px_gx (fun _ K9 => px_a 2 (f' := (13, [(2, .int (nI i)), (0, .ref (38 + n)), (1, .int (nI m))], [.ref (38 + n), .int (nI i)], hp)) rfl K9) ?_
          refine px_gx (fun _ K9 => px_gf (38 + n) 122 4 15 (.int (nI K)) rfl rfl hm rfl K9) ?_
          show px_Gx _ _ (16, [(2, .int (nI i)), (0, .ref (38 + n)), (1, .int (nI m))], [.int (nI K), .int (nI i)], hp) _
          refine px_gx (fun _ K9 => px_b2 false 152 rfl rfl (decide_eq_false (nI_ge (by omega) (by omega))) K9) ?_
          show px_Gx _ _ (19, [(2, .int (nI i)), (0, .ref (38 + n)), (1, .int (nI m))], [], hp) _
          refine px_gx (fun _ K9 => px_a 1 (f' := (20, [(2, .int (nI i)), (0, .ref (38 + n)), (1, .int (nI m))], [.ref (38 + n)], hp)) rfl K9) ?_
          refine px_gx (fun _ K9 => px_gf (38 + n) 39 4 16 (.ref (48 + n)) rfl rfl hm rfl K9) ?_
          show px_Gx _ _ (23, [(2, .int (nI i)), (0, .ref (38 + n)), (1, .int (nI m))], [.ref (48 + n)], hp) _
          refine px_gx (fun _ K9 => px_a 1 (f' := (24, [(2, .int (nI i)), (0, .ref (38 + n)), (1, .int (nI m))], [.int (nI i), .ref (48 + n)], hp)) rfl K9) ?_
          refine px_gx (fun _ K9 => px_al (48 + n) (.int 0) rfl hvw (Or.inl ⟨rfl, Or.inl rfl⟩) (nI_pos (by omega)) (by rw [nI_clamp (by omega), hz, hl]; rfl) K9) ?_
          show px_Gx _ _ (25, [(2, .int (nI i)), (0, .ref (38 + n)), (1, .int (nI m))], [.int 0], hp) _
          refine px_gx (fun _ K9 => px_a 4 (f' := (29, [(3, .int 0), (2, .int (nI i)), (0, .ref (38 + n)), (1, .int (nI m))], [.ref (38 + n)], hp)) rfl K9) ?_
          refine px_gx (fun _ K9 => px_gf (38 + n) 132 4 17 (.int (nI (r.length + 1))) rfl rfl hm rfl K9) ?_
          show px_Gx _ _ (32, [(3, .int 0), (2, .int (nI i)), (0, .ref (38 + n)), (1, .int (nI m))], [.int (nI (r.length + 1))], hp) _
          refine px_gx (fun _ K9 => px_b1 false 50 rfl rfl (decide_eq_false (nI_ne0 (by omega) (by omega))) K9) ?_
          show px_Gx _ _ (35, [(3, .int 0), (2, .int (nI i)), (0, .ref (38 + n)), (1, .int (nI m))], [], hp) _
          refine px_gx (fun _ K9 => px_a 1 (f' := (36, [(3, .int 0), (2, .int (nI i)), (0, .ref (38 + n)), (1, .int (nI m))], [.ref (38 + n)], hp)) rfl K9) ?_
          refine px_gx (fun _ K9 => px_gf (38 + n) 42 4 18 (.ref (49 + n)) rfl rfl hm rfl K9) ?_
          show px_Gx _ _ (39, [(3, .int 0), (2, .int (nI i)), (0, .ref (38 + n)), (1, .int (nI m))], [.ref (49 + n)], hp) _
          refine px_gx (fun _ K9 => px_a 1 (f' := (40, [(3, .int 0), (2, .int (nI i)), (0, .ref (38 + n)), (1, .int (nI m))], [.ref (38 + n), .ref (49 + n)], hp)) rfl K9) ?_
          refine px_gx (fun _ K9 => px_gf (38 + n) 132 4 17 (.int (nI (r.length + 1))) rfl rfl hm rfl K9) ?_
          show px_Gx _ _ (43, [(3, .int 0), (2, .int (nI i)), (0, .ref (38 + n)), (1, .int (nI m))], [.int (nI (r.length + 1)), .ref (49 + n)], hp) _
          refine px_gx (fun _ K9 => px_a 2 (f' := (45, [(3, .int 0), (2, .int (nI i)), (0, .ref (38 + n)), (1, .int (nI m))], [.int ((nI (r.length + 1)) - 1), .ref (49 + n)], hp)) rfl K9) ?_
          refine px_gx (fun _ K9 => px_al (49 + n) (.int (nI p.1)) rfl hax (Or.inl ⟨rfl, Or.inl rfl⟩) (by rw [nI_pred]; exact nI_pos (by omega)) (by rw [nI_pred, nI_clamp (by omega)]; exact hr.1) K9) ?_
          show px_Gx _ _ (46, [(3, .int 0), (2, .int (nI i)), (0, .ref (38 + n)), (1, .int (nI m))], [.int (nI p.1)], hp) _
          refine px_gx (fun _ K9 => px_a 1 (f' := (47, [(3, .int 0), (2, .int (nI i)), (0, .ref (38 + n)), (1, .int (nI m))], [.int 0, .int (nI p.1)], hp)) rfl K9) ?_
          refine px_gx (fun _ K9 => px_b2 false 80 rfl rfl (decide_eq_false (fun z => h1 ((nI_eq (b := 0) (by omega) (by omega)).mp z))) K9) ?_
          show px_Gx _ _ (50, [(3, .int 0), (2, .int (nI i)), (0, .ref (38 + n)), (1, .int (nI m))], [], hp) _
          refine px_gx (fun _ K9 => px_a 1 (f' := (51, [(3, .int 0), (2, .int (nI i)), (0, .ref (38 + n)), (1, .int (nI m))], [.ref (38 + n)], hp)) rfl K9) ?_
          refine px_gx (fun _ K9 => px_gf (38 + n) 42 4 18 (.ref (49 + n)) rfl rfl hm rfl K9) ?_
          show px_Gx _ _ (54, [(3, .int 0), (2, .int (nI i)), (0, .ref (38 + n)), (1, .int (nI m))], [.ref (49 + n)], hp) _
          refine px_gx (fun _ K9 => px_a 1 (f' := (55, [(3, .int 0), (2, .int (nI i)), (0, .ref (38 + n)), (1, .int (nI m))], [.ref (38 + n), .ref (49 + n)], hp)) rfl K9) ?_
          refine px_gx (fun _ K9 => px_gf (38 + n) 132 4 17 (.int (nI (r.length + 1))) rfl rfl hm rfl K9) ?_
          show px_Gx _ _ (58, [(3, .int 0), (2, .int (nI i)), (0, .ref (38 + n)), (1, .int (nI m))], [.int (nI (r.length + 1)), .ref (49 + n)], hp) _
          refine px_gx (fun _ K9 => px_a 1 (f' := (59, [(3, .int 0), (2, .int (nI i)), (0, .ref (38 + n)), (1, .int (nI m))], [.int 0, .int (nI (r.length + 1)), .ref (49 + n)], hp)) rfl K9) ?_
          refine px_gx (fun _ K9 => px_ias (49 + n) rfl hax (by omega) (nI_pos (by omega)) (by rw [nI_clamp (by omega)]; omega) K9) ?_
          have hf1__38___n_ : (hp.set (49 + n) (10, ax.set (nI (r.length + 1)).toNatClampNeg (.int 0)))[(38 + n)]? = some (4, [.int th, .int w, .int h, .ref (39 + n), .int pn, .ref (40 + n), .ref (41 + n), .ref (42 + n), .int pl, .ref (43 + n), .ref (44 + n), .ref (45 + n), .ref (46 + n), .int fo, .ref (47 + n), .int (nI K), .ref (48 + n), .int (nI (r.length + 1)), .ref (49 + n), .ref (50 + n), .ref (51 + n)]) := px_ne hm (by omega)
          have hf1__48___n_ : (hp.set (49 + n) (10, ax.set (nI (r.length + 1)).toNatClampNeg (.int 0)))[(48 + n)]? = some (10, vw) := px_ne hvw (by omega)
          have hf1__49___n_ : (hp.set (49 + n) (10, ax.set (nI (r.length + 1)).toNatClampNeg (.int 0)))[(49 + n)]? = some (10, ax.set (nI (r.length + 1)).toNatClampNeg (.int 0)) := px_self hax
          have hf1__50___n_ : (hp.set (49 + n) (10, ax.set (nI (r.length + 1)).toNatClampNeg (.int 0)))[(50 + n)]? = some (10, am) := px_ne ham (by omega)
          show px_Gx _ _ (60, [(3, .int 0), (2, .int (nI i)), (0, .ref (38 + n)), (1, .int (nI m))], [], (hp.set (49 + n) (10, ax.set (nI (r.length + 1)).toNatClampNeg (.int 0)))) _
          refine px_gx (fun _ K9 => px_a 1 (f' := (61, [(3, .int 0), (2, .int (nI i)), (0, .ref (38 + n)), (1, .int (nI m))], [.ref (38 + n)], (hp.set (49 + n) (10, ax.set (nI (r.length + 1)).toNatClampNeg (.int 0))))) rfl K9) ?_
          refine px_gx (fun _ K9 => px_gf (38 + n) 45 4 19 (.ref (50 + n)) rfl rfl hf1__38___n_ rfl K9) ?_
          show px_Gx _ _ (64, [(3, .int 0), (2, .int (nI i)), (0, .ref (38 + n)), (1, .int (nI m))], [.ref (50 + n)], (hp.set (49 + n) (10, ax.set (nI (r.length + 1)).toNatClampNeg (.int 0)))) _
          refine px_gx (fun _ K9 => px_a 1 (f' := (65, [(3, .int 0), (2, .int (nI i)), (0, .ref (38 + n)), (1, .int (nI m))], [.ref (38 + n), .ref (50 + n)], (hp.set (49 + n) (10, ax.set (nI (r.length + 1)).toNatClampNeg (.int 0))))) rfl K9) ?_
          refine px_gx (fun _ K9 => px_gf (38 + n) 132 4 17 (.int (nI (r.length + 1))) rfl rfl hf1__38___n_ rfl K9) ?_
          show px_Gx _ _ (68, [(3, .int 0), (2, .int (nI i)), (0, .ref (38 + n)), (1, .int (nI m))], [.int (nI (r.length + 1)), .ref (50 + n)], (hp.set (49 + n) (10, ax.set (nI (r.length + 1)).toNatClampNeg (.int 0)))) _
          refine px_gx (fun _ K9 => px_a 1 (f' := (69, [(3, .int 0), (2, .int (nI i)), (0, .ref (38 + n)), (1, .int (nI m))], [.int 0, .int (nI (r.length + 1)), .ref (50 + n)], (hp.set (49 + n) (10, ax.set (nI (r.length + 1)).toNatClampNeg (.int 0))))) rfl K9) ?_
          refine px_gx (fun _ K9 => px_ias (50 + n) rfl hf1__50___n_ (by omega) (nI_pos (by omega)) (by rw [nI_clamp (by omega)]; omega) K9) ?_
          have hf2__38___n_ : (((hp.set (49 + n) (10, ax.set (nI (r.length + 1)).toNatClampNeg (.int 0)))).set (50 + n) (10, am.set (nI (r.length + 1)).toNatClampNeg (.int 0)))[(38 + n)]? = some (4, [.int th, .int w, .int h, .ref (39 + n), .int pn, .ref (40 + n), .ref (41 + n), .ref (42 + n), .int pl, .ref (43 + n), .ref (44 + n), .ref (45 + n), .ref (46 + n), .int fo, .ref (47 + n), .int (nI K), .ref (48 + n), .int (nI (r.length + 1)), .ref (49 + n), .ref (50 + n), .ref (51 + n)]) := px_ne hf1__38___n_ (by omega)
          have hf2__48___n_ : (((hp.set (49 + n) (10, ax.set (nI (r.length + 1)).toNatClampNeg (.int 0)))).set (50 + n) (10, am.set (nI (r.length + 1)).toNatClampNeg (.int 0)))[(48 + n)]? = some (10, vw) := px_ne hf1__48___n_ (by omega)
          have hf2__49___n_ : (((hp.set (49 + n) (10, ax.set (nI (r.length + 1)).toNatClampNeg (.int 0)))).set (50 + n) (10, am.set (nI (r.length + 1)).toNatClampNeg (.int 0)))[(49 + n)]? = some (10, ax.set (nI (r.length + 1)).toNatClampNeg (.int 0)) := px_ne hf1__49___n_ (by omega)
          have hf2__50___n_ : (((hp.set (49 + n) (10, ax.set (nI (r.length + 1)).toNatClampNeg (.int 0)))).set (50 + n) (10, am.set (nI (r.length + 1)).toNatClampNeg (.int 0)))[(50 + n)]? = some (10, am.set (nI (r.length + 1)).toNatClampNeg (.int 0)) := px_self hf1__50___n_
          show px_Gx _ _ (70, [(3, .int 0), (2, .int (nI i)), (0, .ref (38 + n)), (1, .int (nI m))], [], (((hp.set (49 + n) (10, ax.set (nI (r.length + 1)).toNatClampNeg (.int 0)))).set (50 + n) (10, am.set (nI (r.length + 1)).toNatClampNeg (.int 0)))) _
          refine px_gx (fun _ K9 => px_a 2 (f' := (72, [(3, .int 0), (2, .int (nI i)), (0, .ref (38 + n)), (1, .int (nI m))], [.ref (38 + n), .ref (38 + n)], (((hp.set (49 + n) (10, ax.set (nI (r.length + 1)).toNatClampNeg (.int 0)))).set (50 + n) (10, am.set (nI (r.length + 1)).toNatClampNeg (.int 0))))) rfl K9) ?_
          refine px_gx (fun _ K9 => px_gf (38 + n) 132 4 17 (.int (nI (r.length + 1))) rfl rfl hf2__38___n_ rfl K9) ?_
          show px_Gx _ _ (75, [(3, .int 0), (2, .int (nI i)), (0, .ref (38 + n)), (1, .int (nI m))], [.int (nI (r.length + 1)), .ref (38 + n)], (((hp.set (49 + n) (10, ax.set (nI (r.length + 1)).toNatClampNeg (.int 0)))).set (50 + n) (10, am.set (nI (r.length + 1)).toNatClampNeg (.int 0)))) _
          refine px_gx (fun _ K9 => px_a 2 (f' := (77, [(3, .int 0), (2, .int (nI i)), (0, .ref (38 + n)), (1, .int (nI m))], [.int ((nI (r.length + 1)) + 1), .ref (38 + n)], (((hp.set (49 + n) (10, ax.set (nI (r.length + 1)).toNatClampNeg (.int 0)))).set (50 + n) (10, am.set (nI (r.length + 1)).toNatClampNeg (.int 0))))) rfl K9) ?_
          refine px_gx (fun _ K9 => px_pf (38 + n) 132 4 17 rfl rfl hf2__38___n_ (by omega) (by simp) rfl rfl (by decide) K9) ?_
          have hf3__38___n_ : (((((hp.set (49 + n) (10, ax.set (nI (r.length + 1)).toNatClampNeg (.int 0)))).set (50 + n) (10, am.set (nI (r.length + 1)).toNatClampNeg (.int 0)))).set (38 + n) (4, [.int th, .int w, .int h, .ref (39 + n), .int pn, .ref (40 + n), .ref (41 + n), .ref (42 + n), .int pl, .ref (43 + n), .ref (44 + n), .ref (45 + n), .ref (46 + n), .int fo, .ref (47 + n), .int (nI K), .ref (48 + n), .int ((nI (r.length + 1)) + 1), .ref (49 + n), .ref (50 + n), .ref (51 + n)]))[(38 + n)]? = some (4, [.int th, .int w, .int h, .ref (39 + n), .int pn, .ref (40 + n), .ref (41 + n), .ref (42 + n), .int pl, .ref (43 + n), .ref (44 + n), .ref (45 + n), .ref (46 + n), .int fo, .ref (47 + n), .int (nI K), .ref (48 + n), .int ((nI (r.length + 1)) + 1), .ref (49 + n), .ref (50 + n), .ref (51 + n)]) := px_self hf2__38___n_
          have hf3__48___n_ : (((((hp.set (49 + n) (10, ax.set (nI (r.length + 1)).toNatClampNeg (.int 0)))).set (50 + n) (10, am.set (nI (r.length + 1)).toNatClampNeg (.int 0)))).set (38 + n) (4, [.int th, .int w, .int h, .ref (39 + n), .int pn, .ref (40 + n), .ref (41 + n), .ref (42 + n), .int pl, .ref (43 + n), .ref (44 + n), .ref (45 + n), .ref (46 + n), .int fo, .ref (47 + n), .int (nI K), .ref (48 + n), .int ((nI (r.length + 1)) + 1), .ref (49 + n), .ref (50 + n), .ref (51 + n)]))[(48 + n)]? = some (10, vw) := px_ne hf2__48___n_ (by omega)
          have hf3__49___n_ : (((((hp.set (49 + n) (10, ax.set (nI (r.length + 1)).toNatClampNeg (.int 0)))).set (50 + n) (10, am.set (nI (r.length + 1)).toNatClampNeg (.int 0)))).set (38 + n) (4, [.int th, .int w, .int h, .ref (39 + n), .int pn, .ref (40 + n), .ref (41 + n), .ref (42 + n), .int pl, .ref (43 + n), .ref (44 + n), .ref (45 + n), .ref (46 + n), .int fo, .ref (47 + n), .int (nI K), .ref (48 + n), .int ((nI (r.length + 1)) + 1), .ref (49 + n), .ref (50 + n), .ref (51 + n)]))[(49 + n)]? = some (10, ax.set (nI (r.length + 1)).toNatClampNeg (.int 0)) := px_ne hf2__49___n_ (by omega)
          have hf3__50___n_ : (((((hp.set (49 + n) (10, ax.set (nI (r.length + 1)).toNatClampNeg (.int 0)))).set (50 + n) (10, am.set (nI (r.length + 1)).toNatClampNeg (.int 0)))).set (38 + n) (4, [.int th, .int w, .int h, .ref (39 + n), .int pn, .ref (40 + n), .ref (41 + n), .ref (42 + n), .int pl, .ref (43 + n), .ref (44 + n), .ref (45 + n), .ref (46 + n), .int fo, .ref (47 + n), .int (nI K), .ref (48 + n), .int ((nI (r.length + 1)) + 1), .ref (49 + n), .ref (50 + n), .ref (51 + n)]))[(50 + n)]? = some (10, am.set (nI (r.length + 1)).toNatClampNeg (.int 0)) := px_ne hf2__50___n_ (by omega)
          show px_Gx _ _ (80, [(3, .int 0), (2, .int (nI i)), (0, .ref (38 + n)), (1, .int (nI m))], [], (((((hp.set (49 + n) (10, ax.set (nI (r.length + 1)).toNatClampNeg (.int 0)))).set (50 + n) (10, am.set (nI (r.length + 1)).toNatClampNeg (.int 0)))).set (38 + n) (4, [.int th, .int w, .int h, .ref (39 + n), .int pn, .ref (40 + n), .ref (41 + n), .ref (42 + n), .int pl, .ref (43 + n), .ref (44 + n), .ref (45 + n), .ref (46 + n), .int fo, .ref (47 + n), .int (nI K), .ref (48 + n), .int ((nI (r.length + 1)) + 1), .ref (49 + n), .ref (50 + n), .ref (51 + n)]))) _
          have hm2x := hf3__38___n_
          have hax2 := hf3__49___n_
          have ham2 := hf3__50___n_
          have hvw2 := hf3__48___n_
          rw [nI_1] at hm2x hax2 ham2 hvw2 ⊢
          generalize (((((hp.set (49 + n) (10, ax.set (nI (r.length + 1)).toNatClampNeg (.int 0)))).set (50 + n) (10, am.set (nI (r.length + 1)).toNatClampNeg (.int 0)))).set (38 + n) (4, [.int th, .int w, .int h, .ref (39 + n), .int pn, .ref (40 + n), .ref (41 + n), .ref (42 + n), .int pl, .ref (43 + n), .ref (44 + n), .ref (45 + n), .ref (46 + n), .int fo, .ref (47 + n), .int (nI K), .ref (48 + n), .int (nI (r.length + 1 + 1)), .ref (49 + n), .ref (50 + n), .ref (51 + n)])) = hp2 at hm2x hax2 ham2 hvw2 ⊢
          refine px_gx (fun _ K9 => px_a 1 (f' := (81, [(3, .int 0), (2, .int (nI i)), (0, .ref (38 + n)), (1, .int (nI m))], [.ref (38 + n)], hp2)) rfl K9) ?_
          refine px_gx (fun _ K9 => px_gf (38 + n) 45 4 19 (.ref (50 + n)) rfl rfl hm2x rfl K9) ?_
          show px_Gx _ _ (84, [(3, .int 0), (2, .int (nI i)), (0, .ref (38 + n)), (1, .int (nI m))], [.ref (50 + n)], hp2) _
          refine px_gx (fun _ K9 => px_a 1 (f' := (85, [(3, .int 0), (2, .int (nI i)), (0, .ref (38 + n)), (1, .int (nI m))], [.ref (38 + n), .ref (50 + n)], hp2)) rfl K9) ?_
          refine px_gx (fun _ K9 => px_gf (38 + n) 132 4 17 (.int (nI (r.length + 1 + 1))) rfl rfl hm2x rfl K9) ?_
          show px_Gx _ _ (88, [(3, .int 0), (2, .int (nI i)), (0, .ref (38 + n)), (1, .int (nI m))], [.int (nI (r.length + 1 + 1)), .ref (50 + n)], hp2) _
          refine px_gx (fun _ K9 => px_a 3 (f' := (91, [(3, .int 0), (2, .int (nI i)), (0, .ref (38 + n)), (1, .int (nI m))], [.ref (38 + n), .int ((nI (r.length + 1 + 1)) - 1), .ref (50 + n)], hp2)) rfl K9) ?_
          refine px_gx (fun _ K9 => px_gf (38 + n) 45 4 19 (.ref (50 + n)) rfl rfl hm2x rfl K9) ?_
          show px_Gx _ _ (94, [(3, .int 0), (2, .int (nI i)), (0, .ref (38 + n)), (1, .int (nI m))], [.ref (50 + n), .int ((nI (r.length + 1 + 1)) - 1), .ref (50 + n)], hp2) _
          refine px_gx (fun _ K9 => px_a 1 (f' := (95, [(3, .int 0), (2, .int (nI i)), (0, .ref (38 + n)), (1, .int (nI m))], [.ref (38 + n), .ref (50 + n), .int ((nI (r.length + 1 + 1)) - 1), .ref (50 + n)], hp2)) rfl K9) ?_
          refine px_gx (fun _ K9 => px_gf (38 + n) 132 4 17 (.int (nI (r.length + 1 + 1))) rfl rfl hm2x rfl K9) ?_
          show px_Gx _ _ (98, [(3, .int 0), (2, .int (nI i)), (0, .ref (38 + n)), (1, .int (nI m))], [.int (nI (r.length + 1 + 1)), .ref (50 + n), .int ((nI (r.length + 1 + 1)) - 1), .ref (50 + n)], hp2) _
          refine px_gx (fun _ K9 => px_a 2 (f' := (100, [(3, .int 0), (2, .int (nI i)), (0, .ref (38 + n)), (1, .int (nI m))], [.int ((nI (r.length + 1 + 1)) - 1), .ref (50 + n), .int ((nI (r.length + 1 + 1)) - 1), .ref (50 + n)], hp2)) rfl K9) ?_
          refine px_gx (fun _ K9 => px_al (50 + n) (.int 0) rfl ham2 (Or.inl ⟨rfl, Or.inl rfl⟩) (by rw [nI_pred]; exact nI_pos (by omega)) (by rw [nI_pred]; exact List.getElem?_set_self (by rw [nI_clamp (by omega)]; omega)) K9) ?_
          show px_Gx _ _ (101, [(3, .int 0), (2, .int (nI i)), (0, .ref (38 + n)), (1, .int (nI m))], [.int 0, .int ((nI (r.length + 1 + 1)) - 1), .ref (50 + n)], hp2) _
          refine px_gx (fun _ K9 => px_a 1 (f' := (102, [(3, .int 0), (2, .int (nI i)), (0, .ref (38 + n)), (1, .int (nI m))], [.ref (38 + n), .int 0, .int ((nI (r.length + 1 + 1)) - 1), .ref (50 + n)], hp2)) rfl K9) ?_
          refine px_gx (fun _ K9 => px_gf (38 + n) 39 4 16 (.ref (48 + n)) rfl rfl hm2x rfl K9) ?_
          show px_Gx _ _ (105, [(3, .int 0), (2, .int (nI i)), (0, .ref (38 + n)), (1, .int (nI m))], [.ref (48 + n), .int 0, .int ((nI (r.length + 1 + 1)) - 1), .ref (50 + n)], hp2) _
          refine px_gx (fun _ K9 => px_a 1 (f' := (106, [(3, .int 0), (2, .int (nI i)), (0, .ref (38 + n)), (1, .int (nI m))], [.int (nI i), .ref (48 + n), .int 0, .int ((nI (r.length + 1 + 1)) - 1), .ref (50 + n)], hp2)) rfl K9) ?_
          refine px_gx (fun _ K9 => px_al (48 + n) (.int 0) rfl hvw2 (Or.inl ⟨rfl, Or.inl rfl⟩) (nI_pos (by omega)) (by rw [nI_clamp (by omega), hz, hl]; rfl) K9) ?_
          show px_Gx _ _ (107, [(3, .int 0), (2, .int (nI i)), (0, .ref (38 + n)), (1, .int (nI m))], [.int 0, .int 0, .int ((nI (r.length + 1 + 1)) - 1), .ref (50 + n)], hp2) _
          refine px_gx (fun _ K9 => px_a 6 (f' := (120, [(3, .int 0), (2, .int (nI i)), (0, .ref (38 + n)), (1, .int (nI m))], [.int (nI m), .int 1, .int ((nI (r.length + 1 + 1)) - 1), .ref (50 + n)], hp2)) rfl K9) ?_
          refine px_gx (fun _ K9 => px_irem rfl (nI_ne0 (by omega) (by omega)) K9) ?_
          have e121 : (1 - 1 / (nI m) * (nI m)) = nI 1 := by rw [show (1 : Int32) = nI 1 from rfl, pk_rem (by omega) (by omega) (by omega), Nat.mod_eq_of_lt (by omega)]
          rw [e121]
          refine px_gx (fun _ K9 => px_ias (50 + n) rfl ham2 (by omega) (by rw [nI_pred]; exact nI_pos (by omega)) (by rw [nI_pred, nI_clamp (by omega)]; first | (show (0 : Nat) < _; rw [List.length_set]; omega) | (rw [List.length_set]; omega) | omega) K9) ?_
          have hf1__38___n_ : (hp2.set (50 + n) (10, (am.set (nI (r.length + 1)).toNatClampNeg (.int 0)).set (Int32.toNatClampNeg ((nI (r.length + 1 + 1)) - 1)) (.int (nI 1))))[(38 + n)]? = some (4, [.int th, .int w, .int h, .ref (39 + n), .int pn, .ref (40 + n), .ref (41 + n), .ref (42 + n), .int pl, .ref (43 + n), .ref (44 + n), .ref (45 + n), .ref (46 + n), .int fo, .ref (47 + n), .int (nI K), .ref (48 + n), .int (nI (r.length + 1 + 1)), .ref (49 + n), .ref (50 + n), .ref (51 + n)]) := px_ne hm2x (by omega)
          have hf1__48___n_ : (hp2.set (50 + n) (10, (am.set (nI (r.length + 1)).toNatClampNeg (.int 0)).set (Int32.toNatClampNeg ((nI (r.length + 1 + 1)) - 1)) (.int (nI 1))))[(48 + n)]? = some (10, vw) := px_ne hvw2 (by omega)
          have hf1__49___n_ : (hp2.set (50 + n) (10, (am.set (nI (r.length + 1)).toNatClampNeg (.int 0)).set (Int32.toNatClampNeg ((nI (r.length + 1 + 1)) - 1)) (.int (nI 1))))[(49 + n)]? = some (10, ax.set (nI (r.length + 1)).toNatClampNeg (.int 0)) := px_ne hax2 (by omega)
          have hf1__50___n_ : (hp2.set (50 + n) (10, (am.set (nI (r.length + 1)).toNatClampNeg (.int 0)).set (Int32.toNatClampNeg ((nI (r.length + 1 + 1)) - 1)) (.int (nI 1))))[(50 + n)]? = some (10, (am.set (nI (r.length + 1)).toNatClampNeg (.int 0)).set (Int32.toNatClampNeg ((nI (r.length + 1 + 1)) - 1)) (.int (nI 1))) := px_self ham2
          show px_Gx _ _ (122, [(3, .int 0), (2, .int (nI i)), (0, .ref (38 + n)), (1, .int (nI m))], [], (hp2.set (50 + n) (10, (am.set (nI (r.length + 1)).toNatClampNeg (.int 0)).set (Int32.toNatClampNeg ((nI (r.length + 1 + 1)) - 1)) (.int (nI 1))))) _
          refine px_gx (fun _ K9 => px_a 1 (f' := (123, [(3, .int 0), (2, .int (nI i)), (0, .ref (38 + n)), (1, .int (nI m))], [.ref (38 + n)], (hp2.set (50 + n) (10, (am.set (nI (r.length + 1)).toNatClampNeg (.int 0)).set (Int32.toNatClampNeg ((nI (r.length + 1 + 1)) - 1)) (.int (nI 1)))))) rfl K9) ?_
          refine px_gx (fun _ K9 => px_gf (38 + n) 45 4 19 (.ref (50 + n)) rfl rfl hf1__38___n_ rfl K9) ?_
          show px_Gx _ _ (126, [(3, .int 0), (2, .int (nI i)), (0, .ref (38 + n)), (1, .int (nI m))], [.ref (50 + n)], (hp2.set (50 + n) (10, (am.set (nI (r.length + 1)).toNatClampNeg (.int 0)).set (Int32.toNatClampNeg ((nI (r.length + 1 + 1)) - 1)) (.int (nI 1))))) _
          refine px_gx (fun _ K9 => px_a 1 (f' := (127, [(3, .int 0), (2, .int (nI i)), (0, .ref (38 + n)), (1, .int (nI m))], [.ref (38 + n), .ref (50 + n)], (hp2.set (50 + n) (10, (am.set (nI (r.length + 1)).toNatClampNeg (.int 0)).set (Int32.toNatClampNeg ((nI (r.length + 1 + 1)) - 1)) (.int (nI 1)))))) rfl K9) ?_
          refine px_gx (fun _ K9 => px_gf (38 + n) 132 4 17 (.int (nI (r.length + 1 + 1))) rfl rfl hf1__38___n_ rfl K9) ?_
          show px_Gx _ _ (130, [(3, .int 0), (2, .int (nI i)), (0, .ref (38 + n)), (1, .int (nI m))], [.int (nI (r.length + 1 + 1)), .ref (50 + n)], (hp2.set (50 + n) (10, (am.set (nI (r.length + 1)).toNatClampNeg (.int 0)).set (Int32.toNatClampNeg ((nI (r.length + 1 + 1)) - 1)) (.int (nI 1))))) _
          refine px_gx (fun _ K9 => px_a 2 (f' := (132, [(3, .int 0), (2, .int (nI i)), (0, .ref (38 + n)), (1, .int (nI m))], [.int ((nI (r.length + 1 + 1)) - 1), .ref (50 + n)], (hp2.set (50 + n) (10, (am.set (nI (r.length + 1)).toNatClampNeg (.int 0)).set (Int32.toNatClampNeg ((nI (r.length + 1 + 1)) - 1)) (.int (nI 1)))))) rfl K9) ?_
          refine px_gx (fun _ K9 => px_al (50 + n) (.int (nI 1)) rfl hf1__50___n_ (Or.inl ⟨rfl, Or.inl rfl⟩) (by rw [nI_pred]; exact nI_pos (by omega)) (List.getElem?_set_self (by rw [nI_pred, nI_clamp (by omega)]; first | (show (0 : Nat) < _; rw [List.length_set]; omega) | (rw [List.length_set]; omega) | omega)) K9) ?_
          show px_Gx _ _ (133, [(3, .int 0), (2, .int (nI i)), (0, .ref (38 + n)), (1, .int (nI m))], [.int (nI 1)], (hp2.set (50 + n) (10, (am.set (nI (r.length + 1)).toNatClampNeg (.int 0)).set (Int32.toNatClampNeg ((nI (r.length + 1 + 1)) - 1)) (.int (nI 1))))) _
          refine px_gx (fun _ K9 => px_b1 true 146 rfl rfl (by decide) K9) ?_
          show px_Gx _ _ (146, [(3, .int 0), (2, .int (nI i)), (0, .ref (38 + n)), (1, .int (nI m))], [], (hp2.set (50 + n) (10, (am.set (nI (r.length + 1)).toNatClampNeg (.int 0)).set (Int32.toNatClampNeg ((nI (r.length + 1 + 1)) - 1)) (.int (nI 1))))) _
          refine px_gx (fun _ K9 => px_a 2 (f' := (11, [(2, .int ((nI i) + 1)), (3, .int 0), (0, .ref (38 + n)), (1, .int (nI m))], [], (hp2.set (50 + n) (10, (am.set (nI (r.length + 1)).toNatClampNeg (.int 0)).set (Int32.toNatClampNeg ((nI (r.length + 1 + 1)) - 1)) (.int (nI 1)))))) rfl K9) ?_
          rw [nI_1]
          refine px_wk [(2, .int (nI (i + 1))), (0, .ref (38 + n)), (1, .int (nI m))] ⟨rfl, rfl, rfl, trivial⟩ ?_
          have es : x_fd m f (i + 1) = (0, 1) :: p :: r := by show x_psh m (f i % 2) (x_am m (f i)) _ = _; rw [hl, est]; exact if_neg h1
          exact ih (i + 1) _ _ _ (by rw [es]; exact hf1__38___n_) hf1__49___n_ hf1__50___n_ hf1__48___n_ (by first | exact la | (rw [List.length_set]; exact la)) (by first | exact lm | (repeat rw [List.length_set]); exact lm) (by rw [es]; rw [nI_pred, nI_clamp (by omega)]; exact ⟨List.getElem?_set_self (by omega), List.getElem?_set_self (by (repeat rw [List.length_set]); omega), x_rep_setb (x_rep_set hr (Nat.le_refl _) (Nat.le_refl _)) (Nat.le_refl _)⟩) (by omega)
    · cases est : x_fd m f i with
      | nil =>
        rw [est] at hm hr h84
        refine px_gx (fun _ K9 => px_a 2 (f' := (13, [(2, .int (nI i)), (0, .ref (38 + n)), (1, .int (nI m))], [.ref (38 + n), .int (nI i)], hp)) rfl K9) ?_
        refine px_gx (fun _ K9 => px_gf (38 + n) 122 4 15 (.int (nI K)) rfl rfl hm rfl K9) ?_
        show px_Gx _ _ (16, [(2, .int (nI i)), (0, .ref (38 + n)), (1, .int (nI m))], [.int (nI K), .int (nI i)], hp) _
        refine px_gx (fun _ K9 => px_b2 false 152 rfl rfl (decide_eq_false (nI_ge (by omega) (by omega))) K9) ?_
        show px_Gx _ _ (19, [(2, .int (nI i)), (0, .ref (38 + n)), (1, .int (nI m))], [], hp) _
        refine px_gx (fun _ K9 => px_a 1 (f' := (20, [(2, .int (nI i)), (0, .ref (38 + n)), (1, .int (nI m))], [.ref (38 + n)], hp)) rfl K9) ?_
        refine px_gx (fun _ K9 => px_gf (38 + n) 39 4 16 (.ref (48 + n)) rfl rfl hm rfl K9) ?_
        show px_Gx _ _ (23, [(2, .int (nI i)), (0, .ref (38 + n)), (1, .int (nI m))], [.ref (48 + n)], hp) _
        refine px_gx (fun _ K9 => px_a 1 (f' := (24, [(2, .int (nI i)), (0, .ref (38 + n)), (1, .int (nI m))], [.int (nI i), .ref (48 + n)], hp)) rfl K9) ?_
        refine px_gx (fun _ K9 => px_al (48 + n) (.int 1) rfl hvw (Or.inl ⟨rfl, Or.inl rfl⟩) (nI_pos (by omega)) (by rw [nI_clamp (by omega), hz, hl]; rfl) K9) ?_
        show px_Gx _ _ (25, [(2, .int (nI i)), (0, .ref (38 + n)), (1, .int (nI m))], [.int 1], hp) _
        refine px_gx (fun _ K9 => px_a 4 (f' := (29, [(3, .int 1), (2, .int (nI i)), (0, .ref (38 + n)), (1, .int (nI m))], [.ref (38 + n)], hp)) rfl K9) ?_
        refine px_gx (fun _ K9 => px_gf (38 + n) 132 4 17 (.int 0) rfl rfl hm rfl K9) ?_
        show px_Gx _ _ (32, [(3, .int 1), (2, .int (nI i)), (0, .ref (38 + n)), (1, .int (nI m))], [.int 0], hp) _
        refine px_gx (fun _ K9 => px_a 2 (f' := (51, [(3, .int 1), (2, .int (nI i)), (0, .ref (38 + n)), (1, .int (nI m))], [.ref (38 + n)], hp)) rfl K9) ?_
        refine px_gx (fun _ K9 => px_gf (38 + n) 42 4 18 (.ref (49 + n)) rfl rfl hm rfl K9) ?_
        show px_Gx _ _ (54, [(3, .int 1), (2, .int (nI i)), (0, .ref (38 + n)), (1, .int (nI m))], [.ref (49 + n)], hp) _
        refine px_gx (fun _ K9 => px_a 1 (f' := (55, [(3, .int 1), (2, .int (nI i)), (0, .ref (38 + n)), (1, .int (nI m))], [.ref (38 + n), .ref (49 + n)], hp)) rfl K9) ?_
        refine px_gx (fun _ K9 => px_gf (38 + n) 132 4 17 (.int 0) rfl rfl hm rfl K9) ?_
        show px_Gx _ _ (58, [(3, .int 1), (2, .int (nI i)), (0, .ref (38 + n)), (1, .int (nI m))], [.int 0, .ref (49 + n)], hp) _
        refine px_gx (fun _ K9 => px_a 1 (f' := (59, [(3, .int 1), (2, .int (nI i)), (0, .ref (38 + n)), (1, .int (nI m))], [.int 1, .int 0, .ref (49 + n)], hp)) rfl K9) ?_
        refine px_gx (fun _ K9 => px_ias (49 + n) rfl hax (by omega) (by decide) (by show (0 : Nat) < ax.length; omega) K9) ?_
        have hf1__38___n_ : (hp.set (49 + n) (10, ax.set (Int32.toNatClampNeg 0) (.int 1)))[(38 + n)]? = some (4, [.int th, .int w, .int h, .ref (39 + n), .int pn, .ref (40 + n), .ref (41 + n), .ref (42 + n), .int pl, .ref (43 + n), .ref (44 + n), .ref (45 + n), .ref (46 + n), .int fo, .ref (47 + n), .int (nI K), .ref (48 + n), .int 0, .ref (49 + n), .ref (50 + n), .ref (51 + n)]) := px_ne hm (by omega)
        have hf1__48___n_ : (hp.set (49 + n) (10, ax.set (Int32.toNatClampNeg 0) (.int 1)))[(48 + n)]? = some (10, vw) := px_ne hvw (by omega)
        have hf1__49___n_ : (hp.set (49 + n) (10, ax.set (Int32.toNatClampNeg 0) (.int 1)))[(49 + n)]? = some (10, ax.set (Int32.toNatClampNeg 0) (.int 1)) := px_self hax
        have hf1__50___n_ : (hp.set (49 + n) (10, ax.set (Int32.toNatClampNeg 0) (.int 1)))[(50 + n)]? = some (10, am) := px_ne ham (by omega)
        show px_Gx _ _ (60, [(3, .int 1), (2, .int (nI i)), (0, .ref (38 + n)), (1, .int (nI m))], [], (hp.set (49 + n) (10, ax.set (Int32.toNatClampNeg 0) (.int 1)))) _
        refine px_gx (fun _ K9 => px_a 1 (f' := (61, [(3, .int 1), (2, .int (nI i)), (0, .ref (38 + n)), (1, .int (nI m))], [.ref (38 + n)], (hp.set (49 + n) (10, ax.set (Int32.toNatClampNeg 0) (.int 1))))) rfl K9) ?_
        refine px_gx (fun _ K9 => px_gf (38 + n) 45 4 19 (.ref (50 + n)) rfl rfl hf1__38___n_ rfl K9) ?_
        show px_Gx _ _ (64, [(3, .int 1), (2, .int (nI i)), (0, .ref (38 + n)), (1, .int (nI m))], [.ref (50 + n)], (hp.set (49 + n) (10, ax.set (Int32.toNatClampNeg 0) (.int 1)))) _
        refine px_gx (fun _ K9 => px_a 1 (f' := (65, [(3, .int 1), (2, .int (nI i)), (0, .ref (38 + n)), (1, .int (nI m))], [.ref (38 + n), .ref (50 + n)], (hp.set (49 + n) (10, ax.set (Int32.toNatClampNeg 0) (.int 1))))) rfl K9) ?_
        refine px_gx (fun _ K9 => px_gf (38 + n) 132 4 17 (.int 0) rfl rfl hf1__38___n_ rfl K9) ?_
        show px_Gx _ _ (68, [(3, .int 1), (2, .int (nI i)), (0, .ref (38 + n)), (1, .int (nI m))], [.int 0, .ref (50 + n)], (hp.set (49 + n) (10, ax.set (Int32.toNatClampNeg 0) (.int 1)))) _
        refine px_gx (fun _ K9 => px_a 1 (f' := (69, [(3, .int 1), (2, .int (nI i)), (0, .ref (38 + n)), (1, .int (nI m))], [.int 0, .int 0, .ref (50 + n)], (hp.set (49 + n) (10, ax.set (Int32.toNatClampNeg 0) (.int 1))))) rfl K9) ?_
        refine px_gx (fun _ K9 => px_ias (50 + n) rfl hf1__50___n_ (by omega) (by decide) (by show (0 : Nat) < am.length; omega) K9) ?_
        have hf2__38___n_ : (((hp.set (49 + n) (10, ax.set (Int32.toNatClampNeg 0) (.int 1)))).set (50 + n) (10, am.set (Int32.toNatClampNeg 0) (.int 0)))[(38 + n)]? = some (4, [.int th, .int w, .int h, .ref (39 + n), .int pn, .ref (40 + n), .ref (41 + n), .ref (42 + n), .int pl, .ref (43 + n), .ref (44 + n), .ref (45 + n), .ref (46 + n), .int fo, .ref (47 + n), .int (nI K), .ref (48 + n), .int 0, .ref (49 + n), .ref (50 + n), .ref (51 + n)]) := px_ne hf1__38___n_ (by omega)
        have hf2__48___n_ : (((hp.set (49 + n) (10, ax.set (Int32.toNatClampNeg 0) (.int 1)))).set (50 + n) (10, am.set (Int32.toNatClampNeg 0) (.int 0)))[(48 + n)]? = some (10, vw) := px_ne hf1__48___n_ (by omega)
        have hf2__49___n_ : (((hp.set (49 + n) (10, ax.set (Int32.toNatClampNeg 0) (.int 1)))).set (50 + n) (10, am.set (Int32.toNatClampNeg 0) (.int 0)))[(49 + n)]? = some (10, ax.set (Int32.toNatClampNeg 0) (.int 1)) := px_ne hf1__49___n_ (by omega)
        have hf2__50___n_ : (((hp.set (49 + n) (10, ax.set (Int32.toNatClampNeg 0) (.int 1)))).set (50 + n) (10, am.set (Int32.toNatClampNeg 0) (.int 0)))[(50 + n)]? = some (10, am.set (Int32.toNatClampNeg 0) (.int 0)) := px_self hf1__50___n_
        show px_Gx _ _ (70, [(3, .int 1), (2, .int (nI i)), (0, .ref (38 + n)), (1, .int (nI m))], [], (((hp.set (49 + n) (10, ax.set (Int32.toNatClampNeg 0) (.int 1)))).set (50 + n) (10, am.set (Int32.toNatClampNeg 0) (.int 0)))) _
        refine px_gx (fun _ K9 => px_a 2 (f' := (72, [(3, .int 1), (2, .int (nI i)), (0, .ref (38 + n)), (1, .int (nI m))], [.ref (38 + n), .ref (38 + n)], (((hp.set (49 + n) (10, ax.set (Int32.toNatClampNeg 0) (.int 1)))).set (50 + n) (10, am.set (Int32.toNatClampNeg 0) (.int 0))))) rfl K9) ?_
        refine px_gx (fun _ K9 => px_gf (38 + n) 132 4 17 (.int 0) rfl rfl hf2__38___n_ rfl K9) ?_
        show px_Gx _ _ (75, [(3, .int 1), (2, .int (nI i)), (0, .ref (38 + n)), (1, .int (nI m))], [.int 0, .ref (38 + n)], (((hp.set (49 + n) (10, ax.set (Int32.toNatClampNeg 0) (.int 1)))).set (50 + n) (10, am.set (Int32.toNatClampNeg 0) (.int 0)))) _
        refine px_gx (fun _ K9 => px_a 2 (f' := (77, [(3, .int 1), (2, .int (nI i)), (0, .ref (38 + n)), (1, .int (nI m))], [.int 1, .ref (38 + n)], (((hp.set (49 + n) (10, ax.set (Int32.toNatClampNeg 0) (.int 1)))).set (50 + n) (10, am.set (Int32.toNatClampNeg 0) (.int 0))))) rfl K9) ?_
        refine px_gx (fun _ K9 => px_pf (38 + n) 132 4 17 rfl rfl hf2__38___n_ (by omega) (by simp) rfl rfl (by decide) K9) ?_
        have hf3__38___n_ : (((((hp.set (49 + n) (10, ax.set (Int32.toNatClampNeg 0) (.int 1)))).set (50 + n) (10, am.set (Int32.toNatClampNeg 0) (.int 0)))).set (38 + n) (4, [.int th, .int w, .int h, .ref (39 + n), .int pn, .ref (40 + n), .ref (41 + n), .ref (42 + n), .int pl, .ref (43 + n), .ref (44 + n), .ref (45 + n), .ref (46 + n), .int fo, .ref (47 + n), .int (nI K), .ref (48 + n), .int 1, .ref (49 + n), .ref (50 + n), .ref (51 + n)]))[(38 + n)]? = some (4, [.int th, .int w, .int h, .ref (39 + n), .int pn, .ref (40 + n), .ref (41 + n), .ref (42 + n), .int pl, .ref (43 + n), .ref (44 + n), .ref (45 + n), .ref (46 + n), .int fo, .ref (47 + n), .int (nI K), .ref (48 + n), .int 1, .ref (49 + n), .ref (50 + n), .ref (51 + n)]) := px_self hf2__38___n_
        have hf3__48___n_ : (((((hp.set (49 + n) (10, ax.set (Int32.toNatClampNeg 0) (.int 1)))).set (50 + n) (10, am.set (Int32.toNatClampNeg 0) (.int 0)))).set (38 + n) (4, [.int th, .int w, .int h, .ref (39 + n), .int pn, .ref (40 + n), .ref (41 + n), .ref (42 + n), .int pl, .ref (43 + n), .ref (44 + n), .ref (45 + n), .ref (46 + n), .int fo, .ref (47 + n), .int (nI K), .ref (48 + n), .int 1, .ref (49 + n), .ref (50 + n), .ref (51 + n)]))[(48 + n)]? = some (10, vw) := px_ne hf2__48___n_ (by omega)
        have hf3__49___n_ : (((((hp.set (49 + n) (10, ax.set (Int32.toNatClampNeg 0) (.int 1)))).set (50 + n) (10, am.set (Int32.toNatClampNeg 0) (.int 0)))).set (38 + n) (4, [.int th, .int w, .int h, .ref (39 + n), .int pn, .ref (40 + n), .ref (41 + n), .ref (42 + n), .int pl, .ref (43 + n), .ref (44 + n), .ref (45 + n), .ref (46 + n), .int fo, .ref (47 + n), .int (nI K), .ref (48 + n), .int 1, .ref (49 + n), .ref (50 + n), .ref (51 + n)]))[(49 + n)]? = some (10, ax.set (Int32.toNatClampNeg 0) (.int 1)) := px_ne hf2__49___n_ (by omega)
        have hf3__50___n_ : (((((hp.set (49 + n) (10, ax.set (Int32.toNatClampNeg 0) (.int 1)))).set (50 + n) (10, am.set (Int32.toNatClampNeg 0) (.int 0)))).set (38 + n) (4, [.int th, .int w, .int h, .ref (39 + n), .int pn, .ref (40 + n), .ref (41 + n), .ref (42 + n), .int pl, .ref (43 + n), .ref (44 + n), .ref (45 + n), .ref (46 + n), .int fo, .ref (47 + n), .int (nI K), .ref (48 + n), .int 1, .ref (49 + n), .ref (50 + n), .ref (51 + n)]))[(50 + n)]? = some (10, am.set (Int32.toNatClampNeg 0) (.int 0)) := px_ne hf2__50___n_ (by omega)
        show px_Gx _ _ (80, [(3, .int 1), (2, .int (nI i)), (0, .ref (38 + n)), (1, .int (nI m))], [], (((((hp.set (49 + n) (10, ax.set (Int32.toNatClampNeg 0) (.int 1)))).set (50 + n) (10, am.set (Int32.toNatClampNeg 0) (.int 0)))).set (38 + n) (4, [.int th, .int w, .int h, .ref (39 + n), .int pn, .ref (40 + n), .ref (41 + n), .ref (42 + n), .int pl, .ref (43 + n), .ref (44 + n), .ref (45 + n), .ref (46 + n), .int fo, .ref (47 + n), .int (nI K), .ref (48 + n), .int 1, .ref (49 + n), .ref (50 + n), .ref (51 + n)]))) _
        have hm2x := hf3__38___n_
        have hax2 := hf3__49___n_
        have ham2 := hf3__50___n_
        have hvw2 := hf3__48___n_
        generalize (((((hp.set (49 + n) (10, ax.set (Int32.toNatClampNeg 0) (.int 1)))).set (50 + n) (10, am.set (Int32.toNatClampNeg 0) (.int 0)))).set (38 + n) (4, [.int th, .int w, .int h, .ref (39 + n), .int pn, .ref (40 + n), .ref (41 + n), .ref (42 + n), .int pl, .ref (43 + n), .ref (44 + n), .ref (45 + n), .ref (46 + n), .int fo, .ref (47 + n), .int (nI K), .ref (48 + n), .int 1, .ref (49 + n), .ref (50 + n), .ref (51 + n)])) = hp2 at hm2x hax2 ham2 hvw2 ⊢
        refine px_gx (fun _ K9 => px_a 1 (f' := (81, [(3, .int 1), (2, .int (nI i)), (0, .ref (38 + n)), (1, .int (nI m))], [.ref (38 + n)], hp2)) rfl K9) ?_
        refine px_gx (fun _ K9 => px_gf (38 + n) 45 4 19 (.ref (50 + n)) rfl rfl hm2x rfl K9) ?_
        show px_Gx _ _ (84, [(3, .int 1), (2, .int (nI i)), (0, .ref (38 + n)), (1, .int (nI m))], [.ref (50 + n)], hp2) _
        refine px_gx (fun _ K9 => px_a 1 (f' := (85, [(3, .int 1), (2, .int (nI i)), (0, .ref (38 + n)), (1, .int (nI m))], [.ref (38 + n), .ref (50 + n)], hp2)) rfl K9) ?_
        refine px_gx (fun _ K9 => px_gf (38 + n) 132 4 17 (.int 1) rfl rfl hm2x rfl K9) ?_
        show px_Gx _ _ (88, [(3, .int 1), (2, .int (nI i)), (0, .ref (38 + n)), (1, .int (nI m))], [.int 1, .ref (50 + n)], hp2) _
        refine px_gx (fun _ K9 => px_a 3 (f' := (91, [(3, .int 1), (2, .int (nI i)), (0, .ref (38 + n)), (1, .int (nI m))], [.ref (38 + n), .int 0, .ref (50 + n)], hp2)) rfl K9) ?_
        refine px_gx (fun _ K9 => px_gf (38 + n) 45 4 19 (.ref (50 + n)) rfl rfl hm2x rfl K9) ?_
        show px_Gx _ _ (94, [(3, .int 1), (2, .int (nI i)), (0, .ref (38 + n)), (1, .int (nI m))], [.ref (50 + n), .int 0, .ref (50 + n)], hp2) _
        refine px_gx (fun _ K9 => px_a 1 (f' := (95, [(3, .int 1), (2, .int (nI i)), (0, .ref (38 + n)), (1, .int (nI m))], [.ref (38 + n), .ref (50 + n), .int 0, .ref (50 + n)], hp2)) rfl K9) ?_
        refine px_gx (fun _ K9 => px_gf (38 + n) 132 4 17 (.int 1) rfl rfl hm2x rfl K9) ?_
        show px_Gx _ _ (98, [(3, .int 1), (2, .int (nI i)), (0, .ref (38 + n)), (1, .int (nI m))], [.int 1, .ref (50 + n), .int 0, .ref (50 + n)], hp2) _
        refine px_gx (fun _ K9 => px_a 2 (f' := (100, [(3, .int 1), (2, .int (nI i)), (0, .ref (38 + n)), (1, .int (nI m))], [.int 0, .ref (50 + n), .int 0, .ref (50 + n)], hp2)) rfl K9) ?_
        refine px_gx (fun _ K9 => px_al (50 + n) (.int 0) rfl ham2 (Or.inl ⟨rfl, Or.inl rfl⟩) (by decide) (List.getElem?_set_self (by show (0 : Nat) < am.length; omega)) K9) ?_
        show px_Gx _ _ (101, [(3, .int 1), (2, .int (nI i)), (0, .ref (38 + n)), (1, .int (nI m))], [.int 0, .int 0, .ref (50 + n)], hp2) _
        refine px_gx (fun _ K9 => px_a 1 (f' := (102, [(3, .int 1), (2, .int (nI i)), (0, .ref (38 + n)), (1, .int (nI m))], [.ref (38 + n), .int 0, .int 0, .ref (50 + n)], hp2)) rfl K9) ?_
        refine px_gx (fun _ K9 => px_gf (38 + n) 39 4 16 (.ref (48 + n)) rfl rfl hm2x rfl K9) ?_
        show px_Gx _ _ (105, [(3, .int 1), (2, .int (nI i)), (0, .ref (38 + n)), (1, .int (nI m))], [.ref (48 + n), .int 0, .int 0, .ref (50 + n)], hp2) _
        refine px_gx (fun _ K9 => px_a 1 (f' := (106, [(3, .int 1), (2, .int (nI i)), (0, .ref (38 + n)), (1, .int (nI m))], [.int (nI i), .ref (48 + n), .int 0, .int 0, .ref (50 + n)], hp2)) rfl K9) ?_
        refine px_gx (fun _ K9 => px_al (48 + n) (.int 1) rfl hvw2 (Or.inl ⟨rfl, Or.inl rfl⟩) (nI_pos (by omega)) (by rw [nI_clamp (by omega), hz, hl]; rfl) K9) ?_
        show px_Gx _ _ (107, [(3, .int 1), (2, .int (nI i)), (0, .ref (38 + n)), (1, .int (nI m))], [.int 1, .int 0, .int 0, .ref (50 + n)], hp2) _
        refine px_gx (fun _ K9 => px_a 6 (f' := (120, [(3, .int 1), (2, .int (nI i)), (0, .ref (38 + n)), (1, .int (nI m))], [.int (nI m), .int 1, .int 0, .ref (50 + n)], hp2)) rfl K9) ?_
        refine px_gx (fun _ K9 => px_irem rfl (nI_ne0 (by omega) (by omega)) K9) ?_
        have e121 : (1 - 1 / (nI m) * (nI m)) = nI 1 := by rw [show (1 : Int32) = nI 1 from rfl, pk_rem (by omega) (by omega) (by omega), Nat.mod_eq_of_lt (by omega)]
        rw [e121]
        refine px_gx (fun _ K9 => px_ias (50 + n) rfl ham2 (by omega) (by decide) (by first | (show (0 : Nat) < _; rw [List.length_set]; omega) | (rw [List.length_set]; omega) | omega) K9) ?_
        have hf1__38___n_ : (hp2.set (50 + n) (10, (am.set (Int32.toNatClampNeg 0) (.int 0)).set (Int32.toNatClampNeg 0) (.int (nI 1))))[(38 + n)]? = some (4, [.int th, .int w, .int h, .ref (39 + n), .int pn, .ref (40 + n), .ref (41 + n), .ref (42 + n), .int pl, .ref (43 + n), .ref (44 + n), .ref (45 + n), .ref (46 + n), .int fo, .ref (47 + n), .int (nI K), .ref (48 + n), .int 1, .ref (49 + n), .ref (50 + n), .ref (51 + n)]) := px_ne hm2x (by omega)
        have hf1__48___n_ : (hp2.set (50 + n) (10, (am.set (Int32.toNatClampNeg 0) (.int 0)).set (Int32.toNatClampNeg 0) (.int (nI 1))))[(48 + n)]? = some (10, vw) := px_ne hvw2 (by omega)
        have hf1__49___n_ : (hp2.set (50 + n) (10, (am.set (Int32.toNatClampNeg 0) (.int 0)).set (Int32.toNatClampNeg 0) (.int (nI 1))))[(49 + n)]? = some (10, ax.set (Int32.toNatClampNeg 0) (.int 1)) := px_ne hax2 (by omega)
        have hf1__50___n_ : (hp2.set (50 + n) (10, (am.set (Int32.toNatClampNeg 0) (.int 0)).set (Int32.toNatClampNeg 0) (.int (nI 1))))[(50 + n)]? = some (10, (am.set (Int32.toNatClampNeg 0) (.int 0)).set (Int32.toNatClampNeg 0) (.int (nI 1))) := px_self ham2
        show px_Gx _ _ (122, [(3, .int 1), (2, .int (nI i)), (0, .ref (38 + n)), (1, .int (nI m))], [], (hp2.set (50 + n) (10, (am.set (Int32.toNatClampNeg 0) (.int 0)).set (Int32.toNatClampNeg 0) (.int (nI 1))))) _
        refine px_gx (fun _ K9 => px_a 1 (f' := (123, [(3, .int 1), (2, .int (nI i)), (0, .ref (38 + n)), (1, .int (nI m))], [.ref (38 + n)], (hp2.set (50 + n) (10, (am.set (Int32.toNatClampNeg 0) (.int 0)).set (Int32.toNatClampNeg 0) (.int (nI 1)))))) rfl K9) ?_
        refine px_gx (fun _ K9 => px_gf (38 + n) 45 4 19 (.ref (50 + n)) rfl rfl hf1__38___n_ rfl K9) ?_
        show px_Gx _ _ (126, [(3, .int 1), (2, .int (nI i)), (0, .ref (38 + n)), (1, .int (nI m))], [.ref (50 + n)], (hp2.set (50 + n) (10, (am.set (Int32.toNatClampNeg 0) (.int 0)).set (Int32.toNatClampNeg 0) (.int (nI 1))))) _
        refine px_gx (fun _ K9 => px_a 1 (f' := (127, [(3, .int 1), (2, .int (nI i)), (0, .ref (38 + n)), (1, .int (nI m))], [.ref (38 + n), .ref (50 + n)], (hp2.set (50 + n) (10, (am.set (Int32.toNatClampNeg 0) (.int 0)).set (Int32.toNatClampNeg 0) (.int (nI 1)))))) rfl K9) ?_
        refine px_gx (fun _ K9 => px_gf (38 + n) 132 4 17 (.int 1) rfl rfl hf1__38___n_ rfl K9) ?_
        show px_Gx _ _ (130, [(3, .int 1), (2, .int (nI i)), (0, .ref (38 + n)), (1, .int (nI m))], [.int 1, .ref (50 + n)], (hp2.set (50 + n) (10, (am.set (Int32.toNatClampNeg 0) (.int 0)).set (Int32.toNatClampNeg 0) (.int (nI 1))))) _
        refine px_gx (fun _ K9 => px_a 2 (f' := (132, [(3, .int 1), (2, .int (nI i)), (0, .ref (38 + n)), (1, .int (nI m))], [.int 0, .ref (50 + n)], (hp2.set (50 + n) (10, (am.set (Int32.toNatClampNeg 0) (.int 0)).set (Int32.toNatClampNeg 0) (.int (nI 1)))))) rfl K9) ?_
        refine px_gx (fun _ K9 => px_al (50 + n) (.int (nI 1)) rfl hf1__50___n_ (Or.inl ⟨rfl, Or.inl rfl⟩) (by decide) (List.getElem?_set_self (by first | (show (0 : Nat) < _; rw [List.length_set]; omega) | (rw [List.length_set]; omega) | omega)) K9) ?_
        show px_Gx _ _ (133, [(3, .int 1), (2, .int (nI i)), (0, .ref (38 + n)), (1, .int (nI m))], [.int (nI 1)], (hp2.set (50 + n) (10, (am.set (Int32.toNatClampNeg 0) (.int 0)).set (Int32.toNatClampNeg 0) (.int (nI 1))))) _
        refine px_gx (fun _ K9 => px_b1 true 146 rfl rfl (by decide) K9) ?_
        show px_Gx _ _ (146, [(3, .int 1), (2, .int (nI i)), (0, .ref (38 + n)), (1, .int (nI m))], [], (hp2.set (50 + n) (10, (am.set (Int32.toNatClampNeg 0) (.int 0)).set (Int32.toNatClampNeg 0) (.int (nI 1))))) _
        refine px_gx (fun _ K9 => px_a 2 (f' := (11, [(2, .int ((nI i) + 1)), (3, .int 1), (0, .ref (38 + n)), (1, .int (nI m))], [], (hp2.set (50 + n) (10, (am.set (Int32.toNatClampNeg 0) (.int 0)).set (Int32.toNatClampNeg 0) (.int (nI 1)))))) rfl K9) ?_
        rw [nI_1]
        refine px_wk [(2, .int (nI (i + 1))), (0, .ref (38 + n)), (1, .int (nI m))] ⟨rfl, rfl, rfl, trivial⟩ ?_
        have es : x_fd m f (i + 1) = (1, 1) :: [] := by show x_psh m (f i % 2) (x_am m (f i)) _ = _; rw [hl, est]; rfl
        exact ih (i + 1) _ _ _ (by rw [es]; exact hf1__38___n_) hf1__49___n_ hf1__50___n_ hf1__48___n_ (by first | exact la | (rw [List.length_set]; exact la)) (by first | exact lm | (repeat rw [List.length_set]); exact lm) (by rw [es]; exact ⟨List.getElem?_set_self (by show (0 : Nat) < _; omega), List.getElem?_set_self (by (repeat rw [List.length_set]); show (0 : Nat) < _; omega), trivial⟩) (by omega)
      | cons p r =>
        rw [est] at hm hr h84
        have hl2 : (p :: r).length = r.length + 1 := rfl
        rw [hl2] at hm h84
        have hso := x_fd_so (f := f) hm2 i
        rw [est] at hso
        have hpp := hso p List.mem_cons_self
        by_cases h1 : p.1 = 1
        · skip
          refine px_gx (fun _ K9 => px_a 2 (f' := (13, [(2, .int (nI i)), (0, .ref (38 + n)), (1, .int (nI m))], [.ref (38 + n), .int (nI i)], hp)) rfl K9) ?_
          refine px_gx (fun _ K9 => px_gf (38 + n) 122 4 15 (.int (nI K)) rfl rfl hm rfl K9) ?_
          show px_Gx _ _ (16, [(2, .int (nI i)), (0, .ref (38 + n)), (1, .int (nI m))], [.int (nI K), .int (nI i)], hp) _
          refine px_gx (fun _ K9 => px_b2 false 152 rfl rfl (decide_eq_false (nI_ge (by omega) (by omega))) K9) ?_
          show px_Gx _ _ (19, [(2, .int (nI i)), (0, .ref (38 + n)), (1, .int (nI m))], [], hp) _
          refine px_gx (fun _ K9 => px_a 1 (f' := (20, [(2, .int (nI i)), (0, .ref (38 + n)), (1, .int (nI m))], [.ref (38 + n)], hp)) rfl K9) ?_
          refine px_gx (fun _ K9 => px_gf (38 + n) 39 4 16 (.ref (48 + n)) rfl rfl hm rfl K9) ?_
          show px_Gx _ _ (23, [(2, .int (nI i)), (0, .ref (38 + n)), (1, .int (nI m))], [.ref (48 + n)], hp) _
          refine px_gx (fun _ K9 => px_a 1 (f' := (24, [(2, .int (nI i)), (0, .ref (38 + n)), (1, .int (nI m))], [.int (nI i), .ref (48 + n)], hp)) rfl K9) ?_
          refine px_gx (fun _ K9 => px_al (48 + n) (.int 1) rfl hvw (Or.inl ⟨rfl, Or.inl rfl⟩) (nI_pos (by omega)) (by rw [nI_clamp (by omega), hz, hl]; rfl) K9) ?_
          show px_Gx _ _ (25, [(2, .int (nI i)), (0, .ref (38 + n)), (1, .int (nI m))], [.int 1], hp) _
          refine px_gx (fun _ K9 => px_a 4 (f' := (29, [(3, .int 1), (2, .int (nI i)), (0, .ref (38 + n)), (1, .int (nI m))], [.ref (38 + n)], hp)) rfl K9) ?_
          refine px_gx (fun _ K9 => px_gf (38 + n) 132 4 17 (.int (nI (r.length + 1))) rfl rfl hm rfl K9) ?_
          show px_Gx _ _ (32, [(3, .int 1), (2, .int (nI i)), (0, .ref (38 + n)), (1, .int (nI m))], [.int (nI (r.length + 1))], hp) _
          refine px_gx (fun _ K9 => px_b1 false 50 rfl rfl (decide_eq_false (nI_ne0 (by omega) (by omega))) K9) ?_
          show px_Gx _ _ (35, [(3, .int 1), (2, .int (nI i)), (0, .ref (38 + n)), (1, .int (nI m))], [], hp) _
          refine px_gx (fun _ K9 => px_a 1 (f' := (36, [(3, .int 1), (2, .int (nI i)), (0, .ref (38 + n)), (1, .int (nI m))], [.ref (38 + n)], hp)) rfl K9) ?_
          refine px_gx (fun _ K9 => px_gf (38 + n) 42 4 18 (.ref (49 + n)) rfl rfl hm rfl K9) ?_
          show px_Gx _ _ (39, [(3, .int 1), (2, .int (nI i)), (0, .ref (38 + n)), (1, .int (nI m))], [.ref (49 + n)], hp) _
          refine px_gx (fun _ K9 => px_a 1 (f' := (40, [(3, .int 1), (2, .int (nI i)), (0, .ref (38 + n)), (1, .int (nI m))], [.ref (38 + n), .ref (49 + n)], hp)) rfl K9) ?_
          refine px_gx (fun _ K9 => px_gf (38 + n) 132 4 17 (.int (nI (r.length + 1))) rfl rfl hm rfl K9) ?_
          show px_Gx _ _ (43, [(3, .int 1), (2, .int (nI i)), (0, .ref (38 + n)), (1, .int (nI m))], [.int (nI (r.length + 1)), .ref (49 + n)], hp) _
          refine px_gx (fun _ K9 => px_a 2 (f' := (45, [(3, .int 1), (2, .int (nI i)), (0, .ref (38 + n)), (1, .int (nI m))], [.int ((nI (r.length + 1)) - 1), .ref (49 + n)], hp)) rfl K9) ?_
          refine px_gx (fun _ K9 => px_al (49 + n) (.int (nI p.1)) rfl hax (Or.inl ⟨rfl, Or.inl rfl⟩) (by rw [nI_pred]; exact nI_pos (by omega)) (by rw [nI_pred, nI_clamp (by omega)]; exact hr.1) K9) ?_
          show px_Gx _ _ (46, [(3, .int 1), (2, .int (nI i)), (0, .ref (38 + n)), (1, .int (nI m))], [.int (nI p.1)], hp) _
          refine px_gx (fun _ K9 => px_a 1 (f' := (47, [(3, .int 1), (2, .int (nI i)), (0, .ref (38 + n)), (1, .int (nI m))], [.int 1, .int (nI p.1)], hp)) rfl K9) ?_
          refine px_gx (fun _ K9 => px_b2 true 80 rfl rfl (decide_eq_true (by rw [h1]; rfl)) K9) ?_
          show px_Gx _ _ (80, [(3, .int 1), (2, .int (nI i)), (0, .ref (38 + n)), (1, .int (nI m))], [], hp) _
          have hm2x := hm
          have hax2 := hax
          have ham2 := ham
          have hvw2 := hvw
          refine px_gx (fun _ K9 => px_a 1 (f' := (81, [(3, .int 1), (2, .int (nI i)), (0, .ref (38 + n)), (1, .int (nI m))], [.ref (38 + n)], hp)) rfl K9) ?_
          refine px_gx (fun _ K9 => px_gf (38 + n) 45 4 19 (.ref (50 + n)) rfl rfl hm2x rfl K9) ?_
          show px_Gx _ _ (84, [(3, .int 1), (2, .int (nI i)), (0, .ref (38 + n)), (1, .int (nI m))], [.ref (50 + n)], hp) _
          refine px_gx (fun _ K9 => px_a 1 (f' := (85, [(3, .int 1), (2, .int (nI i)), (0, .ref (38 + n)), (1, .int (nI m))], [.ref (38 + n), .ref (50 + n)], hp)) rfl K9) ?_
          refine px_gx (fun _ K9 => px_gf (38 + n) 132 4 17 (.int (nI (r.length + 1))) rfl rfl hm2x rfl K9) ?_
          show px_Gx _ _ (88, [(3, .int 1), (2, .int (nI i)), (0, .ref (38 + n)), (1, .int (nI m))], [.int (nI (r.length + 1)), .ref (50 + n)], hp) _
          refine px_gx (fun _ K9 => px_a 3 (f' := (91, [(3, .int 1), (2, .int (nI i)), (0, .ref (38 + n)), (1, .int (nI m))], [.ref (38 + n), .int ((nI (r.length + 1)) - 1), .ref (50 + n)], hp)) rfl K9) ?_
          refine px_gx (fun _ K9 => px_gf (38 + n) 45 4 19 (.ref (50 + n)) rfl rfl hm2x rfl K9) ?_
          show px_Gx _ _ (94, [(3, .int 1), (2, .int (nI i)), (0, .ref (38 + n)), (1, .int (nI m))], [.ref (50 + n), .int ((nI (r.length + 1)) - 1), .ref (50 + n)], hp) _
          refine px_gx (fun _ K9 => px_a 1 (f' := (95, [(3, .int 1), (2, .int (nI i)), (0, .ref (38 + n)), (1, .int (nI m))], [.ref (38 + n), .ref (50 + n), .int ((nI (r.length + 1)) - 1), .ref (50 + n)], hp)) rfl K9) ?_
          refine px_gx (fun _ K9 => px_gf (38 + n) 132 4 17 (.int (nI (r.length + 1))) rfl rfl hm2x rfl K9) ?_
          show px_Gx _ _ (98, [(3, .int 1), (2, .int (nI i)), (0, .ref (38 + n)), (1, .int (nI m))], [.int (nI (r.length + 1)), .ref (50 + n), .int ((nI (r.length + 1)) - 1), .ref (50 + n)], hp) _
          refine px_gx (fun _ K9 => px_a 2 (f' := (100, [(3, .int 1), (2, .int (nI i)), (0, .ref (38 + n)), (1, .int (nI m))], [.int ((nI (r.length + 1)) - 1), .ref (50 + n), .int ((nI (r.length + 1)) - 1), .ref (50 + n)], hp)) rfl K9) ?_
          refine px_gx (fun _ K9 => px_al (50 + n) (.int (nI p.2)) rfl ham2 (Or.inl ⟨rfl, Or.inl rfl⟩) (by rw [nI_pred]; exact nI_pos (by omega)) (by rw [nI_pred, nI_clamp (by omega)]; exact hr.2.1) K9) ?_
          show px_Gx _ _ (101, [(3, .int 1), (2, .int (nI i)), (0, .ref (38 + n)), (1, .int (nI m))], [.int (nI p.2), .int ((nI (r.length + 1)) - 1), .ref (50 + n)], hp) _
          refine px_gx (fun _ K9 => px_a 1 (f' := (102, [(3, .int 1), (2, .int (nI i)), (0, .ref (38 + n)), (1, .int (nI m))], [.ref (38 + n), .int (nI p.2), .int ((nI (r.length + 1)) - 1), .ref (50 + n)], hp)) rfl K9) ?_
          refine px_gx (fun _ K9 => px_gf (38 + n) 39 4 16 (.ref (48 + n)) rfl rfl hm2x rfl K9) ?_
          show px_Gx _ _ (105, [(3, .int 1), (2, .int (nI i)), (0, .ref (38 + n)), (1, .int (nI m))], [.ref (48 + n), .int (nI p.2), .int ((nI (r.length + 1)) - 1), .ref (50 + n)], hp) _
          refine px_gx (fun _ K9 => px_a 1 (f' := (106, [(3, .int 1), (2, .int (nI i)), (0, .ref (38 + n)), (1, .int (nI m))], [.int (nI i), .ref (48 + n), .int (nI p.2), .int ((nI (r.length + 1)) - 1), .ref (50 + n)], hp)) rfl K9) ?_
          refine px_gx (fun _ K9 => px_al (48 + n) (.int 1) rfl hvw2 (Or.inl ⟨rfl, Or.inl rfl⟩) (nI_pos (by omega)) (by rw [nI_clamp (by omega), hz, hl]; rfl) K9) ?_
          show px_Gx _ _ (107, [(3, .int 1), (2, .int (nI i)), (0, .ref (38 + n)), (1, .int (nI m))], [.int 1, .int (nI p.2), .int ((nI (r.length + 1)) - 1), .ref (50 + n)], hp) _
          refine px_gx (fun _ K9 => px_a 6 (f' := (120, [(3, .int 1), (2, .int (nI i)), (0, .ref (38 + n)), (1, .int (nI m))], [.int (nI m), .int ((nI p.2) + 1), .int ((nI (r.length + 1)) - 1), .ref (50 + n)], hp)) rfl K9) ?_
          refine px_gx (fun _ K9 => px_irem rfl (nI_ne0 (by omega) (by omega)) K9) ?_
          have e121 : (((nI p.2) + 1) - ((nI p.2) + 1) / (nI m) * (nI m)) = nI ((p.2 + 1) % m) := by rw [show (1 : Int32) = nI 1 from rfl, nI_add, pk_rem (by omega) (by omega) (by omega)]
          rw [e121]
          have emc := x_modc (m := m) (p := p.2) (v := 1) (by omega) (by omega) (by omega)
          by_cases h2 : p.2 + 1 = m
          · refine px_gx (fun _ K9 => px_ias (50 + n) rfl ham2 (by omega) (by rw [nI_pred]; exact nI_pos (by omega)) (by rw [nI_pred, nI_clamp (by omega)]; first | (show (0 : Nat) < _; rw [List.length_set]; omega) | (rw [List.length_set]; omega) | omega) K9) ?_
            have hf1__38___n_ : (hp.set (50 + n) (10, (am).set (Int32.toNatClampNeg ((nI (r.length + 1)) - 1)) (.int (nI ((p.2 + 1) % m)))))[(38 + n)]? = some (4, [.int th, .int w, .int h, .ref (39 + n), .int pn, .ref (40 + n), .ref (41 + n), .ref (42 + n), .int pl, .ref (43 + n), .ref (44 + n), .ref (45 + n), .ref (46 + n), .int fo, .ref (47 + n), .int (nI K), .ref (48 + n), .int (nI (r.length + 1)), .ref (49 + n), .ref (50 + n), .ref (51 + n)]) := px_ne hm2x (by omega)
            have hf1__48___n_ : (hp.set (50 + n) (10, (am).set (Int32.toNatClampNeg ((nI (r.length + 1)) - 1)) (.int (nI ((p.2 + 1) % m)))))[(48 + n)]? = some (10, vw) := px_ne hvw2 (by omega)
            have hf1__49___n_ : (hp.set (50 + n) (10, (am).set (Int32.toNatClampNeg ((nI (r.length + 1)) - 1)) (.int (nI ((p.2 + 1) % m)))))[(49 + n)]? = some (10, ax) := px_ne hax2 (by omega)
            have hf1__50___n_ : (hp.set (50 + n) (10, (am).set (Int32.toNatClampNeg ((nI (r.length + 1)) - 1)) (.int (nI ((p.2 + 1) % m)))))[(50 + n)]? = some (10, (am).set (Int32.toNatClampNeg ((nI (r.length + 1)) - 1)) (.int (nI ((p.2 + 1) % m)))) := px_self ham2
            show px_Gx _ _ (122, [(3, .int 1), (2, .int (nI i)), (0, .ref (38 + n)), (1, .int (nI m))], [], (hp.set (50 + n) (10, (am).set (Int32.toNatClampNeg ((nI (r.length + 1)) - 1)) (.int (nI ((p.2 + 1) % m)))))) _
            refine px_gx (fun _ K9 => px_a 1 (f' := (123, [(3, .int 1), (2, .int (nI i)), (0, .ref (38 + n)), (1, .int (nI m))], [.ref (38 + n)], (hp.set (50 + n) (10, (am).set (Int32.toNatClampNeg ((nI (r.length + 1)) - 1)) (.int (nI ((p.2 + 1) % m))))))) rfl K9) ?_
            refine px_gx (fun _ K9 => px_gf (38 + n) 45 4 19 (.ref (50 + n)) rfl rfl hf1__38___n_ rfl K9) ?_
            show px_Gx _ _ (126, [(3, .int 1), (2, .int (nI i)), (0, .ref (38 + n)), (1, .int (nI m))], [.ref (50 + n)], (hp.set (50 + n) (10, (am).set (Int32.toNatClampNeg ((nI (r.length + 1)) - 1)) (.int (nI ((p.2 + 1) % m)))))) _
            refine px_gx (fun _ K9 => px_a 1 (f' := (127, [(3, .int 1), (2, .int (nI i)), (0, .ref (38 + n)), (1, .int (nI m))], [.ref (38 + n), .ref (50 + n)], (hp.set (50 + n) (10, (am).set (Int32.toNatClampNeg ((nI (r.length + 1)) - 1)) (.int (nI ((p.2 + 1) % m))))))) rfl K9) ?_
            refine px_gx (fun _ K9 => px_gf (38 + n) 132 4 17 (.int (nI (r.length + 1))) rfl rfl hf1__38___n_ rfl K9) ?_
            show px_Gx _ _ (130, [(3, .int 1), (2, .int (nI i)), (0, .ref (38 + n)), (1, .int (nI m))], [.int (nI (r.length + 1)), .ref (50 + n)], (hp.set (50 + n) (10, (am).set (Int32.toNatClampNeg ((nI (r.length + 1)) - 1)) (.int (nI ((p.2 + 1) % m)))))) _
            refine px_gx (fun _ K9 => px_a 2 (f' := (132, [(3, .int 1), (2, .int (nI i)), (0, .ref (38 + n)), (1, .int (nI m))], [.int ((nI (r.length + 1)) - 1), .ref (50 + n)], (hp.set (50 + n) (10, (am).set (Int32.toNatClampNeg ((nI (r.length + 1)) - 1)) (.int (nI ((p.2 + 1) % m))))))) rfl K9) ?_
            refine px_gx (fun _ K9 => px_al (50 + n) (.int (nI ((p.2 + 1) % m))) rfl hf1__50___n_ (Or.inl ⟨rfl, Or.inl rfl⟩) (by rw [nI_pred]; exact nI_pos (by omega)) (List.getElem?_set_self (by rw [nI_pred, nI_clamp (by omega)]; first | (show (0 : Nat) < _; rw [List.length_set]; omega) | (rw [List.length_set]; omega) | omega)) K9) ?_
            show px_Gx _ _ (133, [(3, .int 1), (2, .int (nI i)), (0, .ref (38 + n)), (1, .int (nI m))], [.int (nI ((p.2 + 1) % m))], (hp.set (50 + n) (10, (am).set (Int32.toNatClampNeg ((nI (r.length + 1)) - 1)) (.int (nI ((p.2 + 1) % m)))))) _
            refine px_gx (fun _ K9 => px_b1 false 146 rfl rfl (decide_eq_false (not_not_intro (by rw [emc, if_pos h2]; rfl))) K9) ?_
            show px_Gx _ _ (136, [(3, .int 1), (2, .int (nI i)), (0, .ref (38 + n)), (1, .int (nI m))], [], (hp.set (50 + n) (10, (am).set (Int32.toNatClampNeg ((nI (r.length + 1)) - 1)) (.int (nI ((p.2 + 1) % m)))))) _
            refine px_gx (fun _ K9 => px_a 2 (f' := (138, [(3, .int 1), (2, .int (nI i)), (0, .ref (38 + n)), (1, .int (nI m))], [.ref (38 + n), .ref (38 + n)], (hp.set (50 + n) (10, (am).set (Int32.toNatClampNeg ((nI (r.length + 1)) - 1)) (.int (nI ((p.2 + 1) % m))))))) rfl K9) ?_
            refine px_gx (fun _ K9 => px_gf (38 + n) 132 4 17 (.int (nI (r.length + 1))) rfl rfl hf1__38___n_ rfl K9) ?_
            show px_Gx _ _ (141, [(3, .int 1), (2, .int (nI i)), (0, .ref (38 + n)), (1, .int (nI m))], [.int (nI (r.length + 1)), .ref (38 + n)], (hp.set (50 + n) (10, (am).set (Int32.toNatClampNeg ((nI (r.length + 1)) - 1)) (.int (nI ((p.2 + 1) % m)))))) _
            refine px_gx (fun _ K9 => px_a 2 (f' := (143, [(3, .int 1), (2, .int (nI i)), (0, .ref (38 + n)), (1, .int (nI m))], [.int ((nI (r.length + 1)) - 1), .ref (38 + n)], (hp.set (50 + n) (10, (am).set (Int32.toNatClampNeg ((nI (r.length + 1)) - 1)) (.int (nI ((p.2 + 1) % m))))))) rfl K9) ?_
            refine px_gx (fun _ K9 => px_pf (38 + n) 132 4 17 rfl rfl hf1__38___n_ (by omega) (by simp) rfl rfl (by decide) K9) ?_
            have hf2__38___n_ : (((hp.set (50 + n) (10, (am).set (Int32.toNatClampNeg ((nI (r.length + 1)) - 1)) (.int (nI ((p.2 + 1) % m)))))).set (38 + n) (4, [.int th, .int w, .int h, .ref (39 + n), .int pn, .ref (40 + n), .ref (41 + n), .ref (42 + n), .int pl, .ref (43 + n), .ref (44 + n), .ref (45 + n), .ref (46 + n), .int fo, .ref (47 + n), .int (nI K), .ref (48 + n), .int ((nI (r.length + 1)) - 1), .ref (49 + n), .ref (50 + n), .ref (51 + n)]))[(38 + n)]? = some (4, [.int th, .int w, .int h, .ref (39 + n), .int pn, .ref (40 + n), .ref (41 + n), .ref (42 + n), .int pl, .ref (43 + n), .ref (44 + n), .ref (45 + n), .ref (46 + n), .int fo, .ref (47 + n), .int (nI K), .ref (48 + n), .int ((nI (r.length + 1)) - 1), .ref (49 + n), .ref (50 + n), .ref (51 + n)]) := px_self hf1__38___n_
            have hf2__48___n_ : (((hp.set (50 + n) (10, (am).set (Int32.toNatClampNeg ((nI (r.length + 1)) - 1)) (.int (nI ((p.2 + 1) % m)))))).set (38 + n) (4, [.int th, .int w, .int h, .ref (39 + n), .int pn, .ref (40 + n), .ref (41 + n), .ref (42 + n), .int pl, .ref (43 + n), .ref (44 + n), .ref (45 + n), .ref (46 + n), .int fo, .ref (47 + n), .int (nI K), .ref (48 + n), .int ((nI (r.length + 1)) - 1), .ref (49 + n), .ref (50 + n), .ref (51 + n)]))[(48 + n)]? = some (10, vw) := px_ne hf1__48___n_ (by omega)
            have hf2__49___n_ : (((hp.set (50 + n) (10, (am).set (Int32.toNatClampNeg ((nI (r.length + 1)) - 1)) (.int (nI ((p.2 + 1) % m)))))).set (38 + n) (4, [.int th, .int w, .int h, .ref (39 + n), .int pn, .ref (40 + n), .ref (41 + n), .ref (42 + n), .int pl, .ref (43 + n), .ref (44 + n), .ref (45 + n), .ref (46 + n), .int fo, .ref (47 + n), .int (nI K), .ref (48 + n), .int ((nI (r.length + 1)) - 1), .ref (49 + n), .ref (50 + n), .ref (51 + n)]))[(49 + n)]? = some (10, ax) := px_ne hf1__49___n_ (by omega)
            have hf2__50___n_ : (((hp.set (50 + n) (10, (am).set (Int32.toNatClampNeg ((nI (r.length + 1)) - 1)) (.int (nI ((p.2 + 1) % m)))))).set (38 + n) (4, [.int th, .int w, .int h, .ref (39 + n), .int pn, .ref (40 + n), .ref (41 + n), .ref (42 + n), .int pl, .ref (43 + n), .ref (44 + n), .ref (45 + n), .ref (46 + n), .int fo, .ref (47 + n), .int (nI K), .ref (48 + n), .int ((nI (r.length + 1)) - 1), .ref (49 + n), .ref (50 + n), .ref (51 + n)]))[(50 + n)]? = some (10, (am).set (Int32.toNatClampNeg ((nI (r.length + 1)) - 1)) (.int (nI ((p.2 + 1) % m)))) := px_ne hf1__50___n_ (by omega)
            show px_Gx _ _ (146, [(3, .int 1), (2, .int (nI i)), (0, .ref (38 + n)), (1, .int (nI m))], [], (((hp.set (50 + n) (10, (am).set (Int32.toNatClampNeg ((nI (r.length + 1)) - 1)) (.int (nI ((p.2 + 1) % m)))))).set (38 + n) (4, [.int th, .int w, .int h, .ref (39 + n), .int pn, .ref (40 + n), .ref (41 + n), .ref (42 + n), .int pl, .ref (43 + n), .ref (44 + n), .ref (45 + n), .ref (46 + n), .int fo, .ref (47 + n), .int (nI K), .ref (48 + n), .int ((nI (r.length + 1)) - 1), .ref (49 + n), .ref (50 + n), .ref (51 + n)]))) _
            refine px_gx (fun _ K9 => px_a 2 (f' := (11, [(2, .int ((nI i) + 1)), (3, .int 1), (0, .ref (38 + n)), (1, .int (nI m))], [], (((hp.set (50 + n) (10, (am).set (Int32.toNatClampNeg ((nI (r.length + 1)) - 1)) (.int (nI ((p.2 + 1) % m)))))).set (38 + n) (4, [.int th, .int w, .int h, .ref (39 + n), .int pn, .ref (40 + n), .ref (41 + n), .ref (42 + n), .int pl, .ref (43 + n), .ref (44 + n), .ref (45 + n), .ref (46 + n), .int fo, .ref (47 + n), .int (nI K), .ref (48 + n), .int ((nI (r.length + 1)) - 1), .ref (49 + n), .ref (50 + n), .ref (51 + n)])))) rfl K9) ?_
            rw [nI_1]
            refine px_wk [(2, .int (nI (i + 1))), (0, .ref (38 + n)), (1, .int (nI m))] ⟨rfl, rfl, rfl, trivial⟩ ?_
            have es : x_fd m f (i + 1) = r := by show x_psh m (f i % 2) (x_am m (f i)) _ = _; rw [hl, est]; show (if p.1 = _ then _ else _) = _; rw [if_pos h1]; exact if_pos h2
            exact ih (i + 1) _ _ _ (by rw [es]; exact (nI_pred r.length) ▸ hf2__38___n_) hf2__49___n_ hf2__50___n_ hf2__48___n_ (by first | exact la | (rw [List.length_set]; exact la)) (by first | exact lm | (repeat rw [List.length_set]); exact lm) (by rw [es]; rw [nI_pred, nI_clamp (by omega)]; exact x_rep_setb hr.2.2 (Nat.le_refl _)) (by omega)
          · refine px_gx (fun _ K9 => px_ias (50 + n) rfl ham2 (by omega) (by rw [nI_pred]; exact nI_pos (by omega)) (by rw [nI_pred, nI_clamp (by omega)]; first | (show (0 : Nat) < _; rw [List.length_set]; omega) | (rw [List.length_set]; omega) | omega) K9) ?_
            have hf1__38___n_ : (hp.set (50 + n) (10, (am).set (Int32.toNatClampNeg ((nI (r.length + 1)) - 1)) (.int (nI ((p.2 + 1) % m)))))[(38 + n)]? = some (4, [.int th, .int w, .int h, .ref (39 + n), .int pn, .ref (40 + n), .ref (41 + n), .ref (42 + n), .int pl, .ref (43 + n), .ref (44 + n), .ref (45 + n), .ref (46 + n), .int fo, .ref (47 + n), .int (nI K), .ref (48 + n), .int (nI (r.length + 1)), .ref (49 + n), .ref (50 + n), .ref (51 + n)]) := px_ne hm2x (by omega)
            have hf1__48___n_ : (hp.set (50 + n) (10, (am).set (Int32.toNatClampNeg ((nI (r.length + 1)) - 1)) (.int (nI ((p.2 + 1) % m)))))[(48 + n)]? = some (10, vw) := px_ne hvw2 (by omega)
            have hf1__49___n_ : (hp.set (50 + n) (10, (am).set (Int32.toNatClampNeg ((nI (r.length + 1)) - 1)) (.int (nI ((p.2 + 1) % m)))))[(49 + n)]? = some (10, ax) := px_ne hax2 (by omega)
            have hf1__50___n_ : (hp.set (50 + n) (10, (am).set (Int32.toNatClampNeg ((nI (r.length + 1)) - 1)) (.int (nI ((p.2 + 1) % m)))))[(50 + n)]? = some (10, (am).set (Int32.toNatClampNeg ((nI (r.length + 1)) - 1)) (.int (nI ((p.2 + 1) % m)))) := px_self ham2
            show px_Gx _ _ (122, [(3, .int 1), (2, .int (nI i)), (0, .ref (38 + n)), (1, .int (nI m))], [], (hp.set (50 + n) (10, (am).set (Int32.toNatClampNeg ((nI (r.length + 1)) - 1)) (.int (nI ((p.2 + 1) % m)))))) _
            refine px_gx (fun _ K9 => px_a 1 (f' := (123, [(3, .int 1), (2, .int (nI i)), (0, .ref (38 + n)), (1, .int (nI m))], [.ref (38 + n)], (hp.set (50 + n) (10, (am).set (Int32.toNatClampNeg ((nI (r.length + 1)) - 1)) (.int (nI ((p.2 + 1) % m))))))) rfl K9) ?_
            refine px_gx (fun _ K9 => px_gf (38 + n) 45 4 19 (.ref (50 + n)) rfl rfl hf1__38___n_ rfl K9) ?_
            show px_Gx _ _ (126, [(3, .int 1), (2, .int (nI i)), (0, .ref (38 + n)), (1, .int (nI m))], [.ref (50 + n)], (hp.set (50 + n) (10, (am).set (Int32.toNatClampNeg ((nI (r.length + 1)) - 1)) (.int (nI ((p.2 + 1) % m)))))) _
            refine px_gx (fun _ K9 => px_a 1 (f' := (127, [(3, .int 1), (2, .int (nI i)), (0, .ref (38 + n)), (1, .int (nI m))], [.ref (38 + n), .ref (50 + n)], (hp.set (50 + n) (10, (am).set (Int32.toNatClampNeg ((nI (r.length + 1)) - 1)) (.int (nI ((p.2 + 1) % m))))))) rfl K9) ?_
            refine px_gx (fun _ K9 => px_gf (38 + n) 132 4 17 (.int (nI (r.length + 1))) rfl rfl hf1__38___n_ rfl K9) ?_
            show px_Gx _ _ (130, [(3, .int 1), (2, .int (nI i)), (0, .ref (38 + n)), (1, .int (nI m))], [.int (nI (r.length + 1)), .ref (50 + n)], (hp.set (50 + n) (10, (am).set (Int32.toNatClampNeg ((nI (r.length + 1)) - 1)) (.int (nI ((p.2 + 1) % m)))))) _
            refine px_gx (fun _ K9 => px_a 2 (f' := (132, [(3, .int 1), (2, .int (nI i)), (0, .ref (38 + n)), (1, .int (nI m))], [.int ((nI (r.length + 1)) - 1), .ref (50 + n)], (hp.set (50 + n) (10, (am).set (Int32.toNatClampNeg ((nI (r.length + 1)) - 1)) (.int (nI ((p.2 + 1) % m))))))) rfl K9) ?_
            refine px_gx (fun _ K9 => px_al (50 + n) (.int (nI ((p.2 + 1) % m))) rfl hf1__50___n_ (Or.inl ⟨rfl, Or.inl rfl⟩) (by rw [nI_pred]; exact nI_pos (by omega)) (List.getElem?_set_self (by rw [nI_pred, nI_clamp (by omega)]; first | (show (0 : Nat) < _; rw [List.length_set]; omega) | (rw [List.length_set]; omega) | omega)) K9) ?_
            show px_Gx _ _ (133, [(3, .int 1), (2, .int (nI i)), (0, .ref (38 + n)), (1, .int (nI m))], [.int (nI ((p.2 + 1) % m))], (hp.set (50 + n) (10, (am).set (Int32.toNatClampNeg ((nI (r.length + 1)) - 1)) (.int (nI ((p.2 + 1) % m)))))) _
            refine px_gx (fun _ K9 => px_b1 true 146 rfl rfl (decide_eq_true (nI_ne0 (by rw [emc, if_neg h2]; split <;> omega) (Nat.lt_of_lt_of_le (Nat.mod_lt _ (by omega)) (by omega)))) K9) ?_
            show px_Gx _ _ (146, [(3, .int 1), (2, .int (nI i)), (0, .ref (38 + n)), (1, .int (nI m))], [], (hp.set (50 + n) (10, (am).set (Int32.toNatClampNeg ((nI (r.length + 1)) - 1)) (.int (nI ((p.2 + 1) % m)))))) _
            refine px_gx (fun _ K9 => px_a 2 (f' := (11, [(2, .int ((nI i) + 1)), (3, .int 1), (0, .ref (38 + n)), (1, .int (nI m))], [], (hp.set (50 + n) (10, (am).set (Int32.toNatClampNeg ((nI (r.length + 1)) - 1)) (.int (nI ((p.2 + 1) % m))))))) rfl K9) ?_
            rw [nI_1]
            refine px_wk [(2, .int (nI (i + 1))), (0, .ref (38 + n)), (1, .int (nI m))] ⟨rfl, rfl, rfl, trivial⟩ ?_
            have es : x_fd m f (i + 1) = (1, (p.2 + 1) % m) :: r := by show x_psh m (f i % 2) (x_am m (f i)) _ = _; rw [hl, est]; rw [show (1 : Nat) % 2 = 1 from rfl, show x_am m 1 = 1 from rfl, x_psh_c, if_pos h1, if_neg h2, emc, if_neg h2]
            exact ih (i + 1) _ _ _ (by rw [es]; exact hf1__38___n_) hf1__49___n_ hf1__50___n_ hf1__48___n_ (by first | exact la | (rw [List.length_set]; exact la)) (by first | exact lm | (repeat rw [List.length_set]); exact lm) (by rw [es]; rw [nI_pred, nI_clamp (by omega)]; exact ⟨by rw [hr.1, h1], List.getElem?_set_self (by (repeat rw [List.length_set]); omega), x_rep_setb hr.2.2 (Nat.le_refl _)⟩) (by omega)
        · skip
          refine px_gx (fun _ K9 => px_a 2 (f' := (13, [(2, .int (nI i)), (0, .ref (38 + n)), (1, .int (nI m))], [.ref (38 + n), .int (nI i)], hp)) rfl K9) ?_
          refine px_gx (fun _ K9 => px_gf (38 + n) 122 4 15 (.int (nI K)) rfl rfl hm rfl K9) ?_
          show px_Gx _ _ (16, [(2, .int (nI i)), (0, .ref (38 + n)), (1, .int (nI m))], [.int (nI K), .int (nI i)], hp) _
          refine px_gx (fun _ K9 => px_b2 false 152 rfl rfl (decide_eq_false (nI_ge (by omega) (by omega))) K9) ?_
          show px_Gx _ _ (19, [(2, .int (nI i)), (0, .ref (38 + n)), (1, .int (nI m))], [], hp) _
          refine px_gx (fun _ K9 => px_a 1 (f' := (20, [(2, .int (nI i)), (0, .ref (38 + n)), (1, .int (nI m))], [.ref (38 + n)], hp)) rfl K9) ?_
          refine px_gx (fun _ K9 => px_gf (38 + n) 39 4 16 (.ref (48 + n)) rfl rfl hm rfl K9) ?_
          show px_Gx _ _ (23, [(2, .int (nI i)), (0, .ref (38 + n)), (1, .int (nI m))], [.ref (48 + n)], hp) _
          refine px_gx (fun _ K9 => px_a 1 (f' := (24, [(2, .int (nI i)), (0, .ref (38 + n)), (1, .int (nI m))], [.int (nI i), .ref (48 + n)], hp)) rfl K9) ?_
          refine px_gx (fun _ K9 => px_al (48 + n) (.int 1) rfl hvw (Or.inl ⟨rfl, Or.inl rfl⟩) (nI_pos (by omega)) (by rw [nI_clamp (by omega), hz, hl]; rfl) K9) ?_
          show px_Gx _ _ (25, [(2, .int (nI i)), (0, .ref (38 + n)), (1, .int (nI m))], [.int 1], hp) _
          refine px_gx (fun _ K9 => px_a 4 (f' := (29, [(3, .int 1), (2, .int (nI i)), (0, .ref (38 + n)), (1, .int (nI m))], [.ref (38 + n)], hp)) rfl K9) ?_
          refine px_gx (fun _ K9 => px_gf (38 + n) 132 4 17 (.int (nI (r.length + 1))) rfl rfl hm rfl K9) ?_
          show px_Gx _ _ (32, [(3, .int 1), (2, .int (nI i)), (0, .ref (38 + n)), (1, .int (nI m))], [.int (nI (r.length + 1))], hp) _
          refine px_gx (fun _ K9 => px_b1 false 50 rfl rfl (decide_eq_false (nI_ne0 (by omega) (by omega))) K9) ?_
          show px_Gx _ _ (35, [(3, .int 1), (2, .int (nI i)), (0, .ref (38 + n)), (1, .int (nI m))], [], hp) _
          refine px_gx (fun _ K9 => px_a 1 (f' := (36, [(3, .int 1), (2, .int (nI i)), (0, .ref (38 + n)), (1, .int (nI m))], [.ref (38 + n)], hp)) rfl K9) ?_
          refine px_gx (fun _ K9 => px_gf (38 + n) 42 4 18 (.ref (49 + n)) rfl rfl hm rfl K9) ?_
          show px_Gx _ _ (39, [(3, .int 1), (2, .int (nI i)), (0, .ref (38 + n)), (1, .int (nI m))], [.ref (49 + n)], hp) _
          refine px_gx (fun _ K9 => px_a 1 (f' := (40, [(3, .int 1), (2, .int (nI i)), (0, .ref (38 + n)), (1, .int (nI m))], [.ref (38 + n), .ref (49 + n)], hp)) rfl K9) ?_
          refine px_gx (fun _ K9 => px_gf (38 + n) 132 4 17 (.int (nI (r.length + 1))) rfl rfl hm rfl K9) ?_
          show px_Gx _ _ (43, [(3, .int 1), (2, .int (nI i)), (0, .ref (38 + n)), (1, .int (nI m))], [.int (nI (r.length + 1)), .ref (49 + n)], hp) _
          refine px_gx (fun _ K9 => px_a 2 (f' := (45, [(3, .int 1), (2, .int (nI i)), (0, .ref (38 + n)), (1, .int (nI m))], [.int ((nI (r.length + 1)) - 1), .ref (49 + n)], hp)) rfl K9) ?_
          refine px_gx (fun _ K9 => px_al (49 + n) (.int (nI p.1)) rfl hax (Or.inl ⟨rfl, Or.inl rfl⟩) (by rw [nI_pred]; exact nI_pos (by omega)) (by rw [nI_pred, nI_clamp (by omega)]; exact hr.1) K9) ?_
          show px_Gx _ _ (46, [(3, .int 1), (2, .int (nI i)), (0, .ref (38 + n)), (1, .int (nI m))], [.int (nI p.1)], hp) _
          refine px_gx (fun _ K9 => px_a 1 (f' := (47, [(3, .int 1), (2, .int (nI i)), (0, .ref (38 + n)), (1, .int (nI m))], [.int 1, .int (nI p.1)], hp)) rfl K9) ?_
          refine px_gx (fun _ K9 => px_b2 false 80 rfl rfl (decide_eq_false (fun z => h1 ((nI_eq (b := 1) (by omega) (by omega)).mp z))) K9) ?_
          show px_Gx _ _ (50, [(3, .int 1), (2, .int (nI i)), (0, .ref (38 + n)), (1, .int (nI m))], [], hp) _
          refine px_gx (fun _ K9 => px_a 1 (f' := (51, [(3, .int 1), (2, .int (nI i)), (0, .ref (38 + n)), (1, .int (nI m))], [.ref (38 + n)], hp)) rfl K9) ?_
          refine px_gx (fun _ K9 => px_gf (38 + n) 42 4 18 (.ref (49 + n)) rfl rfl hm rfl K9) ?_
          show px_Gx _ _ (54, [(3, .int 1), (2, .int (nI i)), (0, .ref (38 + n)), (1, .int (nI m))], [.ref (49 + n)], hp) _
          refine px_gx (fun _ K9 => px_a 1 (f' := (55, [(3, .int 1), (2, .int (nI i)), (0, .ref (38 + n)), (1, .int (nI m))], [.ref (38 + n), .ref (49 + n)], hp)) rfl K9) ?_
          refine px_gx (fun _ K9 => px_gf (38 + n) 132 4 17 (.int (nI (r.length + 1))) rfl rfl hm rfl K9) ?_
          show px_Gx _ _ (58, [(3, .int 1), (2, .int (nI i)), (0, .ref (38 + n)), (1, .int (nI m))], [.int (nI (r.length + 1)), .ref (49 + n)], hp) _
          refine px_gx (fun _ K9 => px_a 1 (f' := (59, [(3, .int 1), (2, .int (nI i)), (0, .ref (38 + n)), (1, .int (nI m))], [.int 1, .int (nI (r.length + 1)), .ref (49 + n)], hp)) rfl K9) ?_
          refine px_gx (fun _ K9 => px_ias (49 + n) rfl hax (by omega) (nI_pos (by omega)) (by rw [nI_clamp (by omega)]; omega) K9) ?_
          have hf1__38___n_ : (hp.set (49 + n) (10, ax.set (nI (r.length + 1)).toNatClampNeg (.int 1)))[(38 + n)]? = some (4, [.int th, .int w, .int h, .ref (39 + n), .int pn, .ref (40 + n), .ref (41 + n), .ref (42 + n), .int pl, .ref (43 + n), .ref (44 + n), .ref (45 + n), .ref (46 + n), .int fo, .ref (47 + n), .int (nI K), .ref (48 + n), .int (nI (r.length + 1)), .ref (49 + n), .ref (50 + n), .ref (51 + n)]) := px_ne hm (by omega)
          have hf1__48___n_ : (hp.set (49 + n) (10, ax.set (nI (r.length + 1)).toNatClampNeg (.int 1)))[(48 + n)]? = some (10, vw) := px_ne hvw (by omega)
          have hf1__49___n_ : (hp.set (49 + n) (10, ax.set (nI (r.length + 1)).toNatClampNeg (.int 1)))[(49 + n)]? = some (10, ax.set (nI (r.length + 1)).toNatClampNeg (.int 1)) := px_self hax
          have hf1__50___n_ : (hp.set (49 + n) (10, ax.set (nI (r.length + 1)).toNatClampNeg (.int 1)))[(50 + n)]? = some (10, am) := px_ne ham (by omega)
          show px_Gx _ _ (60, [(3, .int 1), (2, .int (nI i)), (0, .ref (38 + n)), (1, .int (nI m))], [], (hp.set (49 + n) (10, ax.set (nI (r.length + 1)).toNatClampNeg (.int 1)))) _
          refine px_gx (fun _ K9 => px_a 1 (f' := (61, [(3, .int 1), (2, .int (nI i)), (0, .ref (38 + n)), (1, .int (nI m))], [.ref (38 + n)], (hp.set (49 + n) (10, ax.set (nI (r.length + 1)).toNatClampNeg (.int 1))))) rfl K9) ?_
          refine px_gx (fun _ K9 => px_gf (38 + n) 45 4 19 (.ref (50 + n)) rfl rfl hf1__38___n_ rfl K9) ?_
          show px_Gx _ _ (64, [(3, .int 1), (2, .int (nI i)), (0, .ref (38 + n)), (1, .int (nI m))], [.ref (50 + n)], (hp.set (49 + n) (10, ax.set (nI (r.length + 1)).toNatClampNeg (.int 1)))) _
          refine px_gx (fun _ K9 => px_a 1 (f' := (65, [(3, .int 1), (2, .int (nI i)), (0, .ref (38 + n)), (1, .int (nI m))], [.ref (38 + n), .ref (50 + n)], (hp.set (49 + n) (10, ax.set (nI (r.length + 1)).toNatClampNeg (.int 1))))) rfl K9) ?_
          refine px_gx (fun _ K9 => px_gf (38 + n) 132 4 17 (.int (nI (r.length + 1))) rfl rfl hf1__38___n_ rfl K9) ?_
          show px_Gx _ _ (68, [(3, .int 1), (2, .int (nI i)), (0, .ref (38 + n)), (1, .int (nI m))], [.int (nI (r.length + 1)), .ref (50 + n)], (hp.set (49 + n) (10, ax.set (nI (r.length + 1)).toNatClampNeg (.int 1)))) _
          refine px_gx (fun _ K9 => px_a 1 (f' := (69, [(3, .int 1), (2, .int (nI i)), (0, .ref (38 + n)), (1, .int (nI m))], [.int 0, .int (nI (r.length + 1)), .ref (50 + n)], (hp.set (49 + n) (10, ax.set (nI (r.length + 1)).toNatClampNeg (.int 1))))) rfl K9) ?_
          refine px_gx (fun _ K9 => px_ias (50 + n) rfl hf1__50___n_ (by omega) (nI_pos (by omega)) (by rw [nI_clamp (by omega)]; omega) K9) ?_
          have hf2__38___n_ : (((hp.set (49 + n) (10, ax.set (nI (r.length + 1)).toNatClampNeg (.int 1)))).set (50 + n) (10, am.set (nI (r.length + 1)).toNatClampNeg (.int 0)))[(38 + n)]? = some (4, [.int th, .int w, .int h, .ref (39 + n), .int pn, .ref (40 + n), .ref (41 + n), .ref (42 + n), .int pl, .ref (43 + n), .ref (44 + n), .ref (45 + n), .ref (46 + n), .int fo, .ref (47 + n), .int (nI K), .ref (48 + n), .int (nI (r.length + 1)), .ref (49 + n), .ref (50 + n), .ref (51 + n)]) := px_ne hf1__38___n_ (by omega)
          have hf2__48___n_ : (((hp.set (49 + n) (10, ax.set (nI (r.length + 1)).toNatClampNeg (.int 1)))).set (50 + n) (10, am.set (nI (r.length + 1)).toNatClampNeg (.int 0)))[(48 + n)]? = some (10, vw) := px_ne hf1__48___n_ (by omega)
          have hf2__49___n_ : (((hp.set (49 + n) (10, ax.set (nI (r.length + 1)).toNatClampNeg (.int 1)))).set (50 + n) (10, am.set (nI (r.length + 1)).toNatClampNeg (.int 0)))[(49 + n)]? = some (10, ax.set (nI (r.length + 1)).toNatClampNeg (.int 1)) := px_ne hf1__49___n_ (by omega)
          have hf2__50___n_ : (((hp.set (49 + n) (10, ax.set (nI (r.length + 1)).toNatClampNeg (.int 1)))).set (50 + n) (10, am.set (nI (r.length + 1)).toNatClampNeg (.int 0)))[(50 + n)]? = some (10, am.set (nI (r.length + 1)).toNatClampNeg (.int 0)) := px_self hf1__50___n_
          show px_Gx _ _ (70, [(3, .int 1), (2, .int (nI i)), (0, .ref (38 + n)), (1, .int (nI m))], [], (((hp.set (49 + n) (10, ax.set (nI (r.length + 1)).toNatClampNeg (.int 1)))).set (50 + n) (10, am.set (nI (r.length + 1)).toNatClampNeg (.int 0)))) _
          refine px_gx (fun _ K9 => px_a 2 (f' := (72, [(3, .int 1), (2, .int (nI i)), (0, .ref (38 + n)), (1, .int (nI m))], [.ref (38 + n), .ref (38 + n)], (((hp.set (49 + n) (10, ax.set (nI (r.length + 1)).toNatClampNeg (.int 1)))).set (50 + n) (10, am.set (nI (r.length + 1)).toNatClampNeg (.int 0))))) rfl K9) ?_
          refine px_gx (fun _ K9 => px_gf (38 + n) 132 4 17 (.int (nI (r.length + 1))) rfl rfl hf2__38___n_ rfl K9) ?_
          show px_Gx _ _ (75, [(3, .int 1), (2, .int (nI i)), (0, .ref (38 + n)), (1, .int (nI m))], [.int (nI (r.length + 1)), .ref (38 + n)], (((hp.set (49 + n) (10, ax.set (nI (r.length + 1)).toNatClampNeg (.int 1)))).set (50 + n) (10, am.set (nI (r.length + 1)).toNatClampNeg (.int 0)))) _
          refine px_gx (fun _ K9 => px_a 2 (f' := (77, [(3, .int 1), (2, .int (nI i)), (0, .ref (38 + n)), (1, .int (nI m))], [.int ((nI (r.length + 1)) + 1), .ref (38 + n)], (((hp.set (49 + n) (10, ax.set (nI (r.length + 1)).toNatClampNeg (.int 1)))).set (50 + n) (10, am.set (nI (r.length + 1)).toNatClampNeg (.int 0))))) rfl K9) ?_
          refine px_gx (fun _ K9 => px_pf (38 + n) 132 4 17 rfl rfl hf2__38___n_ (by omega) (by simp) rfl rfl (by decide) K9) ?_
          have hf3__38___n_ : (((((hp.set (49 + n) (10, ax.set (nI (r.length + 1)).toNatClampNeg (.int 1)))).set (50 + n) (10, am.set (nI (r.length + 1)).toNatClampNeg (.int 0)))).set (38 + n) (4, [.int th, .int w, .int h, .ref (39 + n), .int pn, .ref (40 + n), .ref (41 + n), .ref (42 + n), .int pl, .ref (43 + n), .ref (44 + n), .ref (45 + n), .ref (46 + n), .int fo, .ref (47 + n), .int (nI K), .ref (48 + n), .int ((nI (r.length + 1)) + 1), .ref (49 + n), .ref (50 + n), .ref (51 + n)]))[(38 + n)]? = some (4, [.int th, .int w, .int h, .ref (39 + n), .int pn, .ref (40 + n), .ref (41 + n), .ref (42 + n), .int pl, .ref (43 + n), .ref (44 + n), .ref (45 + n), .ref (46 + n), .int fo, .ref (47 + n), .int (nI K), .ref (48 + n), .int ((nI (r.length + 1)) + 1), .ref (49 + n), .ref (50 + n), .ref (51 + n)]) := px_self hf2__38___n_
          have hf3__48___n_ : (((((hp.set (49 + n) (10, ax.set (nI (r.length + 1)).toNatClampNeg (.int 1)))).set (50 + n) (10, am.set (nI (r.length + 1)).toNatClampNeg (.int 0)))).set (38 + n) (4, [.int th, .int w, .int h, .ref (39 + n), .int pn, .ref (40 + n), .ref (41 + n), .ref (42 + n), .int pl, .ref (43 + n), .ref (44 + n), .ref (45 + n), .ref (46 + n), .int fo, .ref (47 + n), .int (nI K), .ref (48 + n), .int ((nI (r.length + 1)) + 1), .ref (49 + n), .ref (50 + n), .ref (51 + n)]))[(48 + n)]? = some (10, vw) := px_ne hf2__48___n_ (by omega)
          have hf3__49___n_ : (((((hp.set (49 + n) (10, ax.set (nI (r.length + 1)).toNatClampNeg (.int 1)))).set (50 + n) (10, am.set (nI (r.length + 1)).toNatClampNeg (.int 0)))).set (38 + n) (4, [.int th, .int w, .int h, .ref (39 + n), .int pn, .ref (40 + n), .ref (41 + n), .ref (42 + n), .int pl, .ref (43 + n), .ref (44 + n), .ref (45 + n), .ref (46 + n), .int fo, .ref (47 + n), .int (nI K), .ref (48 + n), .int ((nI (r.length + 1)) + 1), .ref (49 + n), .ref (50 + n), .ref (51 + n)]))[(49 + n)]? = some (10, ax.set (nI (r.length + 1)).toNatClampNeg (.int 1)) := px_ne hf2__49___n_ (by omega)
          have hf3__50___n_ : (((((hp.set (49 + n) (10, ax.set (nI (r.length + 1)).toNatClampNeg (.int 1)))).set (50 + n) (10, am.set (nI (r.length + 1)).toNatClampNeg (.int 0)))).set (38 + n) (4, [.int th, .int w, .int h, .ref (39 + n), .int pn, .ref (40 + n), .ref (41 + n), .ref (42 + n), .int pl, .ref (43 + n), .ref (44 + n), .ref (45 + n), .ref (46 + n), .int fo, .ref (47 + n), .int (nI K), .ref (48 + n), .int ((nI (r.length + 1)) + 1), .ref (49 + n), .ref (50 + n), .ref (51 + n)]))[(50 + n)]? = some (10, am.set (nI (r.length + 1)).toNatClampNeg (.int 0)) := px_ne hf2__50___n_ (by omega)
          show px_Gx _ _ (80, [(3, .int 1), (2, .int (nI i)), (0, .ref (38 + n)), (1, .int (nI m))], [], (((((hp.set (49 + n) (10, ax.set (nI (r.length + 1)).toNatClampNeg (.int 1)))).set (50 + n) (10, am.set (nI (r.length + 1)).toNatClampNeg (.int 0)))).set (38 + n) (4, [.int th, .int w, .int h, .ref (39 + n), .int pn, .ref (40 + n), .ref (41 + n), .ref (42 + n), .int pl, .ref (43 + n), .ref (44 + n), .ref (45 + n), .ref (46 + n), .int fo, .ref (47 + n), .int (nI K), .ref (48 + n), .int ((nI (r.length + 1)) + 1), .ref (49 + n), .ref (50 + n), .ref (51 + n)]))) _
          have hm2x := hf3__38___n_
          have hax2 := hf3__49___n_
          have ham2 := hf3__50___n_
          have hvw2 := hf3__48___n_
          rw [nI_1] at hm2x hax2 ham2 hvw2 ⊢
          generalize (((((hp.set (49 + n) (10, ax.set (nI (r.length + 1)).toNatClampNeg (.int 1)))).set (50 + n) (10, am.set (nI (r.length + 1)).toNatClampNeg (.int 0)))).set (38 + n) (4, [.int th, .int w, .int h, .ref (39 + n), .int pn, .ref (40 + n), .ref (41 + n), .ref (42 + n), .int pl, .ref (43 + n), .ref (44 + n), .ref (45 + n), .ref (46 + n), .int fo, .ref (47 + n), .int (nI K), .ref (48 + n), .int (nI (r.length + 1 + 1)), .ref (49 + n), .ref (50 + n), .ref (51 + n)])) = hp2 at hm2x hax2 ham2 hvw2 ⊢
          refine px_gx (fun _ K9 => px_a 1 (f' := (81, [(3, .int 1), (2, .int (nI i)), (0, .ref (38 + n)), (1, .int (nI m))], [.ref (38 + n)], hp2)) rfl K9) ?_
          refine px_gx (fun _ K9 => px_gf (38 + n) 45 4 19 (.ref (50 + n)) rfl rfl hm2x rfl K9) ?_
          show px_Gx _ _ (84, [(3, .int 1), (2, .int (nI i)), (0, .ref (38 + n)), (1, .int (nI m))], [.ref (50 + n)], hp2) _
          refine px_gx (fun _ K9 => px_a 1 (f' := (85, [(3, .int 1), (2, .int (nI i)), (0, .ref (38 + n)), (1, .int (nI m))], [.ref (38 + n), .ref (50 + n)], hp2)) rfl K9) ?_
          refine px_gx (fun _ K9 => px_gf (38 + n) 132 4 17 (.int (nI (r.length + 1 + 1))) rfl rfl hm2x rfl K9) ?_
          show px_Gx _ _ (88, [(3, .int 1), (2, .int (nI i)), (0, .ref (38 + n)), (1, .int (nI m))], [.int (nI (r.length + 1 + 1)), .ref (50 + n)], hp2) _
          refine px_gx (fun _ K9 => px_a 3 (f' := (91, [(3, .int 1), (2, .int (nI i)), (0, .ref (38 + n)), (1, .int (nI m))], [.ref (38 + n), .int ((nI (r.length + 1 + 1)) - 1), .ref (50 + n)], hp2)) rfl K9) ?_
          refine px_gx (fun _ K9 => px_gf (38 + n) 45 4 19 (.ref (50 + n)) rfl rfl hm2x rfl K9) ?_
          show px_Gx _ _ (94, [(3, .int 1), (2, .int (nI i)), (0, .ref (38 + n)), (1, .int (nI m))], [.ref (50 + n), .int ((nI (r.length + 1 + 1)) - 1), .ref (50 + n)], hp2) _
          refine px_gx (fun _ K9 => px_a 1 (f' := (95, [(3, .int 1), (2, .int (nI i)), (0, .ref (38 + n)), (1, .int (nI m))], [.ref (38 + n), .ref (50 + n), .int ((nI (r.length + 1 + 1)) - 1), .ref (50 + n)], hp2)) rfl K9) ?_
          refine px_gx (fun _ K9 => px_gf (38 + n) 132 4 17 (.int (nI (r.length + 1 + 1))) rfl rfl hm2x rfl K9) ?_
          show px_Gx _ _ (98, [(3, .int 1), (2, .int (nI i)), (0, .ref (38 + n)), (1, .int (nI m))], [.int (nI (r.length + 1 + 1)), .ref (50 + n), .int ((nI (r.length + 1 + 1)) - 1), .ref (50 + n)], hp2) _
          refine px_gx (fun _ K9 => px_a 2 (f' := (100, [(3, .int 1), (2, .int (nI i)), (0, .ref (38 + n)), (1, .int (nI m))], [.int ((nI (r.length + 1 + 1)) - 1), .ref (50 + n), .int ((nI (r.length + 1 + 1)) - 1), .ref (50 + n)], hp2)) rfl K9) ?_
          refine px_gx (fun _ K9 => px_al (50 + n) (.int 0) rfl ham2 (Or.inl ⟨rfl, Or.inl rfl⟩) (by rw [nI_pred]; exact nI_pos (by omega)) (by rw [nI_pred]; exact List.getElem?_set_self (by rw [nI_clamp (by omega)]; omega)) K9) ?_
          show px_Gx _ _ (101, [(3, .int 1), (2, .int (nI i)), (0, .ref (38 + n)), (1, .int (nI m))], [.int 0, .int ((nI (r.length + 1 + 1)) - 1), .ref (50 + n)], hp2) _
          refine px_gx (fun _ K9 => px_a 1 (f' := (102, [(3, .int 1), (2, .int (nI i)), (0, .ref (38 + n)), (1, .int (nI m))], [.ref (38 + n), .int 0, .int ((nI (r.length + 1 + 1)) - 1), .ref (50 + n)], hp2)) rfl K9) ?_
          refine px_gx (fun _ K9 => px_gf (38 + n) 39 4 16 (.ref (48 + n)) rfl rfl hm2x rfl K9) ?_
          show px_Gx _ _ (105, [(3, .int 1), (2, .int (nI i)), (0, .ref (38 + n)), (1, .int (nI m))], [.ref (48 + n), .int 0, .int ((nI (r.length + 1 + 1)) - 1), .ref (50 + n)], hp2) _
          refine px_gx (fun _ K9 => px_a 1 (f' := (106, [(3, .int 1), (2, .int (nI i)), (0, .ref (38 + n)), (1, .int (nI m))], [.int (nI i), .ref (48 + n), .int 0, .int ((nI (r.length + 1 + 1)) - 1), .ref (50 + n)], hp2)) rfl K9) ?_
          refine px_gx (fun _ K9 => px_al (48 + n) (.int 1) rfl hvw2 (Or.inl ⟨rfl, Or.inl rfl⟩) (nI_pos (by omega)) (by rw [nI_clamp (by omega), hz, hl]; rfl) K9) ?_
          show px_Gx _ _ (107, [(3, .int 1), (2, .int (nI i)), (0, .ref (38 + n)), (1, .int (nI m))], [.int 1, .int 0, .int ((nI (r.length + 1 + 1)) - 1), .ref (50 + n)], hp2) _
          refine px_gx (fun _ K9 => px_a 6 (f' := (120, [(3, .int 1), (2, .int (nI i)), (0, .ref (38 + n)), (1, .int (nI m))], [.int (nI m), .int 1, .int ((nI (r.length + 1 + 1)) - 1), .ref (50 + n)], hp2)) rfl K9) ?_
          refine px_gx (fun _ K9 => px_irem rfl (nI_ne0 (by omega) (by omega)) K9) ?_
          have e121 : (1 - 1 / (nI m) * (nI m)) = nI 1 := by rw [show (1 : Int32) = nI 1 from rfl, pk_rem (by omega) (by omega) (by omega), Nat.mod_eq_of_lt (by omega)]
          rw [e121]
          refine px_gx (fun _ K9 => px_ias (50 + n) rfl ham2 (by omega) (by rw [nI_pred]; exact nI_pos (by omega)) (by rw [nI_pred, nI_clamp (by omega)]; first | (show (0 : Nat) < _; rw [List.length_set]; omega) | (rw [List.length_set]; omega) | omega) K9) ?_
          have hf1__38___n_ : (hp2.set (50 + n) (10, (am.set (nI (r.length + 1)).toNatClampNeg (.int 0)).set (Int32.toNatClampNeg ((nI (r.length + 1 + 1)) - 1)) (.int (nI 1))))[(38 + n)]? = some (4, [.int th, .int w, .int h, .ref (39 + n), .int pn, .ref (40 + n), .ref (41 + n), .ref (42 + n), .int pl, .ref (43 + n), .ref (44 + n), .ref (45 + n), .ref (46 + n), .int fo, .ref (47 + n), .int (nI K), .ref (48 + n), .int (nI (r.length + 1 + 1)), .ref (49 + n), .ref (50 + n), .ref (51 + n)]) := px_ne hm2x (by omega)
          have hf1__48___n_ : (hp2.set (50 + n) (10, (am.set (nI (r.length + 1)).toNatClampNeg (.int 0)).set (Int32.toNatClampNeg ((nI (r.length + 1 + 1)) - 1)) (.int (nI 1))))[(48 + n)]? = some (10, vw) := px_ne hvw2 (by omega)
          have hf1__49___n_ : (hp2.set (50 + n) (10, (am.set (nI (r.length + 1)).toNatClampNeg (.int 0)).set (Int32.toNatClampNeg ((nI (r.length + 1 + 1)) - 1)) (.int (nI 1))))[(49 + n)]? = some (10, ax.set (nI (r.length + 1)).toNatClampNeg (.int 1)) := px_ne hax2 (by omega)
          have hf1__50___n_ : (hp2.set (50 + n) (10, (am.set (nI (r.length + 1)).toNatClampNeg (.int 0)).set (Int32.toNatClampNeg ((nI (r.length + 1 + 1)) - 1)) (.int (nI 1))))[(50 + n)]? = some (10, (am.set (nI (r.length + 1)).toNatClampNeg (.int 0)).set (Int32.toNatClampNeg ((nI (r.length + 1 + 1)) - 1)) (.int (nI 1))) := px_self ham2
          show px_Gx _ _ (122, [(3, .int 1), (2, .int (nI i)), (0, .ref (38 + n)), (1, .int (nI m))], [], (hp2.set (50 + n) (10, (am.set (nI (r.length + 1)).toNatClampNeg (.int 0)).set (Int32.toNatClampNeg ((nI (r.length + 1 + 1)) - 1)) (.int (nI 1))))) _
          refine px_gx (fun _ K9 => px_a 1 (f' := (123, [(3, .int 1), (2, .int (nI i)), (0, .ref (38 + n)), (1, .int (nI m))], [.ref (38 + n)], (hp2.set (50 + n) (10, (am.set (nI (r.length + 1)).toNatClampNeg (.int 0)).set (Int32.toNatClampNeg ((nI (r.length + 1 + 1)) - 1)) (.int (nI 1)))))) rfl K9) ?_
          refine px_gx (fun _ K9 => px_gf (38 + n) 45 4 19 (.ref (50 + n)) rfl rfl hf1__38___n_ rfl K9) ?_
          show px_Gx _ _ (126, [(3, .int 1), (2, .int (nI i)), (0, .ref (38 + n)), (1, .int (nI m))], [.ref (50 + n)], (hp2.set (50 + n) (10, (am.set (nI (r.length + 1)).toNatClampNeg (.int 0)).set (Int32.toNatClampNeg ((nI (r.length + 1 + 1)) - 1)) (.int (nI 1))))) _
          refine px_gx (fun _ K9 => px_a 1 (f' := (127, [(3, .int 1), (2, .int (nI i)), (0, .ref (38 + n)), (1, .int (nI m))], [.ref (38 + n), .ref (50 + n)], (hp2.set (50 + n) (10, (am.set (nI (r.length + 1)).toNatClampNeg (.int 0)).set (Int32.toNatClampNeg ((nI (r.length + 1 + 1)) - 1)) (.int (nI 1)))))) rfl K9) ?_
          refine px_gx (fun _ K9 => px_gf (38 + n) 132 4 17 (.int (nI (r.length + 1 + 1))) rfl rfl hf1__38___n_ rfl K9) ?_
          show px_Gx _ _ (130, [(3, .int 1), (2, .int (nI i)), (0, .ref (38 + n)), (1, .int (nI m))], [.int (nI (r.length + 1 + 1)), .ref (50 + n)], (hp2.set (50 + n) (10, (am.set (nI (r.length + 1)).toNatClampNeg (.int 0)).set (Int32.toNatClampNeg ((nI (r.length + 1 + 1)) - 1)) (.int (nI 1))))) _
          refine px_gx (fun _ K9 => px_a 2 (f' := (132, [(3, .int 1), (2, .int (nI i)), (0, .ref (38 + n)), (1, .int (nI m))], [.int ((nI (r.length + 1 + 1)) - 1), .ref (50 + n)], (hp2.set (50 + n) (10, (am.set (nI (r.length + 1)).toNatClampNeg (.int 0)).set (Int32.toNatClampNeg ((nI (r.length + 1 + 1)) - 1)) (.int (nI 1)))))) rfl K9) ?_
          refine px_gx (fun _ K9 => px_al (50 + n) (.int (nI 1)) rfl hf1__50___n_ (Or.inl ⟨rfl, Or.inl rfl⟩) (by rw [nI_pred]; exact nI_pos (by omega)) (List.getElem?_set_self (by rw [nI_pred, nI_clamp (by omega)]; first | (show (0 : Nat) < _; rw [List.length_set]; omega) | (rw [List.length_set]; omega) | omega)) K9) ?_
          show px_Gx _ _ (133, [(3, .int 1), (2, .int (nI i)), (0, .ref (38 + n)), (1, .int (nI m))], [.int (nI 1)], (hp2.set (50 + n) (10, (am.set (nI (r.length + 1)).toNatClampNeg (.int 0)).set (Int32.toNatClampNeg ((nI (r.length + 1 + 1)) - 1)) (.int (nI 1))))) _
          refine px_gx (fun _ K9 => px_b1 true 146 rfl rfl (by decide) K9) ?_
          show px_Gx _ _ (146, [(3, .int 1), (2, .int (nI i)), (0, .ref (38 + n)), (1, .int (nI m))], [], (hp2.set (50 + n) (10, (am.set (nI (r.length + 1)).toNatClampNeg (.int 0)).set (Int32.toNatClampNeg ((nI (r.length + 1 + 1)) - 1)) (.int (nI 1))))) _
          refine px_gx (fun _ K9 => px_a 2 (f' := (11, [(2, .int ((nI i) + 1)), (3, .int 1), (0, .ref (38 + n)), (1, .int (nI m))], [], (hp2.set (50 + n) (10, (am.set (nI (r.length + 1)).toNatClampNeg (.int 0)).set (Int32.toNatClampNeg ((nI (r.length + 1 + 1)) - 1)) (.int (nI 1)))))) rfl K9) ?_
          rw [nI_1]
          refine px_wk [(2, .int (nI (i + 1))), (0, .ref (38 + n)), (1, .int (nI m))] ⟨rfl, rfl, rfl, trivial⟩ ?_
          have es : x_fd m f (i + 1) = (1, 1) :: p :: r := by show x_psh m (f i % 2) (x_am m (f i)) _ = _; rw [hl, est]; exact if_neg h1
          exact ih (i + 1) _ _ _ (by rw [es]; exact hf1__38___n_) hf1__49___n_ hf1__50___n_ hf1__48___n_ (by first | exact la | (rw [List.length_set]; exact la)) (by first | exact lm | (repeat rw [List.length_set]); exact lm) (by rw [es]; rw [nI_pred, nI_clamp (by omega)]; exact ⟨List.getElem?_set_self (by omega), List.getElem?_set_self (by (repeat rw [List.length_set]); omega), x_rep_setb (x_rep_set hr (Nat.le_refl _) (Nat.le_refl _)) (Nat.le_refl _)⟩) (by omega)
    · cases est : x_fd m f i with
      | nil =>
        rw [est] at hm hr h84
        refine px_gx (fun _ K9 => px_a 2 (f' := (13, [(2, .int (nI i)), (0, .ref (38 + n)), (1, .int (nI m))], [.ref (38 + n), .int (nI i)], hp)) rfl K9) ?_
        refine px_gx (fun _ K9 => px_gf (38 + n) 122 4 15 (.int (nI K)) rfl rfl hm rfl K9) ?_
        show px_Gx _ _ (16, [(2, .int (nI i)), (0, .ref (38 + n)), (1, .int (nI m))], [.int (nI K), .int (nI i)], hp) _
        refine px_gx (fun _ K9 => px_b2 false 152 rfl rfl (decide_eq_false (nI_ge (by omega) (by omega))) K9) ?_
        show px_Gx _ _ (19, [(2, .int (nI i)), (0, .ref (38 + n)), (1, .int (nI m))], [], hp) _
        refine px_gx (fun _ K9 => px_a 1 (f' := (20, [(2, .int (nI i)), (0, .ref (38 + n)), (1, .int (nI m))], [.ref (38 + n)], hp)) rfl K9) ?_
        refine px_gx (fun _ K9 => px_gf (38 + n) 39 4 16 (.ref (48 + n)) rfl rfl hm rfl K9) ?_
        show px_Gx _ _ (23, [(2, .int (nI i)), (0, .ref (38 + n)), (1, .int (nI m))], [.ref (48 + n)], hp) _
        refine px_gx (fun _ K9 => px_a 1 (f' := (24, [(2, .int (nI i)), (0, .ref (38 + n)), (1, .int (nI m))], [.int (nI i), .ref (48 + n)], hp)) rfl K9) ?_
        refine px_gx (fun _ K9 => px_al (48 + n) (.int 2) rfl hvw (Or.inl ⟨rfl, Or.inl rfl⟩) (nI_pos (by omega)) (by rw [nI_clamp (by omega), hz, hl]; rfl) K9) ?_
        show px_Gx _ _ (25, [(2, .int (nI i)), (0, .ref (38 + n)), (1, .int (nI m))], [.int 2], hp) _
        refine px_gx (fun _ K9 => px_a 4 (f' := (29, [(3, .int 0), (2, .int (nI i)), (0, .ref (38 + n)), (1, .int (nI m))], [.ref (38 + n)], hp)) rfl K9) ?_
        refine px_gx (fun _ K9 => px_gf (38 + n) 132 4 17 (.int 0) rfl rfl hm rfl K9) ?_
        show px_Gx _ _ (32, [(3, .int 0), (2, .int (nI i)), (0, .ref (38 + n)), (1, .int (nI m))], [.int 0], hp) _
        refine px_gx (fun _ K9 => px_a 2 (f' := (51, [(3, .int 0), (2, .int (nI i)), (0, .ref (38 + n)), (1, .int (nI m))], [.ref (38 + n)], hp)) rfl K9) ?_
        refine px_gx (fun _ K9 => px_gf (38 + n) 42 4 18 (.ref (49 + n)) rfl rfl hm rfl K9) ?_
        show px_Gx _ _ (54, [(3, .int 0), (2, .int (nI i)), (0, .ref (38 + n)), (1, .int (nI m))], [.ref (49 + n)], hp) _
        refine px_gx (fun _ K9 => px_a 1 (f' := (55, [(3, .int 0), (2, .int (nI i)), (0, .ref (38 + n)), (1, .int (nI m))], [.ref (38 + n), .ref (49 + n)], hp)) rfl K9) ?_
        refine px_gx (fun _ K9 => px_gf (38 + n) 132 4 17 (.int 0) rfl rfl hm rfl K9) ?_
        show px_Gx _ _ (58, [(3, .int 0), (2, .int (nI i)), (0, .ref (38 + n)), (1, .int (nI m))], [.int 0, .ref (49 + n)], hp) _
        refine px_gx (fun _ K9 => px_a 1 (f' := (59, [(3, .int 0), (2, .int (nI i)), (0, .ref (38 + n)), (1, .int (nI m))], [.int 0, .int 0, .ref (49 + n)], hp)) rfl K9) ?_
        refine px_gx (fun _ K9 => px_ias (49 + n) rfl hax (by omega) (by decide) (by show (0 : Nat) < ax.length; omega) K9) ?_
        have hf1__38___n_ : (hp.set (49 + n) (10, ax.set (Int32.toNatClampNeg 0) (.int 0)))[(38 + n)]? = some (4, [.int th, .int w, .int h, .ref (39 + n), .int pn, .ref (40 + n), .ref (41 + n), .ref (42 + n), .int pl, .ref (43 + n), .ref (44 + n), .ref (45 + n), .ref (46 + n), .int fo, .ref (47 + n), .int (nI K), .ref (48 + n), .int 0, .ref (49 + n), .ref (50 + n), .ref (51 + n)]) := px_ne hm (by omega)
        have hf1__48___n_ : (hp.set (49 + n) (10, ax.set (Int32.toNatClampNeg 0) (.int 0)))[(48 + n)]? = some (10, vw) := px_ne hvw (by omega)
        have hf1__49___n_ : (hp.set (49 + n) (10, ax.set (Int32.toNatClampNeg 0) (.int 0)))[(49 + n)]? = some (10, ax.set (Int32.toNatClampNeg 0) (.int 0)) := px_self hax
        have hf1__50___n_ : (hp.set (49 + n) (10, ax.set (Int32.toNatClampNeg 0) (.int 0)))[(50 + n)]? = some (10, am) := px_ne ham (by omega)
        show px_Gx _ _ (60, [(3, .int 0), (2, .int (nI i)), (0, .ref (38 + n)), (1, .int (nI m))], [], (hp.set (49 + n) (10, ax.set (Int32.toNatClampNeg 0) (.int 0)))) _
        refine px_gx (fun _ K9 => px_a 1 (f' := (61, [(3, .int 0), (2, .int (nI i)), (0, .ref (38 + n)), (1, .int (nI m))], [.ref (38 + n)], (hp.set (49 + n) (10, ax.set (Int32.toNatClampNeg 0) (.int 0))))) rfl K9) ?_
        refine px_gx (fun _ K9 => px_gf (38 + n) 45 4 19 (.ref (50 + n)) rfl rfl hf1__38___n_ rfl K9) ?_
        show px_Gx _ _ (64, [(3, .int 0), (2, .int (nI i)), (0, .ref (38 + n)), (1, .int (nI m))], [.ref (50 + n)], (hp.set (49 + n) (10, ax.set (Int32.toNatClampNeg 0) (.int 0)))) _
        refine px_gx (fun _ K9 => px_a 1 (f' := (65, [(3, .int 0), (2, .int (nI i)), (0, .ref (38 + n)), (1, .int (nI m))], [.ref (38 + n), .ref (50 + n)], (hp.set (49 + n) (10, ax.set (Int32.toNatClampNeg 0) (.int 0))))) rfl K9) ?_
        refine px_gx (fun _ K9 => px_gf (38 + n) 132 4 17 (.int 0) rfl rfl hf1__38___n_ rfl K9) ?_
        show px_Gx _ _ (68, [(3, .int 0), (2, .int (nI i)), (0, .ref (38 + n)), (1, .int (nI m))], [.int 0, .ref (50 + n)], (hp.set (49 + n) (10, ax.set (Int32.toNatClampNeg 0) (.int 0)))) _
        refine px_gx (fun _ K9 => px_a 1 (f' := (69, [(3, .int 0), (2, .int (nI i)), (0, .ref (38 + n)), (1, .int (nI m))], [.int 0, .int 0, .ref (50 + n)], (hp.set (49 + n) (10, ax.set (Int32.toNatClampNeg 0) (.int 0))))) rfl K9) ?_
        refine px_gx (fun _ K9 => px_ias (50 + n) rfl hf1__50___n_ (by omega) (by decide) (by show (0 : Nat) < am.length; omega) K9) ?_
        have hf2__38___n_ : (((hp.set (49 + n) (10, ax.set (Int32.toNatClampNeg 0) (.int 0)))).set (50 + n) (10, am.set (Int32.toNatClampNeg 0) (.int 0)))[(38 + n)]? = some (4, [.int th, .int w, .int h, .ref (39 + n), .int pn, .ref (40 + n), .ref (41 + n), .ref (42 + n), .int pl, .ref (43 + n), .ref (44 + n), .ref (45 + n), .ref (46 + n), .int fo, .ref (47 + n), .int (nI K), .ref (48 + n), .int 0, .ref (49 + n), .ref (50 + n), .ref (51 + n)]) := px_ne hf1__38___n_ (by omega)
        have hf2__48___n_ : (((hp.set (49 + n) (10, ax.set (Int32.toNatClampNeg 0) (.int 0)))).set (50 + n) (10, am.set (Int32.toNatClampNeg 0) (.int 0)))[(48 + n)]? = some (10, vw) := px_ne hf1__48___n_ (by omega)
        have hf2__49___n_ : (((hp.set (49 + n) (10, ax.set (Int32.toNatClampNeg 0) (.int 0)))).set (50 + n) (10, am.set (Int32.toNatClampNeg 0) (.int 0)))[(49 + n)]? = some (10, ax.set (Int32.toNatClampNeg 0) (.int 0)) := px_ne hf1__49___n_ (by omega)
        have hf2__50___n_ : (((hp.set (49 + n) (10, ax.set (Int32.toNatClampNeg 0) (.int 0)))).set (50 + n) (10, am.set (Int32.toNatClampNeg 0) (.int 0)))[(50 + n)]? = some (10, am.set (Int32.toNatClampNeg 0) (.int 0)) := px_self hf1__50___n_
        show px_Gx _ _ (70, [(3, .int 0), (2, .int (nI i)), (0, .ref (38 + n)), (1, .int (nI m))], [], (((hp.set (49 + n) (10, ax.set (Int32.toNatClampNeg 0) (.int 0)))).set (50 + n) (10, am.set (Int32.toNatClampNeg 0) (.int 0)))) _
        refine px_gx (fun _ K9 => px_a 2 (f' := (72, [(3, .int 0), (2, .int (nI i)), (0, .ref (38 + n)), (1, .int (nI m))], [.ref (38 + n), .ref (38 + n)], (((hp.set (49 + n) (10, ax.set (Int32.toNatClampNeg 0) (.int 0)))).set (50 + n) (10, am.set (Int32.toNatClampNeg 0) (.int 0))))) rfl K9) ?_
        refine px_gx (fun _ K9 => px_gf (38 + n) 132 4 17 (.int 0) rfl rfl hf2__38___n_ rfl K9) ?_
        show px_Gx _ _ (75, [(3, .int 0), (2, .int (nI i)), (0, .ref (38 + n)), (1, .int (nI m))], [.int 0, .ref (38 + n)], (((hp.set (49 + n) (10, ax.set (Int32.toNatClampNeg 0) (.int 0)))).set (50 + n) (10, am.set (Int32.toNatClampNeg 0) (.int 0)))) _
        refine px_gx (fun _ K9 => px_a 2 (f' := (77, [(3, .int 0), (2, .int (nI i)), (0, .ref (38 + n)), (1, .int (nI m))], [.int 1, .ref (38 + n)], (((hp.set (49 + n) (10, ax.set (Int32.toNatClampNeg 0) (.int 0)))).set (50 + n) (10, am.set (Int32.toNatClampNeg 0) (.int 0))))) rfl K9) ?_
        refine px_gx (fun _ K9 => px_pf (38 + n) 132 4 17 rfl rfl hf2__38___n_ (by omega) (by simp) rfl rfl (by decide) K9) ?_
        have hf3__38___n_ : (((((hp.set (49 + n) (10, ax.set (Int32.toNatClampNeg 0) (.int 0)))).set (50 + n) (10, am.set (Int32.toNatClampNeg 0) (.int 0)))).set (38 + n) (4, [.int th, .int w, .int h, .ref (39 + n), .int pn, .ref (40 + n), .ref (41 + n), .ref (42 + n), .int pl, .ref (43 + n), .ref (44 + n), .ref (45 + n), .ref (46 + n), .int fo, .ref (47 + n), .int (nI K), .ref (48 + n), .int 1, .ref (49 + n), .ref (50 + n), .ref (51 + n)]))[(38 + n)]? = some (4, [.int th, .int w, .int h, .ref (39 + n), .int pn, .ref (40 + n), .ref (41 + n), .ref (42 + n), .int pl, .ref (43 + n), .ref (44 + n), .ref (45 + n), .ref (46 + n), .int fo, .ref (47 + n), .int (nI K), .ref (48 + n), .int 1, .ref (49 + n), .ref (50 + n), .ref (51 + n)]) := px_self hf2__38___n_
        have hf3__48___n_ : (((((hp.set (49 + n) (10, ax.set (Int32.toNatClampNeg 0) (.int 0)))).set (50 + n) (10, am.set (Int32.toNatClampNeg 0) (.int 0)))).set (38 + n) (4, [.int th, .int w, .int h, .ref (39 + n), .int pn, .ref (40 + n), .ref (41 + n), .ref (42 + n), .int pl, .ref (43 + n), .ref (44 + n), .ref (45 + n), .ref (46 + n), .int fo, .ref (47 + n), .int (nI K), .ref (48 + n), .int 1, .ref (49 + n), .ref (50 + n), .ref (51 + n)]))[(48 + n)]? = some (10, vw) := px_ne hf2__48___n_ (by omega)
        have hf3__49___n_ : (((((hp.set (49 + n) (10, ax.set (Int32.toNatClampNeg 0) (.int 0)))).set (50 + n) (10, am.set (Int32.toNatClampNeg 0) (.int 0)))).set (38 + n) (4, [.int th, .int w, .int h, .ref (39 + n), .int pn, .ref (40 + n), .ref (41 + n), .ref (42 + n), .int pl, .ref (43 + n), .ref (44 + n), .ref (45 + n), .ref (46 + n), .int fo, .ref (47 + n), .int (nI K), .ref (48 + n), .int 1, .ref (49 + n), .ref (50 + n), .ref (51 + n)]))[(49 + n)]? = some (10, ax.set (Int32.toNatClampNeg 0) (.int 0)) := px_ne hf2__49___n_ (by omega)
        have hf3__50___n_ : (((((hp.set (49 + n) (10, ax.set (Int32.toNatClampNeg 0) (.int 0)))).set (50 + n) (10, am.set (Int32.toNatClampNeg 0) (.int 0)))).set (38 + n) (4, [.int th, .int w, .int h, .ref (39 + n), .int pn, .ref (40 + n), .ref (41 + n), .ref (42 + n), .int pl, .ref (43 + n), .ref (44 + n), .ref (45 + n), .ref (46 + n), .int fo, .ref (47 + n), .int (nI K), .ref (48 + n), .int 1, .ref (49 + n), .ref (50 + n), .ref (51 + n)]))[(50 + n)]? = some (10, am.set (Int32.toNatClampNeg 0) (.int 0)) := px_ne hf2__50___n_ (by omega)
        show px_Gx _ _ (80, [(3, .int 0), (2, .int (nI i)), (0, .ref (38 + n)), (1, .int (nI m))], [], (((((hp.set (49 + n) (10, ax.set (Int32.toNatClampNeg 0) (.int 0)))).set (50 + n) (10, am.set (Int32.toNatClampNeg 0) (.int 0)))).set (38 + n) (4, [.int th, .int w, .int h, .ref (39 + n), .int pn, .ref (40 + n), .ref (41 + n), .ref (42 + n), .int pl, .ref (43 + n), .ref (44 + n), .ref (45 + n), .ref (46 + n), .int fo, .ref (47 + n), .int (nI K), .ref (48 + n), .int 1, .ref (49 + n), .ref (50 + n), .ref (51 + n)]))) _
        have hm2x := hf3__38___n_
        have hax2 := hf3__49___n_
        have ham2 := hf3__50___n_
        have hvw2 := hf3__48___n_
        generalize (((((hp.set (49 + n) (10, ax.set (Int32.toNatClampNeg 0) (.int 0)))).set (50 + n) (10, am.set (Int32.toNatClampNeg 0) (.int 0)))).set (38 + n) (4, [.int th, .int w, .int h, .ref (39 + n), .int pn, .ref (40 + n), .ref (41 + n), .ref (42 + n), .int pl, .ref (43 + n), .ref (44 + n), .ref (45 + n), .ref (46 + n), .int fo, .ref (47 + n), .int (nI K), .ref (48 + n), .int 1, .ref (49 + n), .ref (50 + n), .ref (51 + n)])) = hp2 at hm2x hax2 ham2 hvw2 ⊢
        refine px_gx (fun _ K9 => px_a 1 (f' := (81, [(3, .int 0), (2, .int (nI i)), (0, .ref (38 + n)), (1, .int (nI m))], [.ref (38 + n)], hp2)) rfl K9) ?_
        refine px_gx (fun _ K9 => px_gf (38 + n) 45 4 19 (.ref (50 + n)) rfl rfl hm2x rfl K9) ?_
        show px_Gx _ _ (84, [(3, .int 0), (2, .int (nI i)), (0, .ref (38 + n)), (1, .int (nI m))], [.ref (50 + n)], hp2) _
        refine px_gx (fun _ K9 => px_a 1 (f' := (85, [(3, .int 0), (2, .int (nI i)), (0, .ref (38 + n)), (1, .int (nI m))], [.ref (38 + n), .ref (50 + n)], hp2)) rfl K9) ?_
        refine px_gx (fun _ K9 => px_gf (38 + n) 132 4 17 (.int 1) rfl rfl hm2x rfl K9) ?_
        show px_Gx _ _ (88, [(3, .int 0), (2, .int (nI i)), (0, .ref (38 + n)), (1, .int (nI m))], [.int 1, .ref (50 + n)], hp2) _
        refine px_gx (fun _ K9 => px_a 3 (f' := (91, [(3, .int 0), (2, .int (nI i)), (0, .ref (38 + n)), (1, .int (nI m))], [.ref (38 + n), .int 0, .ref (50 + n)], hp2)) rfl K9) ?_
        refine px_gx (fun _ K9 => px_gf (38 + n) 45 4 19 (.ref (50 + n)) rfl rfl hm2x rfl K9) ?_
        show px_Gx _ _ (94, [(3, .int 0), (2, .int (nI i)), (0, .ref (38 + n)), (1, .int (nI m))], [.ref (50 + n), .int 0, .ref (50 + n)], hp2) _
        refine px_gx (fun _ K9 => px_a 1 (f' := (95, [(3, .int 0), (2, .int (nI i)), (0, .ref (38 + n)), (1, .int (nI m))], [.ref (38 + n), .ref (50 + n), .int 0, .ref (50 + n)], hp2)) rfl K9) ?_
        refine px_gx (fun _ K9 => px_gf (38 + n) 132 4 17 (.int 1) rfl rfl hm2x rfl K9) ?_
        show px_Gx _ _ (98, [(3, .int 0), (2, .int (nI i)), (0, .ref (38 + n)), (1, .int (nI m))], [.int 1, .ref (50 + n), .int 0, .ref (50 + n)], hp2) _
        refine px_gx (fun _ K9 => px_a 2 (f' := (100, [(3, .int 0), (2, .int (nI i)), (0, .ref (38 + n)), (1, .int (nI m))], [.int 0, .ref (50 + n), .int 0, .ref (50 + n)], hp2)) rfl K9) ?_
        refine px_gx (fun _ K9 => px_al (50 + n) (.int 0) rfl ham2 (Or.inl ⟨rfl, Or.inl rfl⟩) (by decide) (List.getElem?_set_self (by show (0 : Nat) < am.length; omega)) K9) ?_
        show px_Gx _ _ (101, [(3, .int 0), (2, .int (nI i)), (0, .ref (38 + n)), (1, .int (nI m))], [.int 0, .int 0, .ref (50 + n)], hp2) _
        refine px_gx (fun _ K9 => px_a 1 (f' := (102, [(3, .int 0), (2, .int (nI i)), (0, .ref (38 + n)), (1, .int (nI m))], [.ref (38 + n), .int 0, .int 0, .ref (50 + n)], hp2)) rfl K9) ?_
        refine px_gx (fun _ K9 => px_gf (38 + n) 39 4 16 (.ref (48 + n)) rfl rfl hm2x rfl K9) ?_
        show px_Gx _ _ (105, [(3, .int 0), (2, .int (nI i)), (0, .ref (38 + n)), (1, .int (nI m))], [.ref (48 + n), .int 0, .int 0, .ref (50 + n)], hp2) _
        refine px_gx (fun _ K9 => px_a 1 (f' := (106, [(3, .int 0), (2, .int (nI i)), (0, .ref (38 + n)), (1, .int (nI m))], [.int (nI i), .ref (48 + n), .int 0, .int 0, .ref (50 + n)], hp2)) rfl K9) ?_
        refine px_gx (fun _ K9 => px_al (48 + n) (.int 2) rfl hvw2 (Or.inl ⟨rfl, Or.inl rfl⟩) (nI_pos (by omega)) (by rw [nI_clamp (by omega), hz, hl]; rfl) K9) ?_
        show px_Gx _ _ (107, [(3, .int 0), (2, .int (nI i)), (0, .ref (38 + n)), (1, .int (nI m))], [.int 2, .int 0, .int 0, .ref (50 + n)], hp2) _
        refine px_gx (fun _ K9 => px_a 7 (f' := (120, [(3, .int 0), (2, .int (nI i)), (0, .ref (38 + n)), (1, .int (nI m))], [.int (nI m), .int (0 + ((nI m) - 1)), .int 0, .ref (50 + n)], hp2)) rfl K9) ?_
        refine px_gx (fun _ K9 => px_irem rfl (nI_ne0 (by omega) (by omega)) K9) ?_
        have e121 : ((0 + ((nI m) - 1)) - (0 + ((nI m) - 1)) / (nI m) * (nI m)) = nI (m - 1) := by rw [show nI m - 1 = nI (m - 1) from pk_sub (a := m) (b := 1) (by omega), Int32.zero_add, pk_rem (by omega) (by omega) (by omega), Nat.mod_eq_of_lt (by omega)]
        rw [e121]
        refine px_gx (fun _ K9 => px_ias (50 + n) rfl ham2 (by omega) (by decide) (by first | (show (0 : Nat) < _; rw [List.length_set]; omega) | (rw [List.length_set]; omega) | omega) K9) ?_
        have hf1__38___n_ : (hp2.set (50 + n) (10, (am.set (Int32.toNatClampNeg 0) (.int 0)).set (Int32.toNatClampNeg 0) (.int (nI (m - 1)))))[(38 + n)]? = some (4, [.int th, .int w, .int h, .ref (39 + n), .int pn, .ref (40 + n), .ref (41 + n), .ref (42 + n), .int pl, .ref (43 + n), .ref (44 + n), .ref (45 + n), .ref (46 + n), .int fo, .ref (47 + n), .int (nI K), .ref (48 + n), .int 1, .ref (49 + n), .ref (50 + n), .ref (51 + n)]) := px_ne hm2x (by omega)
        have hf1__48___n_ : (hp2.set (50 + n) (10, (am.set (Int32.toNatClampNeg 0) (.int 0)).set (Int32.toNatClampNeg 0) (.int (nI (m - 1)))))[(48 + n)]? = some (10, vw) := px_ne hvw2 (by omega)
        have hf1__49___n_ : (hp2.set (50 + n) (10, (am.set (Int32.toNatClampNeg 0) (.int 0)).set (Int32.toNatClampNeg 0) (.int (nI (m - 1)))))[(49 + n)]? = some (10, ax.set (Int32.toNatClampNeg 0) (.int 0)) := px_ne hax2 (by omega)
        have hf1__50___n_ : (hp2.set (50 + n) (10, (am.set (Int32.toNatClampNeg 0) (.int 0)).set (Int32.toNatClampNeg 0) (.int (nI (m - 1)))))[(50 + n)]? = some (10, (am.set (Int32.toNatClampNeg 0) (.int 0)).set (Int32.toNatClampNeg 0) (.int (nI (m - 1)))) := px_self ham2
        show px_Gx _ _ (122, [(3, .int 0), (2, .int (nI i)), (0, .ref (38 + n)), (1, .int (nI m))], [], (hp2.set (50 + n) (10, (am.set (Int32.toNatClampNeg 0) (.int 0)).set (Int32.toNatClampNeg 0) (.int (nI (m - 1)))))) _
        refine px_gx (fun _ K9 => px_a 1 (f' := (123, [(3, .int 0), (2, .int (nI i)), (0, .ref (38 + n)), (1, .int (nI m))], [.ref (38 + n)], (hp2.set (50 + n) (10, (am.set (Int32.toNatClampNeg 0) (.int 0)).set (Int32.toNatClampNeg 0) (.int (nI (m - 1))))))) rfl K9) ?_
        refine px_gx (fun _ K9 => px_gf (38 + n) 45 4 19 (.ref (50 + n)) rfl rfl hf1__38___n_ rfl K9) ?_
        show px_Gx _ _ (126, [(3, .int 0), (2, .int (nI i)), (0, .ref (38 + n)), (1, .int (nI m))], [.ref (50 + n)], (hp2.set (50 + n) (10, (am.set (Int32.toNatClampNeg 0) (.int 0)).set (Int32.toNatClampNeg 0) (.int (nI (m - 1)))))) _
        refine px_gx (fun _ K9 => px_a 1 (f' := (127, [(3, .int 0), (2, .int (nI i)), (0, .ref (38 + n)), (1, .int (nI m))], [.ref (38 + n), .ref (50 + n)], (hp2.set (50 + n) (10, (am.set (Int32.toNatClampNeg 0) (.int 0)).set (Int32.toNatClampNeg 0) (.int (nI (m - 1))))))) rfl K9) ?_
        refine px_gx (fun _ K9 => px_gf (38 + n) 132 4 17 (.int 1) rfl rfl hf1__38___n_ rfl K9) ?_
        show px_Gx _ _ (130, [(3, .int 0), (2, .int (nI i)), (0, .ref (38 + n)), (1, .int (nI m))], [.int 1, .ref (50 + n)], (hp2.set (50 + n) (10, (am.set (Int32.toNatClampNeg 0) (.int 0)).set (Int32.toNatClampNeg 0) (.int (nI (m - 1)))))) _
        refine px_gx (fun _ K9 => px_a 2 (f' := (132, [(3, .int 0), (2, .int (nI i)), (0, .ref (38 + n)), (1, .int (nI m))], [.int 0, .ref (50 + n)], (hp2.set (50 + n) (10, (am.set (Int32.toNatClampNeg 0) (.int 0)).set (Int32.toNatClampNeg 0) (.int (nI (m - 1))))))) rfl K9) ?_
        refine px_gx (fun _ K9 => px_al (50 + n) (.int (nI (m - 1))) rfl hf1__50___n_ (Or.inl ⟨rfl, Or.inl rfl⟩) (by decide) (List.getElem?_set_self (by first | (show (0 : Nat) < _; rw [List.length_set]; omega) | (rw [List.length_set]; omega) | omega)) K9) ?_
        show px_Gx _ _ (133, [(3, .int 0), (2, .int (nI i)), (0, .ref (38 + n)), (1, .int (nI m))], [.int (nI (m - 1))], (hp2.set (50 + n) (10, (am.set (Int32.toNatClampNeg 0) (.int 0)).set (Int32.toNatClampNeg 0) (.int (nI (m - 1)))))) _
        refine px_gx (fun _ K9 => px_b1 true 146 rfl rfl (decide_eq_true (nI_ne0 (by omega) (by omega))) K9) ?_
        show px_Gx _ _ (146, [(3, .int 0), (2, .int (nI i)), (0, .ref (38 + n)), (1, .int (nI m))], [], (hp2.set (50 + n) (10, (am.set (Int32.toNatClampNeg 0) (.int 0)).set (Int32.toNatClampNeg 0) (.int (nI (m - 1)))))) _
        refine px_gx (fun _ K9 => px_a 2 (f' := (11, [(2, .int ((nI i) + 1)), (3, .int 0), (0, .ref (38 + n)), (1, .int (nI m))], [], (hp2.set (50 + n) (10, (am.set (Int32.toNatClampNeg 0) (.int 0)).set (Int32.toNatClampNeg 0) (.int (nI (m - 1))))))) rfl K9) ?_
        rw [nI_1]
        refine px_wk [(2, .int (nI (i + 1))), (0, .ref (38 + n)), (1, .int (nI m))] ⟨rfl, rfl, rfl, trivial⟩ ?_
        have es : x_fd m f (i + 1) = (0, (m - 1)) :: [] := by show x_psh m (f i % 2) (x_am m (f i)) _ = _; rw [hl, est]; rfl
        exact ih (i + 1) _ _ _ (by rw [es]; exact hf1__38___n_) hf1__49___n_ hf1__50___n_ hf1__48___n_ (by first | exact la | (rw [List.length_set]; exact la)) (by first | exact lm | (repeat rw [List.length_set]); exact lm) (by rw [es]; exact ⟨List.getElem?_set_self (by show (0 : Nat) < _; omega), List.getElem?_set_self (by (repeat rw [List.length_set]); show (0 : Nat) < _; omega), trivial⟩) (by omega)
      | cons p r =>
        rw [est] at hm hr h84
        have hl2 : (p :: r).length = r.length + 1 := rfl
        rw [hl2] at hm h84
        have hso := x_fd_so (f := f) hm2 i
        rw [est] at hso
        have hpp := hso p List.mem_cons_self
        by_cases h1 : p.1 = 0
        · skip
          refine px_gx (fun _ K9 => px_a 2 (f' := (13, [(2, .int (nI i)), (0, .ref (38 + n)), (1, .int (nI m))], [.ref (38 + n), .int (nI i)], hp)) rfl K9) ?_
          refine px_gx (fun _ K9 => px_gf (38 + n) 122 4 15 (.int (nI K)) rfl rfl hm rfl K9) ?_
          show px_Gx _ _ (16, [(2, .int (nI i)), (0, .ref (38 + n)), (1, .int (nI m))], [.int (nI K), .int (nI i)], hp) _
          refine px_gx (fun _ K9 => px_b2 false 152 rfl rfl (decide_eq_false (nI_ge (by omega) (by omega))) K9) ?_
          show px_Gx _ _ (19, [(2, .int (nI i)), (0, .ref (38 + n)), (1, .int (nI m))], [], hp) _
          refine px_gx (fun _ K9 => px_a 1 (f' := (20, [(2, .int (nI i)), (0, .ref (38 + n)), (1, .int (nI m))], [.ref (38 + n)], hp)) rfl K9) ?_
          refine px_gx (fun _ K9 => px_gf (38 + n) 39 4 16 (.ref (48 + n)) rfl rfl hm rfl K9) ?_
          show px_Gx _ _ (23, [(2, .int (nI i)), (0, .ref (38 + n)), (1, .int (nI m))], [.ref (48 + n)], hp) _
          refine px_gx (fun _ K9 => px_a 1 (f' := (24, [(2, .int (nI i)), (0, .ref (38 + n)), (1, .int (nI m))], [.int (nI i), .ref (48 + n)], hp)) rfl K9) ?_
          refine px_gx (fun _ K9 => px_al (48 + n) (.int 2) rfl hvw (Or.inl ⟨rfl, Or.inl rfl⟩) (nI_pos (by omega)) (by rw [nI_clamp (by omega), hz, hl]; rfl) K9) ?_
          show px_Gx _ _ (25, [(2, .int (nI i)), (0, .ref (38 + n)), (1, .int (nI m))], [.int 2], hp) _
          refine px_gx (fun _ K9 => px_a 4 (f' := (29, [(3, .int 0), (2, .int (nI i)), (0, .ref (38 + n)), (1, .int (nI m))], [.ref (38 + n)], hp)) rfl K9) ?_
          refine px_gx (fun _ K9 => px_gf (38 + n) 132 4 17 (.int (nI (r.length + 1))) rfl rfl hm rfl K9) ?_
          show px_Gx _ _ (32, [(3, .int 0), (2, .int (nI i)), (0, .ref (38 + n)), (1, .int (nI m))], [.int (nI (r.length + 1))], hp) _
          refine px_gx (fun _ K9 => px_b1 false 50 rfl rfl (decide_eq_false (nI_ne0 (by omega) (by omega))) K9) ?_
          show px_Gx _ _ (35, [(3, .int 0), (2, .int (nI i)), (0, .ref (38 + n)), (1, .int (nI m))], [], hp) _
          refine px_gx (fun _ K9 => px_a 1 (f' := (36, [(3, .int 0), (2, .int (nI i)), (0, .ref (38 + n)), (1, .int (nI m))], [.ref (38 + n)], hp)) rfl K9) ?_
          refine px_gx (fun _ K9 => px_gf (38 + n) 42 4 18 (.ref (49 + n)) rfl rfl hm rfl K9) ?_
          show px_Gx _ _ (39, [(3, .int 0), (2, .int (nI i)), (0, .ref (38 + n)), (1, .int (nI m))], [.ref (49 + n)], hp) _
          refine px_gx (fun _ K9 => px_a 1 (f' := (40, [(3, .int 0), (2, .int (nI i)), (0, .ref (38 + n)), (1, .int (nI m))], [.ref (38 + n), .ref (49 + n)], hp)) rfl K9) ?_
          refine px_gx (fun _ K9 => px_gf (38 + n) 132 4 17 (.int (nI (r.length + 1))) rfl rfl hm rfl K9) ?_
          show px_Gx _ _ (43, [(3, .int 0), (2, .int (nI i)), (0, .ref (38 + n)), (1, .int (nI m))], [.int (nI (r.length + 1)), .ref (49 + n)], hp) _
          refine px_gx (fun _ K9 => px_a 2 (f' := (45, [(3, .int 0), (2, .int (nI i)), (0, .ref (38 + n)), (1, .int (nI m))], [.int ((nI (r.length + 1)) - 1), .ref (49 + n)], hp)) rfl K9) ?_
          refine px_gx (fun _ K9 => px_al (49 + n) (.int (nI p.1)) rfl hax (Or.inl ⟨rfl, Or.inl rfl⟩) (by rw [nI_pred]; exact nI_pos (by omega)) (by rw [nI_pred, nI_clamp (by omega)]; exact hr.1) K9) ?_
          show px_Gx _ _ (46, [(3, .int 0), (2, .int (nI i)), (0, .ref (38 + n)), (1, .int (nI m))], [.int (nI p.1)], hp) _
          refine px_gx (fun _ K9 => px_a 1 (f' := (47, [(3, .int 0), (2, .int (nI i)), (0, .ref (38 + n)), (1, .int (nI m))], [.int 0, .int (nI p.1)], hp)) rfl K9) ?_
          refine px_gx (fun _ K9 => px_b2 true 80 rfl rfl (decide_eq_true (by rw [h1]; rfl)) K9) ?_
          show px_Gx _ _ (80, [(3, .int 0), (2, .int (nI i)), (0, .ref (38 + n)), (1, .int (nI m))], [], hp) _
          have hm2x := hm
          have hax2 := hax
          have ham2 := ham
          have hvw2 := hvw
          refine px_gx (fun _ K9 => px_a 1 (f' := (81, [(3, .int 0), (2, .int (nI i)), (0, .ref (38 + n)), (1, .int (nI m))], [.ref (38 + n)], hp)) rfl K9) ?_
          refine px_gx (fun _ K9 => px_gf (38 + n) 45 4 19 (.ref (50 + n)) rfl rfl hm2x rfl K9) ?_
          show px_Gx _ _ (84, [(3, .int 0), (2, .int (nI i)), (0, .ref (38 + n)), (1, .int (nI m))], [.ref (50 + n)], hp) _
          refine px_gx (fun _ K9 => px_a 1 (f' := (85, [(3, .int 0), (2, .int (nI i)), (0, .ref (38 + n)), (1, .int (nI m))], [.ref (38 + n), .ref (50 + n)], hp)) rfl K9) ?_
          refine px_gx (fun _ K9 => px_gf (38 + n) 132 4 17 (.int (nI (r.length + 1))) rfl rfl hm2x rfl K9) ?_
          show px_Gx _ _ (88, [(3, .int 0), (2, .int (nI i)), (0, .ref (38 + n)), (1, .int (nI m))], [.int (nI (r.length + 1)), .ref (50 + n)], hp) _
          refine px_gx (fun _ K9 => px_a 3 (f' := (91, [(3, .int 0), (2, .int (nI i)), (0, .ref (38 + n)), (1, .int (nI m))], [.ref (38 + n), .int ((nI (r.length + 1)) - 1), .ref (50 + n)], hp)) rfl K9) ?_
          refine px_gx (fun _ K9 => px_gf (38 + n) 45 4 19 (.ref (50 + n)) rfl rfl hm2x rfl K9) ?_
          show px_Gx _ _ (94, [(3, .int 0), (2, .int (nI i)), (0, .ref (38 + n)), (1, .int (nI m))], [.ref (50 + n), .int ((nI (r.length + 1)) - 1), .ref (50 + n)], hp) _
          refine px_gx (fun _ K9 => px_a 1 (f' := (95, [(3, .int 0), (2, .int (nI i)), (0, .ref (38 + n)), (1, .int (nI m))], [.ref (38 + n), .ref (50 + n), .int ((nI (r.length + 1)) - 1), .ref (50 + n)], hp)) rfl K9) ?_
          refine px_gx (fun _ K9 => px_gf (38 + n) 132 4 17 (.int (nI (r.length + 1))) rfl rfl hm2x rfl K9) ?_
          show px_Gx _ _ (98, [(3, .int 0), (2, .int (nI i)), (0, .ref (38 + n)), (1, .int (nI m))], [.int (nI (r.length + 1)), .ref (50 + n), .int ((nI (r.length + 1)) - 1), .ref (50 + n)], hp) _
          refine px_gx (fun _ K9 => px_a 2 (f' := (100, [(3, .int 0), (2, .int (nI i)), (0, .ref (38 + n)), (1, .int (nI m))], [.int ((nI (r.length + 1)) - 1), .ref (50 + n), .int ((nI (r.length + 1)) - 1), .ref (50 + n)], hp)) rfl K9) ?_
          refine px_gx (fun _ K9 => px_al (50 + n) (.int (nI p.2)) rfl ham2 (Or.inl ⟨rfl, Or.inl rfl⟩) (by rw [nI_pred]; exact nI_pos (by omega)) (by rw [nI_pred, nI_clamp (by omega)]; exact hr.2.1) K9) ?_
          show px_Gx _ _ (101, [(3, .int 0), (2, .int (nI i)), (0, .ref (38 + n)), (1, .int (nI m))], [.int (nI p.2), .int ((nI (r.length + 1)) - 1), .ref (50 + n)], hp) _
          refine px_gx (fun _ K9 => px_a 1 (f' := (102, [(3, .int 0), (2, .int (nI i)), (0, .ref (38 + n)), (1, .int (nI m))], [.ref (38 + n), .int (nI p.2), .int ((nI (r.length + 1)) - 1), .ref (50 + n)], hp)) rfl K9) ?_
          refine px_gx (fun _ K9 => px_gf (38 + n) 39 4 16 (.ref (48 + n)) rfl rfl hm2x rfl K9) ?_
          show px_Gx _ _ (105, [(3, .int 0), (2, .int (nI i)), (0, .ref (38 + n)), (1, .int (nI m))], [.ref (48 + n), .int (nI p.2), .int ((nI (r.length + 1)) - 1), .ref (50 + n)], hp) _
          refine px_gx (fun _ K9 => px_a 1 (f' := (106, [(3, .int 0), (2, .int (nI i)), (0, .ref (38 + n)), (1, .int (nI m))], [.int (nI i), .ref (48 + n), .int (nI p.2), .int ((nI (r.length + 1)) - 1), .ref (50 + n)], hp)) rfl K9) ?_
          refine px_gx (fun _ K9 => px_al (48 + n) (.int 2) rfl hvw2 (Or.inl ⟨rfl, Or.inl rfl⟩) (nI_pos (by omega)) (by rw [nI_clamp (by omega), hz, hl]; rfl) K9) ?_
          show px_Gx _ _ (107, [(3, .int 0), (2, .int (nI i)), (0, .ref (38 + n)), (1, .int (nI m))], [.int 2, .int (nI p.2), .int ((nI (r.length + 1)) - 1), .ref (50 + n)], hp) _
          refine px_gx (fun _ K9 => px_a 7 (f' := (120, [(3, .int 0), (2, .int (nI i)), (0, .ref (38 + n)), (1, .int (nI m))], [.int (nI m), .int ((nI p.2) + ((nI m) - 1)), .int ((nI (r.length + 1)) - 1), .ref (50 + n)], hp)) rfl K9) ?_
          refine px_gx (fun _ K9 => px_irem rfl (nI_ne0 (by omega) (by omega)) K9) ?_
          have e121 : (((nI p.2) + ((nI m) - 1)) - ((nI p.2) + ((nI m) - 1)) / (nI m) * (nI m)) = nI ((p.2 + (m - 1)) % m) := by rw [show nI m - 1 = nI (m - 1) from pk_sub (a := m) (b := 1) (by omega), nI_add, pk_rem (by omega) (by omega) (by omega)]
          rw [e121]
          have emc := x_modc (m := m) (p := p.2) (v := (m - 1)) (by omega) (by omega) (by omega)
          by_cases h2 : p.2 + (m - 1) = m
          · refine px_gx (fun _ K9 => px_ias (50 + n) rfl ham2 (by omega) (by rw [nI_pred]; exact nI_pos (by omega)) (by rw [nI_pred, nI_clamp (by omega)]; first | (show (0 : Nat) < _; rw [List.length_set]; omega) | (rw [List.length_set]; omega) | omega) K9) ?_
            have hf1__38___n_ : (hp.set (50 + n) (10, (am).set (Int32.toNatClampNeg ((nI (r.length + 1)) - 1)) (.int (nI ((p.2 + (m - 1)) % m)))))[(38 + n)]? = some (4, [.int th, .int w, .int h, .ref (39 + n), .int pn, .ref (40 + n), .ref (41 + n), .ref (42 + n), .int pl, .ref (43 + n), .ref (44 + n), .ref (45 + n), .ref (46 + n), .int fo, .ref (47 + n), .int (nI K), .ref (48 + n), .int (nI (r.length + 1)), .ref (49 + n), .ref (50 + n), .ref (51 + n)]) := px_ne hm2x (by omega)
            have hf1__48___n_ : (hp.set (50 + n) (10, (am).set (Int32.toNatClampNeg ((nI (r.length + 1)) - 1)) (.int (nI ((p.2 + (m - 1)) % m)))))[(48 + n)]? = some (10, vw) := px_ne hvw2 (by omega)
            have hf1__49___n_ : (hp.set (50 + n) (10, (am).set (Int32.toNatClampNeg ((nI (r.length + 1)) - 1)) (.int (nI ((p.2 + (m - 1)) % m)))))[(49 + n)]? = some (10, ax) := px_ne hax2 (by omega)
            have hf1__50___n_ : (hp.set (50 + n) (10, (am).set (Int32.toNatClampNeg ((nI (r.length + 1)) - 1)) (.int (nI ((p.2 + (m - 1)) % m)))))[(50 + n)]? = some (10, (am).set (Int32.toNatClampNeg ((nI (r.length + 1)) - 1)) (.int (nI ((p.2 + (m - 1)) % m)))) := px_self ham2
            show px_Gx _ _ (122, [(3, .int 0), (2, .int (nI i)), (0, .ref (38 + n)), (1, .int (nI m))], [], (hp.set (50 + n) (10, (am).set (Int32.toNatClampNeg ((nI (r.length + 1)) - 1)) (.int (nI ((p.2 + (m - 1)) % m)))))) _
            refine px_gx (fun _ K9 => px_a 1 (f' := (123, [(3, .int 0), (2, .int (nI i)), (0, .ref (38 + n)), (1, .int (nI m))], [.ref (38 + n)], (hp.set (50 + n) (10, (am).set (Int32.toNatClampNeg ((nI (r.length + 1)) - 1)) (.int (nI ((p.2 + (m - 1)) % m))))))) rfl K9) ?_
            refine px_gx (fun _ K9 => px_gf (38 + n) 45 4 19 (.ref (50 + n)) rfl rfl hf1__38___n_ rfl K9) ?_
            show px_Gx _ _ (126, [(3, .int 0), (2, .int (nI i)), (0, .ref (38 + n)), (1, .int (nI m))], [.ref (50 + n)], (hp.set (50 + n) (10, (am).set (Int32.toNatClampNeg ((nI (r.length + 1)) - 1)) (.int (nI ((p.2 + (m - 1)) % m)))))) _
            refine px_gx (fun _ K9 => px_a 1 (f' := (127, [(3, .int 0), (2, .int (nI i)), (0, .ref (38 + n)), (1, .int (nI m))], [.ref (38 + n), .ref (50 + n)], (hp.set (50 + n) (10, (am).set (Int32.toNatClampNeg ((nI (r.length + 1)) - 1)) (.int (nI ((p.2 + (m - 1)) % m))))))) rfl K9) ?_
            refine px_gx (fun _ K9 => px_gf (38 + n) 132 4 17 (.int (nI (r.length + 1))) rfl rfl hf1__38___n_ rfl K9) ?_
            show px_Gx _ _ (130, [(3, .int 0), (2, .int (nI i)), (0, .ref (38 + n)), (1, .int (nI m))], [.int (nI (r.length + 1)), .ref (50 + n)], (hp.set (50 + n) (10, (am).set (Int32.toNatClampNeg ((nI (r.length + 1)) - 1)) (.int (nI ((p.2 + (m - 1)) % m)))))) _
            refine px_gx (fun _ K9 => px_a 2 (f' := (132, [(3, .int 0), (2, .int (nI i)), (0, .ref (38 + n)), (1, .int (nI m))], [.int ((nI (r.length + 1)) - 1), .ref (50 + n)], (hp.set (50 + n) (10, (am).set (Int32.toNatClampNeg ((nI (r.length + 1)) - 1)) (.int (nI ((p.2 + (m - 1)) % m))))))) rfl K9) ?_
            refine px_gx (fun _ K9 => px_al (50 + n) (.int (nI ((p.2 + (m - 1)) % m))) rfl hf1__50___n_ (Or.inl ⟨rfl, Or.inl rfl⟩) (by rw [nI_pred]; exact nI_pos (by omega)) (List.getElem?_set_self (by rw [nI_pred, nI_clamp (by omega)]; first | (show (0 : Nat) < _; rw [List.length_set]; omega) | (rw [List.length_set]; omega) | omega)) K9) ?_
            show px_Gx _ _ (133, [(3, .int 0), (2, .int (nI i)), (0, .ref (38 + n)), (1, .int (nI m))], [.int (nI ((p.2 + (m - 1)) % m))], (hp.set (50 + n) (10, (am).set (Int32.toNatClampNeg ((nI (r.length + 1)) - 1)) (.int (nI ((p.2 + (m - 1)) % m)))))) _
            refine px_gx (fun _ K9 => px_b1 false 146 rfl rfl (decide_eq_false (not_not_intro (by rw [emc, if_pos h2]; rfl))) K9) ?_
            show px_Gx _ _ (136, [(3, .int 0), (2, .int (nI i)), (0, .ref (38 + n)), (1, .int (nI m))], [], (hp.set (50 + n) (10, (am).set (Int32.toNatClampNeg ((nI (r.length + 1)) - 1)) (.int (nI ((p.2 + (m - 1)) % m)))))) _
            refine px_gx (fun _ K9 => px_a 2 (f' := (138, [(3, .int 0), (2, .int (nI i)), (0, .ref (38 + n)), (1, .int (nI m))], [.ref (38 + n), .ref (38 + n)], (hp.set (50 + n) (10, (am).set (Int32.toNatClampNeg ((nI (r.length + 1)) - 1)) (.int (nI ((p.2 + (m - 1)) % m))))))) rfl K9) ?_
            refine px_gx (fun _ K9 => px_gf (38 + n) 132 4 17 (.int (nI (r.length + 1))) rfl rfl hf1__38___n_ rfl K9) ?_
            show px_Gx _ _ (141, [(3, .int 0), (2, .int (nI i)), (0, .ref (38 + n)), (1, .int (nI m))], [.int (nI (r.length + 1)), .ref (38 + n)], (hp.set (50 + n) (10, (am).set (Int32.toNatClampNeg ((nI (r.length + 1)) - 1)) (.int (nI ((p.2 + (m - 1)) % m)))))) _
            refine px_gx (fun _ K9 => px_a 2 (f' := (143, [(3, .int 0), (2, .int (nI i)), (0, .ref (38 + n)), (1, .int (nI m))], [.int ((nI (r.length + 1)) - 1), .ref (38 + n)], (hp.set (50 + n) (10, (am).set (Int32.toNatClampNeg ((nI (r.length + 1)) - 1)) (.int (nI ((p.2 + (m - 1)) % m))))))) rfl K9) ?_
            refine px_gx (fun _ K9 => px_pf (38 + n) 132 4 17 rfl rfl hf1__38___n_ (by omega) (by simp) rfl rfl (by decide) K9) ?_
            have hf2__38___n_ : (((hp.set (50 + n) (10, (am).set (Int32.toNatClampNeg ((nI (r.length + 1)) - 1)) (.int (nI ((p.2 + (m - 1)) % m)))))).set (38 + n) (4, [.int th, .int w, .int h, .ref (39 + n), .int pn, .ref (40 + n), .ref (41 + n), .ref (42 + n), .int pl, .ref (43 + n), .ref (44 + n), .ref (45 + n), .ref (46 + n), .int fo, .ref (47 + n), .int (nI K), .ref (48 + n), .int ((nI (r.length + 1)) - 1), .ref (49 + n), .ref (50 + n), .ref (51 + n)]))[(38 + n)]? = some (4, [.int th, .int w, .int h, .ref (39 + n), .int pn, .ref (40 + n), .ref (41 + n), .ref (42 + n), .int pl, .ref (43 + n), .ref (44 + n), .ref (45 + n), .ref (46 + n), .int fo, .ref (47 + n), .int (nI K), .ref (48 + n), .int ((nI (r.length + 1)) - 1), .ref (49 + n), .ref (50 + n), .ref (51 + n)]) := px_self hf1__38___n_
            have hf2__48___n_ : (((hp.set (50 + n) (10, (am).set (Int32.toNatClampNeg ((nI (r.length + 1)) - 1)) (.int (nI ((p.2 + (m - 1)) % m)))))).set (38 + n) (4, [.int th, .int w, .int h, .ref (39 + n), .int pn, .ref (40 + n), .ref (41 + n), .ref (42 + n), .int pl, .ref (43 + n), .ref (44 + n), .ref (45 + n), .ref (46 + n), .int fo, .ref (47 + n), .int (nI K), .ref (48 + n), .int ((nI (r.length + 1)) - 1), .ref (49 + n), .ref (50 + n), .ref (51 + n)]))[(48 + n)]? = some (10, vw) := px_ne hf1__48___n_ (by omega)
            have hf2__49___n_ : (((hp.set (50 + n) (10, (am).set (Int32.toNatClampNeg ((nI (r.length + 1)) - 1)) (.int (nI ((p.2 + (m - 1)) % m)))))).set (38 + n) (4, [.int th, .int w, .int h, .ref (39 + n), .int pn, .ref (40 + n), .ref (41 + n), .ref (42 + n), .int pl, .ref (43 + n), .ref (44 + n), .ref (45 + n), .ref (46 + n), .int fo, .ref (47 + n), .int (nI K), .ref (48 + n), .int ((nI (r.length + 1)) - 1), .ref (49 + n), .ref (50 + n), .ref (51 + n)]))[(49 + n)]? = some (10, ax) := px_ne hf1__49___n_ (by omega)
            have hf2__50___n_ : (((hp.set (50 + n) (10, (am).set (Int32.toNatClampNeg ((nI (r.length + 1)) - 1)) (.int (nI ((p.2 + (m - 1)) % m)))))).set (38 + n) (4, [.int th, .int w, .int h, .ref (39 + n), .int pn, .ref (40 + n), .ref (41 + n), .ref (42 + n), .int pl, .ref (43 + n), .ref (44 + n), .ref (45 + n), .ref (46 + n), .int fo, .ref (47 + n), .int (nI K), .ref (48 + n), .int ((nI (r.length + 1)) - 1), .ref (49 + n), .ref (50 + n), .ref (51 + n)]))[(50 + n)]? = some (10, (am).set (Int32.toNatClampNeg ((nI (r.length + 1)) - 1)) (.int (nI ((p.2 + (m - 1)) % m)))) := px_ne hf1__50___n_ (by omega)
            show px_Gx _ _ (146, [(3, .int 0), (2, .int (nI i)), (0, .ref (38 + n)), (1, .int (nI m))], [], (((hp.set (50 + n) (10, (am).set (Int32.toNatClampNeg ((nI (r.length + 1)) - 1)) (.int (nI ((p.2 + (m - 1)) % m)))))).set (38 + n) (4, [.int th, .int w, .int h, .ref (39 + n), .int pn, .ref (40 + n), .ref (41 + n), .ref (42 + n), .int pl, .ref (43 + n), .ref (44 + n), .ref (45 + n), .ref (46 + n), .int fo, .ref (47 + n), .int (nI K), .ref (48 + n), .int ((nI (r.length + 1)) - 1), .ref (49 + n), .ref (50 + n), .ref (51 + n)]))) _
            refine px_gx (fun _ K9 => px_a 2 (f' := (11, [(2, .int ((nI i) + 1)), (3, .int 0), (0, .ref (38 + n)), (1, .int (nI m))], [], (((hp.set (50 + n) (10, (am).set (Int32.toNatClampNeg ((nI (r.length + 1)) - 1)) (.int (nI ((p.2 + (m - 1)) % m)))))).set (38 + n) (4, [.int th, .int w, .int h, .ref (39 + n), .int pn, .ref (40 + n), .ref (41 + n), .ref (42 + n), .int pl, .ref (43 + n), .ref (44 + n), .ref (45 + n), .ref (46 + n), .int fo, .ref (47 + n), .int (nI K), .ref (48 + n), .int ((nI (r.length + 1)) - 1), .ref (49 + n), .ref (50 + n), .ref (51 + n)])))) rfl K9) ?_
            rw [nI_1]
            refine px_wk [(2, .int (nI (i + 1))), (0, .ref (38 + n)), (1, .int (nI m))] ⟨rfl, rfl, rfl, trivial⟩ ?_
            have es : x_fd m f (i + 1) = r := by show x_psh m (f i % 2) (x_am m (f i)) _ = _; rw [hl, est]; show (if p.1 = _ then _ else _) = _; rw [if_pos h1]; exact if_pos h2
            exact ih (i + 1) _ _ _ (by rw [es]; exact (nI_pred r.length) ▸ hf2__38___n_) hf2__49___n_ hf2__50___n_ hf2__48___n_ (by first | exact la | (rw [List.length_set]; exact la)) (by first | exact lm | (repeat rw [List.length_set]); exact lm) (by rw [es]; rw [nI_pred, nI_clamp (by omega)]; exact x_rep_setb hr.2.2 (Nat.le_refl _)) (by omega)
          · refine px_gx (fun _ K9 => px_ias (50 + n) rfl ham2 (by omega) (by rw [nI_pred]; exact nI_pos (by omega)) (by rw [nI_pred, nI_clamp (by omega)]; first | (show (0 : Nat) < _; rw [List.length_set]; omega) | (rw [List.length_set]; omega) | omega) K9) ?_
            have hf1__38___n_ : (hp.set (50 + n) (10, (am).set (Int32.toNatClampNeg ((nI (r.length + 1)) - 1)) (.int (nI ((p.2 + (m - 1)) % m)))))[(38 + n)]? = some (4, [.int th, .int w, .int h, .ref (39 + n), .int pn, .ref (40 + n), .ref (41 + n), .ref (42 + n), .int pl, .ref (43 + n), .ref (44 + n), .ref (45 + n), .ref (46 + n), .int fo, .ref (47 + n), .int (nI K), .ref (48 + n), .int (nI (r.length + 1)), .ref (49 + n), .ref (50 + n), .ref (51 + n)]) := px_ne hm2x (by omega)
            have hf1__48___n_ : (hp.set (50 + n) (10, (am).set (Int32.toNatClampNeg ((nI (r.length + 1)) - 1)) (.int (nI ((p.2 + (m - 1)) % m)))))[(48 + n)]? = some (10, vw) := px_ne hvw2 (by omega)
            have hf1__49___n_ : (hp.set (50 + n) (10, (am).set (Int32.toNatClampNeg ((nI (r.length + 1)) - 1)) (.int (nI ((p.2 + (m - 1)) % m)))))[(49 + n)]? = some (10, ax) := px_ne hax2 (by omega)
            have hf1__50___n_ : (hp.set (50 + n) (10, (am).set (Int32.toNatClampNeg ((nI (r.length + 1)) - 1)) (.int (nI ((p.2 + (m - 1)) % m)))))[(50 + n)]? = some (10, (am).set (Int32.toNatClampNeg ((nI (r.length + 1)) - 1)) (.int (nI ((p.2 + (m - 1)) % m)))) := px_self ham2
            show px_Gx _ _ (122, [(3, .int 0), (2, .int (nI i)), (0, .ref (38 + n)), (1, .int (nI m))], [], (hp.set (50 + n) (10, (am).set (Int32.toNatClampNeg ((nI (r.length + 1)) - 1)) (.int (nI ((p.2 + (m - 1)) % m)))))) _
            refine px_gx (fun _ K9 => px_a 1 (f' := (123, [(3, .int 0), (2, .int (nI i)), (0, .ref (38 + n)), (1, .int (nI m))], [.ref (38 + n)], (hp.set (50 + n) (10, (am).set (Int32.toNatClampNeg ((nI (r.length + 1)) - 1)) (.int (nI ((p.2 + (m - 1)) % m))))))) rfl K9) ?_
            refine px_gx (fun _ K9 => px_gf (38 + n) 45 4 19 (.ref (50 + n)) rfl rfl hf1__38___n_ rfl K9) ?_
            show px_Gx _ _ (126, [(3, .int 0), (2, .int (nI i)), (0, .ref (38 + n)), (1, .int (nI m))], [.ref (50 + n)], (hp.set (50 + n) (10, (am).set (Int32.toNatClampNeg ((nI (r.length + 1)) - 1)) (.int (nI ((p.2 + (m - 1)) % m)))))) _
            refine px_gx (fun _ K9 => px_a 1 (f' := (127, [(3, .int 0), (2, .int (nI i)), (0, .ref (38 + n)), (1, .int (nI m))], [.ref (38 + n), .ref (50 + n)], (hp.set (50 + n) (10, (am).set (Int32.toNatClampNeg ((nI (r.length + 1)) - 1)) (.int (nI ((p.2 + (m - 1)) % m))))))) rfl K9) ?_
            refine px_gx (fun _ K9 => px_gf (38 + n) 132 4 17 (.int (nI (r.length + 1))) rfl rfl hf1__38___n_ rfl K9) ?_
            show px_Gx _ _ (130, [(3, .int 0), (2, .int (nI i)), (0, .ref (38 + n)), (1, .int (nI m))], [.int (nI (r.length + 1)), .ref (50 + n)], (hp.set (50 + n) (10, (am).set (Int32.toNatClampNeg ((nI (r.length + 1)) - 1)) (.int (nI ((p.2 + (m - 1)) % m)))))) _
            refine px_gx (fun _ K9 => px_a 2 (f' := (132, [(3, .int 0), (2, .int (nI i)), (0, .ref (38 + n)), (1, .int (nI m))], [.int ((nI (r.length + 1)) - 1), .ref (50 + n)], (hp.set (50 + n) (10, (am).set (Int32.toNatClampNeg ((nI (r.length + 1)) - 1)) (.int (nI ((p.2 + (m - 1)) % m))))))) rfl K9) ?_
            refine px_gx (fun _ K9 => px_al (50 + n) (.int (nI ((p.2 + (m - 1)) % m))) rfl hf1__50___n_ (Or.inl ⟨rfl, Or.inl rfl⟩) (by rw [nI_pred]; exact nI_pos (by omega)) (List.getElem?_set_self (by rw [nI_pred, nI_clamp (by omega)]; first | (show (0 : Nat) < _; rw [List.length_set]; omega) | (rw [List.length_set]; omega) | omega)) K9) ?_
            show px_Gx _ _ (133, [(3, .int 0), (2, .int (nI i)), (0, .ref (38 + n)), (1, .int (nI m))], [.int (nI ((p.2 + (m - 1)) % m))], (hp.set (50 + n) (10, (am).set (Int32.toNatClampNeg ((nI (r.length + 1)) - 1)) (.int (nI ((p.2 + (m - 1)) % m)))))) _
            refine px_gx (fun _ K9 => px_b1 true 146 rfl rfl (decide_eq_true (nI_ne0 (by rw [emc, if_neg h2]; split <;> omega) (Nat.lt_of_lt_of_le (Nat.mod_lt _ (by omega)) (by omega)))) K9) ?_
            show px_Gx _ _ (146, [(3, .int 0), (2, .int (nI i)), (0, .ref (38 + n)), (1, .int (nI m))], [], (hp.set (50 + n) (10, (am).set (Int32.toNatClampNeg ((nI (r.length + 1)) - 1)) (.int (nI ((p.2 + (m - 1)) % m)))))) _
            refine px_gx (fun _ K9 => px_a 2 (f' := (11, [(2, .int ((nI i) + 1)), (3, .int 0), (0, .ref (38 + n)), (1, .int (nI m))], [], (hp.set (50 + n) (10, (am).set (Int32.toNatClampNeg ((nI (r.length + 1)) - 1)) (.int (nI ((p.2 + (m - 1)) % m))))))) rfl K9) ?_
            rw [nI_1]
            refine px_wk [(2, .int (nI (i + 1))), (0, .ref (38 + n)), (1, .int (nI m))] ⟨rfl, rfl, rfl, trivial⟩ ?_
            have es : x_fd m f (i + 1) = (0, (p.2 + (m - 1)) % m) :: r := by show x_psh m (f i % 2) (x_am m (f i)) _ = _; rw [hl, est]; rw [show (2 : Nat) % 2 = 0 from rfl, show x_am m 2 = (m - 1) from rfl, x_psh_c, if_pos h1, if_neg h2, emc, if_neg h2]
            exact ih (i + 1) _ _ _ (by rw [es]; exact hf1__38___n_) hf1__49___n_ hf1__50___n_ hf1__48___n_ (by first | exact la | (rw [List.length_set]; exact la)) (by first | exact lm | (repeat rw [List.length_set]); exact lm) (by rw [es]; rw [nI_pred, nI_clamp (by omega)]; exact ⟨by rw [hr.1, h1], List.getElem?_set_self (by (repeat rw [List.length_set]); omega), x_rep_setb hr.2.2 (Nat.le_refl _)⟩) (by omega)
        · skip
          refine px_gx (fun _ K9 => px_a 2 (f' := (13, [(2, .int (nI i)), (0, .ref (38 + n)), (1, .int (nI m))], [.ref (38 + n), .int (nI i)], hp)) rfl K9) ?_
          refine px_gx (fun _ K9 => px_gf (38 + n) 122 4 15 (.int (nI K)) rfl rfl hm rfl K9) ?_
          show px_Gx _ _ (16, [(2, .int (nI i)), (0, .ref (38 + n)), (1, .int (nI m))], [.int (nI K), .int (nI i)], hp) _
          refine px_gx (fun _ K9 => px_b2 false 152 rfl rfl (decide_eq_false (nI_ge (by omega) (by omega))) K9) ?_
          show px_Gx _ _ (19, [(2, .int (nI i)), (0, .ref (38 + n)), (1, .int (nI m))], [], hp) _
          refine px_gx (fun _ K9 => px_a 1 (f' := (20, [(2, .int (nI i)), (0, .ref (38 + n)), (1, .int (nI m))], [.ref (38 + n)], hp)) rfl K9) ?_
          refine px_gx (fun _ K9 => px_gf (38 + n) 39 4 16 (.ref (48 + n)) rfl rfl hm rfl K9) ?_
          show px_Gx _ _ (23, [(2, .int (nI i)), (0, .ref (38 + n)), (1, .int (nI m))], [.ref (48 + n)], hp) _
          refine px_gx (fun _ K9 => px_a 1 (f' := (24, [(2, .int (nI i)), (0, .ref (38 + n)), (1, .int (nI m))], [.int (nI i), .ref (48 + n)], hp)) rfl K9) ?_
          refine px_gx (fun _ K9 => px_al (48 + n) (.int 2) rfl hvw (Or.inl ⟨rfl, Or.inl rfl⟩) (nI_pos (by omega)) (by rw [nI_clamp (by omega), hz, hl]; rfl) K9) ?_
          show px_Gx _ _ (25, [(2, .int (nI i)), (0, .ref (38 + n)), (1, .int (nI m))], [.int 2], hp) _
          refine px_gx (fun _ K9 => px_a 4 (f' := (29, [(3, .int 0), (2, .int (nI i)), (0, .ref (38 + n)), (1, .int (nI m))], [.ref (38 + n)], hp)) rfl K9) ?_
          refine px_gx (fun _ K9 => px_gf (38 + n) 132 4 17 (.int (nI (r.length + 1))) rfl rfl hm rfl K9) ?_
          show px_Gx _ _ (32, [(3, .int 0), (2, .int (nI i)), (0, .ref (38 + n)), (1, .int (nI m))], [.int (nI (r.length + 1))], hp) _
          refine px_gx (fun _ K9 => px_b1 false 50 rfl rfl (decide_eq_false (nI_ne0 (by omega) (by omega))) K9) ?_
          show px_Gx _ _ (35, [(3, .int 0), (2, .int (nI i)), (0, .ref (38 + n)), (1, .int (nI m))], [], hp) _
          refine px_gx (fun _ K9 => px_a 1 (f' := (36, [(3, .int 0), (2, .int (nI i)), (0, .ref (38 + n)), (1, .int (nI m))], [.ref (38 + n)], hp)) rfl K9) ?_
          refine px_gx (fun _ K9 => px_gf (38 + n) 42 4 18 (.ref (49 + n)) rfl rfl hm rfl K9) ?_
          show px_Gx _ _ (39, [(3, .int 0), (2, .int (nI i)), (0, .ref (38 + n)), (1, .int (nI m))], [.ref (49 + n)], hp) _
          refine px_gx (fun _ K9 => px_a 1 (f' := (40, [(3, .int 0), (2, .int (nI i)), (0, .ref (38 + n)), (1, .int (nI m))], [.ref (38 + n), .ref (49 + n)], hp)) rfl K9) ?_
          refine px_gx (fun _ K9 => px_gf (38 + n) 132 4 17 (.int (nI (r.length + 1))) rfl rfl hm rfl K9) ?_
          show px_Gx _ _ (43, [(3, .int 0), (2, .int (nI i)), (0, .ref (38 + n)), (1, .int (nI m))], [.int (nI (r.length + 1)), .ref (49 + n)], hp) _
          refine px_gx (fun _ K9 => px_a 2 (f' := (45, [(3, .int 0), (2, .int (nI i)), (0, .ref (38 + n)), (1, .int (nI m))], [.int ((nI (r.length + 1)) - 1), .ref (49 + n)], hp)) rfl K9) ?_
          refine px_gx (fun _ K9 => px_al (49 + n) (.int (nI p.1)) rfl hax (Or.inl ⟨rfl, Or.inl rfl⟩) (by rw [nI_pred]; exact nI_pos (by omega)) (by rw [nI_pred, nI_clamp (by omega)]; exact hr.1) K9) ?_
          show px_Gx _ _ (46, [(3, .int 0), (2, .int (nI i)), (0, .ref (38 + n)), (1, .int (nI m))], [.int (nI p.1)], hp) _
          refine px_gx (fun _ K9 => px_a 1 (f' := (47, [(3, .int 0), (2, .int (nI i)), (0, .ref (38 + n)), (1, .int (nI m))], [.int 0, .int (nI p.1)], hp)) rfl K9) ?_
          refine px_gx (fun _ K9 => px_b2 false 80 rfl rfl (decide_eq_false (fun z => h1 ((nI_eq (b := 0) (by omega) (by omega)).mp z))) K9) ?_
          show px_Gx _ _ (50, [(3, .int 0), (2, .int (nI i)), (0, .ref (38 + n)), (1, .int (nI m))], [], hp) _
          refine px_gx (fun _ K9 => px_a 1 (f' := (51, [(3, .int 0), (2, .int (nI i)), (0, .ref (38 + n)), (1, .int (nI m))], [.ref (38 + n)], hp)) rfl K9) ?_
          refine px_gx (fun _ K9 => px_gf (38 + n) 42 4 18 (.ref (49 + n)) rfl rfl hm rfl K9) ?_
          show px_Gx _ _ (54, [(3, .int 0), (2, .int (nI i)), (0, .ref (38 + n)), (1, .int (nI m))], [.ref (49 + n)], hp) _
          refine px_gx (fun _ K9 => px_a 1 (f' := (55, [(3, .int 0), (2, .int (nI i)), (0, .ref (38 + n)), (1, .int (nI m))], [.ref (38 + n), .ref (49 + n)], hp)) rfl K9) ?_
          refine px_gx (fun _ K9 => px_gf (38 + n) 132 4 17 (.int (nI (r.length + 1))) rfl rfl hm rfl K9) ?_
          show px_Gx _ _ (58, [(3, .int 0), (2, .int (nI i)), (0, .ref (38 + n)), (1, .int (nI m))], [.int (nI (r.length + 1)), .ref (49 + n)], hp) _
          refine px_gx (fun _ K9 => px_a 1 (f' := (59, [(3, .int 0), (2, .int (nI i)), (0, .ref (38 + n)), (1, .int (nI m))], [.int 0, .int (nI (r.length + 1)), .ref (49 + n)], hp)) rfl K9) ?_
          refine px_gx (fun _ K9 => px_ias (49 + n) rfl hax (by omega) (nI_pos (by omega)) (by rw [nI_clamp (by omega)]; omega) K9) ?_
          have hf1__38___n_ : (hp.set (49 + n) (10, ax.set (nI (r.length + 1)).toNatClampNeg (.int 0)))[(38 + n)]? = some (4, [.int th, .int w, .int h, .ref (39 + n), .int pn, .ref (40 + n), .ref (41 + n), .ref (42 + n), .int pl, .ref (43 + n), .ref (44 + n), .ref (45 + n), .ref (46 + n), .int fo, .ref (47 + n), .int (nI K), .ref (48 + n), .int (nI (r.length + 1)), .ref (49 + n), .ref (50 + n), .ref (51 + n)]) := px_ne hm (by omega)
          have hf1__48___n_ : (hp.set (49 + n) (10, ax.set (nI (r.length + 1)).toNatClampNeg (.int 0)))[(48 + n)]? = some (10, vw) := px_ne hvw (by omega)
          have hf1__49___n_ : (hp.set (49 + n) (10, ax.set (nI (r.length + 1)).toNatClampNeg (.int 0)))[(49 + n)]? = some (10, ax.set (nI (r.length + 1)).toNatClampNeg (.int 0)) := px_self hax
          have hf1__50___n_ : (hp.set (49 + n) (10, ax.set (nI (r.length + 1)).toNatClampNeg (.int 0)))[(50 + n)]? = some (10, am) := px_ne ham (by omega)
          show px_Gx _ _ (60, [(3, .int 0), (2, .int (nI i)), (0, .ref (38 + n)), (1, .int (nI m))], [], (hp.set (49 + n) (10, ax.set (nI (r.length + 1)).toNatClampNeg (.int 0)))) _
          refine px_gx (fun _ K9 => px_a 1 (f' := (61, [(3, .int 0), (2, .int (nI i)), (0, .ref (38 + n)), (1, .int (nI m))], [.ref (38 + n)], (hp.set (49 + n) (10, ax.set (nI (r.length + 1)).toNatClampNeg (.int 0))))) rfl K9) ?_
          refine px_gx (fun _ K9 => px_gf (38 + n) 45 4 19 (.ref (50 + n)) rfl rfl hf1__38___n_ rfl K9) ?_
          show px_Gx _ _ (64, [(3, .int 0), (2, .int (nI i)), (0, .ref (38 + n)), (1, .int (nI m))], [.ref (50 + n)], (hp.set (49 + n) (10, ax.set (nI (r.length + 1)).toNatClampNeg (.int 0)))) _
          refine px_gx (fun _ K9 => px_a 1 (f' := (65, [(3, .int 0), (2, .int (nI i)), (0, .ref (38 + n)), (1, .int (nI m))], [.ref (38 + n), .ref (50 + n)], (hp.set (49 + n) (10, ax.set (nI (r.length + 1)).toNatClampNeg (.int 0))))) rfl K9) ?_
          refine px_gx (fun _ K9 => px_gf (38 + n) 132 4 17 (.int (nI (r.length + 1))) rfl rfl hf1__38___n_ rfl K9) ?_
          show px_Gx _ _ (68, [(3, .int 0), (2, .int (nI i)), (0, .ref (38 + n)), (1, .int (nI m))], [.int (nI (r.length + 1)), .ref (50 + n)], (hp.set (49 + n) (10, ax.set (nI (r.length + 1)).toNatClampNeg (.int 0)))) _
          refine px_gx (fun _ K9 => px_a 1 (f' := (69, [(3, .int 0), (2, .int (nI i)), (0, .ref (38 + n)), (1, .int (nI m))], [.int 0, .int (nI (r.length + 1)), .ref (50 + n)], (hp.set (49 + n) (10, ax.set (nI (r.length + 1)).toNatClampNeg (.int 0))))) rfl K9) ?_
          refine px_gx (fun _ K9 => px_ias (50 + n) rfl hf1__50___n_ (by omega) (nI_pos (by omega)) (by rw [nI_clamp (by omega)]; omega) K9) ?_
          have hf2__38___n_ : (((hp.set (49 + n) (10, ax.set (nI (r.length + 1)).toNatClampNeg (.int 0)))).set (50 + n) (10, am.set (nI (r.length + 1)).toNatClampNeg (.int 0)))[(38 + n)]? = some (4, [.int th, .int w, .int h, .ref (39 + n), .int pn, .ref (40 + n), .ref (41 + n), .ref (42 + n), .int pl, .ref (43 + n), .ref (44 + n), .ref (45 + n), .ref (46 + n), .int fo, .ref (47 + n), .int (nI K), .ref (48 + n), .int (nI (r.length + 1)), .ref (49 + n), .ref (50 + n), .ref (51 + n)]) := px_ne hf1__38___n_ (by omega)
          have hf2__48___n_ : (((hp.set (49 + n) (10, ax.set (nI (r.length + 1)).toNatClampNeg (.int 0)))).set (50 + n) (10, am.set (nI (r.length + 1)).toNatClampNeg (.int 0)))[(48 + n)]? = some (10, vw) := px_ne hf1__48___n_ (by omega)
          have hf2__49___n_ : (((hp.set (49 + n) (10, ax.set (nI (r.length + 1)).toNatClampNeg (.int 0)))).set (50 + n) (10, am.set (nI (r.length + 1)).toNatClampNeg (.int 0)))[(49 + n)]? = some (10, ax.set (nI (r.length + 1)).toNatClampNeg (.int 0)) := px_ne hf1__49___n_ (by omega)
          have hf2__50___n_ : (((hp.set (49 + n) (10, ax.set (nI (r.length + 1)).toNatClampNeg (.int 0)))).set (50 + n) (10, am.set (nI (r.length + 1)).toNatClampNeg (.int 0)))[(50 + n)]? = some (10, am.set (nI (r.length + 1)).toNatClampNeg (.int 0)) := px_self hf1__50___n_
          show px_Gx _ _ (70, [(3, .int 0), (2, .int (nI i)), (0, .ref (38 + n)), (1, .int (nI m))], [], (((hp.set (49 + n) (10, ax.set (nI (r.length + 1)).toNatClampNeg (.int 0)))).set (50 + n) (10, am.set (nI (r.length + 1)).toNatClampNeg (.int 0)))) _
          refine px_gx (fun _ K9 => px_a 2 (f' := (72, [(3, .int 0), (2, .int (nI i)), (0, .ref (38 + n)), (1, .int (nI m))], [.ref (38 + n), .ref (38 + n)], (((hp.set (49 + n) (10, ax.set (nI (r.length + 1)).toNatClampNeg (.int 0)))).set (50 + n) (10, am.set (nI (r.length + 1)).toNatClampNeg (.int 0))))) rfl K9) ?_
          refine px_gx (fun _ K9 => px_gf (38 + n) 132 4 17 (.int (nI (r.length + 1))) rfl rfl hf2__38___n_ rfl K9) ?_
          show px_Gx _ _ (75, [(3, .int 0), (2, .int (nI i)), (0, .ref (38 + n)), (1, .int (nI m))], [.int (nI (r.length + 1)), .ref (38 + n)], (((hp.set (49 + n) (10, ax.set (nI (r.length + 1)).toNatClampNeg (.int 0)))).set (50 + n) (10, am.set (nI (r.length + 1)).toNatClampNeg (.int 0)))) _
          refine px_gx (fun _ K9 => px_a 2 (f' := (77, [(3, .int 0), (2, .int (nI i)), (0, .ref (38 + n)), (1, .int (nI m))], [.int ((nI (r.length + 1)) + 1), .ref (38 + n)], (((hp.set (49 + n) (10, ax.set (nI (r.length + 1)).toNatClampNeg (.int 0)))).set (50 + n) (10, am.set (nI (r.length + 1)).toNatClampNeg (.int 0))))) rfl K9) ?_
          refine px_gx (fun _ K9 => px_pf (38 + n) 132 4 17 rfl rfl hf2__38___n_ (by omega) (by simp) rfl rfl (by decide) K9) ?_
          have hf3__38___n_ : (((((hp.set (49 + n) (10, ax.set (nI (r.length + 1)).toNatClampNeg (.int 0)))).set (50 + n) (10, am.set (nI (r.length + 1)).toNatClampNeg (.int 0)))).set (38 + n) (4, [.int th, .int w, .int h, .ref (39 + n), .int pn, .ref (40 + n), .ref (41 + n), .ref (42 + n), .int pl, .ref (43 + n), .ref (44 + n), .ref (45 + n), .ref (46 + n), .int fo, .ref (47 + n), .int (nI K), .ref (48 + n), .int ((nI (r.length + 1)) + 1), .ref (49 + n), .ref (50 + n), .ref (51 + n)]))[(38 + n)]? = some (4, [.int th, .int w, .int h, .ref (39 + n), .int pn, .ref (40 + n), .ref (41 + n), .ref (42 + n), .int pl, .ref (43 + n), .ref (44 + n), .ref (45 + n), .ref (46 + n), .int fo, .ref (47 + n), .int (nI K), .ref (48 + n), .int ((nI (r.length + 1)) + 1), .ref (49 + n), .ref (50 + n), .ref (51 + n)]) := px_self hf2__38___n_
          have hf3__48___n_ : (((((hp.set (49 + n) (10, ax.set (nI (r.length + 1)).toNatClampNeg (.int 0)))).set (50 + n) (10, am.set (nI (r.length + 1)).toNatClampNeg (.int 0)))).set (38 + n) (4, [.int th, .int w, .int h, .ref (39 + n), .int pn, .ref (40 + n), .ref (41 + n), .ref (42 + n), .int pl, .ref (43 + n), .ref (44 + n), .ref (45 + n), .ref (46 + n), .int fo, .ref (47 + n), .int (nI K), .ref (48 + n), .int ((nI (r.length + 1)) + 1), .ref (49 + n), .ref (50 + n), .ref (51 + n)]))[(48 + n)]? = some (10, vw) := px_ne hf2__48___n_ (by omega)
          have hf3__49___n_ : (((((hp.set (49 + n) (10, ax.set (nI (r.length + 1)).toNatClampNeg (.int 0)))).set (50 + n) (10, am.set (nI (r.length + 1)).toNatClampNeg (.int 0)))).set (38 + n) (4, [.int th, .int w, .int h, .ref (39 + n), .int pn, .ref (40 + n), .ref (41 + n), .ref (42 + n), .int pl, .ref (43 + n), .ref (44 + n), .ref (45 + n), .ref (46 + n), .int fo, .ref (47 + n), .int (nI K), .ref (48 + n), .int ((nI (r.length + 1)) + 1), .ref (49 + n), .ref (50 + n), .ref (51 + n)]))[(49 + n)]? = some (10, ax.set (nI (r.length + 1)).toNatClampNeg (.int 0)) := px_ne hf2__49___n_ (by omega)
          have hf3__50___n_ : (((((hp.set (49 + n) (10, ax.set (nI (r.length + 1)).toNatClampNeg (.int 0)))).set (50 + n) (10, am.set (nI (r.length + 1)).toNatClampNeg (.int 0)))).set (38 + n) (4, [.int th, .int w, .int h, .ref (39 + n), .int pn, .ref (40 + n), .ref (41 + n), .ref (42 + n), .int pl, .ref (43 + n), .ref (44 + n), .ref (45 + n), .ref (46 + n), .int fo, .ref (47 + n), .int (nI K), .ref (48 + n), .int ((nI (r.length + 1)) + 1), .ref (49 + n), .ref (50 + n), .ref (51 + n)]))[(50 + n)]? = some (10, am.set (nI (r.length + 1)).toNatClampNeg (.int 0)) := px_ne hf2__50___n_ (by omega)
          show px_Gx _ _ (80, [(3, .int 0), (2, .int (nI i)), (0, .ref (38 + n)), (1, .int (nI m))], [], (((((hp.set (49 + n) (10, ax.set (nI (r.length + 1)).toNatClampNeg (.int 0)))).set (50 + n) (10, am.set (nI (r.length + 1)).toNatClampNeg (.int 0)))).set (38 + n) (4, [.int th, .int w, .int h, .ref (39 + n), .int pn, .ref (40 + n), .ref (41 + n), .ref (42 + n), .int pl, .ref (43 + n), .ref (44 + n), .ref (45 + n), .ref (46 + n), .int fo, .ref (47 + n), .int (nI K), .ref (48 + n), .int ((nI (r.length + 1)) + 1), .ref (49 + n), .ref (50 + n), .ref (51 + n)]))) _
          have hm2x := hf3__38___n_
          have hax2 := hf3__49___n_
          have ham2 := hf3__50___n_
          have hvw2 := hf3__48___n_
          rw [nI_1] at hm2x hax2 ham2 hvw2 ⊢
          generalize (((((hp.set (49 + n) (10, ax.set (nI (r.length + 1)).toNatClampNeg (.int 0)))).set (50 + n) (10, am.set (nI (r.length + 1)).toNatClampNeg (.int 0)))).set (38 + n) (4, [.int th, .int w, .int h, .ref (39 + n), .int pn, .ref (40 + n), .ref (41 + n), .ref (42 + n), .int pl, .ref (43 + n), .ref (44 + n), .ref (45 + n), .ref (46 + n), .int fo, .ref (47 + n), .int (nI K), .ref (48 + n), .int (nI (r.length + 1 + 1)), .ref (49 + n), .ref (50 + n), .ref (51 + n)])) = hp2 at hm2x hax2 ham2 hvw2 ⊢
          refine px_gx (fun _ K9 => px_a 1 (f' := (81, [(3, .int 0), (2, .int (nI i)), (0, .ref (38 + n)), (1, .int (nI m))], [.ref (38 + n)], hp2)) rfl K9) ?_
          refine px_gx (fun _ K9 => px_gf (38 + n) 45 4 19 (.ref (50 + n)) rfl rfl hm2x rfl K9) ?_
          show px_Gx _ _ (84, [(3, .int 0), (2, .int (nI i)), (0, .ref (38 + n)), (1, .int (nI m))], [.ref (50 + n)], hp2) _
          refine px_gx (fun _ K9 => px_a 1 (f' := (85, [(3, .int 0), (2, .int (nI i)), (0, .ref (38 + n)), (1, .int (nI m))], [.ref (38 + n), .ref (50 + n)], hp2)) rfl K9) ?_
          refine px_gx (fun _ K9 => px_gf (38 + n) 132 4 17 (.int (nI (r.length + 1 + 1))) rfl rfl hm2x rfl K9) ?_
          show px_Gx _ _ (88, [(3, .int 0), (2, .int (nI i)), (0, .ref (38 + n)), (1, .int (nI m))], [.int (nI (r.length + 1 + 1)), .ref (50 + n)], hp2) _
          refine px_gx (fun _ K9 => px_a 3 (f' := (91, [(3, .int 0), (2, .int (nI i)), (0, .ref (38 + n)), (1, .int (nI m))], [.ref (38 + n), .int ((nI (r.length + 1 + 1)) - 1), .ref (50 + n)], hp2)) rfl K9) ?_
          refine px_gx (fun _ K9 => px_gf (38 + n) 45 4 19 (.ref (50 + n)) rfl rfl hm2x rfl K9) ?_
          show px_Gx _ _ (94, [(3, .int 0), (2, .int (nI i)), (0, .ref (38 + n)), (1, .int (nI m))], [.ref (50 + n), .int ((nI (r.length + 1 + 1)) - 1), .ref (50 + n)], hp2) _
          refine px_gx (fun _ K9 => px_a 1 (f' := (95, [(3, .int 0), (2, .int (nI i)), (0, .ref (38 + n)), (1, .int (nI m))], [.ref (38 + n), .ref (50 + n), .int ((nI (r.length + 1 + 1)) - 1), .ref (50 + n)], hp2)) rfl K9) ?_
          refine px_gx (fun _ K9 => px_gf (38 + n) 132 4 17 (.int (nI (r.length + 1 + 1))) rfl rfl hm2x rfl K9) ?_
          show px_Gx _ _ (98, [(3, .int 0), (2, .int (nI i)), (0, .ref (38 + n)), (1, .int (nI m))], [.int (nI (r.length + 1 + 1)), .ref (50 + n), .int ((nI (r.length + 1 + 1)) - 1), .ref (50 + n)], hp2) _
          refine px_gx (fun _ K9 => px_a 2 (f' := (100, [(3, .int 0), (2, .int (nI i)), (0, .ref (38 + n)), (1, .int (nI m))], [.int ((nI (r.length + 1 + 1)) - 1), .ref (50 + n), .int ((nI (r.length + 1 + 1)) - 1), .ref (50 + n)], hp2)) rfl K9) ?_
          refine px_gx (fun _ K9 => px_al (50 + n) (.int 0) rfl ham2 (Or.inl ⟨rfl, Or.inl rfl⟩) (by rw [nI_pred]; exact nI_pos (by omega)) (by rw [nI_pred]; exact List.getElem?_set_self (by rw [nI_clamp (by omega)]; omega)) K9) ?_
          show px_Gx _ _ (101, [(3, .int 0), (2, .int (nI i)), (0, .ref (38 + n)), (1, .int (nI m))], [.int 0, .int ((nI (r.length + 1 + 1)) - 1), .ref (50 + n)], hp2) _
          refine px_gx (fun _ K9 => px_a 1 (f' := (102, [(3, .int 0), (2, .int (nI i)), (0, .ref (38 + n)), (1, .int (nI m))], [.ref (38 + n), .int 0, .int ((nI (r.length + 1 + 1)) - 1), .ref (50 + n)], hp2)) rfl K9) ?_
          refine px_gx (fun _ K9 => px_gf (38 + n) 39 4 16 (.ref (48 + n)) rfl rfl hm2x rfl K9) ?_
          show px_Gx _ _ (105, [(3, .int 0), (2, .int (nI i)), (0, .ref (38 + n)), (1, .int (nI m))], [.ref (48 + n), .int 0, .int ((nI (r.length + 1 + 1)) - 1), .ref (50 + n)], hp2) _
          refine px_gx (fun _ K9 => px_a 1 (f' := (106, [(3, .int 0), (2, .int (nI i)), (0, .ref (38 + n)), (1, .int (nI m))], [.int (nI i), .ref (48 + n), .int 0, .int ((nI (r.length + 1 + 1)) - 1), .ref (50 + n)], hp2)) rfl K9) ?_
          refine px_gx (fun _ K9 => px_al (48 + n) (.int 2) rfl hvw2 (Or.inl ⟨rfl, Or.inl rfl⟩) (nI_pos (by omega)) (by rw [nI_clamp (by omega), hz, hl]; rfl) K9) ?_
          show px_Gx _ _ (107, [(3, .int 0), (2, .int (nI i)), (0, .ref (38 + n)), (1, .int (nI m))], [.int 2, .int 0, .int ((nI (r.length + 1 + 1)) - 1), .ref (50 + n)], hp2) _
          refine px_gx (fun _ K9 => px_a 7 (f' := (120, [(3, .int 0), (2, .int (nI i)), (0, .ref (38 + n)), (1, .int (nI m))], [.int (nI m), .int (0 + ((nI m) - 1)), .int ((nI (r.length + 1 + 1)) - 1), .ref (50 + n)], hp2)) rfl K9) ?_
          refine px_gx (fun _ K9 => px_irem rfl (nI_ne0 (by omega) (by omega)) K9) ?_
          have e121 : ((0 + ((nI m) - 1)) - (0 + ((nI m) - 1)) / (nI m) * (nI m)) = nI (m - 1) := by rw [show nI m - 1 = nI (m - 1) from pk_sub (a := m) (b := 1) (by omega), Int32.zero_add, pk_rem (by omega) (by omega) (by omega), Nat.mod_eq_of_lt (by omega)]
          rw [e121]
          refine px_gx (fun _ K9 => px_ias (50 + n) rfl ham2 (by omega) (by rw [nI_pred]; exact nI_pos (by omega)) (by rw [nI_pred, nI_clamp (by omega)]; first | (show (0 : Nat) < _; rw [List.length_set]; omega) | (rw [List.length_set]; omega) | omega) K9) ?_
          have hf1__38___n_ : (hp2.set (50 + n) (10, (am.set (nI (r.length + 1)).toNatClampNeg (.int 0)).set (Int32.toNatClampNeg ((nI (r.length + 1 + 1)) - 1)) (.int (nI (m - 1)))))[(38 + n)]? = some (4, [.int th, .int w, .int h, .ref (39 + n), .int pn, .ref (40 + n), .ref (41 + n), .ref (42 + n), .int pl, .ref (43 + n), .ref (44 + n), .ref (45 + n), .ref (46 + n), .int fo, .ref (47 + n), .int (nI K), .ref (48 + n), .int (nI (r.length + 1 + 1)), .ref (49 + n), .ref (50 + n), .ref (51 + n)]) := px_ne hm2x (by omega)
          have hf1__48___n_ : (hp2.set (50 + n) (10, (am.set (nI (r.length + 1)).toNatClampNeg (.int 0)).set (Int32.toNatClampNeg ((nI (r.length + 1 + 1)) - 1)) (.int (nI (m - 1)))))[(48 + n)]? = some (10, vw) := px_ne hvw2 (by omega)
          have hf1__49___n_ : (hp2.set (50 + n) (10, (am.set (nI (r.length + 1)).toNatClampNeg (.int 0)).set (Int32.toNatClampNeg ((nI (r.length + 1 + 1)) - 1)) (.int (nI (m - 1)))))[(49 + n)]? = some (10, ax.set (nI (r.length + 1)).toNatClampNeg (.int 0)) := px_ne hax2 (by omega)
          have hf1__50___n_ : (hp2.set (50 + n) (10, (am.set (nI (r.length + 1)).toNatClampNeg (.int 0)).set (Int32.toNatClampNeg ((nI (r.length + 1 + 1)) - 1)) (.int (nI (m - 1)))))[(50 + n)]? = some (10, (am.set (nI (r.length + 1)).toNatClampNeg (.int 0)).set (Int32.toNatClampNeg ((nI (r.length + 1 + 1)) - 1)) (.int (nI (m - 1)))) := px_self ham2
          show px_Gx _ _ (122, [(3, .int 0), (2, .int (nI i)), (0, .ref (38 + n)), (1, .int (nI m))], [], (hp2.set (50 + n) (10, (am.set (nI (r.length + 1)).toNatClampNeg (.int 0)).set (Int32.toNatClampNeg ((nI (r.length + 1 + 1)) - 1)) (.int (nI (m - 1)))))) _
          refine px_gx (fun _ K9 => px_a 1 (f' := (123, [(3, .int 0), (2, .int (nI i)), (0, .ref (38 + n)), (1, .int (nI m))], [.ref (38 + n)], (hp2.set (50 + n) (10, (am.set (nI (r.length + 1)).toNatClampNeg (.int 0)).set (Int32.toNatClampNeg ((nI (r.length + 1 + 1)) - 1)) (.int (nI (m - 1))))))) rfl K9) ?_
          refine px_gx (fun _ K9 => px_gf (38 + n) 45 4 19 (.ref (50 + n)) rfl rfl hf1__38___n_ rfl K9) ?_
          show px_Gx _ _ (126, [(3, .int 0), (2, .int (nI i)), (0, .ref (38 + n)), (1, .int (nI m))], [.ref (50 + n)], (hp2.set (50 + n) (10, (am.set (nI (r.length + 1)).toNatClampNeg (.int 0)).set (Int32.toNatClampNeg ((nI (r.length + 1 + 1)) - 1)) (.int (nI (m - 1)))))) _
          refine px_gx (fun _ K9 => px_a 1 (f' := (127, [(3, .int 0), (2, .int (nI i)), (0, .ref (38 + n)), (1, .int (nI m))], [.ref (38 + n), .ref (50 + n)], (hp2.set (50 + n) (10, (am.set (nI (r.length + 1)).toNatClampNeg (.int 0)).set (Int32.toNatClampNeg ((nI (r.length + 1 + 1)) - 1)) (.int (nI (m - 1))))))) rfl K9) ?_
          refine px_gx (fun _ K9 => px_gf (38 + n) 132 4 17 (.int (nI (r.length + 1 + 1))) rfl rfl hf1__38___n_ rfl K9) ?_
          show px_Gx _ _ (130, [(3, .int 0), (2, .int (nI i)), (0, .ref (38 + n)), (1, .int (nI m))], [.int (nI (r.length + 1 + 1)), .ref (50 + n)], (hp2.set (50 + n) (10, (am.set (nI (r.length + 1)).toNatClampNeg (.int 0)).set (Int32.toNatClampNeg ((nI (r.length + 1 + 1)) - 1)) (.int (nI (m - 1)))))) _
          refine px_gx (fun _ K9 => px_a 2 (f' := (132, [(3, .int 0), (2, .int (nI i)), (0, .ref (38 + n)), (1, .int (nI m))], [.int ((nI (r.length + 1 + 1)) - 1), .ref (50 + n)], (hp2.set (50 + n) (10, (am.set (nI (r.length + 1)).toNatClampNeg (.int 0)).set (Int32.toNatClampNeg ((nI (r.length + 1 + 1)) - 1)) (.int (nI (m - 1))))))) rfl K9) ?_
          refine px_gx (fun _ K9 => px_al (50 + n) (.int (nI (m - 1))) rfl hf1__50___n_ (Or.inl ⟨rfl, Or.inl rfl⟩) (by rw [nI_pred]; exact nI_pos (by omega)) (List.getElem?_set_self (by rw [nI_pred, nI_clamp (by omega)]; first | (show (0 : Nat) < _; rw [List.length_set]; omega) | (rw [List.length_set]; omega) | omega)) K9) ?_
          show px_Gx _ _ (133, [(3, .int 0), (2, .int (nI i)), (0, .ref (38 + n)), (1, .int (nI m))], [.int (nI (m - 1))], (hp2.set (50 + n) (10, (am.set (nI (r.length + 1)).toNatClampNeg (.int 0)).set (Int32.toNatClampNeg ((nI (r.length + 1 + 1)) - 1)) (.int (nI (m - 1)))))) _
          refine px_gx (fun _ K9 => px_b1 true 146 rfl rfl (decide_eq_true (nI_ne0 (by omega) (by omega))) K9) ?_
          show px_Gx _ _ (146, [(3, .int 0), (2, .int (nI i)), (0, .ref (38 + n)), (1, .int (nI m))], [], (hp2.set (50 + n) (10, (am.set (nI (r.length + 1)).toNatClampNeg (.int 0)).set (Int32.toNatClampNeg ((nI (r.length + 1 + 1)) - 1)) (.int (nI (m - 1)))))) _
          refine px_gx (fun _ K9 => px_a 2 (f' := (11, [(2, .int ((nI i) + 1)), (3, .int 0), (0, .ref (38 + n)), (1, .int (nI m))], [], (hp2.set (50 + n) (10, (am.set (nI (r.length + 1)).toNatClampNeg (.int 0)).set (Int32.toNatClampNeg ((nI (r.length + 1 + 1)) - 1)) (.int (nI (m - 1))))))) rfl K9) ?_
          rw [nI_1]
          refine px_wk [(2, .int (nI (i + 1))), (0, .ref (38 + n)), (1, .int (nI m))] ⟨rfl, rfl, rfl, trivial⟩ ?_
          have es : x_fd m f (i + 1) = (0, (m - 1)) :: p :: r := by show x_psh m (f i % 2) (x_am m (f i)) _ = _; rw [hl, est]; exact if_neg h1
          exact ih (i + 1) _ _ _ (by rw [es]; exact hf1__38___n_) hf1__49___n_ hf1__50___n_ hf1__48___n_ (by first | exact la | (rw [List.length_set]; exact la)) (by first | exact lm | (repeat rw [List.length_set]); exact lm) (by rw [es]; rw [nI_pred, nI_clamp (by omega)]; exact ⟨List.getElem?_set_self (by omega), List.getElem?_set_self (by (repeat rw [List.length_set]); omega), x_rep_setb (x_rep_set hr (Nat.le_refl _) (Nat.le_refl _)) (Nat.le_refl _)⟩) (by omega)
    · cases est : x_fd m f i with
      | nil =>
        rw [est] at hm hr h84
        refine px_gx (fun _ K9 => px_a 2 (f' := (13, [(2, .int (nI i)), (0, .ref (38 + n)), (1, .int (nI m))], [.ref (38 + n), .int (nI i)], hp)) rfl K9) ?_
        refine px_gx (fun _ K9 => px_gf (38 + n) 122 4 15 (.int (nI K)) rfl rfl hm rfl K9) ?_
        show px_Gx _ _ (16, [(2, .int (nI i)), (0, .ref (38 + n)), (1, .int (nI m))], [.int (nI K), .int (nI i)], hp) _
        refine px_gx (fun _ K9 => px_b2 false 152 rfl rfl (decide_eq_false (nI_ge (by omega) (by omega))) K9) ?_
        show px_Gx _ _ (19, [(2, .int (nI i)), (0, .ref (38 + n)), (1, .int (nI m))], [], hp) _
        refine px_gx (fun _ K9 => px_a 1 (f' := (20, [(2, .int (nI i)), (0, .ref (38 + n)), (1, .int (nI m))], [.ref (38 + n)], hp)) rfl K9) ?_
        refine px_gx (fun _ K9 => px_gf (38 + n) 39 4 16 (.ref (48 + n)) rfl rfl hm rfl K9) ?_
        show px_Gx _ _ (23, [(2, .int (nI i)), (0, .ref (38 + n)), (1, .int (nI m))], [.ref (48 + n)], hp) _
        refine px_gx (fun _ K9 => px_a 1 (f' := (24, [(2, .int (nI i)), (0, .ref (38 + n)), (1, .int (nI m))], [.int (nI i), .ref (48 + n)], hp)) rfl K9) ?_
        refine px_gx (fun _ K9 => px_al (48 + n) (.int 3) rfl hvw (Or.inl ⟨rfl, Or.inl rfl⟩) (nI_pos (by omega)) (by rw [nI_clamp (by omega), hz, hl]; rfl) K9) ?_
        show px_Gx _ _ (25, [(2, .int (nI i)), (0, .ref (38 + n)), (1, .int (nI m))], [.int 3], hp) _
        refine px_gx (fun _ K9 => px_a 4 (f' := (29, [(3, .int 1), (2, .int (nI i)), (0, .ref (38 + n)), (1, .int (nI m))], [.ref (38 + n)], hp)) rfl K9) ?_
        refine px_gx (fun _ K9 => px_gf (38 + n) 132 4 17 (.int 0) rfl rfl hm rfl K9) ?_
        show px_Gx _ _ (32, [(3, .int 1), (2, .int (nI i)), (0, .ref (38 + n)), (1, .int (nI m))], [.int 0], hp) _
        refine px_gx (fun _ K9 => px_a 2 (f' := (51, [(3, .int 1), (2, .int (nI i)), (0, .ref (38 + n)), (1, .int (nI m))], [.ref (38 + n)], hp)) rfl K9) ?_
        refine px_gx (fun _ K9 => px_gf (38 + n) 42 4 18 (.ref (49 + n)) rfl rfl hm rfl K9) ?_
        show px_Gx _ _ (54, [(3, .int 1), (2, .int (nI i)), (0, .ref (38 + n)), (1, .int (nI m))], [.ref (49 + n)], hp) _
        refine px_gx (fun _ K9 => px_a 1 (f' := (55, [(3, .int 1), (2, .int (nI i)), (0, .ref (38 + n)), (1, .int (nI m))], [.ref (38 + n), .ref (49 + n)], hp)) rfl K9) ?_
        refine px_gx (fun _ K9 => px_gf (38 + n) 132 4 17 (.int 0) rfl rfl hm rfl K9) ?_
        show px_Gx _ _ (58, [(3, .int 1), (2, .int (nI i)), (0, .ref (38 + n)), (1, .int (nI m))], [.int 0, .ref (49 + n)], hp) _
        refine px_gx (fun _ K9 => px_a 1 (f' := (59, [(3, .int 1), (2, .int (nI i)), (0, .ref (38 + n)), (1, .int (nI m))], [.int 1, .int 0, .ref (49 + n)], hp)) rfl K9) ?_
        refine px_gx (fun _ K9 => px_ias (49 + n) rfl hax (by omega) (by decide) (by show (0 : Nat) < ax.length; omega) K9) ?_
        have hf1__38___n_ : (hp.set (49 + n) (10, ax.set (Int32.toNatClampNeg 0) (.int 1)))[(38 + n)]? = some (4, [.int th, .int w, .int h, .ref (39 + n), .int pn, .ref (40 + n), .ref (41 + n), .ref (42 + n), .int pl, .ref (43 + n), .ref (44 + n), .ref (45 + n), .ref (46 + n), .int fo, .ref (47 + n), .int (nI K), .ref (48 + n), .int 0, .ref (49 + n), .ref (50 + n), .ref (51 + n)]) := px_ne hm (by omega)
        have hf1__48___n_ : (hp.set (49 + n) (10, ax.set (Int32.toNatClampNeg 0) (.int 1)))[(48 + n)]? = some (10, vw) := px_ne hvw (by omega)
        have hf1__49___n_ : (hp.set (49 + n) (10, ax.set (Int32.toNatClampNeg 0) (.int 1)))[(49 + n)]? = some (10, ax.set (Int32.toNatClampNeg 0) (.int 1)) := px_self hax
        have hf1__50___n_ : (hp.set (49 + n) (10, ax.set (Int32.toNatClampNeg 0) (.int 1)))[(50 + n)]? = some (10, am) := px_ne ham (by omega)
        show px_Gx _ _ (60, [(3, .int 1), (2, .int (nI i)), (0, .ref (38 + n)), (1, .int (nI m))], [], (hp.set (49 + n) (10, ax.set (Int32.toNatClampNeg 0) (.int 1)))) _
        refine px_gx (fun _ K9 => px_a 1 (f' := (61, [(3, .int 1), (2, .int (nI i)), (0, .ref (38 + n)), (1, .int (nI m))], [.ref (38 + n)], (hp.set (49 + n) (10, ax.set (Int32.toNatClampNeg 0) (.int 1))))) rfl K9) ?_
        refine px_gx (fun _ K9 => px_gf (38 + n) 45 4 19 (.ref (50 + n)) rfl rfl hf1__38___n_ rfl K9) ?_
        show px_Gx _ _ (64, [(3, .int 1), (2, .int (nI i)), (0, .ref (38 + n)), (1, .int (nI m))], [.ref (50 + n)], (hp.set (49 + n) (10, ax.set (Int32.toNatClampNeg 0) (.int 1)))) _
        refine px_gx (fun _ K9 => px_a 1 (f' := (65, [(3, .int 1), (2, .int (nI i)), (0, .ref (38 + n)), (1, .int (nI m))], [.ref (38 + n), .ref (50 + n)], (hp.set (49 + n) (10, ax.set (Int32.toNatClampNeg 0) (.int 1))))) rfl K9) ?_
        refine px_gx (fun _ K9 => px_gf (38 + n) 132 4 17 (.int 0) rfl rfl hf1__38___n_ rfl K9) ?_
        show px_Gx _ _ (68, [(3, .int 1), (2, .int (nI i)), (0, .ref (38 + n)), (1, .int (nI m))], [.int 0, .ref (50 + n)], (hp.set (49 + n) (10, ax.set (Int32.toNatClampNeg 0) (.int 1)))) _
        refine px_gx (fun _ K9 => px_a 1 (f' := (69, [(3, .int 1), (2, .int (nI i)), (0, .ref (38 + n)), (1, .int (nI m))], [.int 0, .int 0, .ref (50 + n)], (hp.set (49 + n) (10, ax.set (Int32.toNatClampNeg 0) (.int 1))))) rfl K9) ?_
        refine px_gx (fun _ K9 => px_ias (50 + n) rfl hf1__50___n_ (by omega) (by decide) (by show (0 : Nat) < am.length; omega) K9) ?_
        have hf2__38___n_ : (((hp.set (49 + n) (10, ax.set (Int32.toNatClampNeg 0) (.int 1)))).set (50 + n) (10, am.set (Int32.toNatClampNeg 0) (.int 0)))[(38 + n)]? = some (4, [.int th, .int w, .int h, .ref (39 + n), .int pn, .ref (40 + n), .ref (41 + n), .ref (42 + n), .int pl, .ref (43 + n), .ref (44 + n), .ref (45 + n), .ref (46 + n), .int fo, .ref (47 + n), .int (nI K), .ref (48 + n), .int 0, .ref (49 + n), .ref (50 + n), .ref (51 + n)]) := px_ne hf1__38___n_ (by omega)
        have hf2__48___n_ : (((hp.set (49 + n) (10, ax.set (Int32.toNatClampNeg 0) (.int 1)))).set (50 + n) (10, am.set (Int32.toNatClampNeg 0) (.int 0)))[(48 + n)]? = some (10, vw) := px_ne hf1__48___n_ (by omega)
        have hf2__49___n_ : (((hp.set (49 + n) (10, ax.set (Int32.toNatClampNeg 0) (.int 1)))).set (50 + n) (10, am.set (Int32.toNatClampNeg 0) (.int 0)))[(49 + n)]? = some (10, ax.set (Int32.toNatClampNeg 0) (.int 1)) := px_ne hf1__49___n_ (by omega)
        have hf2__50___n_ : (((hp.set (49 + n) (10, ax.set (Int32.toNatClampNeg 0) (.int 1)))).set (50 + n) (10, am.set (Int32.toNatClampNeg 0) (.int 0)))[(50 + n)]? = some (10, am.set (Int32.toNatClampNeg 0) (.int 0)) := px_self hf1__50___n_
        show px_Gx _ _ (70, [(3, .int 1), (2, .int (nI i)), (0, .ref (38 + n)), (1, .int (nI m))], [], (((hp.set (49 + n) (10, ax.set (Int32.toNatClampNeg 0) (.int 1)))).set (50 + n) (10, am.set (Int32.toNatClampNeg 0) (.int 0)))) _
        refine px_gx (fun _ K9 => px_a 2 (f' := (72, [(3, .int 1), (2, .int (nI i)), (0, .ref (38 + n)), (1, .int (nI m))], [.ref (38 + n), .ref (38 + n)], (((hp.set (49 + n) (10, ax.set (Int32.toNatClampNeg 0) (.int 1)))).set (50 + n) (10, am.set (Int32.toNatClampNeg 0) (.int 0))))) rfl K9) ?_
        refine px_gx (fun _ K9 => px_gf (38 + n) 132 4 17 (.int 0) rfl rfl hf2__38___n_ rfl K9) ?_
        show px_Gx _ _ (75, [(3, .int 1), (2, .int (nI i)), (0, .ref (38 + n)), (1, .int (nI m))], [.int 0, .ref (38 + n)], (((hp.set (49 + n) (10, ax.set (Int32.toNatClampNeg 0) (.int 1)))).set (50 + n) (10, am.set (Int32.toNatClampNeg 0) (.int 0)))) _
        refine px_gx (fun _ K9 => px_a 2 (f' := (77, [(3, .int 1), (2, .int (nI i)), (0, .ref (38 + n)), (1, .int (nI m))], [.int 1, .ref (38 + n)], (((hp.set (49 + n) (10, ax.set (Int32.toNatClampNeg 0) (.int 1)))).set (50 + n) (10, am.set (Int32.toNatClampNeg 0) (.int 0))))) rfl K9) ?_
        refine px_gx (fun _ K9 => px_pf (38 + n) 132 4 17 rfl rfl hf2__38___n_ (by omega) (by simp) rfl rfl (by decide) K9) ?_
        have hf3__38___n_ : (((((hp.set (49 + n) (10, ax.set (Int32.toNatClampNeg 0) (.int 1)))).set (50 + n) (10, am.set (Int32.toNatClampNeg 0) (.int 0)))).set (38 + n) (4, [.int th, .int w, .int h, .ref (39 + n), .int pn, .ref (40 + n), .ref (41 + n), .ref (42 + n), .int pl, .ref (43 + n), .ref (44 + n), .ref (45 + n), .ref (46 + n), .int fo, .ref (47 + n), .int (nI K), .ref (48 + n), .int 1, .ref (49 + n), .ref (50 + n), .ref (51 + n)]))[(38 + n)]? = some (4, [.int th, .int w, .int h, .ref (39 + n), .int pn, .ref (40 + n), .ref (41 + n), .ref (42 + n), .int pl, .ref (43 + n), .ref (44 + n), .ref (45 + n), .ref (46 + n), .int fo, .ref (47 + n), .int (nI K), .ref (48 + n), .int 1, .ref (49 + n), .ref (50 + n), .ref (51 + n)]) := px_self hf2__38___n_
        have hf3__48___n_ : (((((hp.set (49 + n) (10, ax.set (Int32.toNatClampNeg 0) (.int 1)))).set (50 + n) (10, am.set (Int32.toNatClampNeg 0) (.int 0)))).set (38 + n) (4, [.int th, .int w, .int h, .ref (39 + n), .int pn, .ref (40 + n), .ref (41 + n), .ref (42 + n), .int pl, .ref (43 + n), .ref (44 + n), .ref (45 + n), .ref (46 + n), .int fo, .ref (47 + n), .int (nI K), .ref (48 + n), .int 1, .ref (49 + n), .ref (50 + n), .ref (51 + n)]))[(48 + n)]? = some (10, vw) := px_ne hf2__48___n_ (by omega)
        have hf3__49___n_ : (((((hp.set (49 + n) (10, ax.set (Int32.toNatClampNeg 0) (.int 1)))).set (50 + n) (10, am.set (Int32.toNatClampNeg 0) (.int 0)))).set (38 + n) (4, [.int th, .int w, .int h, .ref (39 + n), .int pn, .ref (40 + n), .ref (41 + n), .ref (42 + n), .int pl, .ref (43 + n), .ref (44 + n), .ref (45 + n), .ref (46 + n), .int fo, .ref (47 + n), .int (nI K), .ref (48 + n), .int 1, .ref (49 + n), .ref (50 + n), .ref (51 + n)]))[(49 + n)]? = some (10, ax.set (Int32.toNatClampNeg 0) (.int 1)) := px_ne hf2__49___n_ (by omega)
        have hf3__50___n_ : (((((hp.set (49 + n) (10, ax.set (Int32.toNatClampNeg 0) (.int 1)))).set (50 + n) (10, am.set (Int32.toNatClampNeg 0) (.int 0)))).set (38 + n) (4, [.int th, .int w, .int h, .ref (39 + n), .int pn, .ref (40 + n), .ref (41 + n), .ref (42 + n), .int pl, .ref (43 + n), .ref (44 + n), .ref (45 + n), .ref (46 + n), .int fo, .ref (47 + n), .int (nI K), .ref (48 + n), .int 1, .ref (49 + n), .ref (50 + n), .ref (51 + n)]))[(50 + n)]? = some (10, am.set (Int32.toNatClampNeg 0) (.int 0)) := px_ne hf2__50___n_ (by omega)
        show px_Gx _ _ (80, [(3, .int 1), (2, .int (nI i)), (0, .ref (38 + n)), (1, .int (nI m))], [], (((((hp.set (49 + n) (10, ax.set (Int32.toNatClampNeg 0) (.int 1)))).set (50 + n) (10, am.set (Int32.toNatClampNeg 0) (.int 0)))).set (38 + n) (4, [.int th, .int w, .int h, .ref (39 + n), .int pn, .ref (40 + n), .ref (41 + n), .ref (42 + n), .int pl, .ref (43 + n), .ref (44 + n), .ref (45 + n), .ref (46 + n), .int fo, .ref (47 + n), .int (nI K), .ref (48 + n), .int 1, .ref (49 + n), .ref (50 + n), .ref (51 + n)]))) _
        have hm2x := hf3__38___n_
        have hax2 := hf3__49___n_
        have ham2 := hf3__50___n_
        have hvw2 := hf3__48___n_
        generalize (((((hp.set (49 + n) (10, ax.set (Int32.toNatClampNeg 0) (.int 1)))).set (50 + n) (10, am.set (Int32.toNatClampNeg 0) (.int 0)))).set (38 + n) (4, [.int th, .int w, .int h, .ref (39 + n), .int pn, .ref (40 + n), .ref (41 + n), .ref (42 + n), .int pl, .ref (43 + n), .ref (44 + n), .ref (45 + n), .ref (46 + n), .int fo, .ref (47 + n), .int (nI K), .ref (48 + n), .int 1, .ref (49 + n), .ref (50 + n), .ref (51 + n)])) = hp2 at hm2x hax2 ham2 hvw2 ⊢
        refine px_gx (fun _ K9 => px_a 1 (f' := (81, [(3, .int 1), (2, .int (nI i)), (0, .ref (38 + n)), (1, .int (nI m))], [.ref (38 + n)], hp2)) rfl K9) ?_
        refine px_gx (fun _ K9 => px_gf (38 + n) 45 4 19 (.ref (50 + n)) rfl rfl hm2x rfl K9) ?_
        show px_Gx _ _ (84, [(3, .int 1), (2, .int (nI i)), (0, .ref (38 + n)), (1, .int (nI m))], [.ref (50 + n)], hp2) _
        refine px_gx (fun _ K9 => px_a 1 (f' := (85, [(3, .int 1), (2, .int (nI i)), (0, .ref (38 + n)), (1, .int (nI m))], [.ref (38 + n), .ref (50 + n)], hp2)) rfl K9) ?_
        refine px_gx (fun _ K9 => px_gf (38 + n) 132 4 17 (.int 1) rfl rfl hm2x rfl K9) ?_
        show px_Gx _ _ (88, [(3, .int 1), (2, .int (nI i)), (0, .ref (38 + n)), (1, .int (nI m))], [.int 1, .ref (50 + n)], hp2) _
        refine px_gx (fun _ K9 => px_a 3 (f' := (91, [(3, .int 1), (2, .int (nI i)), (0, .ref (38 + n)), (1, .int (nI m))], [.ref (38 + n), .int 0, .ref (50 + n)], hp2)) rfl K9) ?_
        refine px_gx (fun _ K9 => px_gf (38 + n) 45 4 19 (.ref (50 + n)) rfl rfl hm2x rfl K9) ?_
        show px_Gx _ _ (94, [(3, .int 1), (2, .int (nI i)), (0, .ref (38 + n)), (1, .int (nI m))], [.ref (50 + n), .int 0, .ref (50 + n)], hp2) _
        refine px_gx (fun _ K9 => px_a 1 (f' := (95, [(3, .int 1), (2, .int (nI i)), (0, .ref (38 + n)), (1, .int (nI m))], [.ref (38 + n), .ref (50 + n), .int 0, .ref (50 + n)], hp2)) rfl K9) ?_
        refine px_gx (fun _ K9 => px_gf (38 + n) 132 4 17 (.int 1) rfl rfl hm2x rfl K9) ?_
        show px_Gx _ _ (98, [(3, .int 1), (2, .int (nI i)), (0, .ref (38 + n)), (1, .int (nI m))], [.int 1, .ref (50 + n), .int 0, .ref (50 + n)], hp2) _
        refine px_gx (fun _ K9 => px_a 2 (f' := (100, [(3, .int 1), (2, .int (nI i)), (0, .ref (38 + n)), (1, .int (nI m))], [.int 0, .ref (50 + n), .int 0, .ref (50 + n)], hp2)) rfl K9) ?_
        refine px_gx (fun _ K9 => px_al (50 + n) (.int 0) rfl ham2 (Or.inl ⟨rfl, Or.inl rfl⟩) (by decide) (List.getElem?_set_self (by show (0 : Nat) < am.length; omega)) K9) ?_
        show px_Gx _ _ (101, [(3, .int 1), (2, .int (nI i)), (0, .ref (38 + n)), (1, .int (nI m))], [.int 0, .int 0, .ref (50 + n)], hp2) _
        refine px_gx (fun _ K9 => px_a 1 (f' := (102, [(3, .int 1), (2, .int (nI i)), (0, .ref (38 + n)), (1, .int (nI m))], [.ref (38 + n), .int 0, .int 0, .ref (50 + n)], hp2)) rfl K9) ?_
        refine px_gx (fun _ K9 => px_gf (38 + n) 39 4 16 (.ref (48 + n)) rfl rfl hm2x rfl K9) ?_
        show px_Gx _ _ (105, [(3, .int 1), (2, .int (nI i)), (0, .ref (38 + n)), (1, .int (nI m))], [.ref (48 + n), .int 0, .int 0, .ref (50 + n)], hp2) _
        refine px_gx (fun _ K9 => px_a 1 (f' := (106, [(3, .int 1), (2, .int (nI i)), (0, .ref (38 + n)), (1, .int (nI m))], [.int (nI i), .ref (48 + n), .int 0, .int 0, .ref (50 + n)], hp2)) rfl K9) ?_
        refine px_gx (fun _ K9 => px_al (48 + n) (.int 3) rfl hvw2 (Or.inl ⟨rfl, Or.inl rfl⟩) (nI_pos (by omega)) (by rw [nI_clamp (by omega), hz, hl]; rfl) K9) ?_
        show px_Gx _ _ (107, [(3, .int 1), (2, .int (nI i)), (0, .ref (38 + n)), (1, .int (nI m))], [.int 3, .int 0, .int 0, .ref (50 + n)], hp2) _
        refine px_gx (fun _ K9 => px_a 7 (f' := (120, [(3, .int 1), (2, .int (nI i)), (0, .ref (38 + n)), (1, .int (nI m))], [.int (nI m), .int (0 + ((nI m) - 1)), .int 0, .ref (50 + n)], hp2)) rfl K9) ?_
        refine px_gx (fun _ K9 => px_irem rfl (nI_ne0 (by omega) (by omega)) K9) ?_
        have e121 : ((0 + ((nI m) - 1)) - (0 + ((nI m) - 1)) / (nI m) * (nI m)) = nI (m - 1) := by rw [show nI m - 1 = nI (m - 1) from pk_sub (a := m) (b := 1) (by omega), Int32.zero_add, pk_rem (by omega) (by omega) (by omega), Nat.mod_eq_of_lt (by omega)]
        rw [e121]
        refine px_gx (fun _ K9 => px_ias (50 + n) rfl ham2 (by omega) (by decide) (by first | (show (0 : Nat) < _; rw [List.length_set]; omega) | (rw [List.length_set]; omega) | omega) K9) ?_
        have hf1__38___n_ : (hp2.set (50 + n) (10, (am.set (Int32.toNatClampNeg 0) (.int 0)).set (Int32.toNatClampNeg 0) (.int (nI (m - 1)))))[(38 + n)]? = some (4, [.int th, .int w, .int h, .ref (39 + n), .int pn, .ref (40 + n), .ref (41 + n), .ref (42 + n), .int pl, .ref (43 + n), .ref (44 + n), .ref (45 + n), .ref (46 + n), .int fo, .ref (47 + n), .int (nI K), .ref (48 + n), .int 1, .ref (49 + n), .ref (50 + n), .ref (51 + n)]) := px_ne hm2x (by omega)
        have hf1__48___n_ : (hp2.set (50 + n) (10, (am.set (Int32.toNatClampNeg 0) (.int 0)).set (Int32.toNatClampNeg 0) (.int (nI (m - 1)))))[(48 + n)]? = some (10, vw) := px_ne hvw2 (by omega)
        have hf1__49___n_ : (hp2.set (50 + n) (10, (am.set (Int32.toNatClampNeg 0) (.int 0)).set (Int32.toNatClampNeg 0) (.int (nI (m - 1)))))[(49 + n)]? = some (10, ax.set (Int32.toNatClampNeg 0) (.int 1)) := px_ne hax2 (by omega)
        have hf1__50___n_ : (hp2.set (50 + n) (10, (am.set (Int32.toNatClampNeg 0) (.int 0)).set (Int32.toNatClampNeg 0) (.int (nI (m - 1)))))[(50 + n)]? = some (10, (am.set (Int32.toNatClampNeg 0) (.int 0)).set (Int32.toNatClampNeg 0) (.int (nI (m - 1)))) := px_self ham2
        show px_Gx _ _ (122, [(3, .int 1), (2, .int (nI i)), (0, .ref (38 + n)), (1, .int (nI m))], [], (hp2.set (50 + n) (10, (am.set (Int32.toNatClampNeg 0) (.int 0)).set (Int32.toNatClampNeg 0) (.int (nI (m - 1)))))) _
        refine px_gx (fun _ K9 => px_a 1 (f' := (123, [(3, .int 1), (2, .int (nI i)), (0, .ref (38 + n)), (1, .int (nI m))], [.ref (38 + n)], (hp2.set (50 + n) (10, (am.set (Int32.toNatClampNeg 0) (.int 0)).set (Int32.toNatClampNeg 0) (.int (nI (m - 1))))))) rfl K9) ?_
        refine px_gx (fun _ K9 => px_gf (38 + n) 45 4 19 (.ref (50 + n)) rfl rfl hf1__38___n_ rfl K9) ?_
        show px_Gx _ _ (126, [(3, .int 1), (2, .int (nI i)), (0, .ref (38 + n)), (1, .int (nI m))], [.ref (50 + n)], (hp2.set (50 + n) (10, (am.set (Int32.toNatClampNeg 0) (.int 0)).set (Int32.toNatClampNeg 0) (.int (nI (m - 1)))))) _
        refine px_gx (fun _ K9 => px_a 1 (f' := (127, [(3, .int 1), (2, .int (nI i)), (0, .ref (38 + n)), (1, .int (nI m))], [.ref (38 + n), .ref (50 + n)], (hp2.set (50 + n) (10, (am.set (Int32.toNatClampNeg 0) (.int 0)).set (Int32.toNatClampNeg 0) (.int (nI (m - 1))))))) rfl K9) ?_
        refine px_gx (fun _ K9 => px_gf (38 + n) 132 4 17 (.int 1) rfl rfl hf1__38___n_ rfl K9) ?_
        show px_Gx _ _ (130, [(3, .int 1), (2, .int (nI i)), (0, .ref (38 + n)), (1, .int (nI m))], [.int 1, .ref (50 + n)], (hp2.set (50 + n) (10, (am.set (Int32.toNatClampNeg 0) (.int 0)).set (Int32.toNatClampNeg 0) (.int (nI (m - 1)))))) _
        refine px_gx (fun _ K9 => px_a 2 (f' := (132, [(3, .int 1), (2, .int (nI i)), (0, .ref (38 + n)), (1, .int (nI m))], [.int 0, .ref (50 + n)], (hp2.set (50 + n) (10, (am.set (Int32.toNatClampNeg 0) (.int 0)).set (Int32.toNatClampNeg 0) (.int (nI (m - 1))))))) rfl K9) ?_
        refine px_gx (fun _ K9 => px_al (50 + n) (.int (nI (m - 1))) rfl hf1__50___n_ (Or.inl ⟨rfl, Or.inl rfl⟩) (by decide) (List.getElem?_set_self (by first | (show (0 : Nat) < _; rw [List.length_set]; omega) | (rw [List.length_set]; omega) | omega)) K9) ?_
        show px_Gx _ _ (133, [(3, .int 1), (2, .int (nI i)), (0, .ref (38 + n)), (1, .int (nI m))], [.int (nI (m - 1))], (hp2.set (50 + n) (10, (am.set (Int32.toNatClampNeg 0) (.int 0)).set (Int32.toNatClampNeg 0) (.int (nI (m - 1)))))) _
        refine px_gx (fun _ K9 => px_b1 true 146 rfl rfl (decide_eq_true (nI_ne0 (by omega) (by omega))) K9) ?_
        show px_Gx _ _ (146, [(3, .int 1), (2, .int (nI i)), (0, .ref (38 + n)), (1, .int (nI m))], [], (hp2.set (50 + n) (10, (am.set (Int32.toNatClampNeg 0) (.int 0)).set (Int32.toNatClampNeg 0) (.int (nI (m - 1)))))) _
        refine px_gx (fun _ K9 => px_a 2 (f' := (11, [(2, .int ((nI i) + 1)), (3, .int 1), (0, .ref (38 + n)), (1, .int (nI m))], [], (hp2.set (50 + n) (10, (am.set (Int32.toNatClampNeg 0) (.int 0)).set (Int32.toNatClampNeg 0) (.int (nI (m - 1))))))) rfl K9) ?_
        rw [nI_1]
        refine px_wk [(2, .int (nI (i + 1))), (0, .ref (38 + n)), (1, .int (nI m))] ⟨rfl, rfl, rfl, trivial⟩ ?_
        have es : x_fd m f (i + 1) = (1, (m - 1)) :: [] := by show x_psh m (f i % 2) (x_am m (f i)) _ = _; rw [hl, est]; rfl
        exact ih (i + 1) _ _ _ (by rw [es]; exact hf1__38___n_) hf1__49___n_ hf1__50___n_ hf1__48___n_ (by first | exact la | (rw [List.length_set]; exact la)) (by first | exact lm | (repeat rw [List.length_set]); exact lm) (by rw [es]; exact ⟨List.getElem?_set_self (by show (0 : Nat) < _; omega), List.getElem?_set_self (by (repeat rw [List.length_set]); show (0 : Nat) < _; omega), trivial⟩) (by omega)
      | cons p r =>
        rw [est] at hm hr h84
        have hl2 : (p :: r).length = r.length + 1 := rfl
        rw [hl2] at hm h84
        have hso := x_fd_so (f := f) hm2 i
        rw [est] at hso
        have hpp := hso p List.mem_cons_self
        by_cases h1 : p.1 = 1
        · skip
          refine px_gx (fun _ K9 => px_a 2 (f' := (13, [(2, .int (nI i)), (0, .ref (38 + n)), (1, .int (nI m))], [.ref (38 + n), .int (nI i)], hp)) rfl K9) ?_
          refine px_gx (fun _ K9 => px_gf (38 + n) 122 4 15 (.int (nI K)) rfl rfl hm rfl K9) ?_
          show px_Gx _ _ (16, [(2, .int (nI i)), (0, .ref (38 + n)), (1, .int (nI m))], [.int (nI K), .int (nI i)], hp) _
          refine px_gx (fun _ K9 => px_b2 false 152 rfl rfl (decide_eq_false (nI_ge (by omega) (by omega))) K9) ?_
          show px_Gx _ _ (19, [(2, .int (nI i)), (0, .ref (38 + n)), (1, .int (nI m))], [], hp) _
          refine px_gx (fun _ K9 => px_a 1 (f' := (20, [(2, .int (nI i)), (0, .ref (38 + n)), (1, .int (nI m))], [.ref (38 + n)], hp)) rfl K9) ?_
          refine px_gx (fun _ K9 => px_gf (38 + n) 39 4 16 (.ref (48 + n)) rfl rfl hm rfl K9) ?_
          show px_Gx _ _ (23, [(2, .int (nI i)), (0, .ref (38 + n)), (1, .int (nI m))], [.ref (48 + n)], hp) _
          refine px_gx (fun _ K9 => px_a 1 (f' := (24, [(2, .int (nI i)), (0, .ref (38 + n)), (1, .int (nI m))], [.int (nI i), .ref (48 + n)], hp)) rfl K9) ?_
          refine px_gx (fun _ K9 => px_al (48 + n) (.int 3) rfl hvw (Or.inl ⟨rfl, Or.inl rfl⟩) (nI_pos (by omega)) (by rw [nI_clamp (by omega), hz, hl]; rfl) K9) ?_
          show px_Gx _ _ (25, [(2, .int (nI i)), (0, .ref (38 + n)), (1, .int (nI m))], [.int 3], hp) _
          refine px_gx (fun _ K9 => px_a 4 (f' := (29, [(3, .int 1), (2, .int (nI i)), (0, .ref (38 + n)), (1, .int (nI m))], [.ref (38 + n)], hp)) rfl K9) ?_
          refine px_gx (fun _ K9 => px_gf (38 + n) 132 4 17 (.int (nI (r.length + 1))) rfl rfl hm rfl K9) ?_
          show px_Gx _ _ (32, [(3, .int 1), (2, .int (nI i)), (0, .ref (38 + n)), (1, .int (nI m))], [.int (nI (r.length + 1))], hp) _
          refine px_gx (fun _ K9 => px_b1 false 50 rfl rfl (decide_eq_false (nI_ne0 (by omega) (by omega))) K9) ?_
          show px_Gx _ _ (35, [(3, .int 1), (2, .int (nI i)), (0, .ref (38 + n)), (1, .int (nI m))], [], hp) _
          refine px_gx (fun _ K9 => px_a 1 (f' := (36, [(3, .int 1), (2, .int (nI i)), (0, .ref (38 + n)), (1, .int (nI m))], [.ref (38 + n)], hp)) rfl K9) ?_
          refine px_gx (fun _ K9 => px_gf (38 + n) 42 4 18 (.ref (49 + n)) rfl rfl hm rfl K9) ?_
          show px_Gx _ _ (39, [(3, .int 1), (2, .int (nI i)), (0, .ref (38 + n)), (1, .int (nI m))], [.ref (49 + n)], hp) _
          refine px_gx (fun _ K9 => px_a 1 (f' := (40, [(3, .int 1), (2, .int (nI i)), (0, .ref (38 + n)), (1, .int (nI m))], [.ref (38 + n), .ref (49 + n)], hp)) rfl K9) ?_
          refine px_gx (fun _ K9 => px_gf (38 + n) 132 4 17 (.int (nI (r.length + 1))) rfl rfl hm rfl K9) ?_
          show px_Gx _ _ (43, [(3, .int 1), (2, .int (nI i)), (0, .ref (38 + n)), (1, .int (nI m))], [.int (nI (r.length + 1)), .ref (49 + n)], hp) _
          refine px_gx (fun _ K9 => px_a 2 (f' := (45, [(3, .int 1), (2, .int (nI i)), (0, .ref (38 + n)), (1, .int (nI m))], [.int ((nI (r.length + 1)) - 1), .ref (49 + n)], hp)) rfl K9) ?_
          refine px_gx (fun _ K9 => px_al (49 + n) (.int (nI p.1)) rfl hax (Or.inl ⟨rfl, Or.inl rfl⟩) (by rw [nI_pred]; exact nI_pos (by omega)) (by rw [nI_pred, nI_clamp (by omega)]; exact hr.1) K9) ?_
          show px_Gx _ _ (46, [(3, .int 1), (2, .int (nI i)), (0, .ref (38 + n)), (1, .int (nI m))], [.int (nI p.1)], hp) _
          refine px_gx (fun _ K9 => px_a 1 (f' := (47, [(3, .int 1), (2, .int (nI i)), (0, .ref (38 + n)), (1, .int (nI m))], [.int 1, .int (nI p.1)], hp)) rfl K9) ?_
          refine px_gx (fun _ K9 => px_b2 true 80 rfl rfl (decide_eq_true (by rw [h1]; rfl)) K9) ?_
          show px_Gx _ _ (80, [(3, .int 1), (2, .int (nI i)), (0, .ref (38 + n)), (1, .int (nI m))], [], hp) _
          have hm2x := hm
          have hax2 := hax
          have ham2 := ham
          have hvw2 := hvw
          refine px_gx (fun _ K9 => px_a 1 (f' := (81, [(3, .int 1), (2, .int (nI i)), (0, .ref (38 + n)), (1, .int (nI m))], [.ref (38 + n)], hp)) rfl K9) ?_
          refine px_gx (fun _ K9 => px_gf (38 + n) 45 4 19 (.ref (50 + n)) rfl rfl hm2x rfl K9) ?_
          show px_Gx _ _ (84, [(3, .int 1), (2, .int (nI i)), (0, .ref (38 + n)), (1, .int (nI m))], [.ref (50 + n)], hp) _
          refine px_gx (fun _ K9 => px_a 1 (f' := (85, [(3, .int 1), (2, .int (nI i)), (0, .ref (38 + n)), (1, .int (nI m))], [.ref (38 + n), .ref (50 + n)], hp)) rfl K9) ?_
          refine px_gx (fun _ K9 => px_gf (38 + n) 132 4 17 (.int (nI (r.length + 1))) rfl rfl hm2x rfl K9) ?_
          show px_Gx _ _ (88, [(3, .int 1), (2, .int (nI i)), (0, .ref (38 + n)), (1, .int (nI m))], [.int (nI (r.length + 1)), .ref (50 + n)], hp) _
          refine px_gx (fun _ K9 => px_a 3 (f' := (91, [(3, .int 1), (2, .int (nI i)), (0, .ref (38 + n)), (1, .int (nI m))], [.ref (38 + n), .int ((nI (r.length + 1)) - 1), .ref (50 + n)], hp)) rfl K9) ?_
          refine px_gx (fun _ K9 => px_gf (38 + n) 45 4 19 (.ref (50 + n)) rfl rfl hm2x rfl K9) ?_
          show px_Gx _ _ (94, [(3, .int 1), (2, .int (nI i)), (0, .ref (38 + n)), (1, .int (nI m))], [.ref (50 + n), .int ((nI (r.length + 1)) - 1), .ref (50 + n)], hp) _
          refine px_gx (fun _ K9 => px_a 1 (f' := (95, [(3, .int 1), (2, .int (nI i)), (0, .ref (38 + n)), (1, .int (nI m))], [.ref (38 + n), .ref (50 + n), .int ((nI (r.length + 1)) - 1), .ref (50 + n)], hp)) rfl K9) ?_
          refine px_gx (fun _ K9 => px_gf (38 + n) 132 4 17 (.int (nI (r.length + 1))) rfl rfl hm2x rfl K9) ?_
          show px_Gx _ _ (98, [(3, .int 1), (2, .int (nI i)), (0, .ref (38 + n)), (1, .int (nI m))], [.int (nI (r.length + 1)), .ref (50 + n), .int ((nI (r.length + 1)) - 1), .ref (50 + n)], hp) _
          refine px_gx (fun _ K9 => px_a 2 (f' := (100, [(3, .int 1), (2, .int (nI i)), (0, .ref (38 + n)), (1, .int (nI m))], [.int ((nI (r.length + 1)) - 1), .ref (50 + n), .int ((nI (r.length + 1)) - 1), .ref (50 + n)], hp)) rfl K9) ?_
          refine px_gx (fun _ K9 => px_al (50 + n) (.int (nI p.2)) rfl ham2 (Or.inl ⟨rfl, Or.inl rfl⟩) (by rw [nI_pred]; exact nI_pos (by omega)) (by rw [nI_pred, nI_clamp (by omega)]; exact hr.2.1) K9) ?_
          show px_Gx _ _ (101, [(3, .int 1), (2, .int (nI i)), (0, .ref (38 + n)), (1, .int (nI m))], [.int (nI p.2), .int ((nI (r.length + 1)) - 1), .ref (50 + n)], hp) _
          refine px_gx (fun _ K9 => px_a 1 (f' := (102, [(3, .int 1), (2, .int (nI i)), (0, .ref (38 + n)), (1, .int (nI m))], [.ref (38 + n), .int (nI p.2), .int ((nI (r.length + 1)) - 1), .ref (50 + n)], hp)) rfl K9) ?_
          refine px_gx (fun _ K9 => px_gf (38 + n) 39 4 16 (.ref (48 + n)) rfl rfl hm2x rfl K9) ?_
          show px_Gx _ _ (105, [(3, .int 1), (2, .int (nI i)), (0, .ref (38 + n)), (1, .int (nI m))], [.ref (48 + n), .int (nI p.2), .int ((nI (r.length + 1)) - 1), .ref (50 + n)], hp) _
          refine px_gx (fun _ K9 => px_a 1 (f' := (106, [(3, .int 1), (2, .int (nI i)), (0, .ref (38 + n)), (1, .int (nI m))], [.int (nI i), .ref (48 + n), .int (nI p.2), .int ((nI (r.length + 1)) - 1), .ref (50 + n)], hp)) rfl K9) ?_
          refine px_gx (fun _ K9 => px_al (48 + n) (.int 3) rfl hvw2 (Or.inl ⟨rfl, Or.inl rfl⟩) (nI_pos (by omega)) (by rw [nI_clamp (by omega), hz, hl]; rfl) K9) ?_
          show px_Gx _ _ (107, [(3, .int 1), (2, .int (nI i)), (0, .ref (38 + n)), (1, .int (nI m))], [.int 3, .int (nI p.2), .int ((nI (r.length + 1)) - 1), .ref (50 + n)], hp) _
          refine px_gx (fun _ K9 => px_a 7 (f' := (120, [(3, .int 1), (2, .int (nI i)), (0, .ref (38 + n)), (1, .int (nI m))], [.int (nI m), .int ((nI p.2) + ((nI m) - 1)), .int ((nI (r.length + 1)) - 1), .ref (50 + n)], hp)) rfl K9) ?_
          refine px_gx (fun _ K9 => px_irem rfl (nI_ne0 (by omega) (by omega)) K9) ?_
          have e121 : (((nI p.2) + ((nI m) - 1)) - ((nI p.2) + ((nI m) - 1)) / (nI m) * (nI m)) = nI ((p.2 + (m - 1)) % m) := by rw [show nI m - 1 = nI (m - 1) from pk_sub (a := m) (b := 1) (by omega), nI_add, pk_rem (by omega) (by omega) (by omega)]
          rw [e121]
          have emc := x_modc (m := m) (p := p.2) (v := (m - 1)) (by omega) (by omega) (by omega)
          by_cases h2 : p.2 + (m - 1) = m
          · refine px_gx (fun _ K9 => px_ias (50 + n) rfl ham2 (by omega) (by rw [nI_pred]; exact nI_pos (by omega)) (by rw [nI_pred, nI_clamp (by omega)]; first | (show (0 : Nat) < _; rw [List.length_set]; omega) | (rw [List.length_set]; omega) | omega) K9) ?_
            have hf1__38___n_ : (hp.set (50 + n) (10, (am).set (Int32.toNatClampNeg ((nI (r.length + 1)) - 1)) (.int (nI ((p.2 + (m - 1)) % m)))))[(38 + n)]? = some (4, [.int th, .int w, .int h, .ref (39 + n), .int pn, .ref (40 + n), .ref (41 + n), .ref (42 + n), .int pl, .ref (43 + n), .ref (44 + n), .ref (45 + n), .ref (46 + n), .int fo, .ref (47 + n), .int (nI K), .ref (48 + n), .int (nI (r.length + 1)), .ref (49 + n), .ref (50 + n), .ref (51 + n)]) := px_ne hm2x (by omega)
            have hf1__48___n_ : (hp.set (50 + n) (10, (am).set (Int32.toNatClampNeg ((nI (r.length + 1)) - 1)) (.int (nI ((p.2 + (m - 1)) % m)))))[(48 + n)]? = some (10, vw) := px_ne hvw2 (by omega)
            have hf1__49___n_ : (hp.set (50 + n) (10, (am).set (Int32.toNatClampNeg ((nI (r.length + 1)) - 1)) (.int (nI ((p.2 + (m - 1)) % m)))))[(49 + n)]? = some (10, ax) := px_ne hax2 (by omega)
            have hf1__50___n_ : (hp.set (50 + n) (10, (am).set (Int32.toNatClampNeg ((nI (r.length + 1)) - 1)) (.int (nI ((p.2 + (m - 1)) % m)))))[(50 + n)]? = some (10, (am).set (Int32.toNatClampNeg ((nI (r.length + 1)) - 1)) (.int (nI ((p.2 + (m - 1)) % m)))) := px_self ham2
            show px_Gx _ _ (122, [(3, .int 1), (2, .int (nI i)), (0, .ref (38 + n)), (1, .int (nI m))], [], (hp.set (50 + n) (10, (am).set (Int32.toNatClampNeg ((nI (r.length + 1)) - 1)) (.int (nI ((p.2 + (m - 1)) % m)))))) _
            refine px_gx (fun _ K9 => px_a 1 (f' := (123, [(3, .int 1), (2, .int (nI i)), (0, .ref (38 + n)), (1, .int (nI m))], [.ref (38 + n)], (hp.set (50 + n) (10, (am).set (Int32.toNatClampNeg ((nI (r.length + 1)) - 1)) (.int (nI ((p.2 + (m - 1)) % m))))))) rfl K9) ?_
            refine px_gx (fun _ K9 => px_gf (38 + n) 45 4 19 (.ref (50 + n)) rfl rfl hf1__38___n_ rfl K9) ?_
            show px_Gx _ _ (126, [(3, .int 1), (2, .int (nI i)), (0, .ref (38 + n)), (1, .int (nI m))], [.ref (50 + n)], (hp.set (50 + n) (10, (am).set (Int32.toNatClampNeg ((nI (r.length + 1)) - 1)) (.int (nI ((p.2 + (m - 1)) % m)))))) _
            refine px_gx (fun _ K9 => px_a 1 (f' := (127, [(3, .int 1), (2, .int (nI i)), (0, .ref (38 + n)), (1, .int (nI m))], [.ref (38 + n), .ref (50 + n)], (hp.set (50 + n) (10, (am).set (Int32.toNatClampNeg ((nI (r.length + 1)) - 1)) (.int (nI ((p.2 + (m - 1)) % m))))))) rfl K9) ?_
            refine px_gx (fun _ K9 => px_gf (38 + n) 132 4 17 (.int (nI (r.length + 1))) rfl rfl hf1__38___n_ rfl K9) ?_
            show px_Gx _ _ (130, [(3, .int 1), (2, .int (nI i)), (0, .ref (38 + n)), (1, .int (nI m))], [.int (nI (r.length + 1)), .ref (50 + n)], (hp.set (50 + n) (10, (am).set (Int32.toNatClampNeg ((nI (r.length + 1)) - 1)) (.int (nI ((p.2 + (m - 1)) % m)))))) _
            refine px_gx (fun _ K9 => px_a 2 (f' := (132, [(3, .int 1), (2, .int (nI i)), (0, .ref (38 + n)), (1, .int (nI m))], [.int ((nI (r.length + 1)) - 1), .ref (50 + n)], (hp.set (50 + n) (10, (am).set (Int32.toNatClampNeg ((nI (r.length + 1)) - 1)) (.int (nI ((p.2 + (m - 1)) % m))))))) rfl K9) ?_
            refine px_gx (fun _ K9 => px_al (50 + n) (.int (nI ((p.2 + (m - 1)) % m))) rfl hf1__50___n_ (Or.inl ⟨rfl, Or.inl rfl⟩) (by rw [nI_pred]; exact nI_pos (by omega)) (List.getElem?_set_self (by rw [nI_pred, nI_clamp (by omega)]; first | (show (0 : Nat) < _; rw [List.length_set]; omega) | (rw [List.length_set]; omega) | omega)) K9) ?_
            show px_Gx _ _ (133, [(3, .int 1), (2, .int (nI i)), (0, .ref (38 + n)), (1, .int (nI m))], [.int (nI ((p.2 + (m - 1)) % m))], (hp.set (50 + n) (10, (am).set (Int32.toNatClampNeg ((nI (r.length + 1)) - 1)) (.int (nI ((p.2 + (m - 1)) % m)))))) _
            refine px_gx (fun _ K9 => px_b1 false 146 rfl rfl (decide_eq_false (not_not_intro (by rw [emc, if_pos h2]; rfl))) K9) ?_
            show px_Gx _ _ (136, [(3, .int 1), (2, .int (nI i)), (0, .ref (38 + n)), (1, .int (nI m))], [], (hp.set (50 + n) (10, (am).set (Int32.toNatClampNeg ((nI (r.length + 1)) - 1)) (.int (nI ((p.2 + (m - 1)) % m)))))) _
            refine px_gx (fun _ K9 => px_a 2 (f' := (138, [(3, .int 1), (2, .int (nI i)), (0, .ref (38 + n)), (1, .int (nI m))], [.ref (38 + n), .ref (38 + n)], (hp.set (50 + n) (10, (am).set (Int32.toNatClampNeg ((nI (r.length + 1)) - 1)) (.int (nI ((p.2 + (m - 1)) % m))))))) rfl K9) ?_
            refine px_gx (fun _ K9 => px_gf (38 + n) 132 4 17 (.int (nI (r.length + 1))) rfl rfl hf1__38___n_ rfl K9) ?_
            show px_Gx _ _ (141, [(3, .int 1), (2, .int (nI i)), (0, .ref (38 + n)), (1, .int (nI m))], [.int (nI (r.length + 1)), .ref (38 + n)], (hp.set (50 + n) (10, (am).set (Int32.toNatClampNeg ((nI (r.length + 1)) - 1)) (.int (nI ((p.2 + (m - 1)) % m)))))) _
            refine px_gx (fun _ K9 => px_a 2 (f' := (143, [(3, .int 1), (2, .int (nI i)), (0, .ref (38 + n)), (1, .int (nI m))], [.int ((nI (r.length + 1)) - 1), .ref (38 + n)], (hp.set (50 + n) (10, (am).set (Int32.toNatClampNeg ((nI (r.length + 1)) - 1)) (.int (nI ((p.2 + (m - 1)) % m))))))) rfl K9) ?_
            refine px_gx (fun _ K9 => px_pf (38 + n) 132 4 17 rfl rfl hf1__38___n_ (by omega) (by simp) rfl rfl (by decide) K9) ?_
            have hf2__38___n_ : (((hp.set (50 + n) (10, (am).set (Int32.toNatClampNeg ((nI (r.length + 1)) - 1)) (.int (nI ((p.2 + (m - 1)) % m)))))).set (38 + n) (4, [.int th, .int w, .int h, .ref (39 + n), .int pn, .ref (40 + n), .ref (41 + n), .ref (42 + n), .int pl, .ref (43 + n), .ref (44 + n), .ref (45 + n), .ref (46 + n), .int fo, .ref (47 + n), .int (nI K), .ref (48 + n), .int ((nI (r.length + 1)) - 1), .ref (49 + n), .ref (50 + n), .ref (51 + n)]))[(38 + n)]? = some (4, [.int th, .int w, .int h, .ref (39 + n), .int pn, .ref (40 + n), .ref (41 + n), .ref (42 + n), .int pl, .ref (43 + n), .ref (44 + n), .ref (45 + n), .ref (46 + n), .int fo, .ref (47 + n), .int (nI K), .ref (48 + n), .int ((nI (r.length + 1)) - 1), .ref (49 + n), .ref (50 + n), .ref (51 + n)]) := px_self hf1__38___n_
            have hf2__48___n_ : (((hp.set (50 + n) (10, (am).set (Int32.toNatClampNeg ((nI (r.length + 1)) - 1)) (.int (nI ((p.2 + (m - 1)) % m)))))).set (38 + n) (4, [.int th, .int w, .int h, .ref (39 + n), .int pn, .ref (40 + n), .ref (41 + n), .ref (42 + n), .int pl, .ref (43 + n), .ref (44 + n), .ref (45 + n), .ref (46 + n), .int fo, .ref (47 + n), .int (nI K), .ref (48 + n), .int ((nI (r.length + 1)) - 1), .ref (49 + n), .ref (50 + n), .ref (51 + n)]))[(48 + n)]? = some (10, vw) := px_ne hf1__48___n_ (by omega)
            have hf2__49___n_ : (((hp.set (50 + n) (10, (am).set (Int32.toNatClampNeg ((nI (r.length + 1)) - 1)) (.int (nI ((p.2 + (m - 1)) % m)))))).set (38 + n) (4, [.int th, .int w, .int h, .ref (39 + n), .int pn, .ref (40 + n), .ref (41 + n), .ref (42 + n), .int pl, .ref (43 + n), .ref (44 + n), .ref (45 + n), .ref (46 + n), .int fo, .ref (47 + n), .int (nI K), .ref (48 + n), .int ((nI (r.length + 1)) - 1), .ref (49 + n), .ref (50 + n), .ref (51 + n)]))[(49 + n)]? = some (10, ax) := px_ne hf1__49___n_ (by omega)
            have hf2__50___n_ : (((hp.set (50 + n) (10, (am).set (Int32.toNatClampNeg ((nI (r.length + 1)) - 1)) (.int (nI ((p.2 + (m - 1)) % m)))))).set (38 + n) (4, [.int th, .int w, .int h, .ref (39 + n), .int pn, .ref (40 + n), .ref (41 + n), .ref (42 + n), .int pl, .ref (43 + n), .ref (44 + n), .ref (45 + n), .ref (46 + n), .int fo, .ref (47 + n), .int (nI K), .ref (48 + n), .int ((nI (r.length + 1)) - 1), .ref (49 + n), .ref (50 + n), .ref (51 + n)]))[(50 + n)]? = some (10, (am).set (Int32.toNatClampNeg ((nI (r.length + 1)) - 1)) (.int (nI ((p.2 + (m - 1)) % m)))) := px_ne hf1__50___n_ (by omega)
            show px_Gx _ _ (146, [(3, .int 1), (2, .int (nI i)), (0, .ref (38 + n)), (1, .int (nI m))], [], (((hp.set (50 + n) (10, (am).set (Int32.toNatClampNeg ((nI (r.length + 1)) - 1)) (.int (nI ((p.2 + (m - 1)) % m)))))).set (38 + n) (4, [.int th, .int w, .int h, .ref (39 + n), .int pn, .ref (40 + n), .ref (41 + n), .ref (42 + n), .int pl, .ref (43 + n), .ref (44 + n), .ref (45 + n), .ref (46 + n), .int fo, .ref (47 + n), .int (nI K), .ref (48 + n), .int ((nI (r.length + 1)) - 1), .ref (49 + n), .ref (50 + n), .ref (51 + n)]))) _
            refine px_gx (fun _ K9 => px_a 2 (f' := (11, [(2, .int ((nI i) + 1)), (3, .int 1), (0, .ref (38 + n)), (1, .int (nI m))], [], (((hp.set (50 + n) (10, (am).set (Int32.toNatClampNeg ((nI (r.length + 1)) - 1)) (.int (nI ((p.2 + (m - 1)) % m)))))).set (38 + n) (4, [.int th, .int w, .int h, .ref (39 + n), .int pn, .ref (40 + n), .ref (41 + n), .ref (42 + n), .int pl, .ref (43 + n), .ref (44 + n), .ref (45 + n), .ref (46 + n), .int fo, .ref (47 + n), .int (nI K), .ref (48 + n), .int ((nI (r.length + 1)) - 1), .ref (49 + n), .ref (50 + n), .ref (51 + n)])))) rfl K9) ?_
            rw [nI_1]
            refine px_wk [(2, .int (nI (i + 1))), (0, .ref (38 + n)), (1, .int (nI m))] ⟨rfl, rfl, rfl, trivial⟩ ?_
            have es : x_fd m f (i + 1) = r := by show x_psh m (f i % 2) (x_am m (f i)) _ = _; rw [hl, est]; show (if p.1 = _ then _ else _) = _; rw [if_pos h1]; exact if_pos h2
            exact ih (i + 1) _ _ _ (by rw [es]; exact (nI_pred r.length) ▸ hf2__38___n_) hf2__49___n_ hf2__50___n_ hf2__48___n_ (by first | exact la | (rw [List.length_set]; exact la)) (by first | exact lm | (repeat rw [List.length_set]); exact lm) (by rw [es]; rw [nI_pred, nI_clamp (by omega)]; exact x_rep_setb hr.2.2 (Nat.le_refl _)) (by omega)
          · refine px_gx (fun _ K9 => px_ias (50 + n) rfl ham2 (by omega) (by rw [nI_pred]; exact nI_pos (by omega)) (by rw [nI_pred, nI_clamp (by omega)]; first | (show (0 : Nat) < _; rw [List.length_set]; omega) | (rw [List.length_set]; omega) | omega) K9) ?_
            have hf1__38___n_ : (hp.set (50 + n) (10, (am).set (Int32.toNatClampNeg ((nI (r.length + 1)) - 1)) (.int (nI ((p.2 + (m - 1)) % m)))))[(38 + n)]? = some (4, [.int th, .int w, .int h, .ref (39 + n), .int pn, .ref (40 + n), .ref (41 + n), .ref (42 + n), .int pl, .ref (43 + n), .ref (44 + n), .ref (45 + n), .ref (46 + n), .int fo, .ref (47 + n), .int (nI K), .ref (48 + n), .int (nI (r.length + 1)), .ref (49 + n), .ref (50 + n), .ref (51 + n)]) := px_ne hm2x (by omega)
            have hf1__48___n_ : (hp.set (50 + n) (10, (am).set (Int32.toNatClampNeg ((nI (r.length + 1)) - 1)) (.int (nI ((p.2 + (m - 1)) % m)))))[(48 + n)]? = some (10, vw) := px_ne hvw2 (by omega)
            have hf1__49___n_ : (hp.set (50 + n) (10, (am).set (Int32.toNatClampNeg ((nI (r.length + 1)) - 1)) (.int (nI ((p.2 + (m - 1)) % m)))))[(49 + n)]? = some (10, ax) := px_ne hax2 (by omega)
            have hf1__50___n_ : (hp.set (50 + n) (10, (am).set (Int32.toNatClampNeg ((nI (r.length + 1)) - 1)) (.int (nI ((p.2 + (m - 1)) % m)))))[(50 + n)]? = some (10, (am).set (Int32.toNatClampNeg ((nI (r.length + 1)) - 1)) (.int (nI ((p.2 + (m - 1)) % m)))) := px_self ham2
            show px_Gx _ _ (122, [(3, .int 1), (2, .int (nI i)), (0, .ref (38 + n)), (1, .int (nI m))], [], (hp.set (50 + n) (10, (am).set (Int32.toNatClampNeg ((nI (r.length + 1)) - 1)) (.int (nI ((p.2 + (m - 1)) % m)))))) _
            refine px_gx (fun _ K9 => px_a 1 (f' := (123, [(3, .int 1), (2, .int (nI i)), (0, .ref (38 + n)), (1, .int (nI m))], [.ref (38 + n)], (hp.set (50 + n) (10, (am).set (Int32.toNatClampNeg ((nI (r.length + 1)) - 1)) (.int (nI ((p.2 + (m - 1)) % m))))))) rfl K9) ?_
            refine px_gx (fun _ K9 => px_gf (38 + n) 45 4 19 (.ref (50 + n)) rfl rfl hf1__38___n_ rfl K9) ?_
            show px_Gx _ _ (126, [(3, .int 1), (2, .int (nI i)), (0, .ref (38 + n)), (1, .int (nI m))], [.ref (50 + n)], (hp.set (50 + n) (10, (am).set (Int32.toNatClampNeg ((nI (r.length + 1)) - 1)) (.int (nI ((p.2 + (m - 1)) % m)))))) _
            refine px_gx (fun _ K9 => px_a 1 (f' := (127, [(3, .int 1), (2, .int (nI i)), (0, .ref (38 + n)), (1, .int (nI m))], [.ref (38 + n), .ref (50 + n)], (hp.set (50 + n) (10, (am).set (Int32.toNatClampNeg ((nI (r.length + 1)) - 1)) (.int (nI ((p.2 + (m - 1)) % m))))))) rfl K9) ?_
            refine px_gx (fun _ K9 => px_gf (38 + n) 132 4 17 (.int (nI (r.length + 1))) rfl rfl hf1__38___n_ rfl K9) ?_
            show px_Gx _ _ (130, [(3, .int 1), (2, .int (nI i)), (0, .ref (38 + n)), (1, .int (nI m))], [.int (nI (r.length + 1)), .ref (50 + n)], (hp.set (50 + n) (10, (am).set (Int32.toNatClampNeg ((nI (r.length + 1)) - 1)) (.int (nI ((p.2 + (m - 1)) % m)))))) _
            refine px_gx (fun _ K9 => px_a 2 (f' := (132, [(3, .int 1), (2, .int (nI i)), (0, .ref (38 + n)), (1, .int (nI m))], [.int ((nI (r.length + 1)) - 1), .ref (50 + n)], (hp.set (50 + n) (10, (am).set (Int32.toNatClampNeg ((nI (r.length + 1)) - 1)) (.int (nI ((p.2 + (m - 1)) % m))))))) rfl K9) ?_
            refine px_gx (fun _ K9 => px_al (50 + n) (.int (nI ((p.2 + (m - 1)) % m))) rfl hf1__50___n_ (Or.inl ⟨rfl, Or.inl rfl⟩) (by rw [nI_pred]; exact nI_pos (by omega)) (List.getElem?_set_self (by rw [nI_pred, nI_clamp (by omega)]; first | (show (0 : Nat) < _; rw [List.length_set]; omega) | (rw [List.length_set]; omega) | omega)) K9) ?_
            show px_Gx _ _ (133, [(3, .int 1), (2, .int (nI i)), (0, .ref (38 + n)), (1, .int (nI m))], [.int (nI ((p.2 + (m - 1)) % m))], (hp.set (50 + n) (10, (am).set (Int32.toNatClampNeg ((nI (r.length + 1)) - 1)) (.int (nI ((p.2 + (m - 1)) % m)))))) _
            refine px_gx (fun _ K9 => px_b1 true 146 rfl rfl (decide_eq_true (nI_ne0 (by rw [emc, if_neg h2]; split <;> omega) (Nat.lt_of_lt_of_le (Nat.mod_lt _ (by omega)) (by omega)))) K9) ?_
            show px_Gx _ _ (146, [(3, .int 1), (2, .int (nI i)), (0, .ref (38 + n)), (1, .int (nI m))], [], (hp.set (50 + n) (10, (am).set (Int32.toNatClampNeg ((nI (r.length + 1)) - 1)) (.int (nI ((p.2 + (m - 1)) % m)))))) _
            refine px_gx (fun _ K9 => px_a 2 (f' := (11, [(2, .int ((nI i) + 1)), (3, .int 1), (0, .ref (38 + n)), (1, .int (nI m))], [], (hp.set (50 + n) (10, (am).set (Int32.toNatClampNeg ((nI (r.length + 1)) - 1)) (.int (nI ((p.2 + (m - 1)) % m))))))) rfl K9) ?_
            rw [nI_1]
            refine px_wk [(2, .int (nI (i + 1))), (0, .ref (38 + n)), (1, .int (nI m))] ⟨rfl, rfl, rfl, trivial⟩ ?_
            have es : x_fd m f (i + 1) = (1, (p.2 + (m - 1)) % m) :: r := by show x_psh m (f i % 2) (x_am m (f i)) _ = _; rw [hl, est]; rw [show (3 : Nat) % 2 = 1 from rfl, show x_am m 3 = (m - 1) from rfl, x_psh_c, if_pos h1, if_neg h2, emc, if_neg h2]
            exact ih (i + 1) _ _ _ (by rw [es]; exact hf1__38___n_) hf1__49___n_ hf1__50___n_ hf1__48___n_ (by first | exact la | (rw [List.length_set]; exact la)) (by first | exact lm | (repeat rw [List.length_set]); exact lm) (by rw [es]; rw [nI_pred, nI_clamp (by omega)]; exact ⟨by rw [hr.1, h1], List.getElem?_set_self (by (repeat rw [List.length_set]); omega), x_rep_setb hr.2.2 (Nat.le_refl _)⟩) (by omega)
        · skip
          refine px_gx (fun _ K9 => px_a 2 (f' := (13, [(2, .int (nI i)), (0, .ref (38 + n)), (1, .int (nI m))], [.ref (38 + n), .int (nI i)], hp)) rfl K9) ?_
          refine px_gx (fun _ K9 => px_gf (38 + n) 122 4 15 (.int (nI K)) rfl rfl hm rfl K9) ?_
          show px_Gx _ _ (16, [(2, .int (nI i)), (0, .ref (38 + n)), (1, .int (nI m))], [.int (nI K), .int (nI i)], hp) _
          refine px_gx (fun _ K9 => px_b2 false 152 rfl rfl (decide_eq_false (nI_ge (by omega) (by omega))) K9) ?_
          show px_Gx _ _ (19, [(2, .int (nI i)), (0, .ref (38 + n)), (1, .int (nI m))], [], hp) _
          refine px_gx (fun _ K9 => px_a 1 (f' := (20, [(2, .int (nI i)), (0, .ref (38 + n)), (1, .int (nI m))], [.ref (38 + n)], hp)) rfl K9) ?_
          refine px_gx (fun _ K9 => px_gf (38 + n) 39 4 16 (.ref (48 + n)) rfl rfl hm rfl K9) ?_
          show px_Gx _ _ (23, [(2, .int (nI i)), (0, .ref (38 + n)), (1, .int (nI m))], [.ref (48 + n)], hp) _
          refine px_gx (fun _ K9 => px_a 1 (f' := (24, [(2, .int (nI i)), (0, .ref (38 + n)), (1, .int (nI m))], [.int (nI i), .ref (48 + n)], hp)) rfl K9) ?_
          refine px_gx (fun _ K9 => px_al (48 + n) (.int 3) rfl hvw (Or.inl ⟨rfl, Or.inl rfl⟩) (nI_pos (by omega)) (by rw [nI_clamp (by omega), hz, hl]; rfl) K9) ?_
          show px_Gx _ _ (25, [(2, .int (nI i)), (0, .ref (38 + n)), (1, .int (nI m))], [.int 3], hp) _
          refine px_gx (fun _ K9 => px_a 4 (f' := (29, [(3, .int 1), (2, .int (nI i)), (0, .ref (38 + n)), (1, .int (nI m))], [.ref (38 + n)], hp)) rfl K9) ?_
          refine px_gx (fun _ K9 => px_gf (38 + n) 132 4 17 (.int (nI (r.length + 1))) rfl rfl hm rfl K9) ?_
          show px_Gx _ _ (32, [(3, .int 1), (2, .int (nI i)), (0, .ref (38 + n)), (1, .int (nI m))], [.int (nI (r.length + 1))], hp) _
          refine px_gx (fun _ K9 => px_b1 false 50 rfl rfl (decide_eq_false (nI_ne0 (by omega) (by omega))) K9) ?_
          show px_Gx _ _ (35, [(3, .int 1), (2, .int (nI i)), (0, .ref (38 + n)), (1, .int (nI m))], [], hp) _
          refine px_gx (fun _ K9 => px_a 1 (f' := (36, [(3, .int 1), (2, .int (nI i)), (0, .ref (38 + n)), (1, .int (nI m))], [.ref (38 + n)], hp)) rfl K9) ?_
          refine px_gx (fun _ K9 => px_gf (38 + n) 42 4 18 (.ref (49 + n)) rfl rfl hm rfl K9) ?_
          show px_Gx _ _ (39, [(3, .int 1), (2, .int (nI i)), (0, .ref (38 + n)), (1, .int (nI m))], [.ref (49 + n)], hp) _
          refine px_gx (fun _ K9 => px_a 1 (f' := (40, [(3, .int 1), (2, .int (nI i)), (0, .ref (38 + n)), (1, .int (nI m))], [.ref (38 + n), .ref (49 + n)], hp)) rfl K9) ?_
          refine px_gx (fun _ K9 => px_gf (38 + n) 132 4 17 (.int (nI (r.length + 1))) rfl rfl hm rfl K9) ?_
          show px_Gx _ _ (43, [(3, .int 1), (2, .int (nI i)), (0, .ref (38 + n)), (1, .int (nI m))], [.int (nI (r.length + 1)), .ref (49 + n)], hp) _
          refine px_gx (fun _ K9 => px_a 2 (f' := (45, [(3, .int 1), (2, .int (nI i)), (0, .ref (38 + n)), (1, .int (nI m))], [.int ((nI (r.length + 1)) - 1), .ref (49 + n)], hp)) rfl K9) ?_
          refine px_gx (fun _ K9 => px_al (49 + n) (.int (nI p.1)) rfl hax (Or.inl ⟨rfl, Or.inl rfl⟩) (by rw [nI_pred]; exact nI_pos (by omega)) (by rw [nI_pred, nI_clamp (by omega)]; exact hr.1) K9) ?_
          show px_Gx _ _ (46, [(3, .int 1), (2, .int (nI i)), (0, .ref (38 + n)), (1, .int (nI m))], [.int (nI p.1)], hp) _
          refine px_gx (fun _ K9 => px_a 1 (f' := (47, [(3, .int 1), (2, .int (nI i)), (0, .ref (38 + n)), (1, .int (nI m))], [.int 1, .int (nI p.1)], hp)) rfl K9) ?_
          refine px_gx (fun _ K9 => px_b2 false 80 rfl rfl (decide_eq_false (fun z => h1 ((nI_eq (b := 1) (by omega) (by omega)).mp z))) K9) ?_
          show px_Gx _ _ (50, [(3, .int 1), (2, .int (nI i)), (0, .ref (38 + n)), (1, .int (nI m))], [], hp) _
          refine px_gx (fun _ K9 => px_a 1 (f' := (51, [(3, .int 1), (2, .int (nI i)), (0, .ref (38 + n)), (1, .int (nI m))], [.ref (38 + n)], hp)) rfl K9) ?_
          refine px_gx (fun _ K9 => px_gf (38 + n) 42 4 18 (.ref (49 + n)) rfl rfl hm rfl K9) ?_
          show px_Gx _ _ (54, [(3, .int 1), (2, .int (nI i)), (0, .ref (38 + n)), (1, .int (nI m))], [.ref (49 + n)], hp) _
          refine px_gx (fun _ K9 => px_a 1 (f' := (55, [(3, .int 1), (2, .int (nI i)), (0, .ref (38 + n)), (1, .int (nI m))], [.ref (38 + n), .ref (49 + n)], hp)) rfl K9) ?_
          refine px_gx (fun _ K9 => px_gf (38 + n) 132 4 17 (.int (nI (r.length + 1))) rfl rfl hm rfl K9) ?_
          show px_Gx _ _ (58, [(3, .int 1), (2, .int (nI i)), (0, .ref (38 + n)), (1, .int (nI m))], [.int (nI (r.length + 1)), .ref (49 + n)], hp) _
          refine px_gx (fun _ K9 => px_a 1 (f' := (59, [(3, .int 1), (2, .int (nI i)), (0, .ref (38 + n)), (1, .int (nI m))], [.int 1, .int (nI (r.length + 1)), .ref (49 + n)], hp)) rfl K9) ?_
          refine px_gx (fun _ K9 => px_ias (49 + n) rfl hax (by omega) (nI_pos (by omega)) (by rw [nI_clamp (by omega)]; omega) K9) ?_
          have hf1__38___n_ : (hp.set (49 + n) (10, ax.set (nI (r.length + 1)).toNatClampNeg (.int 1)))[(38 + n)]? = some (4, [.int th, .int w, .int h, .ref (39 + n), .int pn, .ref (40 + n), .ref (41 + n), .ref (42 + n), .int pl, .ref (43 + n), .ref (44 + n), .ref (45 + n), .ref (46 + n), .int fo, .ref (47 + n), .int (nI K), .ref (48 + n), .int (nI (r.length + 1)), .ref (49 + n), .ref (50 + n), .ref (51 + n)]) := px_ne hm (by omega)
          have hf1__48___n_ : (hp.set (49 + n) (10, ax.set (nI (r.length + 1)).toNatClampNeg (.int 1)))[(48 + n)]? = some (10, vw) := px_ne hvw (by omega)
          have hf1__49___n_ : (hp.set (49 + n) (10, ax.set (nI (r.length + 1)).toNatClampNeg (.int 1)))[(49 + n)]? = some (10, ax.set (nI (r.length + 1)).toNatClampNeg (.int 1)) := px_self hax
          have hf1__50___n_ : (hp.set (49 + n) (10, ax.set (nI (r.length + 1)).toNatClampNeg (.int 1)))[(50 + n)]? = some (10, am) := px_ne ham (by omega)
          show px_Gx _ _ (60, [(3, .int 1), (2, .int (nI i)), (0, .ref (38 + n)), (1, .int (nI m))], [], (hp.set (49 + n) (10, ax.set (nI (r.length + 1)).toNatClampNeg (.int 1)))) _
          refine px_gx (fun _ K9 => px_a 1 (f' := (61, [(3, .int 1), (2, .int (nI i)), (0, .ref (38 + n)), (1, .int (nI m))], [.ref (38 + n)], (hp.set (49 + n) (10, ax.set (nI (r.length + 1)).toNatClampNeg (.int 1))))) rfl K9) ?_
          refine px_gx (fun _ K9 => px_gf (38 + n) 45 4 19 (.ref (50 + n)) rfl rfl hf1__38___n_ rfl K9) ?_
          show px_Gx _ _ (64, [(3, .int 1), (2, .int (nI i)), (0, .ref (38 + n)), (1, .int (nI m))], [.ref (50 + n)], (hp.set (49 + n) (10, ax.set (nI (r.length + 1)).toNatClampNeg (.int 1)))) _
          refine px_gx (fun _ K9 => px_a 1 (f' := (65, [(3, .int 1), (2, .int (nI i)), (0, .ref (38 + n)), (1, .int (nI m))], [.ref (38 + n), .ref (50 + n)], (hp.set (49 + n) (10, ax.set (nI (r.length + 1)).toNatClampNeg (.int 1))))) rfl K9) ?_
          refine px_gx (fun _ K9 => px_gf (38 + n) 132 4 17 (.int (nI (r.length + 1))) rfl rfl hf1__38___n_ rfl K9) ?_
          show px_Gx _ _ (68, [(3, .int 1), (2, .int (nI i)), (0, .ref (38 + n)), (1, .int (nI m))], [.int (nI (r.length + 1)), .ref (50 + n)], (hp.set (49 + n) (10, ax.set (nI (r.length + 1)).toNatClampNeg (.int 1)))) _
          refine px_gx (fun _ K9 => px_a 1 (f' := (69, [(3, .int 1), (2, .int (nI i)), (0, .ref (38 + n)), (1, .int (nI m))], [.int 0, .int (nI (r.length + 1)), .ref (50 + n)], (hp.set (49 + n) (10, ax.set (nI (r.length + 1)).toNatClampNeg (.int 1))))) rfl K9) ?_
          refine px_gx (fun _ K9 => px_ias (50 + n) rfl hf1__50___n_ (by omega) (nI_pos (by omega)) (by rw [nI_clamp (by omega)]; omega) K9) ?_
          have hf2__38___n_ : (((hp.set (49 + n) (10, ax.set (nI (r.length + 1)).toNatClampNeg (.int 1)))).set (50 + n) (10, am.set (nI (r.length + 1)).toNatClampNeg (.int 0)))[(38 + n)]? = some (4, [.int th, .int w, .int h, .ref (39 + n), .int pn, .ref (40 + n), .ref (41 + n), .ref (42 + n), .int pl, .ref (43 + n), .ref (44 + n), .ref (45 + n), .ref (46 + n), .int fo, .ref (47 + n), .int (nI K), .ref (48 + n), .int (nI (r.length + 1)), .ref (49 + n), .ref (50 + n), .ref (51 + n)]) := px_ne hf1__38___n_ (by omega)
          have hf2__48___n_ : (((hp.set (49 + n) (10, ax.set (nI (r.length + 1)).toNatClampNeg (.int 1)))).set (50 + n) (10, am.set (nI (r.length + 1)).toNatClampNeg (.int 0)))[(48 + n)]? = some (10, vw) := px_ne hf1__48___n_ (by omega)
          have hf2__49___n_ : (((hp.set (49 + n) (10, ax.set (nI (r.length + 1)).toNatClampNeg (.int 1)))).set (50 + n) (10, am.set (nI (r.length + 1)).toNatClampNeg (.int 0)))[(49 + n)]? = some (10, ax.set (nI (r.length + 1)).toNatClampNeg (.int 1)) := px_ne hf1__49___n_ (by omega)
          have hf2__50___n_ : (((hp.set (49 + n) (10, ax.set (nI (r.length + 1)).toNatClampNeg (.int 1)))).set (50 + n) (10, am.set (nI (r.length + 1)).toNatClampNeg (.int 0)))[(50 + n)]? = some (10, am.set (nI (r.length + 1)).toNatClampNeg (.int 0)) := px_self hf1__50___n_
          show px_Gx _ _ (70, [(3, .int 1), (2, .int (nI i)), (0, .ref (38 + n)), (1, .int (nI m))], [], (((hp.set (49 + n) (10, ax.set (nI (r.length + 1)).toNatClampNeg (.int 1)))).set (50 + n) (10, am.set (nI (r.length + 1)).toNatClampNeg (.int 0)))) _
          refine px_gx (fun _ K9 => px_a 2 (f' := (72, [(3, .int 1), (2, .int (nI i)), (0, .ref (38 + n)), (1, .int (nI m))], [.ref (38 + n), .ref (38 + n)], (((hp.set (49 + n) (10, ax.set (nI (r.length + 1)).toNatClampNeg (.int 1)))).set (50 + n) (10, am.set (nI (r.length + 1)).toNatClampNeg (.int 0))))) rfl K9) ?_
          refine px_gx (fun _ K9 => px_gf (38 + n) 132 4 17 (.int (nI (r.length + 1))) rfl rfl hf2__38___n_ rfl K9) ?_
          show px_Gx _ _ (75, [(3, .int 1), (2, .int (nI i)), (0, .ref (38 + n)), (1, .int (nI m))], [.int (nI (r.length + 1)), .ref (38 + n)], (((hp.set (49 + n) (10, ax.set (nI (r.length + 1)).toNatClampNeg (.int 1)))).set (50 + n) (10, am.set (nI (r.length + 1)).toNatClampNeg (.int 0)))) _
          refine px_gx (fun _ K9 => px_a 2 (f' := (77, [(3, .int 1), (2, .int (nI i)), (0, .ref (38 + n)), (1, .int (nI m))], [.int ((nI (r.length + 1)) + 1), .ref (38 + n)], (((hp.set (49 + n) (10, ax.set (nI (r.length + 1)).toNatClampNeg (.int 1)))).set (50 + n) (10, am.set (nI (r.length + 1)).toNatClampNeg (.int 0))))) rfl K9) ?_
          refine px_gx (fun _ K9 => px_pf (38 + n) 132 4 17 rfl rfl hf2__38___n_ (by omega) (by simp) rfl rfl (by decide) K9) ?_
          have hf3__38___n_ : (((((hp.set (49 + n) (10, ax.set (nI (r.length + 1)).toNatClampNeg (.int 1)))).set (50 + n) (10, am.set (nI (r.length + 1)).toNatClampNeg (.int 0)))).set (38 + n) (4, [.int th, .int w, .int h, .ref (39 + n), .int pn, .ref (40 + n), .ref (41 + n), .ref (42 + n), .int pl, .ref (43 + n), .ref (44 + n), .ref (45 + n), .ref (46 + n), .int fo, .ref (47 + n), .int (nI K), .ref (48 + n), .int ((nI (r.length + 1)) + 1), .ref (49 + n), .ref (50 + n), .ref (51 + n)]))[(38 + n)]? = some (4, [.int th, .int w, .int h, .ref (39 + n), .int pn, .ref (40 + n), .ref (41 + n), .ref (42 + n), .int pl, .ref (43 + n), .ref (44 + n), .ref (45 + n), .ref (46 + n), .int fo, .ref (47 + n), .int (nI K), .ref (48 + n), .int ((nI (r.length + 1)) + 1), .ref (49 + n), .ref (50 + n), .ref (51 + n)]) := px_self hf2__38___n_
          have hf3__48___n_ : (((((hp.set (49 + n) (10, ax.set (nI (r.length + 1)).toNatClampNeg (.int 1)))).set (50 + n) (10, am.set (nI (r.length + 1)).toNatClampNeg (.int 0)))).set (38 + n) (4, [.int th, .int w, .int h, .ref (39 + n), .int pn, .ref (40 + n), .ref (41 + n), .ref (42 + n), .int pl, .ref (43 + n), .ref (44 + n), .ref (45 + n), .ref (46 + n), .int fo, .ref (47 + n), .int (nI K), .ref (48 + n), .int ((nI (r.length + 1)) + 1), .ref (49 + n), .ref (50 + n), .ref (51 + n)]))[(48 + n)]? = some (10, vw) := px_ne hf2__48___n_ (by omega)
          have hf3__49___n_ : (((((hp.set (49 + n) (10, ax.set (nI (r.length + 1)).toNatClampNeg (.int 1)))).set (50 + n) (10, am.set (nI (r.length + 1)).toNatClampNeg (.int 0)))).set (38 + n) (4, [.int th, .int w, .int h, .ref (39 + n), .int pn, .ref (40 + n), .ref (41 + n), .ref (42 + n), .int pl, .ref (43 + n), .ref (44 + n), .ref (45 + n), .ref (46 + n), .int fo, .ref (47 + n), .int (nI K), .ref (48 + n), .int ((nI (r.length + 1)) + 1), .ref (49 + n), .ref (50 + n), .ref (51 + n)]))[(49 + n)]? = some (10, ax.set (nI (r.length + 1)).toNatClampNeg (.int 1)) := px_ne hf2__49___n_ (by omega)
          have hf3__50___n_ : (((((hp.set (49 + n) (10, ax.set (nI (r.length + 1)).toNatClampNeg (.int 1)))).set (50 + n) (10, am.set (nI (r.length + 1)).toNatClampNeg (.int 0)))).set (38 + n) (4, [.int th, .int w, .int h, .ref (39 + n), .int pn, .ref (40 + n), .ref (41 + n), .ref (42 + n), .int pl, .ref (43 + n), .ref (44 + n), .ref (45 + n), .ref (46 + n), .int fo, .ref (47 + n), .int (nI K), .ref (48 + n), .int ((nI (r.length + 1)) + 1), .ref (49 + n), .ref (50 + n), .ref (51 + n)]))[(50 + n)]? = some (10, am.set (nI (r.length + 1)).toNatClampNeg (.int 0)) := px_ne hf2__50___n_ (by omega)
          show px_Gx _ _ (80, [(3, .int 1), (2, .int (nI i)), (0, .ref (38 + n)), (1, .int (nI m))], [], (((((hp.set (49 + n) (10, ax.set (nI (r.length + 1)).toNatClampNeg (.int 1)))).set (50 + n) (10, am.set (nI (r.length + 1)).toNatClampNeg (.int 0)))).set (38 + n) (4, [.int th, .int w, .int h, .ref (39 + n), .int pn, .ref (40 + n), .ref (41 + n), .ref (42 + n), .int pl, .ref (43 + n), .ref (44 + n), .ref (45 + n), .ref (46 + n), .int fo, .ref (47 + n), .int (nI K), .ref (48 + n), .int ((nI (r.length + 1)) + 1), .ref (49 + n), .ref (50 + n), .ref (51 + n)]))) _
          have hm2x := hf3__38___n_
          have hax2 := hf3__49___n_
          have ham2 := hf3__50___n_
          have hvw2 := hf3__48___n_
          rw [nI_1] at hm2x hax2 ham2 hvw2 ⊢
          generalize (((((hp.set (49 + n) (10, ax.set (nI (r.length + 1)).toNatClampNeg (.int 1)))).set (50 + n) (10, am.set (nI (r.length + 1)).toNatClampNeg (.int 0)))).set (38 + n) (4, [.int th, .int w, .int h, .ref (39 + n), .int pn, .ref (40 + n), .ref (41 + n), .ref (42 + n), .int pl, .ref (43 + n), .ref (44 + n), .ref (45 + n), .ref (46 + n), .int fo, .ref (47 + n), .int (nI K), .ref (48 + n), .int (nI (r.length + 1 + 1)), .ref (49 + n), .ref (50 + n), .ref (51 + n)])) = hp2 at hm2x hax2 ham2 hvw2 ⊢
          refine px_gx (fun _ K9 => px_a 1 (f' := (81, [(3, .int 1), (2, .int (nI i)), (0, .ref (38 + n)), (1, .int (nI m))], [.ref (38 + n)], hp2)) rfl K9) ?_
          refine px_gx (fun _ K9 => px_gf (38 + n) 45 4 19 (.ref (50 + n)) rfl rfl hm2x rfl K9) ?_
          show px_Gx _ _ (84, [(3, .int 1), (2, .int (nI i)), (0, .ref (38 + n)), (1, .int (nI m))], [.ref (50 + n)], hp2) _
          refine px_gx (fun _ K9 => px_a 1 (f' := (85, [(3, .int 1), (2, .int (nI i)), (0, .ref (38 + n)), (1, .int (nI m))], [.ref (38 + n), .ref (50 + n)], hp2)) rfl K9) ?_
          refine px_gx (fun _ K9 => px_gf (38 + n) 132 4 17 (.int (nI (r.length + 1 + 1))) rfl rfl hm2x rfl K9) ?_
          show px_Gx _ _ (88, [(3, .int 1), (2, .int (nI i)), (0, .ref (38 + n)), (1, .int (nI m))], [.int (nI (r.length + 1 + 1)), .ref (50 + n)], hp2) _
          refine px_gx (fun _ K9 => px_a 3 (f' := (91, [(3, .int 1), (2, .int (nI i)), (0, .ref (38 + n)), (1, .int (nI m))], [.ref (38 + n), .int ((nI (r.length + 1 + 1)) - 1), .ref (50 + n)], hp2)) rfl K9) ?_
          refine px_gx (fun _ K9 => px_gf (38 + n) 45 4 19 (.ref (50 + n)) rfl rfl hm2x rfl K9) ?_
          show px_Gx _ _ (94, [(3, .int 1), (2, .int (nI i)), (0, .ref (38 + n)), (1, .int (nI m))], [.ref (50 + n), .int ((nI (r.length + 1 + 1)) - 1), .ref (50 + n)], hp2) _
          refine px_gx (fun _ K9 => px_a 1 (f' := (95, [(3, .int 1), (2, .int (nI i)), (0, .ref (38 + n)), (1, .int (nI m))], [.ref (38 + n), .ref (50 + n), .int ((nI (r.length + 1 + 1)) - 1), .ref (50 + n)], hp2)) rfl K9) ?_
          refine px_gx (fun _ K9 => px_gf (38 + n) 132 4 17 (.int (nI (r.length + 1 + 1))) rfl rfl hm2x rfl K9) ?_
          show px_Gx _ _ (98, [(3, .int 1), (2, .int (nI i)), (0, .ref (38 + n)), (1, .int (nI m))], [.int (nI (r.length + 1 + 1)), .ref (50 + n), .int ((nI (r.length + 1 + 1)) - 1), .ref (50 + n)], hp2) _
          refine px_gx (fun _ K9 => px_a 2 (f' := (100, [(3, .int 1), (2, .int (nI i)), (0, .ref (38 + n)), (1, .int (nI m))], [.int ((nI (r.length + 1 + 1)) - 1), .ref (50 + n), .int ((nI (r.length + 1 + 1)) - 1), .ref (50 + n)], hp2)) rfl K9) ?_
          refine px_gx (fun _ K9 => px_al (50 + n) (.int 0) rfl ham2 (Or.inl ⟨rfl, Or.inl rfl⟩) (by rw [nI_pred]; exact nI_pos (by omega)) (by rw [nI_pred]; exact List.getElem?_set_self (by rw [nI_clamp (by omega)]; omega)) K9) ?_
          show px_Gx _ _ (101, [(3, .int 1), (2, .int (nI i)), (0, .ref (38 + n)), (1, .int (nI m))], [.int 0, .int ((nI (r.length + 1 + 1)) - 1), .ref (50 + n)], hp2) _
          refine px_gx (fun _ K9 => px_a 1 (f' := (102, [(3, .int 1), (2, .int (nI i)), (0, .ref (38 + n)), (1, .int (nI m))], [.ref (38 + n), .int 0, .int ((nI (r.length + 1 + 1)) - 1), .ref (50 + n)], hp2)) rfl K9) ?_
          refine px_gx (fun _ K9 => px_gf (38 + n) 39 4 16 (.ref (48 + n)) rfl rfl hm2x rfl K9) ?_
          show px_Gx _ _ (105, [(3, .int 1), (2, .int (nI i)), (0, .ref (38 + n)), (1, .int (nI m))], [.ref (48 + n), .int 0, .int ((nI (r.length + 1 + 1)) - 1), .ref (50 + n)], hp2) _
          refine px_gx (fun _ K9 => px_a 1 (f' := (106, [(3, .int 1), (2, .int (nI i)), (0, .ref (38 + n)), (1, .int (nI m))], [.int (nI i), .ref (48 + n), .int 0, .int ((nI (r.length + 1 + 1)) - 1), .ref (50 + n)], hp2)) rfl K9) ?_
          refine px_gx (fun _ K9 => px_al (48 + n) (.int 3) rfl hvw2 (Or.inl ⟨rfl, Or.inl rfl⟩) (nI_pos (by omega)) (by rw [nI_clamp (by omega), hz, hl]; rfl) K9) ?_
          show px_Gx _ _ (107, [(3, .int 1), (2, .int (nI i)), (0, .ref (38 + n)), (1, .int (nI m))], [.int 3, .int 0, .int ((nI (r.length + 1 + 1)) - 1), .ref (50 + n)], hp2) _
          refine px_gx (fun _ K9 => px_a 7 (f' := (120, [(3, .int 1), (2, .int (nI i)), (0, .ref (38 + n)), (1, .int (nI m))], [.int (nI m), .int (0 + ((nI m) - 1)), .int ((nI (r.length + 1 + 1)) - 1), .ref (50 + n)], hp2)) rfl K9) ?_
          refine px_gx (fun _ K9 => px_irem rfl (nI_ne0 (by omega) (by omega)) K9) ?_
          have e121 : ((0 + ((nI m) - 1)) - (0 + ((nI m) - 1)) / (nI m) * (nI m)) = nI (m - 1) := by rw [show nI m - 1 = nI (m - 1) from pk_sub (a := m) (b := 1) (by omega), Int32.zero_add, pk_rem (by omega) (by omega) (by omega), Nat.mod_eq_of_lt (by omega)]
          rw [e121]
          refine px_gx (fun _ K9 => px_ias (50 + n) rfl ham2 (by omega) (by rw [nI_pred]; exact nI_pos (by omega)) (by rw [nI_pred, nI_clamp (by omega)]; first | (show (0 : Nat) < _; rw [List.length_set]; omega) | (rw [List.length_set]; omega) | omega) K9) ?_
          have hf1__38___n_ : (hp2.set (50 + n) (10, (am.set (nI (r.length + 1)).toNatClampNeg (.int 0)).set (Int32.toNatClampNeg ((nI (r.length + 1 + 1)) - 1)) (.int (nI (m - 1)))))[(38 + n)]? = some (4, [.int th, .int w, .int h, .ref (39 + n), .int pn, .ref (40 + n), .ref (41 + n), .ref (42 + n), .int pl, .ref (43 + n), .ref (44 + n), .ref (45 + n), .ref (46 + n), .int fo, .ref (47 + n), .int (nI K), .ref (48 + n), .int (nI (r.length + 1 + 1)), .ref (49 + n), .ref (50 + n), .ref (51 + n)]) := px_ne hm2x (by omega)
          have hf1__48___n_ : (hp2.set (50 + n) (10, (am.set (nI (r.length + 1)).toNatClampNeg (.int 0)).set (Int32.toNatClampNeg ((nI (r.length + 1 + 1)) - 1)) (.int (nI (m - 1)))))[(48 + n)]? = some (10, vw) := px_ne hvw2 (by omega)
          have hf1__49___n_ : (hp2.set (50 + n) (10, (am.set (nI (r.length + 1)).toNatClampNeg (.int 0)).set (Int32.toNatClampNeg ((nI (r.length + 1 + 1)) - 1)) (.int (nI (m - 1)))))[(49 + n)]? = some (10, ax.set (nI (r.length + 1)).toNatClampNeg (.int 1)) := px_ne hax2 (by omega)
          have hf1__50___n_ : (hp2.set (50 + n) (10, (am.set (nI (r.length + 1)).toNatClampNeg (.int 0)).set (Int32.toNatClampNeg ((nI (r.length + 1 + 1)) - 1)) (.int (nI (m - 1)))))[(50 + n)]? = some (10, (am.set (nI (r.length + 1)).toNatClampNeg (.int 0)).set (Int32.toNatClampNeg ((nI (r.length + 1 + 1)) - 1)) (.int (nI (m - 1)))) := px_self ham2
          show px_Gx _ _ (122, [(3, .int 1), (2, .int (nI i)), (0, .ref (38 + n)), (1, .int (nI m))], [], (hp2.set (50 + n) (10, (am.set (nI (r.length + 1)).toNatClampNeg (.int 0)).set (Int32.toNatClampNeg ((nI (r.length + 1 + 1)) - 1)) (.int (nI (m - 1)))))) _
          refine px_gx (fun _ K9 => px_a 1 (f' := (123, [(3, .int 1), (2, .int (nI i)), (0, .ref (38 + n)), (1, .int (nI m))], [.ref (38 + n)], (hp2.set (50 + n) (10, (am.set (nI (r.length + 1)).toNatClampNeg (.int 0)).set (Int32.toNatClampNeg ((nI (r.length + 1 + 1)) - 1)) (.int (nI (m - 1))))))) rfl K9) ?_
          refine px_gx (fun _ K9 => px_gf (38 + n) 45 4 19 (.ref (50 + n)) rfl rfl hf1__38___n_ rfl K9) ?_
          show px_Gx _ _ (126, [(3, .int 1), (2, .int (nI i)), (0, .ref (38 + n)), (1, .int (nI m))], [.ref (50 + n)], (hp2.set (50 + n) (10, (am.set (nI (r.length + 1)).toNatClampNeg (.int 0)).set (Int32.toNatClampNeg ((nI (r.length + 1 + 1)) - 1)) (.int (nI (m - 1)))))) _
          refine px_gx (fun _ K9 => px_a 1 (f' := (127, [(3, .int 1), (2, .int (nI i)), (0, .ref (38 + n)), (1, .int (nI m))], [.ref (38 + n), .ref (50 + n)], (hp2.set (50 + n) (10, (am.set (nI (r.length + 1)).toNatClampNeg (.int 0)).set (Int32.toNatClampNeg ((nI (r.length + 1 + 1)) - 1)) (.int (nI (m - 1))))))) rfl K9) ?_
          refine px_gx (fun _ K9 => px_gf (38 + n) 132 4 17 (.int (nI (r.length + 1 + 1))) rfl rfl hf1__38___n_ rfl K9) ?_
          show px_Gx _ _ (130, [(3, .int 1), (2, .int (nI i)), (0, .ref (38 + n)), (1, .int (nI m))], [.int (nI (r.length + 1 + 1)), .ref (50 + n)], (hp2.set (50 + n) (10, (am.set (nI (r.length + 1)).toNatClampNeg (.int 0)).set (Int32.toNatClampNeg ((nI (r.length + 1 + 1)) - 1)) (.int (nI (m - 1)))))) _
          refine px_gx (fun _ K9 => px_a 2 (f' := (132, [(3, .int 1), (2, .int (nI i)), (0, .ref (38 + n)), (1, .int (nI m))], [.int ((nI (r.length + 1 + 1)) - 1), .ref (50 + n)], (hp2.set (50 + n) (10, (am.set (nI (r.length + 1)).toNatClampNeg (.int 0)).set (Int32.toNatClampNeg ((nI (r.length + 1 + 1)) - 1)) (.int (nI (m - 1))))))) rfl K9) ?_
          refine px_gx (fun _ K9 => px_al (50 + n) (.int (nI (m - 1))) rfl hf1__50___n_ (Or.inl ⟨rfl, Or.inl rfl⟩) (by rw [nI_pred]; exact nI_pos (by omega)) (List.getElem?_set_self (by rw [nI_pred, nI_clamp (by omega)]; first | (show (0 : Nat) < _; rw [List.length_set]; omega) | (rw [List.length_set]; omega) | omega)) K9) ?_
          show px_Gx _ _ (133, [(3, .int 1), (2, .int (nI i)), (0, .ref (38 + n)), (1, .int (nI m))], [.int (nI (m - 1))], (hp2.set (50 + n) (10, (am.set (nI (r.length + 1)).toNatClampNeg (.int 0)).set (Int32.toNatClampNeg ((nI (r.length + 1 + 1)) - 1)) (.int (nI (m - 1)))))) _
          refine px_gx (fun _ K9 => px_b1 true 146 rfl rfl (decide_eq_true (nI_ne0 (by omega) (by omega))) K9) ?_
          show px_Gx _ _ (146, [(3, .int 1), (2, .int (nI i)), (0, .ref (38 + n)), (1, .int (nI m))], [], (hp2.set (50 + n) (10, (am.set (nI (r.length + 1)).toNatClampNeg (.int 0)).set (Int32.toNatClampNeg ((nI (r.length + 1 + 1)) - 1)) (.int (nI (m - 1)))))) _
          refine px_gx (fun _ K9 => px_a 2 (f' := (11, [(2, .int ((nI i) + 1)), (3, .int 1), (0, .ref (38 + n)), (1, .int (nI m))], [], (hp2.set (50 + n) (10, (am.set (nI (r.length + 1)).toNatClampNeg (.int 0)).set (Int32.toNatClampNeg ((nI (r.length + 1 + 1)) - 1)) (.int (nI (m - 1))))))) rfl K9) ?_
          rw [nI_1]
          refine px_wk [(2, .int (nI (i + 1))), (0, .ref (38 + n)), (1, .int (nI m))] ⟨rfl, rfl, rfl, trivial⟩ ?_
          have es : x_fd m f (i + 1) = (1, (m - 1)) :: p :: r := by show x_psh m (f i % 2) (x_am m (f i)) _ = _; rw [hl, est]; exact if_neg h1
          exact ih (i + 1) _ _ _ (by rw [es]; exact hf1__38___n_) hf1__49___n_ hf1__50___n_ hf1__48___n_ (by first | exact la | (rw [List.length_set]; exact la)) (by first | exact lm | (repeat rw [List.length_set]); exact lm) (by rw [es]; rw [nI_pred, nI_clamp (by omega)]; exact ⟨List.getElem?_set_self (by omega), List.getElem?_set_self (by (repeat rw [List.length_set]); omega), x_rep_setb (x_rep_set hr (Nat.le_refl _) (Nat.le_refl _)) (Nat.le_refl _)⟩) (by omega)
