def f_rep (ws : List Value) (wl : List Nat) : Prop := ∀ (i : Nat) (h : i < wl.length), ws[i]? = some (.int (nI wl[i]))
theorem f_rep_app {ws : List Value} {wl : List Nat} {P : Nat} (h : f_rep ws wl) (hl : wl.length < ws.length) : f_rep (ws.set wl.length (.int (nI P))) (wl ++ [P]) := by
  intro i hi
  by_cases e : i = wl.length
  · subst e
    rw [List.getElem?_set_self hl, List.getElem_append_right (Nat.le_refl _)]
    simp
  · have hi2 : i < wl.length := by rw [List.length_append, List.length_singleton] at hi; omega
    rw [List.getElem?_set_ne (Ne.symm e), h i hi2, List.getElem_append_left hi2]
set_option maxRecDepth 20000 in
theorem c_kwl {d k : Nat} {hp : px_H} {W V N P : Nat} {sc : Int32} {ss : Int64} {wl : List Nat} {ws : List Value} (hP : P < 65536) (hwl : ∀ Q ∈ wl, Q < 65536) (l8 : wl.length < 8) (hf : hp[10 + 3 * k]? = some (1, [.int (nI W), .int (nI V), .ref (11 + 3 * k), .ref (12 + 3 * k), .int (nI N), .int (nI wl.length), .int sc, .long ss])) (hw : hp[11 + 3 * k]? = some (10, ws)) (lws : ws.length = 8) (rep : f_rep ws wl) : ∀ m w, w + m = wl.length → (∀ (i : Nat) (h : i < wl.length), i < w → wl[i] ≠ P) → px_Gx d 25 (2, [(2, .int (nI w)), (0, .ref (10 + 3 * k)), (1, .int (nI P))], [], hp) (fun o hp' => o = .inl none ∧ ∃ ws' : List Value, hp'[10 + 3 * k]? = some (1, [.int (nI W), .int (nI V), .ref (11 + 3 * k), .ref (12 + 3 * k), .int (nI N), .int (nI (f_kw wl P).length), .int sc, .long ss]) ∧ hp'[11 + 3 * k]? = some (10, ws') ∧ ws'.length = 8 ∧ f_rep ws' (f_kw wl P) ∧ ∀ a, a ≠ 10 + 3 * k → a ≠ 11 + 3 * k → hp'[a]? = hp[a]?) := by
  intro m
  induction m with
  | zero =>
    intro w h hno
    have e : f_kw wl P = wl ++ [P] := if_neg (fun z => by
      obtain ⟨i, hi, he⟩ := List.getElem_of_mem z
      exact hno i hi (by omega) he)
    refine px_gx (fun _ K9 => px_a 2 (f' := (4, [(2, .int (nI w)), (0, .ref (10 + 3 * k)), (1, .int (nI P))], [.ref (10 + 3 * k), .int (nI w)], hp)) rfl K9) ?_
    refine px_gx (fun _ K9 => px_gf (10 + 3 * k) 49 1 5 (.int (nI wl.length)) rfl rfl hf rfl K9) ?_
    show px_Gx _ _ (7, [(2, .int (nI w)), (0, .ref (10 + 3 * k)), (1, .int (nI P))], [.int (nI wl.length), .int (nI w)], hp) _
    refine px_gx (fun _ K9 => px_b2 true 27 rfl rfl (decide_eq_true (show nI wl.length ≤ nI w by rw [Int32.le_iff_toInt_le, nI_toInt (by omega), nI_toInt (by omega)]; omega)) K9) ?_
    show px_Gx _ _ (27, [(2, .int (nI w)), (0, .ref (10 + 3 * k)), (1, .int (nI P))], [], hp) _
    refine px_gx (fun _ K9 => px_a 1 (f' := (28, [(2, .int (nI w)), (0, .ref (10 + 3 * k)), (1, .int (nI P))], [.ref (10 + 3 * k)], hp)) rfl K9) ?_
    refine px_gx (fun _ K9 => px_gf (10 + 3 * k) 49 1 5 (.int (nI wl.length)) rfl rfl hf rfl K9) ?_
    show px_Gx _ _ (31, [(2, .int (nI w)), (0, .ref (10 + 3 * k)), (1, .int (nI P))], [.int (nI wl.length)], hp) _
    refine px_gx (fun _ K9 => px_a 1 (f' := (32, [(2, .int (nI w)), (0, .ref (10 + 3 * k)), (1, .int (nI P))], [.ref (10 + 3 * k), .int (nI wl.length)], hp)) rfl K9) ?_
    refine px_gx (fun _ K9 => px_gf (10 + 3 * k) 18 1 2 (.ref (11 + 3 * k)) rfl rfl hf rfl K9) ?_
    show px_Gx _ _ (35, [(2, .int (nI w)), (0, .ref (10 + 3 * k)), (1, .int (nI P))], [.ref (11 + 3 * k), .int (nI wl.length)], hp) _
    refine px_gx (fun _ K9 => px_len_ (11 + 3 * k) rfl hw (by decide) (by decide) K9) ?_
    rw [show ws.length.toInt32 = 8 by rw [lws]; rfl]
    show px_Gx _ _ (36, [(2, .int (nI w)), (0, .ref (10 + 3 * k)), (1, .int (nI P))], [.int 8, .int (nI wl.length)], hp) _
    refine px_gx (fun _ K9 => px_b2 false 59 rfl rfl (decide_eq_false (show ¬ nI 8 ≤ nI wl.length by rw [Int32.le_iff_toInt_le, nI_toInt (by omega), nI_toInt (by omega)]; omega)) K9) ?_
    show px_Gx _ _ (39, [(2, .int (nI w)), (0, .ref (10 + 3 * k)), (1, .int (nI P))], [], hp) _
    refine px_gx (fun _ K9 => px_a 1 (f' := (40, [(2, .int (nI w)), (0, .ref (10 + 3 * k)), (1, .int (nI P))], [.ref (10 + 3 * k)], hp)) rfl K9) ?_
    refine px_gx (fun _ K9 => px_gf (10 + 3 * k) 18 1 2 (.ref (11 + 3 * k)) rfl rfl hf rfl K9) ?_
    show px_Gx _ _ (43, [(2, .int (nI w)), (0, .ref (10 + 3 * k)), (1, .int (nI P))], [.ref (11 + 3 * k)], hp) _
    refine px_gx (fun _ K9 => px_a 1 (f' := (44, [(2, .int (nI w)), (0, .ref (10 + 3 * k)), (1, .int (nI P))], [.ref (10 + 3 * k), .ref (11 + 3 * k)], hp)) rfl K9) ?_
    refine px_gx (fun _ K9 => px_gf (10 + 3 * k) 49 1 5 (.int (nI wl.length)) rfl rfl hf rfl K9) ?_
    show px_Gx _ _ (47, [(2, .int (nI w)), (0, .ref (10 + 3 * k)), (1, .int (nI P))], [.int (nI wl.length), .ref (11 + 3 * k)], hp) _
    refine px_gx (fun _ K9 => px_a 1 (f' := (48, [(2, .int (nI w)), (0, .ref (10 + 3 * k)), (1, .int (nI P))], [.int (nI P), .int (nI wl.length), .ref (11 + 3 * k)], hp)) rfl K9) ?_
    refine px_gx (fun _ K9 => px_ias (11 + 3 * k) rfl hw (by omega) (nI_pos (by omega)) (by rw [nI_clamp (by omega)]; omega) K9) ?_
    have hf1__10___3___k_ : (hp.set (11 + 3 * k) (10, (ws.set (nI wl.length).toNatClampNeg (.int (nI P)))))[(10 + 3 * k)]? = some (1, [.int (nI W), .int (nI V), .ref (11 + 3 * k), .ref (12 + 3 * k), .int (nI N), .int (nI wl.length), .int sc, .long ss]) := px_ne hf (by omega)
    have hf1__11___3___k_ : (hp.set (11 + 3 * k) (10, (ws.set (nI wl.length).toNatClampNeg (.int (nI P)))))[(11 + 3 * k)]? = some (10, (ws.set (nI wl.length).toNatClampNeg (.int (nI P)))) := px_self hw
    show px_Gx _ _ (49, [(2, .int (nI w)), (0, .ref (10 + 3 * k)), (1, .int (nI P))], [], (hp.set (11 + 3 * k) (10, (ws.set (nI wl.length).toNatClampNeg (.int (nI P)))))) _
    refine px_gx (fun _ K9 => px_a 2 (f' := (51, [(2, .int (nI w)), (0, .ref (10 + 3 * k)), (1, .int (nI P))], [.ref (10 + 3 * k), .ref (10 + 3 * k)], (hp.set (11 + 3 * k) (10, (ws.set (nI wl.length).toNatClampNeg (.int (nI P))))))) rfl K9) ?_
    refine px_gx (fun _ K9 => px_gf (10 + 3 * k) 49 1 5 (.int (nI wl.length)) rfl rfl hf1__10___3___k_ rfl K9) ?_
    show px_Gx _ _ (54, [(2, .int (nI w)), (0, .ref (10 + 3 * k)), (1, .int (nI P))], [.int (nI wl.length), .ref (10 + 3 * k)], (hp.set (11 + 3 * k) (10, (ws.set (nI wl.length).toNatClampNeg (.int (nI P)))))) _
    refine px_gx (fun _ K9 => px_a 2 (f' := (56, [(2, .int (nI w)), (0, .ref (10 + 3 * k)), (1, .int (nI P))], [.int ((nI wl.length) + 1), .ref (10 + 3 * k)], (hp.set (11 + 3 * k) (10, (ws.set (nI wl.length).toNatClampNeg (.int (nI P))))))) rfl K9) ?_
    refine px_gx (fun _ K9 => px_pf (10 + 3 * k) 49 1 5 rfl rfl hf1__10___3___k_ (by omega) (by simp) rfl rfl (by decide) K9) ?_
    have hf2__10___3___k_ : (((hp.set (11 + 3 * k) (10, (ws.set (nI wl.length).toNatClampNeg (.int (nI P)))))).set (10 + 3 * k) (1, [.int (nI W), .int (nI V), .ref (11 + 3 * k), .ref (12 + 3 * k), .int (nI N), .int ((nI wl.length) + 1), .int sc, .long ss]))[(10 + 3 * k)]? = some (1, [.int (nI W), .int (nI V), .ref (11 + 3 * k), .ref (12 + 3 * k), .int (nI N), .int ((nI wl.length) + 1), .int sc, .long ss]) := px_self hf1__10___3___k_
    have hf2__11___3___k_ : (((hp.set (11 + 3 * k) (10, (ws.set (nI wl.length).toNatClampNeg (.int (nI P)))))).set (10 + 3 * k) (1, [.int (nI W), .int (nI V), .ref (11 + 3 * k), .ref (12 + 3 * k), .int (nI N), .int ((nI wl.length) + 1), .int sc, .long ss]))[(11 + 3 * k)]? = some (10, (ws.set (nI wl.length).toNatClampNeg (.int (nI P)))) := px_ne hf1__11___3___k_ (by omega)
    show px_Gx _ _ (59, [(2, .int (nI w)), (0, .ref (10 + 3 * k)), (1, .int (nI P))], [], (((hp.set (11 + 3 * k) (10, (ws.set (nI wl.length).toNatClampNeg (.int (nI P)))))).set (10 + 3 * k) (1, [.int (nI W), .int (nI V), .ref (11 + 3 * k), .ref (12 + 3 * k), .int (nI N), .int ((nI wl.length) + 1), .int sc, .long ss]))) _
    refine ⟨_, _, px_e rfl rfl, rfl, _, ?_, hf2__11___3___k_, by rw [List.length_set]; exact lws, ?_, ?_⟩
    · rw [e, List.length_append, List.length_singleton, ← p_s16 wl.length (by omega)]
      exact hf2__10___3___k_
    · rw [e, nI_clamp (by omega)]
      exact f_rep_app rep (by omega)
    · intro a h1 h2
      rw [List.getElem?_set_ne (Ne.symm h1), List.getElem?_set_ne (Ne.symm h2)]
  | succ m ih =>
    intro w h hno
    have hw0 : w < wl.length := by omega
    have hwk : hp[11 + 3 * k]? = some (10, ws) := hw
    by_cases he : wl[w] = P
    · have hw : w < wl.length := hw0
      have e : f_kw wl P = wl := if_pos (he ▸ List.getElem_mem hw)
      refine px_gx (fun _ K9 => px_a 2 (f' := (4, [(2, .int (nI w)), (0, .ref (10 + 3 * k)), (1, .int (nI P))], [.ref (10 + 3 * k), .int (nI w)], hp)) rfl K9) ?_
      refine px_gx (fun _ K9 => px_gf (10 + 3 * k) 49 1 5 (.int (nI wl.length)) rfl rfl hf rfl K9) ?_
      show px_Gx _ _ (7, [(2, .int (nI w)), (0, .ref (10 + 3 * k)), (1, .int (nI P))], [.int (nI wl.length), .int (nI w)], hp) _
      refine px_gx (fun _ K9 => px_b2 false 27 rfl rfl (decide_eq_false (show ¬ nI wl.length ≤ nI w by rw [Int32.le_iff_toInt_le, nI_toInt (by omega), nI_toInt (by omega)]; omega)) K9) ?_
      show px_Gx _ _ (10, [(2, .int (nI w)), (0, .ref (10 + 3 * k)), (1, .int (nI P))], [], hp) _
      refine px_gx (fun _ K9 => px_a 1 (f' := (11, [(2, .int (nI w)), (0, .ref (10 + 3 * k)), (1, .int (nI P))], [.ref (10 + 3 * k)], hp)) rfl K9) ?_
      refine px_gx (fun _ K9 => px_gf (10 + 3 * k) 18 1 2 (.ref (11 + 3 * k)) rfl rfl hf rfl K9) ?_
      show px_Gx _ _ (14, [(2, .int (nI w)), (0, .ref (10 + 3 * k)), (1, .int (nI P))], [.ref (11 + 3 * k)], hp) _
      refine px_gx (fun _ K9 => px_a 1 (f' := (15, [(2, .int (nI w)), (0, .ref (10 + 3 * k)), (1, .int (nI P))], [.int (nI w), .ref (11 + 3 * k)], hp)) rfl K9) ?_
      refine px_gx (fun _ K9 => px_al (11 + 3 * k) (.int (nI wl[w])) rfl hwk (Or.inl ⟨rfl, Or.inl rfl⟩) (nI_pos (by omega)) (by rw [nI_clamp (by omega)]; exact rep w hw) K9) ?_
      show px_Gx _ _ (16, [(2, .int (nI w)), (0, .ref (10 + 3 * k)), (1, .int (nI P))], [.int (nI wl[w])], hp) _
      refine px_gx (fun _ K9 => px_a 1 (f' := (17, [(2, .int (nI w)), (0, .ref (10 + 3 * k)), (1, .int (nI P))], [.int (nI P), .int (nI wl[w])], hp)) rfl K9) ?_
      refine px_gx (fun _ K9 => px_b2 false 21 rfl rfl (decide_eq_false (not_not_intro (by rw [he]))) K9) ?_
      show px_Gx _ _ (20, [(2, .int (nI w)), (0, .ref (10 + 3 * k)), (1, .int (nI P))], [], hp) _
      refine ⟨_, _, px_e rfl rfl, rfl, ws, ?_, hwk, lws, ?_, fun a _ _ => rfl⟩
      · rw [e]; exact hf
      · rw [e]; exact rep
    · have hw : w < wl.length := hw0
      refine px_gx (fun _ K9 => px_a 2 (f' := (4, [(2, .int (nI w)), (0, .ref (10 + 3 * k)), (1, .int (nI P))], [.ref (10 + 3 * k), .int (nI w)], hp)) rfl K9) ?_
      refine px_gx (fun _ K9 => px_gf (10 + 3 * k) 49 1 5 (.int (nI wl.length)) rfl rfl hf rfl K9) ?_
      show px_Gx _ _ (7, [(2, .int (nI w)), (0, .ref (10 + 3 * k)), (1, .int (nI P))], [.int (nI wl.length), .int (nI w)], hp) _
      refine px_gx (fun _ K9 => px_b2 false 27 rfl rfl (decide_eq_false (show ¬ nI wl.length ≤ nI w by rw [Int32.le_iff_toInt_le, nI_toInt (by omega), nI_toInt (by omega)]; omega)) K9) ?_
      show px_Gx _ _ (10, [(2, .int (nI w)), (0, .ref (10 + 3 * k)), (1, .int (nI P))], [], hp) _
      refine px_gx (fun _ K9 => px_a 1 (f' := (11, [(2, .int (nI w)), (0, .ref (10 + 3 * k)), (1, .int (nI P))], [.ref (10 + 3 * k)], hp)) rfl K9) ?_
      refine px_gx (fun _ K9 => px_gf (10 + 3 * k) 18 1 2 (.ref (11 + 3 * k)) rfl rfl hf rfl K9) ?_
      show px_Gx _ _ (14, [(2, .int (nI w)), (0, .ref (10 + 3 * k)), (1, .int (nI P))], [.ref (11 + 3 * k)], hp) _
      refine px_gx (fun _ K9 => px_a 1 (f' := (15, [(2, .int (nI w)), (0, .ref (10 + 3 * k)), (1, .int (nI P))], [.int (nI w), .ref (11 + 3 * k)], hp)) rfl K9) ?_
      refine px_gx (fun _ K9 => px_al (11 + 3 * k) (.int (nI wl[w])) rfl hwk (Or.inl ⟨rfl, Or.inl rfl⟩) (nI_pos (by omega)) (by rw [nI_clamp (by omega)]; exact rep w hw) K9) ?_
      show px_Gx _ _ (16, [(2, .int (nI w)), (0, .ref (10 + 3 * k)), (1, .int (nI P))], [.int (nI wl[w])], hp) _
      refine px_gx (fun _ K9 => px_a 1 (f' := (17, [(2, .int (nI w)), (0, .ref (10 + 3 * k)), (1, .int (nI P))], [.int (nI P), .int (nI wl[w])], hp)) rfl K9) ?_
      refine px_gx (fun _ K9 => px_b2 true 21 rfl rfl (decide_eq_true (fun zz => he ((nI_eq (by have := hwl _ (List.getElem_mem hw); omega) (by omega)).mp zz))) K9) ?_
      show px_Gx _ _ (21, [(2, .int (nI w)), (0, .ref (10 + 3 * k)), (1, .int (nI P))], [], hp) _
      refine px_gx (fun _ K9 => px_a 2 (f' := (2, [(2, .int ((nI w) + 1)), (0, .ref (10 + 3 * k)), (1, .int (nI P))], [], hp)) rfl K9) ?_
      rw [p_s16 w (by omega)]
      refine ih (w + 1) (by omega) (fun i hi h1 => ?_)
      by_cases ei : i = w
      · subst ei
        exact he
      · exact hno i hi (by omega)
theorem c_kw {d k : Nat} {hp : px_H} {W V N P : Nat} {sc : Int32} {ss : Int64} {wl : List Nat} {ws : List Value} (hP : P < 65536) (hwl : ∀ Q ∈ wl, Q < 65536) (l8 : wl.length < 8) (hf : hp[10 + 3 * k]? = some (1, [.int (nI W), .int (nI V), .ref (11 + 3 * k), .ref (12 + 3 * k), .int (nI N), .int (nI wl.length), .int sc, .long ss])) (hw : hp[11 + 3 * k]? = some (10, ws)) (lws : ws.length = 8) (rep : f_rep ws wl) : px_Gx d 25 (0, [(0, .ref (10 + 3 * k)), (1, .int (nI P))], [], hp) (fun o hp' => o = .inl none ∧ ∃ ws' : List Value, hp'[10 + 3 * k]? = some (1, [.int (nI W), .int (nI V), .ref (11 + 3 * k), .ref (12 + 3 * k), .int (nI N), .int (nI (f_kw wl P).length), .int sc, .long ss]) ∧ hp'[11 + 3 * k]? = some (10, ws') ∧ ws'.length = 8 ∧ f_rep ws' (f_kw wl P) ∧ ∀ a, a ≠ 10 + 3 * k → a ≠ 11 + 3 * k → hp'[a]? = hp[a]?) := by
  obtain ⟨o, hp', g, h⟩ := c_kwl (d := d) hP hwl l8 hf hw lws rep wl.length 0 (by omega) (fun i _ h => absurd h (Nat.not_lt_zero i))
  exact ⟨o, hp', px_a 2 (f' := (2, [(2, .int (nI 0)), (0, .ref (10 + 3 * k)), (1, .int (nI P))], [], hp)) rfl g, h⟩
def f_hd : Nat → Nat → Nat
  | 0, N => N
  | t + 1, N => f_qt (f_T t N)
theorem f_T_hd : ∀ t N, f_T t N = if t = 4 then f_ov (f_hd t N) else f_hd t N
  | 0, _ => rfl
  | t + 1, N => by
    show (if t = 3 then f_ov (f_qt (f_T t N)) else f_qt (f_T t N)) = if t + 1 = 4 then f_ov (f_qt (f_T t N)) else f_qt (f_T t N)
    by_cases h : t = 3
    · rw [if_pos h, if_pos (by omega)]
    · rw [if_neg h, if_neg (by omega)]
theorem f_hd_lt {N : Nat} (h : N < 65536) : ∀ t, f_hd t N < 65536
  | 0 => h
  | t + 1 => f_qt_lt _
theorem f_pu_lt {N : Nat} (h : N < 65536) : f_pu N < 65536 := f_p1_lt (f_p1_lt (f_p1_lt h))
theorem f_ws_lt {N t : Nat} (h : N < 65536) : ∀ Q ∈ f_ws N t, Q < 65536 := fun Q hQ => by
  obtain ⟨k, -, rfl⟩ := (f_ws_mem t).mp hQ
  exact f_pu_lt (f_T_lt h k)
set_option maxRecDepth 20000 in
theorem c_fwl {d k : Nat} {W V N : Nat} {sc : Int32} {ss : Int64} (hN : N < 65536) : ∀ m t, t + m = 8 → ∀ (hp : px_H) (ws : List Value) (hf : hp[10 + 3 * k]? = some (1, [.int (nI W), .int (nI V), .ref (11 + 3 * k), .ref (12 + 3 * k), .int (nI N), .int (nI (f_ws N t).length), .int sc, .long ss])) (hw : hp[11 + 3 * k]? = some (10, ws)) (lws : ws.length = 8) (rep : f_rep ws (f_ws N t)), px_Gx (d + 1) 22 (12, [(2, .int (nI t)), (1, .int (nI (f_hd t N))), (0, .ref (10 + 3 * k))], [], hp) (fun o hp' => o = .inl none ∧ ∃ ws' : List Value, hp'[10 + 3 * k]? = some (1, [.int (nI W), .int (nI V), .ref (11 + 3 * k), .ref (12 + 3 * k), .int (nI N), .int (nI (f_ws N 8).length), .int sc, .long ss]) ∧ hp'[11 + 3 * k]? = some (10, ws') ∧ ws'.length = 8 ∧ f_rep ws' (f_ws N 8) ∧ ∀ a, a ≠ 10 + 3 * k → a ≠ 11 + 3 * k → hp'[a]? = hp[a]?) := by
  intro m
  induction m with
  | zero =>
    intro t h hp ws hf hw lws rep
    obtain rfl : t = 8 := by omega
    refine px_gx (fun _ K9 => px_a 2 (f' := (15, [(2, .int (nI 8)), (1, .int (nI (f_hd 8 N))), (0, .ref (10 + 3 * k))], [.int 8, .int (nI 8)], hp)) rfl K9) ?_
    refine px_gx (fun _ K9 => px_b2 true 47 rfl rfl (decide_eq_true (show (8 : Int32) ≤ nI 8 from by decide)) K9) ?_
    show px_Gx _ _ (47, [(2, .int (nI 8)), (1, .int (nI (f_hd 8 N))), (0, .ref (10 + 3 * k))], [], hp) _
    exact ⟨_, _, px_e rfl rfl, rfl, ws, hf, hw, lws, rep, fun _ _ _ => rfl⟩
  | succ m ih =>
    intro t h hp ws hf hw lws rep
    have hhd := f_hd_lt hN t
    have hT := f_T_lt hN t
    have l7 := f_ws_len N t
    obtain ⟨o1, hp1, hg, e1, ws', k1, k2, k3, k4, k5⟩ := c_kw (d := d) (P := f_w t N) (f_pu_lt hT) (f_ws_lt hN) (by omega) hf hw lws rep
    subst e1
    have eT0 := f_T_hd t N
    by_cases t4 : t = 4
    · have eT : f_T t N = f_ov (f_hd t N) := eT0.trans (if_pos t4)
      refine px_gx (fun _ K9 => px_a 2 (f' := (15, [(2, .int (nI t)), (1, .int (nI (f_hd t N))), (0, .ref (10 + 3 * k))], [.int 8, .int (nI t)], hp)) rfl K9) ?_
      refine px_gx (fun _ K9 => px_b2 false 47 rfl rfl (decide_eq_false (show ¬ nI 8 ≤ nI t by rw [Int32.le_iff_toInt_le, nI_toInt (by omega), nI_toInt (by omega)]; omega)) K9) ?_
      show px_Gx _ _ (18, [(2, .int (nI t)), (1, .int (nI (f_hd t N))), (0, .ref (10 + 3 * k))], [], hp) _
      refine px_gx (fun _ K9 => px_a 2 (f' := (20, [(2, .int (nI t)), (1, .int (nI (f_hd t N))), (0, .ref (10 + 3 * k))], [.int 4, .int (nI t)], hp)) rfl K9) ?_
      refine px_gx (fun _ K9 => px_b2 false 28 rfl rfl (decide_eq_false (not_not_intro (by rw [t4]; rfl))) K9) ?_
      show px_Gx _ _ (23, [(2, .int (nI t)), (1, .int (nI (f_hd t N))), (0, .ref (10 + 3 * k))], [], hp) _
      refine px_gx (fun _ K9 => px_a 1 (f' := (24, [(2, .int (nI t)), (1, .int (nI (f_hd t N))), (0, .ref (10 + 3 * k))], [.int (nI (f_hd t N))], hp)) rfl K9) ?_
      refine px_gx (fun _ K9 => px_cl (as := [.int (nI (f_hd t N))]) (rest := []) rfl rfl (c_ov (d := d) hhd) K9) ?_
      show px_Gx _ _ (27, [(2, .int (nI t)), (1, .int (nI (f_hd t N))), (0, .ref (10 + 3 * k))], [.int (nI (f_ov (f_hd t N)))], hp) _
      refine px_gx (fun _ K9 => px_a 1 (f' := (28, [(1, .int (nI (f_ov (f_hd t N)))), (2, .int (nI t)), (0, .ref (10 + 3 * k))], [], hp)) rfl K9) ?_
      rw [← eT]
      show px_Gx _ _ (28, [(1, .int (nI (f_T t N))), (2, .int (nI t)), (0, .ref (10 + 3 * k))], [], hp) _
      refine px_gx (fun _ K9 => px_a 2 (f' := (30, [(1, .int (nI (f_T t N))), (2, .int (nI t)), (0, .ref (10 + 3 * k))], [.int (nI (f_T t N)), .ref (10 + 3 * k)], hp)) rfl K9) ?_
      refine px_gx (fun _ K9 => px_cl (as := [.int (nI (f_T t N))]) (rest := [.ref (10 + 3 * k)]) rfl rfl (c_pu (d := d) hT) K9) ?_
      show px_Gx _ _ (33, [(1, .int (nI (f_T t N))), (2, .int (nI t)), (0, .ref (10 + 3 * k))], [.int (nI (f_w t N)), .ref (10 + 3 * k)], hp) _
      refine px_gx (fun _ K9 => px_cv (10 + 3 * k) (as := [.int (nI (f_w t N))]) (rest := []) rfl rfl hf rfl rfl rfl rfl (Nat.le_of_ble_eq_true rfl) (hg) K9) ?_
      show px_Gx _ _ (36, [(1, .int (nI (f_T t N))), (2, .int (nI t)), (0, .ref (10 + 3 * k))], [], hp1) _
      refine px_gx (fun _ K9 => px_a 1 (f' := (37, [(1, .int (nI (f_T t N))), (2, .int (nI t)), (0, .ref (10 + 3 * k))], [.int (nI (f_T t N))], hp1)) rfl K9) ?_
      refine px_gx (fun _ K9 => px_cl (as := [.int (nI (f_T t N))]) (rest := []) rfl rfl (c_qt (d := d) hT) K9) ?_
      show px_Gx _ _ (40, [(1, .int (nI (f_T t N))), (2, .int (nI t)), (0, .ref (10 + 3 * k))], [.int (nI (f_qt (f_T t N)))], hp1) _
      refine px_gx (fun _ K9 => px_a 3 (f' := (12, [(2, .int ((nI t) + 1)), (1, .int (nI (f_qt (f_T t N)))), (0, .ref (10 + 3 * k))], [], hp1)) rfl K9) ?_
      rw [p_s16 t (by omega)]
      refine px_wk [(2, .int (nI (t + 1))), (1, .int (nI (f_hd (t + 1) N))), (0, .ref (10 + 3 * k))] ⟨rfl, rfl, rfl, trivial⟩ ?_
      obtain ⟨o2, hp2, g2, e2, ws2, b1, b2, b3, b4, b5⟩ := ih (t + 1) (by omega) hp1 ws' k1 k2 k3 k4
      exact ⟨o2, hp2, g2, e2, ws2, b1, b2, b3, b4, fun a h1 h2 => (b5 a h1 h2).trans (k5 a h1 h2)⟩
    · have eT : f_T t N = f_hd t N := eT0.trans (if_neg t4)
      refine px_gx (fun _ K9 => px_a 2 (f' := (15, [(2, .int (nI t)), (1, .int (nI (f_hd t N))), (0, .ref (10 + 3 * k))], [.int 8, .int (nI t)], hp)) rfl K9) ?_
      refine px_gx (fun _ K9 => px_b2 false 47 rfl rfl (decide_eq_false (show ¬ nI 8 ≤ nI t by rw [Int32.le_iff_toInt_le, nI_toInt (by omega), nI_toInt (by omega)]; omega)) K9) ?_
      show px_Gx _ _ (18, [(2, .int (nI t)), (1, .int (nI (f_hd t N))), (0, .ref (10 + 3 * k))], [], hp) _
      refine px_gx (fun _ K9 => px_a 2 (f' := (20, [(2, .int (nI t)), (1, .int (nI (f_hd t N))), (0, .ref (10 + 3 * k))], [.int 4, .int (nI t)], hp)) rfl K9) ?_
      refine px_gx (fun _ K9 => px_b2 true 28 rfl rfl (decide_eq_true (fun zz => t4 ((nI_eq (a := t) (b := 4) (by omega) (by decide)).mp zz))) K9) ?_
      show px_Gx _ _ (28, [(2, .int (nI t)), (1, .int (nI (f_hd t N))), (0, .ref (10 + 3 * k))], [], hp) _
      rw [← eT]
      show px_Gx _ _ (28, [(2, .int (nI t)), (1, .int (nI (f_T t N))), (0, .ref (10 + 3 * k))], [], hp) _
      refine px_gx (fun _ K9 => px_a 2 (f' := (30, [(2, .int (nI t)), (1, .int (nI (f_T t N))), (0, .ref (10 + 3 * k))], [.int (nI (f_T t N)), .ref (10 + 3 * k)], hp)) rfl K9) ?_
      refine px_gx (fun _ K9 => px_cl (as := [.int (nI (f_T t N))]) (rest := [.ref (10 + 3 * k)]) rfl rfl (c_pu (d := d) hT) K9) ?_
      show px_Gx _ _ (33, [(2, .int (nI t)), (1, .int (nI (f_T t N))), (0, .ref (10 + 3 * k))], [.int (nI (f_w t N)), .ref (10 + 3 * k)], hp) _
      refine px_gx (fun _ K9 => px_cv (10 + 3 * k) (as := [.int (nI (f_w t N))]) (rest := []) rfl rfl hf rfl rfl rfl rfl (Nat.le_of_ble_eq_true rfl) (hg) K9) ?_
      show px_Gx _ _ (36, [(2, .int (nI t)), (1, .int (nI (f_T t N))), (0, .ref (10 + 3 * k))], [], hp1) _
      refine px_gx (fun _ K9 => px_a 1 (f' := (37, [(2, .int (nI t)), (1, .int (nI (f_T t N))), (0, .ref (10 + 3 * k))], [.int (nI (f_T t N))], hp1)) rfl K9) ?_
      refine px_gx (fun _ K9 => px_cl (as := [.int (nI (f_T t N))]) (rest := []) rfl rfl (c_qt (d := d) hT) K9) ?_
      show px_Gx _ _ (40, [(2, .int (nI t)), (1, .int (nI (f_T t N))), (0, .ref (10 + 3 * k))], [.int (nI (f_qt (f_T t N)))], hp1) _
      refine px_gx (fun _ K9 => px_a 3 (f' := (12, [(2, .int ((nI t) + 1)), (1, .int (nI (f_qt (f_T t N)))), (0, .ref (10 + 3 * k))], [], hp1)) rfl K9) ?_
      rw [p_s16 t (by omega)]
      refine px_wk [(2, .int (nI (t + 1))), (1, .int (nI (f_hd (t + 1) N))), (0, .ref (10 + 3 * k))] ⟨rfl, rfl, rfl, trivial⟩ ?_
      obtain ⟨o2, hp2, g2, e2, ws2, b1, b2, b3, b4, b5⟩ := ih (t + 1) (by omega) hp1 ws' k1 k2 k3 k4
      exact ⟨o2, hp2, g2, e2, ws2, b1, b2, b3, b4, fun a h1 h2 => (b5 a h1 h2).trans (k5 a h1 h2)⟩
theorem c_fw {d k : Nat} {hp : px_H} {W V N : Nat} {wc sc : Int32} {ss : Int64} {ws : List Value} (hN : N < 65536) (hf : hp[10 + 3 * k]? = some (1, [.int (nI W), .int (nI V), .ref (11 + 3 * k), .ref (12 + 3 * k), .int (nI N), .int wc, .int sc, .long ss])) (hw : hp[11 + 3 * k]? = some (10, ws)) (lws : ws.length = 8) : px_Gx (d + 1) 22 (0, [(0, .ref (10 + 3 * k))], [], hp) (fun o hp' => o = .inl none ∧ ∃ ws' : List Value, hp'[10 + 3 * k]? = some (1, [.int (nI W), .int (nI V), .ref (11 + 3 * k), .ref (12 + 3 * k), .int (nI N), .int (nI (f_ws N 8).length), .int sc, .long ss]) ∧ hp'[11 + 3 * k]? = some (10, ws') ∧ ws'.length = 8 ∧ f_rep ws' (f_ws N 8) ∧ ∀ a, a ≠ 10 + 3 * k → a ≠ 11 + 3 * k → hp'[a]? = hp[a]?) := by
  refine px_gx (fun _ K9 => px_a 2 (f' := (2, [(0, .ref (10 + 3 * k))], [.int 0, .ref (10 + 3 * k)], hp)) rfl K9) ?_
  refine px_gx (fun _ K9 => px_pf (10 + 3 * k) 49 1 5 rfl rfl hf (by omega) (by simp) rfl rfl (by decide) K9) ?_
  have hf1__10___3___k_ : (hp.set (10 + 3 * k) (1, [.int (nI W), .int (nI V), .ref (11 + 3 * k), .ref (12 + 3 * k), .int (nI N), .int 0, .int sc, .long ss]))[(10 + 3 * k)]? = some (1, [.int (nI W), .int (nI V), .ref (11 + 3 * k), .ref (12 + 3 * k), .int (nI N), .int 0, .int sc, .long ss]) := px_self hf
  have hf1__11___3___k_ : (hp.set (10 + 3 * k) (1, [.int (nI W), .int (nI V), .ref (11 + 3 * k), .ref (12 + 3 * k), .int (nI N), .int 0, .int sc, .long ss]))[(11 + 3 * k)]? = some (10, ws) := px_ne hw (by omega)
  show px_Gx _ _ (5, [(0, .ref (10 + 3 * k))], [], (hp.set (10 + 3 * k) (1, [.int (nI W), .int (nI V), .ref (11 + 3 * k), .ref (12 + 3 * k), .int (nI N), .int 0, .int sc, .long ss]))) _
  refine px_gx (fun _ K9 => px_a 1 (f' := (6, [(0, .ref (10 + 3 * k))], [.ref (10 + 3 * k)], (hp.set (10 + 3 * k) (1, [.int (nI W), .int (nI V), .ref (11 + 3 * k), .ref (12 + 3 * k), .int (nI N), .int 0, .int sc, .long ss])))) rfl K9) ?_
  refine px_gx (fun _ K9 => px_gf (10 + 3 * k) 26 1 4 (.int (nI N)) rfl rfl hf1__10___3___k_ rfl K9) ?_
  show px_Gx _ _ (9, [(0, .ref (10 + 3 * k))], [.int (nI N)], (hp.set (10 + 3 * k) (1, [.int (nI W), .int (nI V), .ref (11 + 3 * k), .ref (12 + 3 * k), .int (nI N), .int 0, .int sc, .long ss]))) _
  refine px_gx (fun _ K9 => px_a 3 (f' := (12, [(2, .int 0), (1, .int (nI N)), (0, .ref (10 + 3 * k))], [], (hp.set (10 + 3 * k) (1, [.int (nI W), .int (nI V), .ref (11 + 3 * k), .ref (12 + 3 * k), .int (nI N), .int 0, .int sc, .long ss])))) rfl K9) ?_
  obtain ⟨o2, hp2, g2, e2, ws2, b1, b2, b3, b4, b5⟩ := c_fwl (d := d) hN 8 0 (by omega) _ ws hf1__10___3___k_ hf1__11___3___k_ lws (fun i h => absurd h (Nat.not_lt_zero i))
  exact ⟨o2, hp2, g2, e2, ws2, b1, b2, b3, b4, fun a h1 h2 => (b5 a h1 h2).trans (List.getElem?_set_ne (Ne.symm h1))⟩
