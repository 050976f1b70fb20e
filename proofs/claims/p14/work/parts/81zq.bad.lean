def x_val (vo : List Value) (c : Nat) : Int32 := match vo[c]? with
  | some (.int z) => z
  | _ => 0
def x_sum (vo : List Value) (b : Nat → Bool) : Nat → Int32
  | 0 => 0
  | c + 1 => x_sum vo b c + (if b c = true then x_val vo c else 0)
theorem x_val_e {vo : List Value} {c : Nat} {z : Int32} (h : vo[c]? = some (.int z)) : x_val vo c = z := by unfold x_val; rw [h]
theorem x_sum_1 {vo : List Value} {b : Nat → Bool} {c : Nat} {z : Int32} (hb : b c = true) (h : vo[c]? = some (.int z)) : x_sum vo b c + z = x_sum vo b (c + 1) := by
  show _ = x_sum vo b c + (if b c = true then x_val vo c else 0)
  rw [if_pos hb, x_val_e h]
theorem x_sum_0 {vo : List Value} {b : Nat → Bool} {c : Nat} (hb : b c = false) : x_sum vo b (c + 1) = x_sum vo b c := by
  show x_sum vo b c + (if b c = true then x_val vo c else 0) = _
  rw [if_neg (by rw [hb]; decide), Int32.add_zero]
set_option maxRecDepth 20000 in
theorem x_over_l {d : Nat} {n : Nat} {hp : px_H} {W V : Nat} {fc fd : Int32} {sh : Int64} {vo : List Value} {s : Int64} (n36 : n ≤ 36) (hc : hp[(8 : Nat)]? = some (3, [.int (nI W), .int (nI V), .ref 9, .ref 28, .ref 29, .ref 30, .ref (34 + n), .int fc, .long sh, .int fd])) (ha : hp[(28 : Nat)]? = some (10, vo)) (hlo : vo.length = n) (hvo : ∀ c, c < n → ∃ z : Int32, vo[c]? = some (.int z)) : ∀ (k c : Nat), c + k = n → c ≤ n → px_Go d 55 (5, [(4, .int (nI c)), (3, .int (x_sum vo (x_bt s) c)), (0, .ref 8), (1, .long s)], [], hp) (.inl (some (.int (x_sum vo (x_bt s) n))), hp) := by
  intro k
  induction k with
  | zero =>
    intro c h1 h2
    have ecn : c = n := by omega
    rw [show x_sum vo (x_bt s) n = x_sum vo (x_bt s) c by rw [ecn]]
    refine px_a 2 (f' := (8, [(4, .int (nI c)), (3, .int (x_sum vo (x_bt s) c)), (0, .ref 8), (1, .long s)], [.ref 8, .int (nI c)], hp)) rfl ?_
    refine px_gf 8 34 3 3 (.ref 28) rfl rfl hc rfl ?_
    show px_Go _ _ (11, [(4, .int (nI c)), (3, .int (x_sum vo (x_bt s) c)), (0, .ref 8), (1, .long s)], [.ref 28, .int (nI c)], hp) _
    refine px_len_ 28 rfl ha (by decide) (by decide) ?_
    rw [show vo.length.toInt32 = nI n by rw [hlo]; rfl]
    show px_Go _ _ (12, [(4, .int (nI c)), (3, .int (x_sum vo (x_bt s) c)), (0, .ref 8), (1, .long s)], [.int (nI n), .int (nI c)], hp) _
    refine px_b2 true 42 rfl rfl (decide_eq_true (nI_le (by omega) (by omega))) ?_
    show px_Go _ _ (42, [(4, .int (nI c)), (3, .int (x_sum vo (x_bt s) c)), (0, .ref 8), (1, .long s)], [], hp) _
    refine px_a 1 (f' := (43, [(4, .int (nI c)), (3, .int (x_sum vo (x_bt s) c)), (0, .ref 8), (1, .long s)], [.int (x_sum vo (x_bt s) c)], hp)) rfl ?_
    exact px_ri rfl rfl rfl
  | succ k ih =>
    intro c h1 h2
    obtain ⟨z, hz⟩ := hvo c (by omega)
    rcases Bool.eq_false_or_eq_true (x_bt s c) with hb | hb
    · have es : x_sum vo (x_bt s) c + z = x_sum vo (x_bt s) (c + 1) := x_sum_1 hb hz
      refine px_a 2 (f' := (8, [(4, .int (nI c)), (3, .int (x_sum vo (x_bt s) c)), (0, .ref 8), (1, .long s)], [.ref 8, .int (nI c)], hp)) rfl ?_
      refine px_gf 8 34 3 3 (.ref 28) rfl rfl hc rfl ?_
      show px_Go _ _ (11, [(4, .int (nI c)), (3, .int (x_sum vo (x_bt s) c)), (0, .ref 8), (1, .long s)], [.ref 28, .int (nI c)], hp) _
      refine px_len_ 28 rfl ha (by decide) (by decide) ?_
      rw [show vo.length.toInt32 = nI n by rw [hlo]; rfl]
      show px_Go _ _ (12, [(4, .int (nI c)), (3, .int (x_sum vo (x_bt s) c)), (0, .ref 8), (1, .long s)], [.int (nI n), .int (nI c)], hp) _
      refine px_b2 false 42 rfl rfl (decide_eq_false (nI_ge (by omega) (by omega))) ?_
      show px_Go _ _ (15, [(4, .int (nI c)), (3, .int (x_sum vo (x_bt s) c)), (0, .ref 8), (1, .long s)], [], hp) _
      refine px_a 7 (f' := (23, [(4, .int (nI c)), (3, .int (x_sum vo (x_bt s) c)), (0, .ref 8), (1, .long s)], [.int (lg_cmp ((s >>> (Int32.toInt64 (nI c) &&& 63)) &&& 1) 0)], hp)) rfl ?_
      refine px_b1 false 36 rfl rfl (decide_eq_false (fun z => by have := (x_bit (by omega) s).mp (x_cmp0.mp z); rw [hb] at this; cases this)) ?_
      show px_Go _ _ (26, [(4, .int (nI c)), (3, .int (x_sum vo (x_bt s) c)), (0, .ref 8), (1, .long s)], [], hp) _
      refine px_a 2 (f' := (28, [(4, .int (nI c)), (3, .int (x_sum vo (x_bt s) c)), (0, .ref 8), (1, .long s)], [.ref 8, .int (x_sum vo (x_bt s) c)], hp)) rfl ?_
      refine px_gf 8 34 3 3 (.ref 28) rfl rfl hc rfl ?_
      show px_Go _ _ (31, [(4, .int (nI c)), (3, .int (x_sum vo (x_bt s) c)), (0, .ref 8), (1, .long s)], [.ref 28, .int (x_sum vo (x_bt s) c)], hp) _
      refine px_a 1 (f' := (33, [(4, .int (nI c)), (3, .int (x_sum vo (x_bt s) c)), (0, .ref 8), (1, .long s)], [.int (nI c), .ref 28, .int (x_sum vo (x_bt s) c)], hp)) rfl ?_
      refine px_al 28 (.int z) rfl ha (Or.inl ⟨rfl, Or.inl rfl⟩) (nI_pos (by omega)) (by rw [nI_clamp (by omega)]; exact hz) ?_
      show px_Go _ _ (34, [(4, .int (nI c)), (3, .int (x_sum vo (x_bt s) c)), (0, .ref 8), (1, .long s)], [.int z, .int (x_sum vo (x_bt s) c)], hp) _
      refine px_a 4 (f' := (5, [(4, .int ((nI c) + 1)), (3, .int ((x_sum vo (x_bt s) c) + z)), (0, .ref 8), (1, .long s)], [], hp)) rfl ?_
      rw [nI_1, es]
      refine px_weak (l := [(4, .int (nI (c + 1))), (3, .int (x_sum vo (x_bt s) (c + 1))), (0, .ref 8), (1, .long s)]) ⟨rfl, rfl, rfl, rfl, trivial⟩ ?_
      exact ih (c + 1) (by omega) (by omega)
    · have es : x_sum vo (x_bt s) (c + 1) = x_sum vo (x_bt s) c := x_sum_0 hb
      refine px_a 2 (f' := (8, [(4, .int (nI c)), (3, .int (x_sum vo (x_bt s) c)), (0, .ref 8), (1, .long s)], [.ref 8, .int (nI c)], hp)) rfl ?_
      refine px_gf 8 34 3 3 (.ref 28) rfl rfl hc rfl ?_
      show px_Go _ _ (11, [(4, .int (nI c)), (3, .int (x_sum vo (x_bt s) c)), (0, .ref 8), (1, .long s)], [.ref 28, .int (nI c)], hp) _
      refine px_len_ 28 rfl ha (by decide) (by decide) ?_
      rw [show vo.length.toInt32 = nI n by rw [hlo]; rfl]
      show px_Go _ _ (12, [(4, .int (nI c)), (3, .int (x_sum vo (x_bt s) c)), (0, .ref 8), (1, .long s)], [.int (nI n), .int (nI c)], hp) _
      refine px_b2 false 42 rfl rfl (decide_eq_false (nI_ge (by omega) (by omega))) ?_
      show px_Go _ _ (15, [(4, .int (nI c)), (3, .int (x_sum vo (x_bt s) c)), (0, .ref 8), (1, .long s)], [], hp) _
      refine px_a 7 (f' := (23, [(4, .int (nI c)), (3, .int (x_sum vo (x_bt s) c)), (0, .ref 8), (1, .long s)], [.int (lg_cmp ((s >>> (Int32.toInt64 (nI c) &&& 63)) &&& 1) 0)], hp)) rfl ?_
      refine px_b1 true 36 rfl rfl (decide_eq_true (x_cmp0.mpr ((x_bit (by omega) s).mpr hb))) ?_
      show px_Go _ _ (36, [(4, .int (nI c)), (3, .int (x_sum vo (x_bt s) c)), (0, .ref 8), (1, .long s)], [], hp) _
      refine px_a 2 (f' := (5, [(4, .int ((nI c) + 1)), (3, .int (x_sum vo (x_bt s) c)), (0, .ref 8), (1, .long s)], [], hp)) rfl ?_
      rw [nI_1, ← es]
      refine px_weak (l := [(4, .int (nI (c + 1))), (3, .int (x_sum vo (x_bt s) (c + 1))), (0, .ref 8), (1, .long s)]) ⟨rfl, rfl, rfl, rfl, trivial⟩ ?_
      exact ih (c + 1) (by omega) (by omega)
theorem x_over {d : Nat} {n : Nat} {hp : px_H} {W V : Nat} {fc fd : Int32} {sh : Int64} {vo : List Value} {s : Int64} (n36 : n ≤ 36) (hc : hp[(8 : Nat)]? = some (3, [.int (nI W), .int (nI V), .ref 9, .ref 28, .ref 29, .ref 30, .ref (34 + n), .int fc, .long sh, .int fd])) (ha : hp[(28 : Nat)]? = some (10, vo)) (hlo : vo.length = n) (hvo : ∀ c, c < n → ∃ z : Int32, vo[c]? = some (.int z)) : px_Go d 55 (0, [(0, .ref 8), (1, .long s)], [], hp) (.inl (some (.int (x_sum vo (x_bt s) n))), hp) := by
  refine px_a 4 (f' := (5, [(4, .int 0), (3, .int 0), (0, .ref 8), (1, .long s)], [], hp)) rfl ?_
  exact x_over_l n36 hc ha hlo hvo n 0 (by omega) (by omega)
def r_ow (n : Nat) (hp : px_H) : Prop := ∃ vo uo : List Value, hp[(28 : Nat)]? = some (10, vo) ∧ hp[42 + n]? = some (10, uo) ∧ ∀ c, c < n → uo[c]? = vo[c]?
theorem r_ow_fr {n : Nat} {M : pa_M} {hp hp1 : px_H} (_ : pa_Hi n hp) (G : pa_Fr n M hp hp1) (h1 : ¬ (13, 0) ∈ M) (h2 : ¬ (28, 0) ∈ M) (R : r_ow n hp) : r_ow n hp1 := by
  obtain ⟨vo, uo, a2, a3, q2⟩ := R
  exact ⟨vo, uo, l_fa G (r := 13) a2 rfl (by decide) h1, l_fa G (r := 28) a3 (rr 10 (by decide) (by decide) (by omega)) (by decide) h2, q2⟩
def p_su (b : Nat → Nat) : Nat → Nat
  | 0 => 0
  | c + 1 => p_su b c + b c
theorem p_su_c {b b' : Nat → Nat} : ∀ c, (∀ j, j < c → b j = b' j) → p_su b c = p_su b' c
  | 0, _ => rfl
  | c + 1, h => by
    show p_su b c + b c = p_su b' c + b' c
    rw [p_su_c c (fun j hj => h j (Nat.lt_succ_of_lt hj)), h c (Nat.lt_succ_self c)]
def p_b (vo : List Value) (n : Nat) (m : Int32) (S : Nat) : Nat := if x_sum vo (x_bt (lN S)) n - x_sum vo (x_bt (lN S)) n / m * m = 0 then 0 else 1
def f_wl (N : Nat) : List Nat := if N = 0 then [] else f_ws N 8
theorem f_wl_e {N : Nat} {wl : List Nat} (h : (N = 0 ∧ wl = []) ∨ (N ≠ 0 ∧ wl = f_ws N 8)) : wl = f_wl N := by
  unfold f_wl
  rcases h with ⟨a, b⟩ | ⟨a, b⟩
  · rw [if_pos a, b]
  · rw [if_neg a, b]
theorem f_wl_c (N : Nat) : (N = 0 ∧ f_wl N = []) ∨ (N ≠ 0 ∧ f_wl N = f_ws N 8) := by
  unfold f_wl
  by_cases h : N = 0
  · exact Or.inl ⟨h, if_pos h⟩
  · exact Or.inr ⟨h, if_neg h⟩
/-- how many are bad among the first pieces -/
def p_Tot (vo : List Value) (n : Nat) (m : Int32) (DC : Nat → Nat → Prop) (p T : Nat) : Prop := ∃ (c : Nat → Nat) (f : Nat → Nat → Nat), (∀ q, q < p → pl_L (c q) (f q) (DC q)) ∧ T = p_su (fun q => p_su (fun j => p_b vo n m (f q j)) (c q)) p
theorem p_Tot0 {vo : List Value} {n : Nat} {m : Int32} {DC : Nat → Nat → Prop} : p_Tot vo n m DC 0 0 := ⟨fun _ => 0, fun _ _ => 0, fun q h => absurd h (Nat.not_lt_zero q), rfl⟩
theorem p_Tot1 {vo : List Value} {n : Nat} {m : Int32} {DC : Nat → Nat → Prop} {p T c0 : Nat} {f0 : Nat → Nat} (h : p_Tot vo n m DC p T) (h0 : pl_L c0 f0 (DC p)) : p_Tot vo n m DC (p + 1) (T + p_su (fun j => p_b vo n m (f0 j)) c0) := by
  obtain ⟨c, f, h1, rfl⟩ := h
  refine ⟨fun q => if q = p then c0 else c q, fun q => if q = p then f0 else f q, fun q hq => ?_, ?_⟩
  · show pl_L (if q = p then c0 else c q) (if q = p then f0 else f q) (DC q)
    by_cases e : q = p
    · rw [if_pos e, if_pos e, e]
      exact h0
    · rw [if_neg e, if_neg e]
      exact h1 q (by omega)
  · show _ = p_su (fun q => p_su (fun j => p_b vo n m ((if q = p then f0 else f q) j)) (if q = p then c0 else c q)) p + p_su (fun j => p_b vo n m ((if p = p then f0 else f p) j)) (if p = p then c0 else c p)
    rw [if_pos rfl, if_pos rfl]
    congr 1
    apply p_su_c
    intro q hq
    show _ = p_su (fun j => p_b vo n m ((if q = p then f0 else f q) j)) (if q = p then c0 else c q)
    rw [if_neg (show q ≠ p by omega), if_neg (show q ≠ p by omega)]
theorem p_Tot_u {vo : List Value} {n : Nat} {m : Int32} {DC DC' : Nat → Nat → Prop} {p T T' : Nat} (hD : ∀ q, q < p → ∀ c f c' f', pl_L c f (DC q) → pl_L c' f' (DC' q) → c = c' ∧ ∀ j, j < c → f j = f' j) (h : p_Tot vo n m DC p T) (h' : p_Tot vo n m DC' p T') : T = T' := by
  obtain ⟨c, f, h1, rfl⟩ := h
  obtain ⟨c', f', h1', rfl⟩ := h'
  apply p_su_c
  intro q hq
  obtain ⟨e1, e2⟩ := hD q hq _ _ _ _ (h1 q hq) (h1' q hq)
  show p_su _ (c q) = p_su _ (c' q)
  rw [← e1]
  apply p_su_c
  intro j hj
  show p_b vo n m (f q j) = p_b vo n m (f' q j)
  rw [e2 j hj]
set_option maxRecDepth 20000 in
theorem x_badjX {d n : Nat} {W V pc : Nat} {fd : Int32} {sh : Int64} {m : Int32} (hm : ¬ m < 2) {vo : List Value} (n36 : n ≤ 36) (hlo : vo.length = n) (hvo : ∀ c, c < n → ∃ z : Int32, vo[c]? = some (.int z)) {hp : px_H} {p c N T : Nat} {wl : List Nat} {st : List Value} {f : Nat → Nat} {Q : px_O → px_H → Prop} (hp6 : p < 6) (c160 : c ≤ 160) (hr1 : st.length = 160 ∧ (∀ j, j < c → st[j]? = some (.long (lN (f j))))) (hc : hp[(8 : Nat)]? = some (3, [.int (nI W), .int (nI V), .ref 9, .ref 28, .ref 29, .ref 30, .ref (34 + n), .int (nI pc), .long sh, .int fd])) (ha : hp[(28 : Nat)]? = some (10, vo)) (hf1 : hp[10 + 3 * p]? = some (1, [.int (nI W), .int (nI V), .ref (11 + 3 * p), .ref (12 + 3 * p), .int (nI N), .int (nI wl.length), .int (nI c), .long sh])) (hs1 : hp[12 + 3 * p]? = some (11, st)) (K : px_Gx (d + 5) 44 (11, [(3, .int (nI (p + 1))), (2, .int (nI (T + p_su (fun j => p_b vo n m (f j)) c))), (0, .ref 8), (1, .int m)], [], hp) Q) : ∀ t j, j + t = c → px_Gx (d + 5) 44 (39, [(5, .int (nI j)), (4, .ref (10 + 3 * p)), (3, .int (nI p)), (2, .int (nI (T + p_su (fun j => p_b vo n m (f j)) j))), (0, .ref 8), (1, .int m)], [], hp) Q := by
  have m0 := p_m0 hm
  intro t
  induction t with
  | zero =>
    intro j h
    obtain rfl : j = c := by omega
    refine px_gx (fun _ K9 => px_a 2 (f' := (43, [(5, .int (nI j)), (4, .ref (10 + 3 * p)), (3, .int (nI p)), (2, .int (nI (T + p_su (fun j => p_b vo n m (f j)) j))), (0, .ref 8), (1, .int m)], [.ref (10 + 3 * p), .int (nI j)], hp)) rfl K9) ?_
    refine px_gx (fun _ K9 => px_gf (10 + 3 * p) 94 1 6 (.int (nI j)) rfl rfl hf1 rfl K9) ?_
    show px_Gx _ _ (46, [(5, .int (nI j)), (4, .ref (10 + 3 * p)), (3, .int (nI p)), (2, .int (nI (T + p_su (fun j => p_b vo n m (f j)) j))), (0, .ref 8), (1, .int m)], [.int (nI j), .int (nI j)], hp) _
    refine px_gx (fun _ K9 => px_b2 true 75 rfl rfl (decide_eq_true (Int32.le_refl _)) K9) ?_
    show px_Gx _ _ (75, [(5, .int (nI j)), (4, .ref (10 + 3 * p)), (3, .int (nI p)), (2, .int (nI (T + p_su (fun j => p_b vo n m (f j)) j))), (0, .ref 8), (1, .int m)], [], hp) _
    refine px_gx (fun _ K9 => px_a 2 (f' := (11, [(3, .int ((nI p) + 1)), (5, .int (nI j)), (4, .ref (10 + 3 * p)), (2, .int (nI (T + p_su (fun j => p_b vo n m (f j)) j))), (0, .ref 8), (1, .int m)], [], hp)) rfl K9) ?_
    rw [p_s16 p (by omega)]
    exact px_wk [(3, .int (nI (p + 1))), (2, .int (nI (T + p_su (fun j => p_b vo n m (f j)) j))), (0, .ref 8), (1, .int m)] ⟨rfl, rfl, rfl, rfl, trivial⟩ K
  | succ t ih =>
    intro j h
    have hj : j < c := by omega
    by_cases hz : x_sum vo (x_bt (lN (f j))) n - x_sum vo (x_bt (lN (f j))) n / m * m = 0
    · 
      refine px_gx (fun _ K9 => px_a 2 (f' := (43, [(5, .int (nI j)), (4, .ref (10 + 3 * p)), (3, .int (nI p)), (2, .int (nI (T + p_su (fun j => p_b vo n m (f j)) j))), (0, .ref 8), (1, .int m)], [.ref (10 + 3 * p), .int (nI j)], hp)) rfl K9) ?_
      refine px_gx (fun _ K9 => px_gf (10 + 3 * p) 94 1 6 (.int (nI c)) rfl rfl hf1 rfl K9) ?_
      show px_Gx _ _ (46, [(5, .int (nI j)), (4, .ref (10 + 3 * p)), (3, .int (nI p)), (2, .int (nI (T + p_su (fun j => p_b vo n m (f j)) j))), (0, .ref 8), (1, .int m)], [.int (nI c), .int (nI j)], hp) _
      refine px_gx (fun _ K9 => px_b2 false 75 rfl rfl (decide_eq_false (show ¬ nI c ≤ nI j by rw [Int32.le_iff_toInt_le, nI_toInt (by omega), nI_toInt (by omega)]; omega)) K9) ?_
      show px_Gx _ _ (49, [(5, .int (nI j)), (4, .ref (10 + 3 * p)), (3, .int (nI p)), (2, .int (nI (T + p_su (fun j => p_b vo n m (f j)) j))), (0, .ref 8), (1, .int m)], [], hp) _
      refine px_gx (fun _ K9 => px_a 2 (f' := (52, [(5, .int (nI j)), (4, .ref (10 + 3 * p)), (3, .int (nI p)), (2, .int (nI (T + p_su (fun j => p_b vo n m (f j)) j))), (0, .ref 8), (1, .int m)], [.ref (10 + 3 * p), .ref 8], hp)) rfl K9) ?_
      refine px_gx (fun _ K9 => px_gf (10 + 3 * p) 97 1 3 (.ref (12 + 3 * p)) rfl rfl hf1 rfl K9) ?_
      show px_Gx _ _ (55, [(5, .int (nI j)), (4, .ref (10 + 3 * p)), (3, .int (nI p)), (2, .int (nI (T + p_su (fun j => p_b vo n m (f j)) j))), (0, .ref 8), (1, .int m)], [.ref (12 + 3 * p), .ref 8], hp) _
      refine px_gx (fun _ K9 => px_a 1 (f' := (57, [(5, .int (nI j)), (4, .ref (10 + 3 * p)), (3, .int (nI p)), (2, .int (nI (T + p_su (fun j => p_b vo n m (f j)) j))), (0, .ref 8), (1, .int m)], [.int (nI j), .ref (12 + 3 * p), .ref 8], hp)) rfl K9) ?_
      refine px_gx (fun _ K9 => px_al (12 + 3 * p) (.long (lN (f j))) rfl hs1 (Or.inr (Or.inl ⟨rfl, rfl⟩)) (nI_pos (by omega)) (by rw [nI_clamp (by omega)]; exact hr1.2 j hj) K9) ?_
      show px_Gx _ _ (58, [(5, .int (nI j)), (4, .ref (10 + 3 * p)), (3, .int (nI p)), (2, .int (nI (T + p_su (fun j => p_b vo n m (f j)) j))), (0, .ref 8), (1, .int m)], [.long (lN (f j)), .ref 8], hp) _
      refine px_gx (fun _ K9 => px_cv 8 (as := [.long (lN (f j))]) (rest := []) rfl rfl hc rfl rfl rfl rfl (Nat.le_of_ble_eq_true rfl) (x_over (d := d + 4) (s := lN (f j)) n36 hc ha hlo hvo) K9) ?_
      show px_Gx _ _ (61, [(5, .int (nI j)), (4, .ref (10 + 3 * p)), (3, .int (nI p)), (2, .int (nI (T + p_su (fun j => p_b vo n m (f j)) j))), (0, .ref 8), (1, .int m)], [.int (x_sum vo (x_bt (lN (f j))) n)], hp) _
      refine px_gx (fun _ K9 => px_a 1 (f' := (62, [(5, .int (nI j)), (4, .ref (10 + 3 * p)), (3, .int (nI p)), (2, .int (nI (T + p_su (fun j => p_b vo n m (f j)) j))), (0, .ref 8), (1, .int m)], [.int m, .int (x_sum vo (x_bt (lN (f j))) n)], hp)) rfl K9) ?_
      refine px_gx (fun _ K9 => px_irem rfl (m0) K9) ?_
      refine px_gx (fun _ K9 => px_b1 true 69 rfl rfl (decide_eq_true hz) K9) ?_
      show px_Gx _ _ (69, [(5, .int (nI j)), (4, .ref (10 + 3 * p)), (3, .int (nI p)), (2, .int (nI (T + p_su (fun j => p_b vo n m (f j)) j))), (0, .ref 8), (1, .int m)], [], hp) _
      refine px_gx (fun _ K9 => px_a 2 (f' := (39, [(5, .int ((nI j) + 1)), (4, .ref (10 + 3 * p)), (3, .int (nI p)), (2, .int (nI (T + p_su (fun j => p_b vo n m (f j)) j))), (0, .ref 8), (1, .int m)], [], hp)) rfl K9) ?_
      have eb : p_su (fun j => p_b vo n m (f j)) (j + 1) = p_su (fun j => p_b vo n m (f j)) j := by
        show _ + p_b vo n m (f j) = _
        unfold p_b
        rw [if_pos hz]
        rfl
      rw [p_s16 j (by omega), ← eb]
      exact px_wk [(5, .int (nI (j + 1))), (4, .ref (10 + 3 * p)), (3, .int (nI p)), (2, .int (nI (T + p_su (fun j => p_b vo n m (f j)) (j + 1)))), (0, .ref 8), (1, .int m)] ⟨rfl, rfl, rfl, rfl, rfl, rfl, trivial⟩ (ih (j + 1) (by omega))
    · 
      refine px_gx (fun _ K9 => px_a 2 (f' := (43, [(5, .int (nI j)), (4, .ref (10 + 3 * p)), (3, .int (nI p)), (2, .int (nI (T + p_su (fun j => p_b vo n m (f j)) j))), (0, .ref 8), (1, .int m)], [.ref (10 + 3 * p), .int (nI j)], hp)) rfl K9) ?_
      refine px_gx (fun _ K9 => px_gf (10 + 3 * p) 94 1 6 (.int (nI c)) rfl rfl hf1 rfl K9) ?_
      show px_Gx _ _ (46, [(5, .int (nI j)), (4, .ref (10 + 3 * p)), (3, .int (nI p)), (2, .int (nI (T + p_su (fun j => p_b vo n m (f j)) j))), (0, .ref 8), (1, .int m)], [.int (nI c), .int (nI j)], hp) _
      refine px_gx (fun _ K9 => px_b2 false 75 rfl rfl (decide_eq_false (show ¬ nI c ≤ nI j by rw [Int32.le_iff_toInt_le, nI_toInt (by omega), nI_toInt (by omega)]; omega)) K9) ?_
      show px_Gx _ _ (49, [(5, .int (nI j)), (4, .ref (10 + 3 * p)), (3, .int (nI p)), (2, .int (nI (T + p_su (fun j => p_b vo n m (f j)) j))), (0, .ref 8), (1, .int m)], [], hp) _
      refine px_gx (fun _ K9 => px_a 2 (f' := (52, [(5, .int (nI j)), (4, .ref (10 + 3 * p)), (3, .int (nI p)), (2, .int (nI (T + p_su (fun j => p_b vo n m (f j)) j))), (0, .ref 8), (1, .int m)], [.ref (10 + 3 * p), .ref 8], hp)) rfl K9) ?_
      refine px_gx (fun _ K9 => px_gf (10 + 3 * p) 97 1 3 (.ref (12 + 3 * p)) rfl rfl hf1 rfl K9) ?_
      show px_Gx _ _ (55, [(5, .int (nI j)), (4, .ref (10 + 3 * p)), (3, .int (nI p)), (2, .int (nI (T + p_su (fun j => p_b vo n m (f j)) j))), (0, .ref 8), (1, .int m)], [.ref (12 + 3 * p), .ref 8], hp) _
      refine px_gx (fun _ K9 => px_a 1 (f' := (57, [(5, .int (nI j)), (4, .ref (10 + 3 * p)), (3, .int (nI p)), (2, .int (nI (T + p_su (fun j => p_b vo n m (f j)) j))), (0, .ref 8), (1, .int m)], [.int (nI j), .ref (12 + 3 * p), .ref 8], hp)) rfl K9) ?_
      refine px_gx (fun _ K9 => px_al (12 + 3 * p) (.long (lN (f j))) rfl hs1 (Or.inr (Or.inl ⟨rfl, rfl⟩)) (nI_pos (by omega)) (by rw [nI_clamp (by omega)]; exact hr1.2 j hj) K9) ?_
      show px_Gx _ _ (58, [(5, .int (nI j)), (4, .ref (10 + 3 * p)), (3, .int (nI p)), (2, .int (nI (T + p_su (fun j => p_b vo n m (f j)) j))), (0, .ref 8), (1, .int m)], [.long (lN (f j)), .ref 8], hp) _
      refine px_gx (fun _ K9 => px_cv 8 (as := [.long (lN (f j))]) (rest := []) rfl rfl hc rfl rfl rfl rfl (Nat.le_of_ble_eq_true rfl) (x_over (d := d + 4) (s := lN (f j)) n36 hc ha hlo hvo) K9) ?_
      show px_Gx _ _ (61, [(5, .int (nI j)), (4, .ref (10 + 3 * p)), (3, .int (nI p)), (2, .int (nI (T + p_su (fun j => p_b vo n m (f j)) j))), (0, .ref 8), (1, .int m)], [.int (x_sum vo (x_bt (lN (f j))) n)], hp) _
      refine px_gx (fun _ K9 => px_a 1 (f' := (62, [(5, .int (nI j)), (4, .ref (10 + 3 * p)), (3, .int (nI p)), (2, .int (nI (T + p_su (fun j => p_b vo n m (f j)) j))), (0, .ref 8), (1, .int m)], [.int m, .int (x_sum vo (x_bt (lN (f j))) n)], hp)) rfl K9) ?_
      refine px_gx (fun _ K9 => px_irem rfl (m0) K9) ?_
      refine px_gx (fun _ K9 => px_b1 false 69 rfl rfl (decide_eq_false hz) K9) ?_
      show px_Gx _ _ (66, [(5, .int (nI j)), (4, .ref (10 + 3 * p)), (3, .int (nI p)), (2, .int (nI (T + p_su (fun j => p_b vo n m (f j)) j))), (0, .ref 8), (1, .int m)], [], hp) _
      refine px_gx (fun _ K9 => px_a 3 (f' := (39, [(5, .int ((nI j) + 1)), (2, .int ((nI (T + p_su (fun j => p_b vo n m (f j)) j)) + 1)), (4, .ref (10 + 3 * p)), (3, .int (nI p)), (0, .ref 8), (1, .int m)], [], hp)) rfl K9) ?_
      have eb : p_su (fun j => p_b vo n m (f j)) (j + 1) = p_su (fun j => p_b vo n m (f j)) j + 1 := by
        show _ + p_b vo n m (f j) = _
        unfold p_b
        rw [if_neg hz]
      rw [p_s16 j (by omega), nI_1, Nat.add_assoc, ← eb]
      exact px_wk [(5, .int (nI (j + 1))), (4, .ref (10 + 3 * p)), (3, .int (nI p)), (2, .int (nI (T + p_su (fun j => p_b vo n m (f j)) (j + 1)))), (0, .ref 8), (1, .int m)] ⟨rfl, rfl, rfl, rfl, rfl, rfl, trivial⟩ (ih (j + 1) (by omega))
set_option maxRecDepth 20000 in
theorem x_badlX {d n : Nat} (hN : pa_N n) {W V pc : Nat} {fd : Int32} {sh : Int64} {m : Int32} (hm : ¬ m < 2) (pc6 : pc ≤ 6) (hW : W ≤ 6) (hV : V ≤ 6) {vo : List Value} (n36 : n ≤ 36) (hlo : vo.length = n) (hvo : ∀ c, c < n → ∃ z : Int32, vo[c]? = some (.int z)) {Nq : Nat → Nat} (hNq6 : ∀ q, q < 6 → Nq q < 65536) : ∀ t p, p + t = pc → ∀ (hp : px_H) (T : Nat) (H : pa_Hi n hp) (hc : hp[(8 : Nat)]? = some (3, [.int (nI W), .int (nI V), .ref 9, .ref 28, .ref 29, .ref 30, .ref (34 + n), .int (nI pc), .long sh, .int fd])) (h9 : hp[(9 : Nat)]? = some (13, q_forms)) (R : r_fm hp W V) (ha : hp[(28 : Nat)]? = some (10, vo)) (hNq : ∀ q, q < 6 → pa_fd hp (10 + 3 * q) 4 = some (.int (nI (Nq q)))) (hT : p_Tot vo n m (fun q => pl_D W V (f_wl (Nq q)) sh) p T), px_Gx (d + 5) 44 (11, [(3, .int (nI p)), (2, .int (nI T)), (0, .ref 8), (1, .int m)], [], hp) (fun o hp' => r_fm hp' W V ∧ ∃ T, p_Tot vo n m (fun q => pl_D W V (f_wl (Nq q)) sh) pc T ∧ o = .inl (some (.int (nI T)))) := by
  intro t
  induction t with
  | zero =>
    intro p h hp T H hc h9 R ha hNq hT
    obtain rfl : p = pc := by omega
    refine px_gx (fun _ K9 => px_a 2 (f' := (13, [(3, .int (nI p)), (2, .int (nI T)), (0, .ref 8), (1, .int m)], [.ref 8, .int (nI p)], hp)) rfl K9) ?_
    refine px_gx (fun _ K9 => px_gf 8 72 3 7 (.int (nI p)) rfl rfl hc rfl K9) ?_
    show px_Gx _ _ (16, [(3, .int (nI p)), (2, .int (nI T)), (0, .ref 8), (1, .int m)], [.int (nI p), .int (nI p)], hp) _
    refine px_gx (fun _ K9 => px_b2 true 81 rfl rfl (decide_eq_true (Int32.le_refl _)) K9) ?_
    show px_Gx _ _ (81, [(3, .int (nI p)), (2, .int (nI T)), (0, .ref 8), (1, .int m)], [], hp) _
    refine px_gx (fun _ K9 => px_a 1 (f' := (82, [(3, .int (nI p)), (2, .int (nI T)), (0, .ref 8), (1, .int m)], [.int (nI T)], hp)) rfl K9) ?_
    exact ⟨_, _, px_ri rfl rfl rfl, R, T, hT, rfl⟩
  | succ t ih =>
    intro p h hp T H hc h9 R ha hNq hT
    obtain ⟨hp1, N, c, g, H1, G1, R1, Rk, ss0, c0, R0⟩ := x_prep (d := d) (k := p) (sh := sh) hN H hW hV (by omega) R
    obtain ⟨wl0, ws0, u1, u2, u3, u4, u5, st0, f0, hf, -⟩ := R0
    obtain ⟨wl, ws, v1, v2, v3, v4, v5, st, f, hf1, hs1, hr1⟩ := Rk
    have eN : N = Nq p := by
      have f9 := hNq p (by omega)
      rw [pa_fd_get hf] at f9
      have f8 : some (Value.int (nI N)) = some (Value.int (nI (Nq p))) := f9
      injection f8 with f8
      injection f8 with f8
      exact q_nI v1 (hNq6 p (by omega)) f8
    have LL : pl_L c f (pl_D W V (f_wl (Nq p)) sh) := by
      rw [← eN, ← f_wl_e v2]
      exact hr1.2.2.2
    refine px_gx (fun _ K9 => px_a 2 (f' := (13, [(3, .int (nI p)), (2, .int (nI T)), (0, .ref 8), (1, .int m)], [.ref 8, .int (nI p)], hp)) rfl K9) ?_
    refine px_gx (fun _ K9 => px_gf 8 72 3 7 (.int (nI pc)) rfl rfl hc rfl K9) ?_
    show px_Gx _ _ (16, [(3, .int (nI p)), (2, .int (nI T)), (0, .ref 8), (1, .int m)], [.int (nI pc), .int (nI p)], hp) _
    refine px_gx (fun _ K9 => px_b2 false 81 rfl rfl (decide_eq_false (show ¬ nI pc ≤ nI p by rw [Int32.le_iff_toInt_le, nI_toInt (by omega), nI_toInt (by omega)]; omega)) K9) ?_
    show px_Gx _ _ (19, [(3, .int (nI p)), (2, .int (nI T)), (0, .ref 8), (1, .int m)], [], hp) _
    refine px_gx (fun _ K9 => px_a 1 (f' := (20, [(3, .int (nI p)), (2, .int (nI T)), (0, .ref 8), (1, .int m)], [.ref 8], hp)) rfl K9) ?_
    refine px_gx (fun _ K9 => px_gf 8 27 3 2 (.ref 9) rfl rfl hc rfl K9) ?_
    show px_Gx _ _ (23, [(3, .int (nI p)), (2, .int (nI T)), (0, .ref 8), (1, .int m)], [.ref 9], hp) _
    refine px_gx (fun _ K9 => px_a 1 (f' := (24, [(3, .int (nI p)), (2, .int (nI T)), (0, .ref 8), (1, .int m)], [.int (nI p), .ref 9], hp)) rfl K9) ?_
    refine px_gx (fun _ K9 => px_al 9 (.ref (10 + 3 * p)) rfl h9 (Or.inr (Or.inr (Or.inr ⟨rfl, Or.inl rfl⟩))) (nI_pos (by omega)) (q_f p (by omega)) K9) ?_
    show px_Gx _ _ (25, [(3, .int (nI p)), (2, .int (nI T)), (0, .ref 8), (1, .int m)], [.ref (10 + 3 * p)], hp) _
    refine px_gx (fun _ K9 => px_a 3 (f' := (30, [(4, .ref (10 + 3 * p)), (3, .int (nI p)), (2, .int (nI T)), (0, .ref 8), (1, .int m)], [.ref 8, .ref (10 + 3 * p)], hp)) rfl K9) ?_
    refine px_gx (fun _ K9 => px_gf 8 64 3 8 (.long sh) rfl rfl hc rfl K9) ?_
    show px_Gx _ _ (33, [(4, .ref (10 + 3 * p)), (3, .int (nI p)), (2, .int (nI T)), (0, .ref 8), (1, .int m)], [.long sh, .ref (10 + 3 * p)], hp) _
    refine px_gx (fun _ K9 => px_cv (10 + 3 * p) (as := [.long sh]) (rest := []) rfl rfl hf rfl rfl rfl rfl (Nat.le_of_ble_eq_true rfl) (g) K9) ?_
    show px_Gx _ _ (36, [(4, .ref (10 + 3 * p)), (3, .int (nI p)), (2, .int (nI T)), (0, .ref 8), (1, .int m)], [], hp1) _
    refine px_gx (fun _ K9 => px_a 2 (f' := (39, [(5, .int 0), (4, .ref (10 + 3 * p)), (3, .int (nI p)), (2, .int (nI T)), (0, .ref 8), (1, .int m)], [], hp1)) rfl K9) ?_
    refine px_wk [(5, .int (nI 0)), (4, .ref (10 + 3 * p)), (3, .int (nI p)), (2, .int (nI (T + p_su (fun j => p_b vo n m (f j)) 0))), (0, .ref 8), (1, .int m)] ⟨rfl, rfl, rfl, rfl, rfl, rfl, trivial⟩ ?_
    have hc1 := l_fo G1 hc (r := 8) rfl (by decide)
    have ha1 := l_fo G1 ha (r := 13) rfl (by decide)
    refine x_badjX hm n36 hlo hvo (by omega) (pl_c160 hr1) ⟨hr1.1, hr1.2.1⟩ hc1 ha1 hf1 hs1 ?_ c 0 (by omega)
    exact ih (p + 1) (by omega) hp1 _ H1 hc1 (l_fo G1 h9 (r := 9) rfl (by decide)) R1 ha1 (fun q hq => (l_fd H G1 (r10 hq) (by decide) (by decide) (by decide)).trans (hNq q hq)) (p_Tot1 hT LL)
set_option maxRecDepth 20000 in
theorem x_badX {d n : Nat} (hN : pa_N n) {W V pc : Nat} {fd : Int32} {sh : Int64} {m : Int32} (pc6 : pc ≤ 6) (hW : W ≤ 6) (hV : V ≤ 6) {hp : px_H} (H : pa_Hi n hp) (hc : hp[(8 : Nat)]? = some (3, [.int (nI W), .int (nI V), .ref 9, .ref 28, .ref 29, .ref 30, .ref (34 + n), .int (nI pc), .long sh, .int fd])) (h9 : hp[(9 : Nat)]? = some (13, q_forms)) (R : r_fm hp W V) {vo : List Value} (n36 : n ≤ 36) (hlo : vo.length = n) (hvo : ∀ c, c < n → ∃ z : Int32, vo[c]? = some (.int z)) {Nq : Nat → Nat} (hNq6 : ∀ q, q < 6 → Nq q < 65536) (ha : hp[(28 : Nat)]? = some (10, vo)) (hNq : ∀ q, q < 6 → pa_fd hp (10 + 3 * q) 4 = some (.int (nI (Nq q)))) (hm : ¬ m < 2) : px_Gx (d + 5) 44 (0, [(0, .ref 8), (1, .int m)], [], hp) (fun o hp' => r_fm hp' W V ∧ ∃ T, p_Tot vo n m (fun q => pl_D W V (f_wl (Nq q)) sh) pc T ∧ o = .inl (some (.int (nI T)))) := by
  · 
    refine px_gx (fun _ K9 => px_a 2 (f' := (2, [(0, .ref 8), (1, .int m)], [.int 2, .int m], hp)) rfl K9) ?_
    refine px_gx (fun _ K9 => px_b2 true 7 rfl rfl (decide_eq_true (Int32.not_lt.mp hm)) K9) ?_
    show px_Gx _ _ (7, [(0, .ref 8), (1, .int m)], [], hp) _
    refine px_gx (fun _ K9 => px_a 4 (f' := (11, [(3, .int 0), (2, .int 0), (0, .ref 8), (1, .int m)], [], hp)) rfl K9) ?_
    exact x_badlX hN hm pc6 hW hV n36 hlo hvo hNq6 pc 0 (by omega) hp 0 H hc h9 R ha hNq p_Tot0
theorem x_badI {d : Nat} {hp : px_H} {m : Int32} (hm : m < 2) : px_Gx d 44 (0, [(0, .ref 8), (1, .int m)], [], hp) (fun o hp' => hp' = hp ∧ o = .inl (some (.int (-1)))) := by
  · 
    refine px_gx (fun _ K9 => px_a 2 (f' := (2, [(0, .ref 8), (1, .int m)], [.int 2, .int m], hp)) rfl K9) ?_
    refine px_gx (fun _ K9 => px_b2 false 7 rfl rfl (decide_eq_false (Int32.not_le.mpr hm)) K9) ?_
    show px_Gx _ _ (5, [(0, .ref 8), (1, .int m)], [], hp) _
    refine px_gx (fun _ K9 => px_a 1 (f' := (6, [(0, .ref 8), (1, .int m)], [.int (-1)], hp)) rfl K9) ?_
    exact ⟨_, _, px_ri rfl rfl rfl, rfl, rfl⟩
