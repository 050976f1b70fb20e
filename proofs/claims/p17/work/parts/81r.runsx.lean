/-! runs: a stack of (axis, amount) -/
def x_am (m l : Nat) : Nat := if l < 2 then 1 else m - 1
def x_psh (m a v : Nat) : List (Nat × Nat) → List (Nat × Nat)
  | [] => [(a, v)]
  | p :: r => if p.1 = a then (if p.2 + v = m then r else (a, if m < p.2 + v then p.2 + v - m else p.2 + v) :: r) else (a, v) :: p :: r
def x_fd (m : Nat) (f : Nat → Nat) : Nat → List (Nat × Nat)
  | 0 => []
  | k + 1 => x_psh m (f k % 2) (x_am m (f k)) (x_fd m f k)
theorem x_psh_c (m a v : Nat) (p : Nat × Nat) (r : List (Nat × Nat)) : x_psh m a v (p :: r) = if p.1 = a then (if p.2 + v = m then r else (a, if m < p.2 + v then p.2 + v - m else p.2 + v) :: r) else (a, v) :: p :: r := rfl
theorem x_psh_len (m a v : Nat) (st : List (Nat × Nat)) : (x_psh m a v st).length ≤ st.length + 1 := by
  cases st with
  | nil => exact Nat.le_refl _
  | cons p r =>
    rw [x_psh_c]
    split
    · split
      · show r.length ≤ r.length + 1 + 1; omega
      · show r.length + 1 ≤ r.length + 1 + 1; omega
    · exact Nat.le_refl _
theorem x_fd_len (m : Nat) (f : Nat → Nat) : ∀ k, (x_fd m f k).length ≤ k
  | 0 => Nat.le_refl _
  | k + 1 => Nat.le_trans (x_psh_len _ _ _ _) (Nat.succ_le_succ (x_fd_len m f k))
def x_so (m : Nat) (st : List (Nat × Nat)) : Prop := ∀ p ∈ st, p.1 < 2 ∧ 1 ≤ p.2 ∧ p.2 < m
theorem x_psh_so {m a v : Nat} {st : List (Nat × Nat)} (h : x_so m st) (ha : a < 2) (h1 : 1 ≤ v) (h2 : v < m) : x_so m (x_psh m a v st) := by
  cases st with
  | nil =>
    intro p hp
    rcases List.mem_cons.mp hp with rfl | hp
    · exact ⟨ha, h1, h2⟩
    · exact nomatch hp
  | cons q r =>
    have hq := h q List.mem_cons_self
    rw [x_psh_c]
    split
    · split
      · exact fun p hp => h p (List.mem_cons_of_mem _ hp)
      · intro p hp
        rcases List.mem_cons.mp hp with rfl | hp
        · refine ⟨ha, ?_, ?_⟩
          · show 1 ≤ (if m < q.2 + v then q.2 + v - m else q.2 + v)
            split <;> omega
          · show (if m < q.2 + v then q.2 + v - m else q.2 + v) < m
            split <;> omega
        · exact h p (List.mem_cons_of_mem _ hp)
    · intro p hp
      rcases List.mem_cons.mp hp with rfl | hp
      · exact ⟨ha, h1, h2⟩
      · exact h p hp
theorem x_fd_so {m : Nat} {f : Nat → Nat} (hm : 2 ≤ m) : ∀ k, x_so m (x_fd m f k)
  | 0 => fun _ h => nomatch h
  | k + 1 => by
    refine x_psh_so (x_fd_so hm k) (by omega) ?_ ?_
    · unfold x_am; split <;> omega
    · unfold x_am; split <;> omega
def x_rep (ax am : List Value) : List (Nat × Nat) → Prop
  | [] => True
  | p :: r => ax[r.length]? = some (.int (nI p.1)) ∧ am[r.length]? = some (.int (nI p.2)) ∧ x_rep ax am r
theorem x_rep_set {ax am : List Value} {i j : Nat} {v w : Value} : ∀ {st : List (Nat × Nat)}, x_rep ax am st → st.length ≤ i → st.length ≤ j → x_rep (ax.set i v) (am.set j w) st
  | [], _, _, _ => trivial
  | p :: r, h, h1, h2 => by
    have e : (p :: r).length = r.length + 1 := rfl
    rw [e] at h1 h2
    exact ⟨by rw [List.getElem?_set_ne (by omega)]; exact h.1, by rw [List.getElem?_set_ne (by omega)]; exact h.2.1, x_rep_set h.2.2 (by omega) (by omega)⟩
theorem x_rep_setb {ax am : List Value} {j : Nat} {w : Value} : ∀ {st : List (Nat × Nat)}, x_rep ax am st → st.length ≤ j → x_rep ax (am.set j w) st
  | [], _, _ => trivial
  | p :: r, h, h2 => by
    have e : (p :: r).length = r.length + 1 := rfl
    rw [e] at h2
    exact ⟨h.1, by rw [List.getElem?_set_ne (by omega)]; exact h.2.1, x_rep_setb h.2.2 (by omega)⟩
set_option maxRecDepth 20000 in
theorem c_push {d : Nat} {n : Nat} {hp : px_H} {W V : Nat} {le : Int32} {s : Int64} {st : List (Nat × Nat)} {ax am ls : List Value} {a v : Nat} (ho : hp[34 + n]? = some (2, [.int (nI W), .int (nI V), .ref (35 + n), .ref (36 + n), .ref (37 + n), .int le, .int (nI st.length), .long s])) (hax : hp[36 + n]? = some (10, ax)) (ham : hp[37 + n]? = some (10, am)) (hls : hp[35 + n]? = some (10, ls)) (la : ax.length = 84) (lm : am.length = 84) (h84 : st.length < 84) (hr : x_rep ax am st) : px_Gx d 41 (0, [(0, .ref (34 + n)), (1, .int (nI a)), (2, .int (nI v))], [], hp) (fun o hp' => o = .inl none ∧ ∃ ax' am' : List Value, hp'[34 + n]? = some (2, [.int (nI W), .int (nI V), .ref (35 + n), .ref (36 + n), .ref (37 + n), .int le, .int (nI ((a, v) :: st).length), .long s]) ∧ hp'[36 + n]? = some (10, ax') ∧ hp'[37 + n]? = some (10, am') ∧ hp'[35 + n]? = some (10, ls) ∧ ax'.length = 84 ∧ am'.length = 84 ∧ x_rep ax' am' ((a, v) :: st)) := by
  refine px_gx (fun _ K9 => px_a 1 (f' := (1, [(0, .ref (34 + n)), (1, .int (nI a)), (2, .int (nI v))], [.ref (34 + n)], hp)) rfl K9) ?_
  refine px_gx (fun _ K9 => px_gf (34 + n) 43 2 6 (.int (nI st.length)) rfl rfl ho rfl K9) ?_
  show px_Gx _ _ (4, [(0, .ref (34 + n)), (1, .int (nI a)), (2, .int (nI v))], [.int (nI st.length)], hp) _
  refine px_gx (fun _ K9 => px_a 1 (f' := (6, [(0, .ref (34 + n)), (1, .int (nI a)), (2, .int (nI v))], [.int 84, .int (nI st.length)], hp)) rfl K9) ?_
  refine px_gx (fun _ K9 => px_b2 false 39 rfl rfl (decide_eq_false (Int32.not_le.mpr (nI_lt (b := 84) (by omega) (by decide)))) K9) ?_
  show px_Gx _ _ (9, [(0, .ref (34 + n)), (1, .int (nI a)), (2, .int (nI v))], [], hp) _
  refine px_gx (fun _ K9 => px_a 1 (f' := (10, [(0, .ref (34 + n)), (1, .int (nI a)), (2, .int (nI v))], [.ref (34 + n)], hp)) rfl K9) ?_
  refine px_gx (fun _ K9 => px_gf (34 + n) 20 2 3 (.ref (36 + n)) rfl rfl ho rfl K9) ?_
  show px_Gx _ _ (13, [(0, .ref (34 + n)), (1, .int (nI a)), (2, .int (nI v))], [.ref (36 + n)], hp) _
  refine px_gx (fun _ K9 => px_a 1 (f' := (14, [(0, .ref (34 + n)), (1, .int (nI a)), (2, .int (nI v))], [.ref (34 + n), .ref (36 + n)], hp)) rfl K9) ?_
  refine px_gx (fun _ K9 => px_gf (34 + n) 43 2 6 (.int (nI st.length)) rfl rfl ho rfl K9) ?_
  show px_Gx _ _ (17, [(0, .ref (34 + n)), (1, .int (nI a)), (2, .int (nI v))], [.int (nI st.length), .ref (36 + n)], hp) _
  refine px_gx (fun _ K9 => px_a 1 (f' := (18, [(0, .ref (34 + n)), (1, .int (nI a)), (2, .int (nI v))], [.int (nI a), .int (nI st.length), .ref (36 + n)], hp)) rfl K9) ?_
  refine px_gx (fun _ K9 => px_ias (36 + n) rfl hax (by omega) (nI_pos (by omega)) (by rw [nI_clamp (by omega)]; omega) K9) ?_
  have hf1__34___n_ : (hp.set (36 + n) (10, ax.set (nI st.length).toNatClampNeg (.int (nI a))))[(34 + n)]? = some (2, [.int (nI W), .int (nI V), .ref (35 + n), .ref (36 + n), .ref (37 + n), .int le, .int (nI st.length), .long s]) := px_ne ho (by omega)
  have hf1__36___n_ : (hp.set (36 + n) (10, ax.set (nI st.length).toNatClampNeg (.int (nI a))))[(36 + n)]? = some (10, ax.set (nI st.length).toNatClampNeg (.int (nI a))) := px_self hax
  have hf1__37___n_ : (hp.set (36 + n) (10, ax.set (nI st.length).toNatClampNeg (.int (nI a))))[(37 + n)]? = some (10, am) := px_ne ham (by omega)
  have hf1__35___n_ : (hp.set (36 + n) (10, ax.set (nI st.length).toNatClampNeg (.int (nI a))))[(35 + n)]? = some (10, ls) := px_ne hls (by omega)
  show px_Gx _ _ (19, [(0, .ref (34 + n)), (1, .int (nI a)), (2, .int (nI v))], [], (hp.set (36 + n) (10, ax.set (nI st.length).toNatClampNeg (.int (nI a))))) _
  refine px_gx (fun _ K9 => px_a 1 (f' := (20, [(0, .ref (34 + n)), (1, .int (nI a)), (2, .int (nI v))], [.ref (34 + n)], (hp.set (36 + n) (10, ax.set (nI st.length).toNatClampNeg (.int (nI a)))))) rfl K9) ?_
  refine px_gx (fun _ K9 => px_gf (34 + n) 23 2 4 (.ref (37 + n)) rfl rfl hf1__34___n_ rfl K9) ?_
  show px_Gx _ _ (23, [(0, .ref (34 + n)), (1, .int (nI a)), (2, .int (nI v))], [.ref (37 + n)], (hp.set (36 + n) (10, ax.set (nI st.length).toNatClampNeg (.int (nI a))))) _
  refine px_gx (fun _ K9 => px_a 1 (f' := (24, [(0, .ref (34 + n)), (1, .int (nI a)), (2, .int (nI v))], [.ref (34 + n), .ref (37 + n)], (hp.set (36 + n) (10, ax.set (nI st.length).toNatClampNeg (.int (nI a)))))) rfl K9) ?_
  refine px_gx (fun _ K9 => px_gf (34 + n) 43 2 6 (.int (nI st.length)) rfl rfl hf1__34___n_ rfl K9) ?_
  show px_Gx _ _ (27, [(0, .ref (34 + n)), (1, .int (nI a)), (2, .int (nI v))], [.int (nI st.length), .ref (37 + n)], (hp.set (36 + n) (10, ax.set (nI st.length).toNatClampNeg (.int (nI a))))) _
  refine px_gx (fun _ K9 => px_a 1 (f' := (28, [(0, .ref (34 + n)), (1, .int (nI a)), (2, .int (nI v))], [.int (nI v), .int (nI st.length), .ref (37 + n)], (hp.set (36 + n) (10, ax.set (nI st.length).toNatClampNeg (.int (nI a)))))) rfl K9) ?_
  refine px_gx (fun _ K9 => px_ias (37 + n) rfl hf1__37___n_ (by omega) (nI_pos (by omega)) (by rw [nI_clamp (by omega)]; omega) K9) ?_
  have hf2__34___n_ : (((hp.set (36 + n) (10, ax.set (nI st.length).toNatClampNeg (.int (nI a))))).set (37 + n) (10, am.set (nI st.length).toNatClampNeg (.int (nI v))))[(34 + n)]? = some (2, [.int (nI W), .int (nI V), .ref (35 + n), .ref (36 + n), .ref (37 + n), .int le, .int (nI st.length), .long s]) := px_ne hf1__34___n_ (by omega)
  have hf2__36___n_ : (((hp.set (36 + n) (10, ax.set (nI st.length).toNatClampNeg (.int (nI a))))).set (37 + n) (10, am.set (nI st.length).toNatClampNeg (.int (nI v))))[(36 + n)]? = some (10, ax.set (nI st.length).toNatClampNeg (.int (nI a))) := px_ne hf1__36___n_ (by omega)
  have hf2__37___n_ : (((hp.set (36 + n) (10, ax.set (nI st.length).toNatClampNeg (.int (nI a))))).set (37 + n) (10, am.set (nI st.length).toNatClampNeg (.int (nI v))))[(37 + n)]? = some (10, am.set (nI st.length).toNatClampNeg (.int (nI v))) := px_self hf1__37___n_
  have hf2__35___n_ : (((hp.set (36 + n) (10, ax.set (nI st.length).toNatClampNeg (.int (nI a))))).set (37 + n) (10, am.set (nI st.length).toNatClampNeg (.int (nI v))))[(35 + n)]? = some (10, ls) := px_ne hf1__35___n_ (by omega)
  show px_Gx _ _ (29, [(0, .ref (34 + n)), (1, .int (nI a)), (2, .int (nI v))], [], (((hp.set (36 + n) (10, ax.set (nI st.length).toNatClampNeg (.int (nI a))))).set (37 + n) (10, am.set (nI st.length).toNatClampNeg (.int (nI v))))) _
  refine px_gx (fun _ K9 => px_a 2 (f' := (31, [(0, .ref (34 + n)), (1, .int (nI a)), (2, .int (nI v))], [.ref (34 + n), .ref (34 + n)], (((hp.set (36 + n) (10, ax.set (nI st.length).toNatClampNeg (.int (nI a))))).set (37 + n) (10, am.set (nI st.length).toNatClampNeg (.int (nI v)))))) rfl K9) ?_
  refine px_gx (fun _ K9 => px_gf (34 + n) 43 2 6 (.int (nI st.length)) rfl rfl hf2__34___n_ rfl K9) ?_
  show px_Gx _ _ (34, [(0, .ref (34 + n)), (1, .int (nI a)), (2, .int (nI v))], [.int (nI st.length), .ref (34 + n)], (((hp.set (36 + n) (10, ax.set (nI st.length).toNatClampNeg (.int (nI a))))).set (37 + n) (10, am.set (nI st.length).toNatClampNeg (.int (nI v))))) _
  refine px_gx (fun _ K9 => px_a 2 (f' := (36, [(0, .ref (34 + n)), (1, .int (nI a)), (2, .int (nI v))], [.int ((nI st.length) + 1), .ref (34 + n)], (((hp.set (36 + n) (10, ax.set (nI st.length).toNatClampNeg (.int (nI a))))).set (37 + n) (10, am.set (nI st.length).toNatClampNeg (.int (nI v)))))) rfl K9) ?_
  refine px_gx (fun _ K9 => px_pf (34 + n) 43 2 6 rfl rfl hf2__34___n_ (by omega) (by simp) rfl rfl (by decide) K9) ?_
  have hf3__34___n_ : (((((hp.set (36 + n) (10, ax.set (nI st.length).toNatClampNeg (.int (nI a))))).set (37 + n) (10, am.set (nI st.length).toNatClampNeg (.int (nI v))))).set (34 + n) (2, [.int (nI W), .int (nI V), .ref (35 + n), .ref (36 + n), .ref (37 + n), .int le, .int ((nI st.length) + 1), .long s]))[(34 + n)]? = some (2, [.int (nI W), .int (nI V), .ref (35 + n), .ref (36 + n), .ref (37 + n), .int le, .int ((nI st.length) + 1), .long s]) := px_self hf2__34___n_
  have hf3__36___n_ : (((((hp.set (36 + n) (10, ax.set (nI st.length).toNatClampNeg (.int (nI a))))).set (37 + n) (10, am.set (nI st.length).toNatClampNeg (.int (nI v))))).set (34 + n) (2, [.int (nI W), .int (nI V), .ref (35 + n), .ref (36 + n), .ref (37 + n), .int le, .int ((nI st.length) + 1), .long s]))[(36 + n)]? = some (10, ax.set (nI st.length).toNatClampNeg (.int (nI a))) := px_ne hf2__36___n_ (by omega)
  have hf3__37___n_ : (((((hp.set (36 + n) (10, ax.set (nI st.length).toNatClampNeg (.int (nI a))))).set (37 + n) (10, am.set (nI st.length).toNatClampNeg (.int (nI v))))).set (34 + n) (2, [.int (nI W), .int (nI V), .ref (35 + n), .ref (36 + n), .ref (37 + n), .int le, .int ((nI st.length) + 1), .long s]))[(37 + n)]? = some (10, am.set (nI st.length).toNatClampNeg (.int (nI v))) := px_ne hf2__37___n_ (by omega)
  have hf3__35___n_ : (((((hp.set (36 + n) (10, ax.set (nI st.length).toNatClampNeg (.int (nI a))))).set (37 + n) (10, am.set (nI st.length).toNatClampNeg (.int (nI v))))).set (34 + n) (2, [.int (nI W), .int (nI V), .ref (35 + n), .ref (36 + n), .ref (37 + n), .int le, .int ((nI st.length) + 1), .long s]))[(35 + n)]? = some (10, ls) := px_ne hf2__35___n_ (by omega)
  show px_Gx _ _ (39, [(0, .ref (34 + n)), (1, .int (nI a)), (2, .int (nI v))], [], (((((hp.set (36 + n) (10, ax.set (nI st.length).toNatClampNeg (.int (nI a))))).set (37 + n) (10, am.set (nI st.length).toNatClampNeg (.int (nI v))))).set (34 + n) (2, [.int (nI W), .int (nI V), .ref (35 + n), .ref (36 + n), .ref (37 + n), .int le, .int ((nI st.length) + 1), .long s]))) _
  refine ⟨_, _, px_e rfl rfl, rfl, _, _, ?_, hf3__36___n_, hf3__37___n_, hf3__35___n_, by rw [List.length_set]; exact la, by rw [List.length_set]; exact lm, ?_⟩
  · rw [show ((a, v) :: st).length = st.length + 1 from rfl, ← nI_1]
    exact hf3__34___n_
  · rw [nI_clamp (by omega)]
    exact ⟨List.getElem?_set_self (by omega), List.getElem?_set_self (by omega), x_rep_set hr (Nat.le_refl _) (Nat.le_refl _)⟩
set_option maxRecDepth 20000 in
set_option maxHeartbeats 2000000 in
theorem c_flt {d : Nat} {n : Nat} {hp : px_H} {W V : Nat} {le : Int32} {s : Int64} {st : List (Nat × Nat)} {ax am ls : List Value} {a v m : Nat} (hm : m ≤ 9) (ha : a < 2) (hv : v ≤ 9) (hso : x_so m st) (ho : hp[34 + n]? = some (2, [.int (nI W), .int (nI V), .ref (35 + n), .ref (36 + n), .ref (37 + n), .int le, .int (nI st.length), .long s])) (hax : hp[36 + n]? = some (10, ax)) (ham : hp[37 + n]? = some (10, am)) (hls : hp[35 + n]? = some (10, ls)) (la : ax.length = 84) (lm : am.length = 84) (h84 : st.length < 84) (hr : x_rep ax am st) : px_Gx (d + 1) 35 (0, [(0, .ref (34 + n)), (1, .int (nI a)), (2, .int (nI v)), (3, .int (nI m))], [], hp) (fun o hp' => o = .inl none ∧ ∃ ax' am' : List Value, hp'[34 + n]? = some (2, [.int (nI W), .int (nI V), .ref (35 + n), .ref (36 + n), .ref (37 + n), .int le, .int (nI (x_psh m a v st).length), .long s]) ∧ hp'[36 + n]? = some (10, ax') ∧ hp'[37 + n]? = some (10, am') ∧ hp'[35 + n]? = some (10, ls) ∧ ax'.length = 84 ∧ am'.length = 84 ∧ x_rep ax' am' (x_psh m a v st)) := by
  cases st with
  | nil =>
    refine px_gx (fun _ K9 => px_a 1 (f' := (1, [(0, .ref (34 + n)), (1, .int (nI a)), (2, .int (nI v)), (3, .int (nI m))], [.ref (34 + n)], hp)) rfl K9) ?_
    refine px_gx (fun _ K9 => px_gf (34 + n) 43 2 6 (.int 0) rfl rfl ho rfl K9) ?_
    show px_Gx _ _ (4, [(0, .ref (34 + n)), (1, .int (nI a)), (2, .int (nI v)), (3, .int (nI m))], [.int 0], hp) _
    refine px_gx (fun _ K9 => px_a 8 (f' := (27, [(4, .int (-1)), (0, .ref (34 + n)), (1, .int (nI a)), (2, .int (nI v)), (3, .int (nI m))], [.int (nI v), .int (nI a), .ref (34 + n)], hp)) rfl K9) ?_
    obtain ⟨o, hp', hg, rfl, ax', am', b1, b2, b3, b4, b5, b6, b7⟩ := c_push (d := d) (a := a) (v := v) (st := []) ho hax ham hls la lm h84 hr
    refine px_gx (fun _ K9 => px_cv (34 + n) (as := [.int (nI a), .int (nI v)]) (rest := []) rfl rfl ho rfl rfl rfl rfl (Nat.le_of_ble_eq_true rfl) hg K9) ?_
    exact ⟨_, _, px_e rfl rfl, rfl, ax', am', b1, b2, b3, b4, b5, b6, b7⟩
  | cons p r =>
    have hpp := hso p List.mem_cons_self
    have hl : (p :: r).length = r.length + 1 := rfl
    rw [hl] at ho h84
    by_cases h1 : p.1 = a
    rotate_left
    · have es : x_psh m a v (p :: r) = (a, v) :: p :: r := by rw [x_psh_c, if_neg h1]
      rw [es]
      refine px_gx (fun _ K9 => px_a 1 (f' := (1, [(0, .ref (34 + n)), (1, .int (nI a)), (2, .int (nI v)), (3, .int (nI m))], [.ref (34 + n)], hp)) rfl K9) ?_
      refine px_gx (fun _ K9 => px_gf (34 + n) 43 2 6 (.int (nI (r.length + 1))) rfl rfl ho rfl K9) ?_
      show px_Gx _ _ (4, [(0, .ref (34 + n)), (1, .int (nI a)), (2, .int (nI v)), (3, .int (nI m))], [.int (nI (r.length + 1))], hp) _
      refine px_gx (fun _ K9 => px_a 4 (f' := (10, [(4, .int ((nI (r.length + 1)) - 1)), (0, .ref (34 + n)), (1, .int (nI a)), (2, .int (nI v)), (3, .int (nI m))], [.int ((nI (r.length + 1)) - 1)], hp)) rfl K9) ?_
      refine px_gx (fun _ K9 => px_b1 false 24 rfl rfl (decide_eq_false (by rw [nI_pred]; exact nI_pos (by omega))) K9) ?_
      show px_Gx _ _ (13, [(4, .int ((nI (r.length + 1)) - 1)), (0, .ref (34 + n)), (1, .int (nI a)), (2, .int (nI v)), (3, .int (nI m))], [], hp) _
      refine px_gx (fun _ K9 => px_a 1 (f' := (14, [(4, .int ((nI (r.length + 1)) - 1)), (0, .ref (34 + n)), (1, .int (nI a)), (2, .int (nI v)), (3, .int (nI m))], [.ref (34 + n)], hp)) rfl K9) ?_
      refine px_gx (fun _ K9 => px_gf (34 + n) 20 2 3 (.ref (36 + n)) rfl rfl ho rfl K9) ?_
      show px_Gx _ _ (17, [(4, .int ((nI (r.length + 1)) - 1)), (0, .ref (34 + n)), (1, .int (nI a)), (2, .int (nI v)), (3, .int (nI m))], [.ref (36 + n)], hp) _
      refine px_gx (fun _ K9 => px_a 1 (f' := (19, [(4, .int ((nI (r.length + 1)) - 1)), (0, .ref (34 + n)), (1, .int (nI a)), (2, .int (nI v)), (3, .int (nI m))], [.int ((nI (r.length + 1)) - 1), .ref (36 + n)], hp)) rfl K9) ?_
      refine px_gx (fun _ K9 => px_al (36 + n) (.int (nI p.1)) rfl hax (Or.inl ⟨rfl, Or.inl rfl⟩) (by rw [nI_pred]; exact nI_pos (by omega)) (by rw [nI_pred, nI_clamp (by omega)]; exact hr.1) K9) ?_
      show px_Gx _ _ (20, [(4, .int ((nI (r.length + 1)) - 1)), (0, .ref (34 + n)), (1, .int (nI a)), (2, .int (nI v)), (3, .int (nI m))], [.int (nI p.1)], hp) _
      refine px_gx (fun _ K9 => px_a 1 (f' := (21, [(4, .int ((nI (r.length + 1)) - 1)), (0, .ref (34 + n)), (1, .int (nI a)), (2, .int (nI v)), (3, .int (nI m))], [.int (nI a), .int (nI p.1)], hp)) rfl K9) ?_
      refine px_gx (fun _ K9 => px_b2 false 31 rfl rfl (decide_eq_false (fun z => h1 ((nI_eq (by omega) (by omega)).mp z))) K9) ?_
      show px_Gx _ _ (24, [(4, .int ((nI (r.length + 1)) - 1)), (0, .ref (34 + n)), (1, .int (nI a)), (2, .int (nI v)), (3, .int (nI m))], [], hp) _
      refine px_gx (fun _ K9 => px_a 3 (f' := (27, [(4, .int ((nI (r.length + 1)) - 1)), (0, .ref (34 + n)), (1, .int (nI a)), (2, .int (nI v)), (3, .int (nI m))], [.int (nI v), .int (nI a), .ref (34 + n)], hp)) rfl K9) ?_
      obtain ⟨o, hp', hg, rfl, ax', am', b1, b2, b3, b4, b5, b6, b7⟩ := c_push (d := d) (a := a) (v := v) (st := p :: r) ho hax ham hls la lm h84 hr
      refine px_gx (fun _ K9 => px_cv (34 + n) (as := [.int (nI a), .int (nI v)]) (rest := []) rfl rfl ho rfl rfl rfl rfl (Nat.le_of_ble_eq_true rfl) hg K9) ?_
      exact ⟨_, _, px_e rfl rfl, rfl, ax', am', b1, b2, b3, b4, b5, b6, b7⟩
    · by_cases h2 : p.2 + v = m
      · have es : x_psh m a v (p :: r) = r := by rw [x_psh_c, if_pos h1, if_pos h2]
        rw [es]
        refine px_gx (fun _ K9 => px_a 1 (f' := (1, [(0, .ref (34 + n)), (1, .int (nI a)), (2, .int (nI v)), (3, .int (nI m))], [.ref (34 + n)], hp)) rfl K9) ?_
        refine px_gx (fun _ K9 => px_gf (34 + n) 43 2 6 (.int (nI (r.length + 1))) rfl rfl ho rfl K9) ?_
        show px_Gx _ _ (4, [(0, .ref (34 + n)), (1, .int (nI a)), (2, .int (nI v)), (3, .int (nI m))], [.int (nI (r.length + 1))], hp) _
        refine px_gx (fun _ K9 => px_a 4 (f' := (10, [(4, .int ((nI (r.length + 1)) - 1)), (0, .ref (34 + n)), (1, .int (nI a)), (2, .int (nI v)), (3, .int (nI m))], [.int ((nI (r.length + 1)) - 1)], hp)) rfl K9) ?_
        refine px_gx (fun _ K9 => px_b1 false 24 rfl rfl (decide_eq_false (by rw [nI_pred]; exact nI_pos (by omega))) K9) ?_
        show px_Gx _ _ (13, [(4, .int ((nI (r.length + 1)) - 1)), (0, .ref (34 + n)), (1, .int (nI a)), (2, .int (nI v)), (3, .int (nI m))], [], hp) _
        refine px_gx (fun _ K9 => px_a 1 (f' := (14, [(4, .int ((nI (r.length + 1)) - 1)), (0, .ref (34 + n)), (1, .int (nI a)), (2, .int (nI v)), (3, .int (nI m))], [.ref (34 + n)], hp)) rfl K9) ?_
        refine px_gx (fun _ K9 => px_gf (34 + n) 20 2 3 (.ref (36 + n)) rfl rfl ho rfl K9) ?_
        show px_Gx _ _ (17, [(4, .int ((nI (r.length + 1)) - 1)), (0, .ref (34 + n)), (1, .int (nI a)), (2, .int (nI v)), (3, .int (nI m))], [.ref (36 + n)], hp) _
        refine px_gx (fun _ K9 => px_a 1 (f' := (19, [(4, .int ((nI (r.length + 1)) - 1)), (0, .ref (34 + n)), (1, .int (nI a)), (2, .int (nI v)), (3, .int (nI m))], [.int ((nI (r.length + 1)) - 1), .ref (36 + n)], hp)) rfl K9) ?_
        refine px_gx (fun _ K9 => px_al (36 + n) (.int (nI p.1)) rfl hax (Or.inl ⟨rfl, Or.inl rfl⟩) (by rw [nI_pred]; exact nI_pos (by omega)) (by rw [nI_pred, nI_clamp (by omega)]; exact hr.1) K9) ?_
        show px_Gx _ _ (20, [(4, .int ((nI (r.length + 1)) - 1)), (0, .ref (34 + n)), (1, .int (nI a)), (2, .int (nI v)), (3, .int (nI m))], [.int (nI p.1)], hp) _
        refine px_gx (fun _ K9 => px_a 1 (f' := (21, [(4, .int ((nI (r.length + 1)) - 1)), (0, .ref (34 + n)), (1, .int (nI a)), (2, .int (nI v)), (3, .int (nI m))], [.int (nI a), .int (nI p.1)], hp)) rfl K9) ?_
        refine px_gx (fun _ K9 => px_b2 true 31 rfl rfl (decide_eq_true (by rw [h1])) K9) ?_
        show px_Gx _ _ (31, [(4, .int ((nI (r.length + 1)) - 1)), (0, .ref (34 + n)), (1, .int (nI a)), (2, .int (nI v)), (3, .int (nI m))], [], hp) _
        refine px_gx (fun _ K9 => px_a 1 (f' := (32, [(4, .int ((nI (r.length + 1)) - 1)), (0, .ref (34 + n)), (1, .int (nI a)), (2, .int (nI v)), (3, .int (nI m))], [.ref (34 + n)], hp)) rfl K9) ?_
        refine px_gx (fun _ K9 => px_gf (34 + n) 23 2 4 (.ref (37 + n)) rfl rfl ho rfl K9) ?_
        show px_Gx _ _ (35, [(4, .int ((nI (r.length + 1)) - 1)), (0, .ref (34 + n)), (1, .int (nI a)), (2, .int (nI v)), (3, .int (nI m))], [.ref (37 + n)], hp) _
        refine px_gx (fun _ K9 => px_a 1 (f' := (37, [(4, .int ((nI (r.length + 1)) - 1)), (0, .ref (34 + n)), (1, .int (nI a)), (2, .int (nI v)), (3, .int (nI m))], [.int ((nI (r.length + 1)) - 1), .ref (37 + n)], hp)) rfl K9) ?_
        refine px_gx (fun _ K9 => px_al (37 + n) (.int (nI p.2)) rfl ham (Or.inl ⟨rfl, Or.inl rfl⟩) (by rw [nI_pred]; exact nI_pos (by omega)) (by rw [nI_pred, nI_clamp (by omega)]; exact hr.2.1) K9) ?_
        show px_Gx _ _ (38, [(4, .int ((nI (r.length + 1)) - 1)), (0, .ref (34 + n)), (1, .int (nI a)), (2, .int (nI v)), (3, .int (nI m))], [.int (nI p.2)], hp) _
        refine px_gx (fun _ K9 => px_a 5 (f' := (45, [(5, .int ((nI p.2) + (nI v))), (4, .int ((nI (r.length + 1)) - 1)), (0, .ref (34 + n)), (1, .int (nI a)), (2, .int (nI v)), (3, .int (nI m))], [.int (nI m), .int ((nI p.2) + (nI v))], hp)) rfl K9) ?_
        refine px_gx (fun _ K9 => px_b2 false 55 rfl rfl (decide_eq_false (not_not_intro (by rw [nI_add, h2]))) K9) ?_
        show px_Gx _ _ (48, [(5, .int ((nI p.2) + (nI v))), (4, .int ((nI (r.length + 1)) - 1)), (0, .ref (34 + n)), (1, .int (nI a)), (2, .int (nI v)), (3, .int (nI m))], [], hp) _
        refine px_gx (fun _ K9 => px_a 2 (f' := (51, [(5, .int ((nI p.2) + (nI v))), (4, .int ((nI (r.length + 1)) - 1)), (0, .ref (34 + n)), (1, .int (nI a)), (2, .int (nI v)), (3, .int (nI m))], [.int ((nI (r.length + 1)) - 1), .ref (34 + n)], hp)) rfl K9) ?_
        refine px_gx (fun _ K9 => px_pf (34 + n) 43 2 6 rfl rfl ho (by omega) (by simp) rfl rfl (by decide) K9) ?_
        have hf1__34___n_ : (hp.set (34 + n) (2, [.int (nI W), .int (nI V), .ref (35 + n), .ref (36 + n), .ref (37 + n), .int le, .int ((nI (r.length + 1)) - 1), .long s]))[(34 + n)]? = some (2, [.int (nI W), .int (nI V), .ref (35 + n), .ref (36 + n), .ref (37 + n), .int le, .int ((nI (r.length + 1)) - 1), .long s]) := px_self ho
        have hf1__36___n_ : (hp.set (34 + n) (2, [.int (nI W), .int (nI V), .ref (35 + n), .ref (36 + n), .ref (37 + n), .int le, .int ((nI (r.length + 1)) - 1), .long s]))[(36 + n)]? = some (10, ax) := px_ne hax (by omega)
        have hf1__37___n_ : (hp.set (34 + n) (2, [.int (nI W), .int (nI V), .ref (35 + n), .ref (36 + n), .ref (37 + n), .int le, .int ((nI (r.length + 1)) - 1), .long s]))[(37 + n)]? = some (10, am) := px_ne ham (by omega)
        have hf1__35___n_ : (hp.set (34 + n) (2, [.int (nI W), .int (nI V), .ref (35 + n), .ref (36 + n), .ref (37 + n), .int le, .int ((nI (r.length + 1)) - 1), .long s]))[(35 + n)]? = some (10, ls) := px_ne hls (by omega)
        show px_Gx _ _ (54, [(5, .int ((nI p.2) + (nI v))), (4, .int ((nI (r.length + 1)) - 1)), (0, .ref (34 + n)), (1, .int (nI a)), (2, .int (nI v)), (3, .int (nI m))], [], (hp.set (34 + n) (2, [.int (nI W), .int (nI V), .ref (35 + n), .ref (36 + n), .ref (37 + n), .int le, .int ((nI (r.length + 1)) - 1), .long s]))) _
        exact ⟨_, _, px_e rfl rfl, rfl, ax, am, (nI_pred r.length) ▸ hf1__34___n_, hf1__36___n_, hf1__37___n_, hf1__35___n_, la, lm, hr.2.2⟩
      · by_cases h3 : m < p.2 + v
        · have es : x_psh m a v (p :: r) = (a, p.2 + v - m) :: r := by rw [x_psh_c, if_pos h1, if_neg h2, if_pos h3]
          rw [es]
          refine px_gx (fun _ K9 => px_a 1 (f' := (1, [(0, .ref (34 + n)), (1, .int (nI a)), (2, .int (nI v)), (3, .int (nI m))], [.ref (34 + n)], hp)) rfl K9) ?_
          refine px_gx (fun _ K9 => px_gf (34 + n) 43 2 6 (.int (nI (r.length + 1))) rfl rfl ho rfl K9) ?_
          show px_Gx _ _ (4, [(0, .ref (34 + n)), (1, .int (nI a)), (2, .int (nI v)), (3, .int (nI m))], [.int (nI (r.length + 1))], hp) _
          refine px_gx (fun _ K9 => px_a 4 (f' := (10, [(4, .int ((nI (r.length + 1)) - 1)), (0, .ref (34 + n)), (1, .int (nI a)), (2, .int (nI v)), (3, .int (nI m))], [.int ((nI (r.length + 1)) - 1)], hp)) rfl K9) ?_
          refine px_gx (fun _ K9 => px_b1 false 24 rfl rfl (decide_eq_false (by rw [nI_pred]; exact nI_pos (by omega))) K9) ?_
          show px_Gx _ _ (13, [(4, .int ((nI (r.length + 1)) - 1)), (0, .ref (34 + n)), (1, .int (nI a)), (2, .int (nI v)), (3, .int (nI m))], [], hp) _
          refine px_gx (fun _ K9 => px_a 1 (f' := (14, [(4, .int ((nI (r.length + 1)) - 1)), (0, .ref (34 + n)), (1, .int (nI a)), (2, .int (nI v)), (3, .int (nI m))], [.ref (34 + n)], hp)) rfl K9) ?_
          refine px_gx (fun _ K9 => px_gf (34 + n) 20 2 3 (.ref (36 + n)) rfl rfl ho rfl K9) ?_
          show px_Gx _ _ (17, [(4, .int ((nI (r.length + 1)) - 1)), (0, .ref (34 + n)), (1, .int (nI a)), (2, .int (nI v)), (3, .int (nI m))], [.ref (36 + n)], hp) _
          refine px_gx (fun _ K9 => px_a 1 (f' := (19, [(4, .int ((nI (r.length + 1)) - 1)), (0, .ref (34 + n)), (1, .int (nI a)), (2, .int (nI v)), (3, .int (nI m))], [.int ((nI (r.length + 1)) - 1), .ref (36 + n)], hp)) rfl K9) ?_
          refine px_gx (fun _ K9 => px_al (36 + n) (.int (nI p.1)) rfl hax (Or.inl ⟨rfl, Or.inl rfl⟩) (by rw [nI_pred]; exact nI_pos (by omega)) (by rw [nI_pred, nI_clamp (by omega)]; exact hr.1) K9) ?_
          show px_Gx _ _ (20, [(4, .int ((nI (r.length + 1)) - 1)), (0, .ref (34 + n)), (1, .int (nI a)), (2, .int (nI v)), (3, .int (nI m))], [.int (nI p.1)], hp) _
          refine px_gx (fun _ K9 => px_a 1 (f' := (21, [(4, .int ((nI (r.length + 1)) - 1)), (0, .ref (34 + n)), (1, .int (nI a)), (2, .int (nI v)), (3, .int (nI m))], [.int (nI a), .int (nI p.1)], hp)) rfl K9) ?_
          refine px_gx (fun _ K9 => px_b2 true 31 rfl rfl (decide_eq_true (by rw [h1])) K9) ?_
          show px_Gx _ _ (31, [(4, .int ((nI (r.length + 1)) - 1)), (0, .ref (34 + n)), (1, .int (nI a)), (2, .int (nI v)), (3, .int (nI m))], [], hp) _
          refine px_gx (fun _ K9 => px_a 1 (f' := (32, [(4, .int ((nI (r.length + 1)) - 1)), (0, .ref (34 + n)), (1, .int (nI a)), (2, .int (nI v)), (3, .int (nI m))], [.ref (34 + n)], hp)) rfl K9) ?_
          refine px_gx (fun _ K9 => px_gf (34 + n) 23 2 4 (.ref (37 + n)) rfl rfl ho rfl K9) ?_
          show px_Gx _ _ (35, [(4, .int ((nI (r.length + 1)) - 1)), (0, .ref (34 + n)), (1, .int (nI a)), (2, .int (nI v)), (3, .int (nI m))], [.ref (37 + n)], hp) _
          refine px_gx (fun _ K9 => px_a 1 (f' := (37, [(4, .int ((nI (r.length + 1)) - 1)), (0, .ref (34 + n)), (1, .int (nI a)), (2, .int (nI v)), (3, .int (nI m))], [.int ((nI (r.length + 1)) - 1), .ref (37 + n)], hp)) rfl K9) ?_
          refine px_gx (fun _ K9 => px_al (37 + n) (.int (nI p.2)) rfl ham (Or.inl ⟨rfl, Or.inl rfl⟩) (by rw [nI_pred]; exact nI_pos (by omega)) (by rw [nI_pred, nI_clamp (by omega)]; exact hr.2.1) K9) ?_
          show px_Gx _ _ (38, [(4, .int ((nI (r.length + 1)) - 1)), (0, .ref (34 + n)), (1, .int (nI a)), (2, .int (nI v)), (3, .int (nI m))], [.int (nI p.2)], hp) _
          refine px_gx (fun _ K9 => px_a 5 (f' := (45, [(5, .int ((nI p.2) + (nI v))), (4, .int ((nI (r.length + 1)) - 1)), (0, .ref (34 + n)), (1, .int (nI a)), (2, .int (nI v)), (3, .int (nI m))], [.int (nI m), .int ((nI p.2) + (nI v))], hp)) rfl K9) ?_
          refine px_gx (fun _ K9 => px_b2 true 55 rfl rfl (decide_eq_true (fun z => h2 (by rw [nI_add] at z; exact (nI_eq (by omega) (by omega)).mp z))) K9) ?_
          show px_Gx _ _ (55, [(5, .int ((nI p.2) + (nI v))), (4, .int ((nI (r.length + 1)) - 1)), (0, .ref (34 + n)), (1, .int (nI a)), (2, .int (nI v)), (3, .int (nI m))], [], hp) _
          refine px_gx (fun _ K9 => px_a 1 (f' := (56, [(5, .int ((nI p.2) + (nI v))), (4, .int ((nI (r.length + 1)) - 1)), (0, .ref (34 + n)), (1, .int (nI a)), (2, .int (nI v)), (3, .int (nI m))], [.ref (34 + n)], hp)) rfl K9) ?_
          refine px_gx (fun _ K9 => px_gf (34 + n) 23 2 4 (.ref (37 + n)) rfl rfl ho rfl K9) ?_
          show px_Gx _ _ (59, [(5, .int ((nI p.2) + (nI v))), (4, .int ((nI (r.length + 1)) - 1)), (0, .ref (34 + n)), (1, .int (nI a)), (2, .int (nI v)), (3, .int (nI m))], [.ref (37 + n)], hp) _
          refine px_gx (fun _ K9 => px_a 3 (f' := (64, [(5, .int ((nI p.2) + (nI v))), (4, .int ((nI (r.length + 1)) - 1)), (0, .ref (34 + n)), (1, .int (nI a)), (2, .int (nI v)), (3, .int (nI m))], [.int (nI m), .int ((nI p.2) + (nI v)), .int ((nI (r.length + 1)) - 1), .ref (37 + n)], hp)) rfl K9) ?_
          refine px_gx (fun _ K9 => px_b2 false 74 rfl rfl (decide_eq_false (by rw [nI_add]; exact nI_ge h3 (by omega))) K9) ?_
          show px_Gx _ _ (67, [(5, .int ((nI p.2) + (nI v))), (4, .int ((nI (r.length + 1)) - 1)), (0, .ref (34 + n)), (1, .int (nI a)), (2, .int (nI v)), (3, .int (nI m))], [.int ((nI (r.length + 1)) - 1), .ref (37 + n)], hp) _
          refine px_gx (fun _ K9 => px_a 4 (f' := (76, [(5, .int ((nI p.2) + (nI v))), (4, .int ((nI (r.length + 1)) - 1)), (0, .ref (34 + n)), (1, .int (nI a)), (2, .int (nI v)), (3, .int (nI m))], [.int (((nI p.2) + (nI v)) - (nI m)), .int ((nI (r.length + 1)) - 1), .ref (37 + n)], hp)) rfl K9) ?_
          refine px_gx (fun _ K9 => px_ias (37 + n) rfl ham (by omega) (by rw [nI_pred]; exact nI_pos (by omega)) (by rw [nI_pred, nI_clamp (by omega)]; omega) K9) ?_
          have hf1__34___n_ : (hp.set (37 + n) (10, am.set (nI (r.length + 1) - 1).toNatClampNeg (.int (((nI p.2) + (nI v)) - (nI m)))))[(34 + n)]? = some (2, [.int (nI W), .int (nI V), .ref (35 + n), .ref (36 + n), .ref (37 + n), .int le, .int (nI (r.length + 1)), .long s]) := px_ne ho (by omega)
          have hf1__36___n_ : (hp.set (37 + n) (10, am.set (nI (r.length + 1) - 1).toNatClampNeg (.int (((nI p.2) + (nI v)) - (nI m)))))[(36 + n)]? = some (10, ax) := px_ne hax (by omega)
          have hf1__37___n_ : (hp.set (37 + n) (10, am.set (nI (r.length + 1) - 1).toNatClampNeg (.int (((nI p.2) + (nI v)) - (nI m)))))[(37 + n)]? = some (10, am.set (nI (r.length + 1) - 1).toNatClampNeg (.int (((nI p.2) + (nI v)) - (nI m)))) := px_self ham
          have hf1__35___n_ : (hp.set (37 + n) (10, am.set (nI (r.length + 1) - 1).toNatClampNeg (.int (((nI p.2) + (nI v)) - (nI m)))))[(35 + n)]? = some (10, ls) := px_ne hls (by omega)
          show px_Gx _ _ (77, [(5, .int ((nI p.2) + (nI v))), (4, .int ((nI (r.length + 1)) - 1)), (0, .ref (34 + n)), (1, .int (nI a)), (2, .int (nI v)), (3, .int (nI m))], [], (hp.set (37 + n) (10, am.set (nI (r.length + 1) - 1).toNatClampNeg (.int (((nI p.2) + (nI v)) - (nI m)))))) _
          exact ⟨_, _, px_e rfl rfl, rfl, _, _, hf1__34___n_, hf1__36___n_, hf1__37___n_, hf1__35___n_, la, by rw [List.length_set]; exact lm, by rw [nI_pred, nI_clamp (by omega)]; exact ⟨by rw [← h1]; exact hr.1, by rw [List.getElem?_set_self (by omega), nI_add, pk_sub (by omega)], x_rep_setb hr.2.2 (Nat.le_refl _)⟩⟩
        · have es : x_psh m a v (p :: r) = (a, p.2 + v) :: r := by rw [x_psh_c, if_pos h1, if_neg h2, if_neg h3]
          rw [es]
          refine px_gx (fun _ K9 => px_a 1 (f' := (1, [(0, .ref (34 + n)), (1, .int (nI a)), (2, .int (nI v)), (3, .int (nI m))], [.ref (34 + n)], hp)) rfl K9) ?_
          refine px_gx (fun _ K9 => px_gf (34 + n) 43 2 6 (.int (nI (r.length + 1))) rfl rfl ho rfl K9) ?_
          show px_Gx _ _ (4, [(0, .ref (34 + n)), (1, .int (nI a)), (2, .int (nI v)), (3, .int (nI m))], [.int (nI (r.length + 1))], hp) _
          refine px_gx (fun _ K9 => px_a 4 (f' := (10, [(4, .int ((nI (r.length + 1)) - 1)), (0, .ref (34 + n)), (1, .int (nI a)), (2, .int (nI v)), (3, .int (nI m))], [.int ((nI (r.length + 1)) - 1)], hp)) rfl K9) ?_
          refine px_gx (fun _ K9 => px_b1 false 24 rfl rfl (decide_eq_false (by rw [nI_pred]; exact nI_pos (by omega))) K9) ?_
          show px_Gx _ _ (13, [(4, .int ((nI (r.length + 1)) - 1)), (0, .ref (34 + n)), (1, .int (nI a)), (2, .int (nI v)), (3, .int (nI m))], [], hp) _
          refine px_gx (fun _ K9 => px_a 1 (f' := (14, [(4, .int ((nI (r.length + 1)) - 1)), (0, .ref (34 + n)), (1, .int (nI a)), (2, .int (nI v)), (3, .int (nI m))], [.ref (34 + n)], hp)) rfl K9) ?_
          refine px_gx (fun _ K9 => px_gf (34 + n) 20 2 3 (.ref (36 + n)) rfl rfl ho rfl K9) ?_
          show px_Gx _ _ (17, [(4, .int ((nI (r.length + 1)) - 1)), (0, .ref (34 + n)), (1, .int (nI a)), (2, .int (nI v)), (3, .int (nI m))], [.ref (36 + n)], hp) _
          refine px_gx (fun _ K9 => px_a 1 (f' := (19, [(4, .int ((nI (r.length + 1)) - 1)), (0, .ref (34 + n)), (1, .int (nI a)), (2, .int (nI v)), (3, .int (nI m))], [.int ((nI (r.length + 1)) - 1), .ref (36 + n)], hp)) rfl K9) ?_
          refine px_gx (fun _ K9 => px_al (36 + n) (.int (nI p.1)) rfl hax (Or.inl ⟨rfl, Or.inl rfl⟩) (by rw [nI_pred]; exact nI_pos (by omega)) (by rw [nI_pred, nI_clamp (by omega)]; exact hr.1) K9) ?_
          show px_Gx _ _ (20, [(4, .int ((nI (r.length + 1)) - 1)), (0, .ref (34 + n)), (1, .int (nI a)), (2, .int (nI v)), (3, .int (nI m))], [.int (nI p.1)], hp) _
          refine px_gx (fun _ K9 => px_a 1 (f' := (21, [(4, .int ((nI (r.length + 1)) - 1)), (0, .ref (34 + n)), (1, .int (nI a)), (2, .int (nI v)), (3, .int (nI m))], [.int (nI a), .int (nI p.1)], hp)) rfl K9) ?_
          refine px_gx (fun _ K9 => px_b2 true 31 rfl rfl (decide_eq_true (by rw [h1])) K9) ?_
          show px_Gx _ _ (31, [(4, .int ((nI (r.length + 1)) - 1)), (0, .ref (34 + n)), (1, .int (nI a)), (2, .int (nI v)), (3, .int (nI m))], [], hp) _
          refine px_gx (fun _ K9 => px_a 1 (f' := (32, [(4, .int ((nI (r.length + 1)) - 1)), (0, .ref (34 + n)), (1, .int (nI a)), (2, .int (nI v)), (3, .int (nI m))], [.ref (34 + n)], hp)) rfl K9) ?_
          refine px_gx (fun _ K9 => px_gf (34 + n) 23 2 4 (.ref (37 + n)) rfl rfl ho rfl K9) ?_
          show px_Gx _ _ (35, [(4, .int ((nI (r.length + 1)) - 1)), (0, .ref (34 + n)), (1, .int (nI a)), (2, .int (nI v)), (3, .int (nI m))], [.ref (37 + n)], hp) _
          refine px_gx (fun _ K9 => px_a 1 (f' := (37, [(4, .int ((nI (r.length + 1)) - 1)), (0, .ref (34 + n)), (1, .int (nI a)), (2, .int (nI v)), (3, .int (nI m))], [.int ((nI (r.length + 1)) - 1), .ref (37 + n)], hp)) rfl K9) ?_
          refine px_gx (fun _ K9 => px_al (37 + n) (.int (nI p.2)) rfl ham (Or.inl ⟨rfl, Or.inl rfl⟩) (by rw [nI_pred]; exact nI_pos (by omega)) (by rw [nI_pred, nI_clamp (by omega)]; exact hr.2.1) K9) ?_
          show px_Gx _ _ (38, [(4, .int ((nI (r.length + 1)) - 1)), (0, .ref (34 + n)), (1, .int (nI a)), (2, .int (nI v)), (3, .int (nI m))], [.int (nI p.2)], hp) _
          refine px_gx (fun _ K9 => px_a 5 (f' := (45, [(5, .int ((nI p.2) + (nI v))), (4, .int ((nI (r.length + 1)) - 1)), (0, .ref (34 + n)), (1, .int (nI a)), (2, .int (nI v)), (3, .int (nI m))], [.int (nI m), .int ((nI p.2) + (nI v))], hp)) rfl K9) ?_
          refine px_gx (fun _ K9 => px_b2 true 55 rfl rfl (decide_eq_true (fun z => h2 (by rw [nI_add] at z; exact (nI_eq (by omega) (by omega)).mp z))) K9) ?_
          show px_Gx _ _ (55, [(5, .int ((nI p.2) + (nI v))), (4, .int ((nI (r.length + 1)) - 1)), (0, .ref (34 + n)), (1, .int (nI a)), (2, .int (nI v)), (3, .int (nI m))], [], hp) _
          refine px_gx (fun _ K9 => px_a 1 (f' := (56, [(5, .int ((nI p.2) + (nI v))), (4, .int ((nI (r.length + 1)) - 1)), (0, .ref (34 + n)), (1, .int (nI a)), (2, .int (nI v)), (3, .int (nI m))], [.ref (34 + n)], hp)) rfl K9) ?_
          refine px_gx (fun _ K9 => px_gf (34 + n) 23 2 4 (.ref (37 + n)) rfl rfl ho rfl K9) ?_
          show px_Gx _ _ (59, [(5, .int ((nI p.2) + (nI v))), (4, .int ((nI (r.length + 1)) - 1)), (0, .ref (34 + n)), (1, .int (nI a)), (2, .int (nI v)), (3, .int (nI m))], [.ref (37 + n)], hp) _
          refine px_gx (fun _ K9 => px_a 3 (f' := (64, [(5, .int ((nI p.2) + (nI v))), (4, .int ((nI (r.length + 1)) - 1)), (0, .ref (34 + n)), (1, .int (nI a)), (2, .int (nI v)), (3, .int (nI m))], [.int (nI m), .int ((nI p.2) + (nI v)), .int ((nI (r.length + 1)) - 1), .ref (37 + n)], hp)) rfl K9) ?_
          refine px_gx (fun _ K9 => px_b2 true 74 rfl rfl (decide_eq_true (by rw [nI_add]; exact nI_le (by omega) (by omega))) K9) ?_
          show px_Gx _ _ (74, [(5, .int ((nI p.2) + (nI v))), (4, .int ((nI (r.length + 1)) - 1)), (0, .ref (34 + n)), (1, .int (nI a)), (2, .int (nI v)), (3, .int (nI m))], [.int ((nI (r.length + 1)) - 1), .ref (37 + n)], hp) _
          refine px_gx (fun _ K9 => px_a 1 (f' := (76, [(5, .int ((nI p.2) + (nI v))), (4, .int ((nI (r.length + 1)) - 1)), (0, .ref (34 + n)), (1, .int (nI a)), (2, .int (nI v)), (3, .int (nI m))], [.int ((nI p.2) + (nI v)), .int ((nI (r.length + 1)) - 1), .ref (37 + n)], hp)) rfl K9) ?_
          refine px_gx (fun _ K9 => px_ias (37 + n) rfl ham (by omega) (by rw [nI_pred]; exact nI_pos (by omega)) (by rw [nI_pred, nI_clamp (by omega)]; omega) K9) ?_
          have hf1__34___n_ : (hp.set (37 + n) (10, am.set (nI (r.length + 1) - 1).toNatClampNeg (.int ((nI p.2) + (nI v)))))[(34 + n)]? = some (2, [.int (nI W), .int (nI V), .ref (35 + n), .ref (36 + n), .ref (37 + n), .int le, .int (nI (r.length + 1)), .long s]) := px_ne ho (by omega)
          have hf1__36___n_ : (hp.set (37 + n) (10, am.set (nI (r.length + 1) - 1).toNatClampNeg (.int ((nI p.2) + (nI v)))))[(36 + n)]? = some (10, ax) := px_ne hax (by omega)
          have hf1__37___n_ : (hp.set (37 + n) (10, am.set (nI (r.length + 1) - 1).toNatClampNeg (.int ((nI p.2) + (nI v)))))[(37 + n)]? = some (10, am.set (nI (r.length + 1) - 1).toNatClampNeg (.int ((nI p.2) + (nI v)))) := px_self ham
          have hf1__35___n_ : (hp.set (37 + n) (10, am.set (nI (r.length + 1) - 1).toNatClampNeg (.int ((nI p.2) + (nI v)))))[(35 + n)]? = some (10, ls) := px_ne hls (by omega)
          show px_Gx _ _ (77, [(5, .int ((nI p.2) + (nI v))), (4, .int ((nI (r.length + 1)) - 1)), (0, .ref (34 + n)), (1, .int (nI a)), (2, .int (nI v)), (3, .int (nI m))], [], (hp.set (37 + n) (10, am.set (nI (r.length + 1) - 1).toNatClampNeg (.int ((nI p.2) + (nI v)))))) _
          exact ⟨_, _, px_e rfl rfl, rfl, _, _, hf1__34___n_, hf1__36___n_, hf1__37___n_, hf1__35___n_, la, by rw [List.length_set]; exact lm, by rw [nI_pred, nI_clamp (by omega)]; exact ⟨by rw [← h1]; exact hr.1, by rw [List.getElem?_set_self (by omega), nI_add], x_rep_setb hr.2.2 (Nat.le_refl _)⟩⟩
set_option maxRecDepth 20000 in
set_option maxHeartbeats 4000000 in
theorem c_fold_l {d n : Nat} {W V K m : Nat} {s : Int64} {f : Nat → Nat} {ls : List Value} (hm2 : 2 ≤ m) (hm9 : m ≤ 9) (hK : K ≤ 84) (hf : ∀ i, i < K → f i < 4) (hw : ∀ i, i < K → ls[i]? = some (.int (nI (f i)))) : ∀ (q i : Nat) (hp : px_H) (ax am : List Value) (ho : hp[34 + n]? = some (2, [.int (nI W), .int (nI V), .ref (35 + n), .ref (36 + n), .ref (37 + n), .int (nI K), .int (nI (x_fd m f i).length), .long s])) (hax : hp[36 + n]? = some (10, ax)) (ham : hp[37 + n]? = some (10, am)) (hls : hp[35 + n]? = some (10, ls)) (la : ax.length = 84) (lm : am.length = 84) (hr : x_rep ax am (x_fd m f i)), i + q = K → px_Gx (d + 2) 34 (7, [(2, .int (nI i)), (0, .ref (34 + n)), (1, .int (nI m))], [], hp) (fun o hp' => o = .inl none ∧ ∃ ax' am' : List Value, hp'[34 + n]? = some (2, [.int (nI W), .int (nI V), .ref (35 + n), .ref (36 + n), .ref (37 + n), .int (nI K), .int (nI (x_fd m f K).length), .long s]) ∧ hp'[36 + n]? = some (10, ax') ∧ hp'[37 + n]? = some (10, am') ∧ hp'[35 + n]? = some (10, ls) ∧ ax'.length = 84 ∧ am'.length = 84 ∧ x_rep ax' am' (x_fd m f K)) := by
  intro q
  induction q with
  | zero =>
    intro i hp ax am ho hax ham hls la lm hr g1
    obtain rfl : i = K := by omega
    refine px_gx (fun _ K9 => px_a 2 (f' := (9, [(2, .int (nI i)), (0, .ref (34 + n)), (1, .int (nI m))], [.ref (34 + n), .int (nI i)], hp)) rfl K9) ?_
    refine px_gx (fun _ K9 => px_gf (34 + n) 30 2 5 (.int (nI i)) rfl rfl ho rfl K9) ?_
    show px_Gx _ _ (12, [(2, .int (nI i)), (0, .ref (34 + n)), (1, .int (nI m))], [.int (nI i), .int (nI i)], hp) _
    refine px_gx (fun _ K9 => px_b2 true 48 rfl rfl (decide_eq_true (nI_le (by omega) (by omega))) K9) ?_
    show px_Gx _ _ (48, [(2, .int (nI i)), (0, .ref (34 + n)), (1, .int (nI m))], [], hp) _
    exact ⟨_, _, px_e rfl rfl, rfl, ax, am, ho, hax, ham, hls, la, lm, hr⟩
  | succ q ih =>
    intro i hp ax am ho hax ham hls la lm hr g1
    have h84 : (x_fd m f i).length < 84 := Nat.lt_of_le_of_lt (x_fd_len m f i) (by omega)
    have hz := hw i (by omega)
    have h4 := hf i (by omega)
    rcases (show f i = 0 ∨ f i = 1 ∨ f i = 2 ∨ f i = 3 by omega) with hl | hl | hl | hl
    · refine px_gx (fun _ K9 => px_a 2 (f' := (9, [(2, .int (nI i)), (0, .ref (34 + n)), (1, .int (nI m))], [.ref (34 + n), .int (nI i)], hp)) rfl K9) ?_
      refine px_gx (fun _ K9 => px_gf (34 + n) 30 2 5 (.int (nI K)) rfl rfl ho rfl K9) ?_
      show px_Gx _ _ (12, [(2, .int (nI i)), (0, .ref (34 + n)), (1, .int (nI m))], [.int (nI K), .int (nI i)], hp) _
      refine px_gx (fun _ K9 => px_b2 false 48 rfl rfl (decide_eq_false (nI_ge (by omega) (by omega))) K9) ?_
      show px_Gx _ _ (15, [(2, .int (nI i)), (0, .ref (34 + n)), (1, .int (nI m))], [], hp) _
      refine px_gx (fun _ K9 => px_a 1 (f' := (16, [(2, .int (nI i)), (0, .ref (34 + n)), (1, .int (nI m))], [.ref (34 + n)], hp)) rfl K9) ?_
      refine px_gx (fun _ K9 => px_gf (34 + n) 16 2 2 (.ref (35 + n)) rfl rfl ho rfl K9) ?_
      show px_Gx _ _ (19, [(2, .int (nI i)), (0, .ref (34 + n)), (1, .int (nI m))], [.ref (35 + n)], hp) _
      refine px_gx (fun _ K9 => px_a 1 (f' := (20, [(2, .int (nI i)), (0, .ref (34 + n)), (1, .int (nI m))], [.int (nI i), .ref (35 + n)], hp)) rfl K9) ?_
      refine px_gx (fun _ K9 => px_al (35 + n) (.int 0) rfl hls (Or.inl ⟨rfl, Or.inl rfl⟩) (nI_pos (by omega)) (by rw [nI_clamp (by omega), hz, hl]; rfl) K9) ?_
      show px_Gx _ _ (21, [(2, .int (nI i)), (0, .ref (34 + n)), (1, .int (nI m))], [.int 0], hp) _
      refine px_gx (fun _ K9 => px_a 11 (f' := (39, [(3, .int 0), (2, .int (nI i)), (0, .ref (34 + n)), (1, .int (nI m))], [.int (nI m), .int 1, .int 0, .ref (34 + n)], hp)) rfl K9) ?_
      obtain ⟨o, hp', hg, rfl, ax', am', b1, b2, b3, b4, b5, b6, b7⟩ := c_flt (d := d) (a := 0) (v := 1) (m := m) (by omega) (by decide) (by omega) (x_fd_so hm2 i) ho hax ham hls la lm h84 hr
      refine px_gx (fun _ K9 => px_cv (34 + n) (as := [.int 0, .int 1, .int (nI m)]) (rest := []) rfl rfl ho rfl rfl rfl rfl (Nat.le_of_ble_eq_true rfl) hg K9) ?_
      show px_Gx _ _ (42, [(3, .int 0), (2, .int (nI i)), (0, .ref (34 + n)), (1, .int (nI m))], [], hp') _
      refine px_gx (fun _ K9 => px_a 2 (f' := (7, [(2, .int ((nI i) + 1)), (3, .int 0), (0, .ref (34 + n)), (1, .int (nI m))], [], hp')) rfl K9) ?_
      rw [nI_1]
      refine px_wk [(2, .int (nI (i + 1))), (0, .ref (34 + n)), (1, .int (nI m))] ⟨rfl, rfl, rfl, trivial⟩ ?_
      have es : x_fd m f (i + 1) = x_psh m 0 1 (x_fd m f i) := by show x_psh m (f i % 2) (x_am m (f i)) _ = _; rw [hl]; rfl
      exact ih (i + 1) hp' ax' am' (by rw [es]; exact b1) b2 b3 b4 b5 b6 (by rw [es]; exact b7) (by omega)
    · refine px_gx (fun _ K9 => px_a 2 (f' := (9, [(2, .int (nI i)), (0, .ref (34 + n)), (1, .int (nI m))], [.ref (34 + n), .int (nI i)], hp)) rfl K9) ?_
      refine px_gx (fun _ K9 => px_gf (34 + n) 30 2 5 (.int (nI K)) rfl rfl ho rfl K9) ?_
      show px_Gx _ _ (12, [(2, .int (nI i)), (0, .ref (34 + n)), (1, .int (nI m))], [.int (nI K), .int (nI i)], hp) _
      refine px_gx (fun _ K9 => px_b2 false 48 rfl rfl (decide_eq_false (nI_ge (by omega) (by omega))) K9) ?_
      show px_Gx _ _ (15, [(2, .int (nI i)), (0, .ref (34 + n)), (1, .int (nI m))], [], hp) _
      refine px_gx (fun _ K9 => px_a 1 (f' := (16, [(2, .int (nI i)), (0, .ref (34 + n)), (1, .int (nI m))], [.ref (34 + n)], hp)) rfl K9) ?_
      refine px_gx (fun _ K9 => px_gf (34 + n) 16 2 2 (.ref (35 + n)) rfl rfl ho rfl K9) ?_
      show px_Gx _ _ (19, [(2, .int (nI i)), (0, .ref (34 + n)), (1, .int (nI m))], [.ref (35 + n)], hp) _
      refine px_gx (fun _ K9 => px_a 1 (f' := (20, [(2, .int (nI i)), (0, .ref (34 + n)), (1, .int (nI m))], [.int (nI i), .ref (35 + n)], hp)) rfl K9) ?_
      refine px_gx (fun _ K9 => px_al (35 + n) (.int 1) rfl hls (Or.inl ⟨rfl, Or.inl rfl⟩) (nI_pos (by omega)) (by rw [nI_clamp (by omega), hz, hl]; rfl) K9) ?_
      show px_Gx _ _ (21, [(2, .int (nI i)), (0, .ref (34 + n)), (1, .int (nI m))], [.int 1], hp) _
      refine px_gx (fun _ K9 => px_a 11 (f' := (39, [(3, .int 1), (2, .int (nI i)), (0, .ref (34 + n)), (1, .int (nI m))], [.int (nI m), .int 1, .int 1, .ref (34 + n)], hp)) rfl K9) ?_
      obtain ⟨o, hp', hg, rfl, ax', am', b1, b2, b3, b4, b5, b6, b7⟩ := c_flt (d := d) (a := 1) (v := 1) (m := m) (by omega) (by decide) (by omega) (x_fd_so hm2 i) ho hax ham hls la lm h84 hr
      refine px_gx (fun _ K9 => px_cv (34 + n) (as := [.int 1, .int 1, .int (nI m)]) (rest := []) rfl rfl ho rfl rfl rfl rfl (Nat.le_of_ble_eq_true rfl) hg K9) ?_
      show px_Gx _ _ (42, [(3, .int 1), (2, .int (nI i)), (0, .ref (34 + n)), (1, .int (nI m))], [], hp') _
      refine px_gx (fun _ K9 => px_a 2 (f' := (7, [(2, .int ((nI i) + 1)), (3, .int 1), (0, .ref (34 + n)), (1, .int (nI m))], [], hp')) rfl K9) ?_
      rw [nI_1]
      refine px_wk [(2, .int (nI (i + 1))), (0, .ref (34 + n)), (1, .int (nI m))] ⟨rfl, rfl, rfl, trivial⟩ ?_
      have es : x_fd m f (i + 1) = x_psh m 1 1 (x_fd m f i) := by show x_psh m (f i % 2) (x_am m (f i)) _ = _; rw [hl]; rfl
      exact ih (i + 1) hp' ax' am' (by rw [es]; exact b1) b2 b3 b4 b5 b6 (by rw [es]; exact b7) (by omega)
    · refine px_gx (fun _ K9 => px_a 2 (f' := (9, [(2, .int (nI i)), (0, .ref (34 + n)), (1, .int (nI m))], [.ref (34 + n), .int (nI i)], hp)) rfl K9) ?_
      refine px_gx (fun _ K9 => px_gf (34 + n) 30 2 5 (.int (nI K)) rfl rfl ho rfl K9) ?_
      show px_Gx _ _ (12, [(2, .int (nI i)), (0, .ref (34 + n)), (1, .int (nI m))], [.int (nI K), .int (nI i)], hp) _
      refine px_gx (fun _ K9 => px_b2 false 48 rfl rfl (decide_eq_false (nI_ge (by omega) (by omega))) K9) ?_
      show px_Gx _ _ (15, [(2, .int (nI i)), (0, .ref (34 + n)), (1, .int (nI m))], [], hp) _
      refine px_gx (fun _ K9 => px_a 1 (f' := (16, [(2, .int (nI i)), (0, .ref (34 + n)), (1, .int (nI m))], [.ref (34 + n)], hp)) rfl K9) ?_
      refine px_gx (fun _ K9 => px_gf (34 + n) 16 2 2 (.ref (35 + n)) rfl rfl ho rfl K9) ?_
      show px_Gx _ _ (19, [(2, .int (nI i)), (0, .ref (34 + n)), (1, .int (nI m))], [.ref (35 + n)], hp) _
      refine px_gx (fun _ K9 => px_a 1 (f' := (20, [(2, .int (nI i)), (0, .ref (34 + n)), (1, .int (nI m))], [.int (nI i), .ref (35 + n)], hp)) rfl K9) ?_
      refine px_gx (fun _ K9 => px_al (35 + n) (.int 2) rfl hls (Or.inl ⟨rfl, Or.inl rfl⟩) (nI_pos (by omega)) (by rw [nI_clamp (by omega), hz, hl]; rfl) K9) ?_
      show px_Gx _ _ (21, [(2, .int (nI i)), (0, .ref (34 + n)), (1, .int (nI m))], [.int 2], hp) _
      refine px_gx (fun _ K9 => px_a 12 (f' := (39, [(3, .int 2), (2, .int (nI i)), (0, .ref (34 + n)), (1, .int (nI m))], [.int (nI m), .int ((nI m) - 1), .int 0, .ref (34 + n)], hp)) rfl K9) ?_
      rw [show nI m - 1 = nI (m - 1) from pk_sub (a := m) (b := 1) (by omega)]
      obtain ⟨o, hp', hg, rfl, ax', am', b1, b2, b3, b4, b5, b6, b7⟩ := c_flt (d := d) (a := 0) (v := (m - 1)) (m := m) (by omega) (by decide) (by omega) (x_fd_so hm2 i) ho hax ham hls la lm h84 hr
      refine px_gx (fun _ K9 => px_cv (34 + n) (as := [.int 0, .int (nI (m - 1)), .int (nI m)]) (rest := []) rfl rfl ho rfl rfl rfl rfl (Nat.le_of_ble_eq_true rfl) hg K9) ?_
      show px_Gx _ _ (42, [(3, .int 2), (2, .int (nI i)), (0, .ref (34 + n)), (1, .int (nI m))], [], hp') _
      refine px_gx (fun _ K9 => px_a 2 (f' := (7, [(2, .int ((nI i) + 1)), (3, .int 2), (0, .ref (34 + n)), (1, .int (nI m))], [], hp')) rfl K9) ?_
      rw [nI_1]
      refine px_wk [(2, .int (nI (i + 1))), (0, .ref (34 + n)), (1, .int (nI m))] ⟨rfl, rfl, rfl, trivial⟩ ?_
      have es : x_fd m f (i + 1) = x_psh m 0 (m - 1) (x_fd m f i) := by show x_psh m (f i % 2) (x_am m (f i)) _ = _; rw [hl]; rfl
      exact ih (i + 1) hp' ax' am' (by rw [es]; exact b1) b2 b3 b4 b5 b6 (by rw [es]; exact b7) (by omega)
    · refine px_gx (fun _ K9 => px_a 2 (f' := (9, [(2, .int (nI i)), (0, .ref (34 + n)), (1, .int (nI m))], [.ref (34 + n), .int (nI i)], hp)) rfl K9) ?_
      refine px_gx (fun _ K9 => px_gf (34 + n) 30 2 5 (.int (nI K)) rfl rfl ho rfl K9) ?_
      show px_Gx _ _ (12, [(2, .int (nI i)), (0, .ref (34 + n)), (1, .int (nI m))], [.int (nI K), .int (nI i)], hp) _
      refine px_gx (fun _ K9 => px_b2 false 48 rfl rfl (decide_eq_false (nI_ge (by omega) (by omega))) K9) ?_
      show px_Gx _ _ (15, [(2, .int (nI i)), (0, .ref (34 + n)), (1, .int (nI m))], [], hp) _
      refine px_gx (fun _ K9 => px_a 1 (f' := (16, [(2, .int (nI i)), (0, .ref (34 + n)), (1, .int (nI m))], [.ref (34 + n)], hp)) rfl K9) ?_
      refine px_gx (fun _ K9 => px_gf (34 + n) 16 2 2 (.ref (35 + n)) rfl rfl ho rfl K9) ?_
      show px_Gx _ _ (19, [(2, .int (nI i)), (0, .ref (34 + n)), (1, .int (nI m))], [.ref (35 + n)], hp) _
      refine px_gx (fun _ K9 => px_a 1 (f' := (20, [(2, .int (nI i)), (0, .ref (34 + n)), (1, .int (nI m))], [.int (nI i), .ref (35 + n)], hp)) rfl K9) ?_
      refine px_gx (fun _ K9 => px_al (35 + n) (.int 3) rfl hls (Or.inl ⟨rfl, Or.inl rfl⟩) (nI_pos (by omega)) (by rw [nI_clamp (by omega), hz, hl]; rfl) K9) ?_
      show px_Gx _ _ (21, [(2, .int (nI i)), (0, .ref (34 + n)), (1, .int (nI m))], [.int 3], hp) _
      refine px_gx (fun _ K9 => px_a 12 (f' := (39, [(3, .int 3), (2, .int (nI i)), (0, .ref (34 + n)), (1, .int (nI m))], [.int (nI m), .int ((nI m) - 1), .int 1, .ref (34 + n)], hp)) rfl K9) ?_
      rw [show nI m - 1 = nI (m - 1) from pk_sub (a := m) (b := 1) (by omega)]
      obtain ⟨o, hp', hg, rfl, ax', am', b1, b2, b3, b4, b5, b6, b7⟩ := c_flt (d := d) (a := 1) (v := (m - 1)) (m := m) (by omega) (by decide) (by omega) (x_fd_so hm2 i) ho hax ham hls la lm h84 hr
      refine px_gx (fun _ K9 => px_cv (34 + n) (as := [.int 1, .int (nI (m - 1)), .int (nI m)]) (rest := []) rfl rfl ho rfl rfl rfl rfl (Nat.le_of_ble_eq_true rfl) hg K9) ?_
      show px_Gx _ _ (42, [(3, .int 3), (2, .int (nI i)), (0, .ref (34 + n)), (1, .int (nI m))], [], hp') _
      refine px_gx (fun _ K9 => px_a 2 (f' := (7, [(2, .int ((nI i) + 1)), (3, .int 3), (0, .ref (34 + n)), (1, .int (nI m))], [], hp')) rfl K9) ?_
      rw [nI_1]
      refine px_wk [(2, .int (nI (i + 1))), (0, .ref (34 + n)), (1, .int (nI m))] ⟨rfl, rfl, rfl, trivial⟩ ?_
      have es : x_fd m f (i + 1) = x_psh m 1 (m - 1) (x_fd m f i) := by show x_psh m (f i % 2) (x_am m (f i)) _ = _; rw [hl]; rfl
      exact ih (i + 1) hp' ax' am' (by rw [es]; exact b1) b2 b3 b4 b5 b6 (by rw [es]; exact b7) (by omega)
theorem c_fold {d n : Nat} {hp : px_H} {W V K m : Nat} {rc : Int32} {s : Int64} {f : Nat → Nat} {ls ax am : List Value} (hm2 : 2 ≤ m) (hm9 : m ≤ 9) (hK : K ≤ 84) (hf : ∀ i, i < K → f i < 4) (hw : ∀ i, i < K → ls[i]? = some (.int (nI (f i)))) (ho : hp[34 + n]? = some (2, [.int (nI W), .int (nI V), .ref (35 + n), .ref (36 + n), .ref (37 + n), .int (nI K), .int rc, .long s])) (hax : hp[36 + n]? = some (10, ax)) (ham : hp[37 + n]? = some (10, am)) (hls : hp[35 + n]? = some (10, ls)) (la : ax.length = 84) (lm : am.length = 84) : px_Gx (d + 2) 34 (0, [(0, .ref (34 + n)), (1, .int (nI m))], [], hp) (fun o hp' => o = .inl none ∧ ∃ ax' am' : List Value, hp'[34 + n]? = some (2, [.int (nI W), .int (nI V), .ref (35 + n), .ref (36 + n), .ref (37 + n), .int (nI K), .int (nI (x_fd m f K).length), .long s]) ∧ hp'[36 + n]? = some (10, ax') ∧ hp'[37 + n]? = some (10, am') ∧ hp'[35 + n]? = some (10, ls) ∧ ax'.length = 84 ∧ am'.length = 84 ∧ x_rep ax' am' (x_fd m f K)) := by
  refine px_gx (fun _ K9 => px_a 2 (f' := (2, [(0, .ref (34 + n)), (1, .int (nI m))], [.int 0, .ref (34 + n)], hp)) rfl K9) ?_
  refine px_gx (fun _ K9 => px_pf (34 + n) 43 2 6 rfl rfl ho (by omega) (by simp) rfl rfl (by decide) K9) ?_
  have hf1__34___n_ : (hp.set (34 + n) (2, [.int (nI W), .int (nI V), .ref (35 + n), .ref (36 + n), .ref (37 + n), .int (nI K), .int 0, .long s]))[(34 + n)]? = some (2, [.int (nI W), .int (nI V), .ref (35 + n), .ref (36 + n), .ref (37 + n), .int (nI K), .int 0, .long s]) := px_self ho
  have hf1__36___n_ : (hp.set (34 + n) (2, [.int (nI W), .int (nI V), .ref (35 + n), .ref (36 + n), .ref (37 + n), .int (nI K), .int 0, .long s]))[(36 + n)]? = some (10, ax) := px_ne hax (by omega)
  have hf1__37___n_ : (hp.set (34 + n) (2, [.int (nI W), .int (nI V), .ref (35 + n), .ref (36 + n), .ref (37 + n), .int (nI K), .int 0, .long s]))[(37 + n)]? = some (10, am) := px_ne ham (by omega)
  have hf1__35___n_ : (hp.set (34 + n) (2, [.int (nI W), .int (nI V), .ref (35 + n), .ref (36 + n), .ref (37 + n), .int (nI K), .int 0, .long s]))[(35 + n)]? = some (10, ls) := px_ne hls (by omega)
  show px_Gx _ _ (5, [(0, .ref (34 + n)), (1, .int (nI m))], [], (hp.set (34 + n) (2, [.int (nI W), .int (nI V), .ref (35 + n), .ref (36 + n), .ref (37 + n), .int (nI K), .int 0, .long s]))) _
  refine px_gx (fun _ K9 => px_a 2 (f' := (7, [(2, .int 0), (0, .ref (34 + n)), (1, .int (nI m))], [], (hp.set (34 + n) (2, [.int (nI W), .int (nI V), .ref (35 + n), .ref (36 + n), .ref (37 + n), .int (nI K), .int 0, .long s])))) rfl K9) ?_
  refine px_wk [(2, .int 0), (0, .ref (34 + n)), (1, .int (nI m))] ⟨rfl, rfl, rfl, trivial⟩ ?_
  exact c_fold_l hm2 hm9 hK hf hw K 0 _ ax am hf1__34___n_ hf1__36___n_ hf1__37___n_ hf1__35___n_ la lm trivial (by omega)
