theorem x_Wd4 {W V : Nat} {s : Int64} {K : Nat} {f : Nat → Nat} (w1 : 1 ≤ W) (q3 : ∀ c, x_bt s c = true → c < W * V) (h : x_Wd W V s K f) : ∀ i, i < K → f i < 4 := by
  rcases h with ⟨-, h⟩ | ⟨c0, a1, a2, -, -, -, -, a7⟩
  · intro i hi
    omega
  · intro i hi
    rw [a7 i hi]
    exact (m_st_ok (x_start w1 (q3 c0 a1) a1 a2) i).1
theorem x_fd_c {m : Nat} {f g : Nat → Nat} : ∀ (k : Nat), (∀ i, i < k → f i = g i) → x_fd m f k = x_fd m g k
  | 0, _ => rfl
  | k + 1, h => by
    show x_psh m (f k % 2) (x_am m (f k)) (x_fd m f k) = x_psh m (g k % 2) (x_am m (g k)) (x_fd m g k)
    rw [h k (Nat.lt_succ_self k), x_fd_c k (fun i hi => h i (Nat.lt_succ_of_lt hi))]
def x_at : List (Nat × Nat) → Nat → Option (Nat × Nat)
  | [], _ => none
  | p :: r, k => if k = r.length then some p else x_at r k
theorem x_at_some : ∀ {st : List (Nat × Nat)} {k : Nat}, k < st.length → ∃ p, x_at st k = some p
  | [], _, h => absurd h (Nat.not_lt_zero _)
  | p :: r, k, h => by
    unfold x_at
    by_cases e : k = r.length
    · exact ⟨p, if_pos e⟩
    · rw [if_neg e]
      exact x_at_some (by have : (p :: r).length = r.length + 1 := rfl; omega)
theorem x_at_rep {ax am : List Value} : ∀ {st : List (Nat × Nat)} {k : Nat} {p : Nat × Nat}, x_rep ax am st → x_at st k = some p → ax[k]? = some (.int (nI p.1)) ∧ am[k]? = some (.int (nI p.2))
  | [], _, _, _, h => nomatch h
  | q :: r, k, p, hr, h => by
    unfold x_at at h
    by_cases e : k = r.length
    · rw [if_pos e] at h
      cases h
      subst e
      exact ⟨hr.1, hr.2.1⟩
    · rw [if_neg e] at h
      exact x_at_rep hr.2.2 h
/-- run's answer -/
def x_rv (st : List (Nat × Nat)) (k : Int32) : Int32 := if k < 0 ∨ nI st.length ≤ k then -1 else match x_at st k.toNatClampNeg with
  | some p => nI p.1 + 2 * nI p.2
  | none => 0
set_option maxRecDepth 20000 in
theorem x_runsX {n : Nat} (hN : pa_N n) {hp : px_H} (H : pa_Hi n hp) {W V : Nat} {fc fd : Int32} {sh : Int64} (w1 : 1 ≤ W) (hW : W ≤ 6) (hV : V ≤ 6) (q3 : ∀ c, x_bt sh c = true → c < W * V) (hc : hp[(8 : Nat)]? = some (3, [.int (nI W), .int (nI V), .ref 9, .ref 28, .ref 29, .ref 30, .ref (34 + n), .int fc, .long sh, .int fd])) (ol : r_ol n hp W V) {m : Nat} (hm2 : 2 ≤ m) (hm9 : m ≤ 9) : px_Gx 10 62 (0, [(0, .ref 8), (1, .int (nI m))], [], hp) (fun o hp' => r_ol n hp' W V ∧ hp'[(8 : Nat)]? = some (3, [.int (nI W), .int (nI V), .ref 9, .ref 28, .ref 29, .ref 30, .ref (34 + n), .int fc, .long sh, .int fd]) ∧ ∃ (K : Nat) (f : Nat → Nat) (ax am : List Value), x_Wd W V sh K f ∧ o = .inl (some (.int (nI (x_fd m f K).length))) ∧ hp'[34 + n]? = some (2, [.int (nI W), .int (nI V), .ref (35 + n), .ref (36 + n), .ref (37 + n), .int (nI K), .int (nI (x_fd m f K).length), .long sh]) ∧ hp'[36 + n]? = some (10, ax) ∧ hp'[37 + n]? = some (10, am) ∧ x_rep ax am (x_fd m f K)) := by
  have h1 : ¬ nI m < 2 := nI_nlt (a := m) (b := 2) hm2 (by omega)
  have h2 : nI m ≤ 9 := nI_le (b := 9) hm9 (by decide)
  obtain ⟨hst, s, ls, K1, f1, rc, ho, hls, hwd, hw⟩ := ol
  have hll := r_ls84 H hls
  obtain ⟨o, hp', hg, ⟨H', G', E'⟩, -⟩ := (ct_42 hN).deep (d' := 9) (by decide) [.ref (34 + n), .long sh] hp H ⟨l_ri (r20 n) (by decide), pa_lgk _, trivial⟩
  obtain ⟨o2, hp2, g2, e2, K, f, ls', a1, a2, a3, a4⟩ := c_trace (d := 5) w1 hW hV q3 ho hls hst hll hwd hw
  have e := px_det hg g2
  cases e
  subst e2
  have hc' := l_fo G' hc (r := 8) rfl (by decide)
  have hst' := c_St_fr G' (by decide) hst
  have R' : r_ol n hp' W V := ⟨hst', sh, ls', K, f, rc, a2, a3, a1, a4⟩
  obtain ⟨o3, hp3, hg2, ⟨H3, G3, E3⟩, -⟩ := (ct_34 hN).deep (d' := 9) (by decide) [.ref (34 + n), .int (nI m)] hp' H' ⟨l_ri (r20 n) (by decide), pa_top_ok _, trivial⟩
  obtain ⟨ax, hax, lax, -⟩ := pa_ara (a := 36 + n) (i := 4) (lo := -2147483648) (hi := 2147483647) H' (by omega) (by decide) (by decide) rfl
  obtain ⟨am, ham, lam, -⟩ := pa_ara (a := 37 + n) (i := 5) (lo := -2147483648) (hi := 2147483647) H' (by omega) (by decide) (by decide) rfl
  obtain ⟨o4, hp4, g4, e4, ax', am', c1, c2, c3, c4, -, -, c7⟩ := c_fold (d := 7) hm2 hm9 (x_Wd84 a1) (x_Wd4 w1 q3 a1) a4 a2 hax ham a3 (by omega) (by omega)
  have e5 := px_det hg2 g4
  cases e5
  subst e4
  have hc3 := l_fo G3 hc' (r := 8) rfl (by decide)
  refine ⟨_, hp3, ?_, ⟨c_St_fr G3 (by decide) hst', sh, ls', K, f, _, c1, c4, a1, a4⟩, hc3, K, f, ax', am', a1, rfl, c1, c2, c3, c7⟩
  refine px_a 2 (f' := (2, [(0, .ref 8), (1, .int (nI m))], [.int 2, .int (nI m)], hp)) rfl ?_
  refine px_b2 false 11 rfl rfl (decide_eq_false h1) ?_
  show px_Go _ _ (5, [(0, .ref 8), (1, .int (nI m))], [], hp) _
  refine px_a 2 (f' := (8, [(0, .ref 8), (1, .int (nI m))], [.int 9, .int (nI m)], hp)) rfl ?_
  refine px_b2 true 13 rfl rfl (decide_eq_true h2) ?_
  show px_Go _ _ (13, [(0, .ref 8), (1, .int (nI m))], [], hp) _
  refine px_a 1 (f' := (14, [(0, .ref 8), (1, .int (nI m))], [.ref 8], hp)) rfl ?_
  refine px_gf 8 53 3 6 (.ref (34 + n)) rfl rfl hc rfl ?_
  show px_Go _ _ (17, [(0, .ref 8), (1, .int (nI m))], [.ref (34 + n)], hp) _
  refine px_a 1 (f' := (18, [(0, .ref 8), (1, .int (nI m))], [.ref 8, .ref (34 + n)], hp)) rfl ?_
  refine px_gf 8 64 3 8 (.long sh) rfl rfl hc rfl ?_
  show px_Go _ _ (21, [(0, .ref 8), (1, .int (nI m))], [.long sh, .ref (34 + n)], hp) _
  refine px_cv (34 + n) (as := [.long sh]) (rest := []) rfl rfl ho rfl rfl rfl rfl (Nat.le_of_ble_eq_true rfl) (hg) ?_
  show px_Go _ _ (24, [(0, .ref 8), (1, .int (nI m))], [], hp') _
  refine px_a 1 (f' := (25, [(0, .ref 8), (1, .int (nI m))], [.ref 8], hp')) rfl ?_
  refine px_gf 8 53 3 6 (.ref (34 + n)) rfl rfl hc' rfl ?_
  show px_Go _ _ (28, [(0, .ref 8), (1, .int (nI m))], [.ref (34 + n)], hp') _
  refine px_a 1 (f' := (29, [(0, .ref 8), (1, .int (nI m))], [.int (nI m), .ref (34 + n)], hp')) rfl ?_
  refine px_cv (34 + n) (as := [.int (nI m)]) (rest := []) rfl rfl a2 rfl rfl rfl rfl (Nat.le_of_ble_eq_true rfl) (hg2) ?_
  show px_Go _ _ (32, [(0, .ref 8), (1, .int (nI m))], [], hp3) _
  refine px_a 1 (f' := (33, [(0, .ref 8), (1, .int (nI m))], [.ref 8], hp3)) rfl ?_
  refine px_gf 8 53 3 6 (.ref (34 + n)) rfl rfl hc3 rfl ?_
  show px_Go _ _ (36, [(0, .ref 8), (1, .int (nI m))], [.ref (34 + n)], hp3) _
  refine px_gf (34 + n) 150 2 6 (.int (nI (x_fd m f K).length)) rfl rfl c1 rfl ?_
  show px_Go _ _ (39, [(0, .ref 8), (1, .int (nI m))], [.int (nI (x_fd m f K).length)], hp3) _
  exact px_ri rfl rfl rfl
theorem x_runsI {n d : Nat} {hp : px_H} {m : Int32} (h : m < 2 ∨ ¬ m ≤ 9) : px_Go d 62 (0, [(0, .ref 8), (1, .int m)], [], hp) (.inl (some (.int (-1))), hp) := by
  by_cases h1 : m < 2
  · show px_Go d 62 (0, [(0, .ref 8), (1, .int m)], [], hp) _
    refine px_a 2 (f' := (2, [(0, .ref 8), (1, .int m)], [.int 2, .int m], hp)) rfl ?_
    refine px_b2 true 11 rfl rfl (decide_eq_true h1) ?_
    show px_Go _ _ (11, [(0, .ref 8), (1, .int m)], [], hp) _
    refine px_a 1 (f' := (12, [(0, .ref 8), (1, .int m)], [.int (-1)], hp)) rfl ?_
    exact px_ri rfl rfl rfl
  · have h2 : ¬ m ≤ 9 := h.resolve_left h1
    refine px_a 2 (f' := (2, [(0, .ref 8), (1, .int m)], [.int 2, .int m], hp)) rfl ?_
    refine px_b2 false 11 rfl rfl (decide_eq_false h1) ?_
    show px_Go _ _ (5, [(0, .ref 8), (1, .int m)], [], hp) _
    refine px_a 2 (f' := (8, [(0, .ref 8), (1, .int m)], [.int 9, .int m], hp)) rfl ?_
    refine px_b2 false 13 rfl rfl (decide_eq_false h2) ?_
    show px_Go _ _ (11, [(0, .ref 8), (1, .int m)], [], hp) _
    refine px_a 1 (f' := (12, [(0, .ref 8), (1, .int m)], [.int (-1)], hp)) rfl ?_
    exact px_ri rfl rfl rfl
set_option maxRecDepth 20000 in
theorem x_runX {n : Nat} (hN : pa_N n) {hp : px_H} (H : pa_Hi n hp) {W V : Nat} {fc fd : Int32} {sh : Int64} (w1 : 1 ≤ W) (hW : W ≤ 6) (hV : V ≤ 6) (q3 : ∀ c, x_bt sh c = true → c < W * V) (hc : hp[(8 : Nat)]? = some (3, [.int (nI W), .int (nI V), .ref 9, .ref 28, .ref 29, .ref 30, .ref (34 + n), .int fc, .long sh, .int fd])) (ol : r_ol n hp W V) {m0 : Nat} (hm2 : 2 ≤ m0) (hm9 : m0 ≤ 9) {m k : Int32} (em : m = nI m0) (h1 : ¬ k < 0) : px_Gx 11 61 (0, [(0, .ref 8), (1, .int m), (2, .int k)], [], hp) (fun o _ => ∃ (K : Nat) (f : Nat → Nat), x_Wd W V sh K f ∧ o = .inl (some (.int (x_rv (x_fd m0 f K) k)))) := by
  subst em
  obtain ⟨o, hp', hg, R', hc', K, f, ax, am, a1, e1, c1, c2, c3, c4⟩ := x_runsX hN H w1 hW hV q3 hc ol hm2 hm9
  subst e1
  have l84 := Nat.le_trans (x_fd_len m0 f K) (x_Wd84 a1)
  by_cases h2 : k < nI (x_fd m0 f K).length
  rotate_left
  · refine ⟨_, hp', ?_, K, f, a1, by unfold x_rv; rw [if_pos (Or.inr (Int32.not_lt.mp h2))]⟩
    refine px_a 1 (f' := (1, [(0, .ref 8), (1, .int (nI m0)), (2, .int k)], [.int k], hp)) rfl ?_
    refine px_b1 false 13 rfl rfl (decide_eq_false h1) ?_
    show px_Go _ _ (4, [(0, .ref 8), (1, .int (nI m0)), (2, .int k)], [], hp) _
    refine px_a 3 (f' := (7, [(0, .ref 8), (1, .int (nI m0)), (2, .int k)], [.int (nI m0), .ref 8, .int k], hp)) rfl ?_
    refine px_cv 8 (as := [.int (nI m0)]) (rest := [.int k]) rfl rfl hc rfl rfl rfl rfl (Nat.le_of_ble_eq_true rfl) (hg) ?_
    show px_Go _ _ (10, [(0, .ref 8), (1, .int (nI m0)), (2, .int k)], [.int (nI (x_fd m0 f K).length), .int k], hp') _
    refine px_b2 false 15 rfl rfl (decide_eq_false h2) ?_
    show px_Go _ _ (13, [(0, .ref 8), (1, .int (nI m0)), (2, .int k)], [], hp') _
    refine px_a 1 (f' := (14, [(0, .ref 8), (1, .int (nI m0)), (2, .int k)], [.int (-1)], hp')) rfl ?_
    exact px_ri rfl rfl rfl
  · obtain ⟨j, hj, rfl⟩ : ∃ j : Nat, j < (x_fd m0 f K).length ∧ k = nI j := by
      rcases pk_ix k (n := (x_fd m0 f K).length) (by omega) with q | q | q
      · exact absurd q h1
      · exact absurd h2 (Int32.not_lt.mpr q)
      · exact q
    obtain ⟨p, hpx⟩ := x_at_some hj
    obtain ⟨b1, b2⟩ := x_at_rep c4 hpx
    refine ⟨_, hp', ?_, K, f, a1, by unfold x_rv; rw [if_neg (fun z => z.elim h1 (fun z => absurd h2 (Int32.not_lt.mpr z))), nI_clamp (by omega), hpx]⟩
    refine px_a 1 (f' := (1, [(0, .ref 8), (1, .int (nI m0)), (2, .int (nI j))], [.int (nI j)], hp)) rfl ?_
    refine px_b1 false 13 rfl rfl (decide_eq_false h1) ?_
    show px_Go _ _ (4, [(0, .ref 8), (1, .int (nI m0)), (2, .int (nI j))], [], hp) _
    refine px_a 3 (f' := (7, [(0, .ref 8), (1, .int (nI m0)), (2, .int (nI j))], [.int (nI m0), .ref 8, .int (nI j)], hp)) rfl ?_
    refine px_cv 8 (as := [.int (nI m0)]) (rest := [.int (nI j)]) rfl rfl hc rfl rfl rfl rfl (Nat.le_of_ble_eq_true rfl) (hg) ?_
    show px_Go _ _ (10, [(0, .ref 8), (1, .int (nI m0)), (2, .int (nI j))], [.int (nI (x_fd m0 f K).length), .int (nI j)], hp') _
    refine px_b2 true 15 rfl rfl (decide_eq_true h2) ?_
    show px_Go _ _ (15, [(0, .ref 8), (1, .int (nI m0)), (2, .int (nI j))], [], hp') _
    refine px_a 1 (f' := (16, [(0, .ref 8), (1, .int (nI m0)), (2, .int (nI j))], [.ref 8], hp')) rfl ?_
    refine px_gf 8 53 3 6 (.ref (34 + n)) rfl rfl hc' rfl ?_
    show px_Go _ _ (19, [(0, .ref 8), (1, .int (nI m0)), (2, .int (nI j))], [.ref (34 + n)], hp') _
    refine px_gf (34 + n) 156 2 3 (.ref (36 + n)) rfl rfl c1 rfl ?_
    show px_Go _ _ (22, [(0, .ref 8), (1, .int (nI m0)), (2, .int (nI j))], [.ref (36 + n)], hp') _
    refine px_a 1 (f' := (23, [(0, .ref 8), (1, .int (nI m0)), (2, .int (nI j))], [.int (nI j), .ref (36 + n)], hp')) rfl ?_
    refine px_al (36 + n) (.int (nI p.1)) rfl c2 (Or.inl ⟨rfl, Or.inl rfl⟩) (h1) (by rw [nI_clamp (by omega)]; exact b1) ?_
    show px_Go _ _ (24, [(0, .ref 8), (1, .int (nI m0)), (2, .int (nI j))], [.int (nI p.1)], hp') _
    refine px_a 2 (f' := (26, [(0, .ref 8), (1, .int (nI m0)), (2, .int (nI j))], [.ref 8, .int 2, .int (nI p.1)], hp')) rfl ?_
    refine px_gf 8 53 3 6 (.ref (34 + n)) rfl rfl hc' rfl ?_
    show px_Go _ _ (29, [(0, .ref 8), (1, .int (nI m0)), (2, .int (nI j))], [.ref (34 + n), .int 2, .int (nI p.1)], hp') _
    refine px_gf (34 + n) 159 2 4 (.ref (37 + n)) rfl rfl c1 rfl ?_
    show px_Go _ _ (32, [(0, .ref 8), (1, .int (nI m0)), (2, .int (nI j))], [.ref (37 + n), .int 2, .int (nI p.1)], hp') _
    refine px_a 1 (f' := (33, [(0, .ref 8), (1, .int (nI m0)), (2, .int (nI j))], [.int (nI j), .ref (37 + n), .int 2, .int (nI p.1)], hp')) rfl ?_
    refine px_al (37 + n) (.int (nI p.2)) rfl c3 (Or.inl ⟨rfl, Or.inl rfl⟩) (h1) (by rw [nI_clamp (by omega)]; exact b2) ?_
    show px_Go _ _ (34, [(0, .ref 8), (1, .int (nI m0)), (2, .int (nI j))], [.int (nI p.2), .int 2, .int (nI p.1)], hp') _
    refine px_a 2 (f' := (36, [(0, .ref 8), (1, .int (nI m0)), (2, .int (nI j))], [.int ((nI p.1) + (2 * (nI p.2)))], hp')) rfl ?_
    exact px_ri rfl rfl rfl
theorem x_runN {d : Nat} {hp : px_H} {m k : Int32} (h1 : k < 0) : px_Go d 61 (0, [(0, .ref 8), (1, .int m), (2, .int k)], [], hp) (.inl (some (.int (-1))), hp) := by
  refine px_a 1 (f' := (1, [(0, .ref 8), (1, .int m), (2, .int k)], [.int k], hp)) rfl ?_
  refine px_b1 true 13 rfl rfl (decide_eq_true h1) ?_
  show px_Go _ _ (13, [(0, .ref 8), (1, .int m), (2, .int k)], [], hp) _
  refine px_a 1 (f' := (14, [(0, .ref 8), (1, .int m), (2, .int k)], [.int (-1)], hp)) rfl ?_
  exact px_ri rfl rfl rfl
theorem x_runI {n d : Nat} {hp : px_H} {W V : Nat} {fc fd : Int32} {sh : Int64} (hc : hp[(8 : Nat)]? = some (3, [.int (nI W), .int (nI V), .ref 9, .ref 28, .ref 29, .ref 30, .ref (34 + n), .int fc, .long sh, .int fd])) {m k : Int32} (h : m < 2 ∨ ¬ m ≤ 9) (h1 : ¬ k < 0) : px_Go (d + 1) 61 (0, [(0, .ref 8), (1, .int m), (2, .int k)], [], hp) (.inl (some (.int (-1))), hp) := by
  have h2 : ¬ k < -1 := by
    rw [Int32.lt_iff_toInt_lt] at h1 ⊢
    have e0 : (0 : Int32).toInt = 0 := rfl
    have e1 : (-1 : Int32).toInt = -1 := rfl
    omega
  refine px_a 1 (f' := (1, [(0, .ref 8), (1, .int m), (2, .int k)], [.int k], hp)) rfl ?_
  refine px_b1 false 13 rfl rfl (decide_eq_false h1) ?_
  show px_Go _ _ (4, [(0, .ref 8), (1, .int m), (2, .int k)], [], hp) _
  refine px_a 3 (f' := (7, [(0, .ref 8), (1, .int m), (2, .int k)], [.int m, .ref 8, .int k], hp)) rfl ?_
  refine px_cv 8 (as := [.int m]) (rest := [.int k]) rfl rfl hc rfl rfl rfl rfl (Nat.le_of_ble_eq_true rfl) (x_runsI (n := 0) h) ?_
  show px_Go _ _ (10, [(0, .ref 8), (1, .int m), (2, .int k)], [.int (-1), .int k], hp) _
  refine px_b2 false 15 rfl rfl (decide_eq_false h2) ?_
  show px_Go _ _ (13, [(0, .ref 8), (1, .int m), (2, .int k)], [], hp) _
  refine px_a 1 (f' := (14, [(0, .ref 8), (1, .int m), (2, .int k)], [.int (-1)], hp)) rfl ?_
  exact px_ri rfl rfl rfl
set_option maxRecDepth 20000 in
set_option maxHeartbeats 4000000 in
theorem m_takeX {d n W V : Nat} (hN : pa_N n) {sh : Int64} {hp0 : px_H} {th w h pn pl fo le ru : Int32} {vsu : List Value} (hW : W ≤ 6) (hV : V ≤ 6) (w1 : 1 ≤ W) (hw8 : w = nI W) (hh8 : h = nI V) (hnn : n = W * V) (q1 : ∀ c, c < n → vsu[c]? = some (.int (if x_bt sh c = true then 1 else 0))) (q3 : ∀ c, x_bt sh c = true → c < n) (hm : hp0[38 + n]? = some (4, m_O n th w h pn pl fo le ru)) (H : pa_Hi n hp0) (hvu : hp0[39 + n]? = some (12, vsu)) {m : Nat} (hm2 : 2 ≤ m) (hm9 : m ≤ 9) : px_Gx (d + 5) 97 (0, [(0, .ref (38 + n)), (1, .int (nI m))], [], hp0) (fun o hp' => o = .inl none ∧ ∃ (K : Nat) (f : Nat → Nat) (ax am : List Value), x_Wd W V sh K f ∧ hp'[38 + n]? = some (4, m_O n th w h pn pl fo (nI K) (nI (x_fd m f K).length)) ∧ hp'[49 + n]? = some (10, ax) ∧ hp'[50 + n]? = some (10, am) ∧ x_rep ax am (x_fd m f K)) := by
  have cl0 : Int32.toInt 0 = 0 := rfl
  obtain ⟨bth1, bth2, bw1, bw2, bh1, bh2, bpn1, bpn2, bpl1, bpl2, bfo1, bfo2, ble1, ble2, bru1, bru2⟩ := pa_bnd H hm
  have F : pa_Fr n [(24, 15), (24, 17), (34, 0), (35, 0), (36, 0)] hp0 hp0 := pa_Fr.refl _
  have L : hp0.length = hp0.length := rfl
  refine px_gx (fun _ K9 => px_a 1 (f' := (1, [(0, .ref (38 + n)), (1, .int (nI m))], [.ref (38 + n)], hp0)) rfl K9) ?_
  obtain ⟨o608, hp608, g608, ⟨H608, G608, E608⟩, -⟩ := (ct_100 hN).deep (d' := d + 4) (by omega) [.ref (38 + n)] hp0 H ⟨pa_r24, trivial⟩
  obtain ⟨o2, hp2, g2, e2, K, f, vsw, a1, a2, a3, a4⟩ := m_walkx (d := d + 1) hW hV w1 hw8 hh8 hnn q1 q3 hm H hvu
  have e := px_det g608 g2
  cases e
  subst e2
  refine px_gx (fun _ K9 => px_cv (38 + n) (as := []) (rest := []) rfl rfl hm rfl rfl rfl rfl (Nat.le_of_ble_eq_true rfl) g608 K9) ?_
  show px_Gx _ _ (4, [(0, .ref (38 + n)), (1, .int (nI m))], [], hp608) _
  have F608 : pa_Fr n [(24, 15), (24, 17), (34, 0), (35, 0), (36, 0)] hp0 hp608 := F.trans (G608.mono (by decide))
  have L608 : True := trivial
  obtain ⟨th608, w608, h608, pn608, pl608, fo608, le608, ru608, hm608, -, -, -, -, -, -, -, -, -, -, -, -, -, -, -, -⟩ := pa_mod H608
  obtain rfl : th = th608 := (pa_fk (k := 0) G608 hm hm608 (by decide) rfl rfl).symm
  obtain rfl : w = w608 := (pa_fk (k := 1) G608 hm hm608 (by decide) rfl rfl).symm
  obtain rfl : h = h608 := (pa_fk (k := 2) G608 hm hm608 (by decide) rfl rfl).symm
  obtain rfl : pn = pn608 := (pa_fk (k := 4) G608 hm hm608 (by decide) rfl rfl).symm
  obtain rfl : pl = pl608 := (pa_fk (k := 8) G608 hm hm608 (by decide) rfl rfl).symm
  obtain rfl : fo = fo608 := (pa_fk (k := 13) G608 hm hm608 (by decide) rfl rfl).symm
  obtain rfl : ru = ru608 := (pa_fk (k := 17) G608 hm hm608 (by decide) rfl rfl).symm
  change hp608[38 + n]? = some (4, (m_O n th w h pn pl fo le608 ru)) at hm608
  obtain ⟨lth608, uth608, lw608, uw608, lh608, uh608, lpn608, upn608, lpl608, upl608, lfo608, ufo608, lle608, ule608, lru608, uru608⟩ := pa_bnd H608 hm608
  have ele : le608 = nI K := by rw [pa_fd_get hm608] at a2; injection a2 with a2; injection a2
  have k84 := x_Wd84 a1
  refine px_gx (fun _ K9 => px_a 2 (f' := (6, [(0, .ref (38 + n)), (1, .int (nI m))], [.int 0, .ref (38 + n)], hp608)) rfl K9) ?_
  refine px_gx (fun _ K9 => px_pf (38 + n) 132 4 17 rfl rfl hm608 (by omega) (Nat.le_of_ble_eq_true rfl) (rfl) rfl (by decide) K9) ?_
  show px_Gx _ _ (9, [(0, .ref (38 + n)), (1, .int (nI m))], [], hp608.set (38 + n) (4, (m_O n th w h pn pl fo le608 0))) _
  have hm609 : (hp608.set (38 + n) (4, (m_O n th w h pn pl fo le608 0)))[38 + n]? = some (4, (m_O n th w h pn pl fo le608 0)) := px_self hm608
  have H609 : pa_Hi n (hp608.set (38 + n) (4, (m_O n th w h pn pl fo le608 0))) := pa_ms (k := 17) (v := .int 0) H608 hm608 rfl (pa_in (by omega) (by omega))
  have F609 : pa_Fr n [(24, 15), (24, 17), (34, 0), (35, 0), (36, 0)] hp0 (hp608.set (38 + n) (4, (m_O n th w h pn pl fo le608 0))) := F608.trans (pa_mf (k := 17) (v := .int 0) hm608 (by decide) (by decide))
  have L609 : True := trivial
  have a3_609 : (hp608.set (38 + n) (4, (m_O n th w h pn pl fo le608 0)))[48 + n]? = some (10, vsw) := px_ne a3 (by omega)
  generalize hp608.set (38 + n) (4, (m_O n th w h pn pl fo le608 0)) = hp609 at hm609 H609 F609 L609 a3_609 ⊢
  refine px_gx (fun _ K9 => px_a 2 (f' := (11, [(2, .int 0), (0, .ref (38 + n)), (1, .int (nI m))], [], hp609)) rfl K9) ?_
  have hmk := hm609
  rw [ele] at hmk
  obtain ⟨ax, hax, lax, -⟩ := pa_ara (a := 49 + n) (i := 17) (lo := -2147483648) (hi := 2147483647) H609 (by omega) (by decide) (by decide) rfl
  obtain ⟨am, ham, lam, -⟩ := pa_ara (a := 50 + n) (i := 18) (lo := -2147483648) (hi := 2147483647) H609 (by omega) (by decide) (by decide) rfl
  obtain ⟨o, hp', g, e, ax', am', b1, b2, b3, b4, b5, b6, b7⟩ := m_trx_l (d := d + 5) (m := m) (f := f) hm2 hm9 k84 (x_Wd4 w1 (fun c hc => hnn ▸ q3 c hc) a1) a4 K 0 hp609 ax am hmk hax ham a3_609 (by omega) (by omega) trivial (by omega)
  exact ⟨o, hp', g, e, K, f, ax', am', a1, b1, b2, b3, b7⟩
set_option maxRecDepth 20000 in
set_option maxHeartbeats 4000000 in
theorem m_runsX {d n W V : Nat} (hN : pa_N n) {sh : Int64} {hp0 : px_H} {th w h pn pl fo le ru : Int32} {vsu : List Value} (hW : W ≤ 6) (hV : V ≤ 6) (w1 : 1 ≤ W) (hw8 : w = nI W) (hh8 : h = nI V) (hnn : n = W * V) (q1 : ∀ c, c < n → vsu[c]? = some (.int (if x_bt sh c = true then 1 else 0))) (q3 : ∀ c, x_bt sh c = true → c < n) (hm : hp0[38 + n]? = some (4, m_O n th w h pn pl fo le ru)) (H : pa_Hi n hp0) (hvu : hp0[39 + n]? = some (12, vsu)) {m : Nat} (hm2 : 2 ≤ m) (hm9 : m ≤ 9) : px_Gx (d + 6) 90 (0, [(0, .ref (38 + n)), (1, .int (nI m))], [], hp0) (fun o _ => ∃ (K : Nat) (f : Nat → Nat), x_Wd W V sh K f ∧ o = .inl (some (.int (nI (x_fd m f K).length)))) := by
  have clm1 : Int32.toInt (-1) = -1 := rfl
  have cl0 : Int32.toInt 0 = 0 := rfl
  have cl2 : Int32.toInt 2 = 2 := rfl
  have cl9 : Int32.toInt 9 = 9 := rfl
  obtain ⟨bth1, bth2, bw1, bw2, bh1, bh2, bpn1, bpn2, bpl1, bpl2, bfo1, bfo2, ble1, ble2, bru1, bru2⟩ := pa_bnd H hm
  have F : pa_Fr n [(24, 0), (24, 15), (24, 17), (34, 0), (35, 0), (36, 0)] hp0 hp0 := pa_Fr.refl _
  have L : hp0.length = hp0.length := rfl
  have etm0 : (nI m).toInt = (m : Int) := nI_toInt (by omega)
  refine px_gx (fun _ K9 => px_a 2 (f' := (2, [(0, .ref (38 + n)), (1, .int (nI m))], [.int 0, .ref (38 + n)], hp0)) rfl K9) ?_
  refine px_gx (fun _ K9 => px_pf (38 + n) 58 4 0 rfl rfl hm (by omega) (Nat.le_of_ble_eq_true rfl) (rfl) rfl (by decide) K9) ?_
  show px_Gx _ _ (5, [(0, .ref (38 + n)), (1, .int (nI m))], [], hp0.set (38 + n) (4, (m_O n 0 w h pn pl fo le ru))) _
  have hm610 : (hp0.set (38 + n) (4, (m_O n 0 w h pn pl fo le ru)))[38 + n]? = some (4, (m_O n 0 w h pn pl fo le ru)) := px_self hm
  have H610 : pa_Hi n (hp0.set (38 + n) (4, (m_O n 0 w h pn pl fo le ru))) := pa_ms (k := 0) (v := .int 0) H hm rfl (pa_in (by omega) (by omega))
  have F610 : pa_Fr n [(24, 0), (24, 15), (24, 17), (34, 0), (35, 0), (36, 0)] hp0 (hp0.set (38 + n) (4, (m_O n 0 w h pn pl fo le ru))) := F.trans (pa_mf (k := 0) (v := .int 0) hm (by decide) (by decide))
  have L610 : (hp0.set (38 + n) (4, (m_O n 0 w h pn pl fo le ru))).length = hp0.length := List.length_set.trans L
  have hvu_610 : (hp0.set (38 + n) (4, (m_O n 0 w h pn pl fo le ru)))[39 + n]? = some (12, vsu) := px_ne hvu (by omega)
  generalize hp0.set (38 + n) (4, (m_O n 0 w h pn pl fo le ru)) = hp610 at hm610 H610 F610 L610 hvu_610 ⊢
  refine px_gx (fun _ K9 => px_a 2 (f' := (7, [(0, .ref (38 + n)), (1, .int (nI m))], [.int 2, .int (nI m)], hp610)) rfl K9) ?_
  by_cases h611 : (nI m) < 2
  · have h611' := h611
    rw [Int32.lt_iff_toInt_lt] at h611'
    refine px_gx (fun _ K9 => px_b2 true 16 rfl rfl (decide_eq_true h611) K9) ?_
    show px_Gx _ _ (16, [(0, .ref (38 + n)), (1, .int (nI m))], [], hp610) _
    refine px_gx (fun _ K9 => px_a 1 (f' := (17, [(0, .ref (38 + n)), (1, .int (nI m))], [.int (-1)], hp610)) rfl K9) ?_
    omega
  · have h611' := h611
    rw [Int32.lt_iff_toInt_lt] at h611'
    refine px_gx (fun _ K9 => px_b2 false 16 rfl rfl (decide_eq_false h611) K9) ?_
    show px_Gx _ _ (10, [(0, .ref (38 + n)), (1, .int (nI m))], [], hp610) _
    refine px_gx (fun _ K9 => px_a 2 (f' := (13, [(0, .ref (38 + n)), (1, .int (nI m))], [.int 9, .int (nI m)], hp610)) rfl K9) ?_
    by_cases h612 : (nI m) ≤ 9
    · have h612' := h612
      rw [Int32.le_iff_toInt_le] at h612'
      refine px_gx (fun _ K9 => px_b2 true 18 rfl rfl (decide_eq_true h612) K9) ?_
      show px_Gx _ _ (18, [(0, .ref (38 + n)), (1, .int (nI m))], [], hp610) _
      refine px_gx (fun _ K9 => px_a 2 (f' := (20, [(0, .ref (38 + n)), (1, .int (nI m))], [.int (nI m), .ref (38 + n)], hp610)) rfl K9) ?_
      obtain ⟨o2, hp2, g2, e2, K, f, ax, am, a1, a2, a3, a4, a5⟩ := m_takeX (d := d) hN hW hV w1 hw8 hh8 hnn q1 q3 hm610 H610 hvu_610 hm2 hm9
      subst e2
      refine px_gx (fun _ K9 => px_cv (38 + n) (as := [.int (nI m)]) (rest := []) rfl rfl hm610 rfl rfl rfl rfl (Nat.le_of_ble_eq_true rfl) g2 K9) ?_
      show px_Gx _ _ (23, [(0, .ref (38 + n)), (1, .int (nI m))], [], hp2) _
      have l84 := Nat.le_trans (x_fd_len m f K) (x_Wd84 a1)
      have etl : (nI (x_fd m f K).length).toInt = ((x_fd m f K).length : Int) := nI_toInt (by omega)
      have etm : (nI m).toInt = (m : Int) := nI_toInt (by omega)
      refine px_gx (fun _ K9 => px_a 1 (f' := (24, [(0, .ref (38 + n)), (1, .int (nI m))], [.ref (38 + n)], hp2)) rfl K9) ?_
      refine px_gx (fun _ K9 => px_gf (38 + n) 132 4 17 (.int (nI (x_fd m f K).length)) rfl rfl a2 rfl K9) ?_
      show px_Gx _ _ (27, [(0, .ref (38 + n)), (1, .int (nI m))], [.int (nI (x_fd m f K).length)], hp2) _
      exact ⟨_, _, px_ri rfl rfl rfl, K, f, a1, rfl⟩
    · have h612' := h612
      rw [Int32.le_iff_toInt_le] at h612'
      refine px_gx (fun _ K9 => px_b2 false 18 rfl rfl (decide_eq_false h612) K9) ?_
      show px_Gx _ _ (16, [(0, .ref (38 + n)), (1, .int (nI m))], [], hp610) _
      refine px_gx (fun _ K9 => px_a 1 (f' := (17, [(0, .ref (38 + n)), (1, .int (nI m))], [.int (-1)], hp610)) rfl K9) ?_
      omega
set_option maxRecDepth 20000 in
set_option maxHeartbeats 4000000 in
theorem m_runX {d n W V : Nat} (hN : pa_N n) {sh : Int64} {hp0 : px_H} {th w h pn pl fo le ru : Int32} {vsu : List Value} (hW : W ≤ 6) (hV : V ≤ 6) (w1 : 1 ≤ W) (hw8 : w = nI W) (hh8 : h = nI V) (hnn : n = W * V) (q1 : ∀ c, c < n → vsu[c]? = some (.int (if x_bt sh c = true then 1 else 0))) (q3 : ∀ c, x_bt sh c = true → c < n) (hm : hp0[38 + n]? = some (4, m_O n th w h pn pl fo le ru)) (H : pa_Hi n hp0) (hvu : hp0[39 + n]? = some (12, vsu)) {m : Nat} {k : Int32} (hm2 : 2 ≤ m) (hm9 : m ≤ 9) : px_Gx (d + 6) 89 (0, [(0, .ref (38 + n)), (1, .int (nI m)), (2, .int k)], [], hp0) (fun o _ => ∃ (K : Nat) (f : Nat → Nat), x_Wd W V sh K f ∧ o = .inl (some (.int (x_rv (x_fd m f K) k)))) := by
  have clm1 : Int32.toInt (-1) = -1 := rfl
  have cl0 : Int32.toInt 0 = 0 := rfl
  have cl2 : Int32.toInt 2 = 2 := rfl
  have cl9 : Int32.toInt 9 = 9 := rfl
  obtain ⟨bth1, bth2, bw1, bw2, bh1, bh2, bpn1, bpn2, bpl1, bpl2, bfo1, bfo2, ble1, ble2, bru1, bru2⟩ := pa_bnd H hm
  have F : pa_Fr n [(24, 0), (24, 15), (24, 17), (34, 0), (35, 0), (36, 0)] hp0 hp0 := pa_Fr.refl _
  have L : hp0.length = hp0.length := rfl
  have etm0 : (nI m).toInt = (m : Int) := nI_toInt (by omega)
  refine px_gx (fun _ K9 => px_a 2 (f' := (2, [(0, .ref (38 + n)), (1, .int (nI m)), (2, .int k)], [.int 0, .ref (38 + n)], hp0)) rfl K9) ?_
  refine px_gx (fun _ K9 => px_pf (38 + n) 58 4 0 rfl rfl hm (by omega) (Nat.le_of_ble_eq_true rfl) (rfl) rfl (by decide) K9) ?_
  show px_Gx _ _ (5, [(0, .ref (38 + n)), (1, .int (nI m)), (2, .int k)], [], hp0.set (38 + n) (4, (m_O n 0 w h pn pl fo le ru))) _
  have hm614 : (hp0.set (38 + n) (4, (m_O n 0 w h pn pl fo le ru)))[38 + n]? = some (4, (m_O n 0 w h pn pl fo le ru)) := px_self hm
  have H614 : pa_Hi n (hp0.set (38 + n) (4, (m_O n 0 w h pn pl fo le ru))) := pa_ms (k := 0) (v := .int 0) H hm rfl (pa_in (by omega) (by omega))
  have F614 : pa_Fr n [(24, 0), (24, 15), (24, 17), (34, 0), (35, 0), (36, 0)] hp0 (hp0.set (38 + n) (4, (m_O n 0 w h pn pl fo le ru))) := F.trans (pa_mf (k := 0) (v := .int 0) hm (by decide) (by decide))
  have L614 : (hp0.set (38 + n) (4, (m_O n 0 w h pn pl fo le ru))).length = hp0.length := List.length_set.trans L
  have hvu_614 : (hp0.set (38 + n) (4, (m_O n 0 w h pn pl fo le ru)))[39 + n]? = some (12, vsu) := px_ne hvu (by omega)
  generalize hp0.set (38 + n) (4, (m_O n 0 w h pn pl fo le ru)) = hp614 at hm614 H614 F614 L614 hvu_614 ⊢
  refine px_gx (fun _ K9 => px_a 2 (f' := (7, [(0, .ref (38 + n)), (1, .int (nI m)), (2, .int k)], [.int 2, .int (nI m)], hp614)) rfl K9) ?_
  by_cases h615 : (nI m) < 2
  · have h615' := h615
    rw [Int32.lt_iff_toInt_lt] at h615'
    refine px_gx (fun _ K9 => px_b2 true 16 rfl rfl (decide_eq_true h615) K9) ?_
    show px_Gx _ _ (16, [(0, .ref (38 + n)), (1, .int (nI m)), (2, .int k)], [], hp614) _
    refine px_gx (fun _ K9 => px_a 1 (f' := (17, [(0, .ref (38 + n)), (1, .int (nI m)), (2, .int k)], [.int (-1)], hp614)) rfl K9) ?_
    omega
  · have h615' := h615
    rw [Int32.lt_iff_toInt_lt] at h615'
    refine px_gx (fun _ K9 => px_b2 false 16 rfl rfl (decide_eq_false h615) K9) ?_
    show px_Gx _ _ (10, [(0, .ref (38 + n)), (1, .int (nI m)), (2, .int k)], [], hp614) _
    refine px_gx (fun _ K9 => px_a 2 (f' := (13, [(0, .ref (38 + n)), (1, .int (nI m)), (2, .int k)], [.int 9, .int (nI m)], hp614)) rfl K9) ?_
    by_cases h616 : (nI m) ≤ 9
    · have h616' := h616
      rw [Int32.le_iff_toInt_le] at h616'
      refine px_gx (fun _ K9 => px_b2 true 18 rfl rfl (decide_eq_true h616) K9) ?_
      show px_Gx _ _ (18, [(0, .ref (38 + n)), (1, .int (nI m)), (2, .int k)], [], hp614) _
      refine px_gx (fun _ K9 => px_a 2 (f' := (20, [(0, .ref (38 + n)), (1, .int (nI m)), (2, .int k)], [.int (nI m), .ref (38 + n)], hp614)) rfl K9) ?_
      obtain ⟨o2, hp2, g2, e2, K, f, ax, am, a1, a2, a3, a4, a5⟩ := m_takeX (d := d) hN hW hV w1 hw8 hh8 hnn q1 q3 hm614 H614 hvu_614 hm2 hm9
      subst e2
      refine px_gx (fun _ K9 => px_cv (38 + n) (as := [.int (nI m)]) (rest := []) rfl rfl hm614 rfl rfl rfl rfl (Nat.le_of_ble_eq_true rfl) g2 K9) ?_
      show px_Gx _ _ (23, [(0, .ref (38 + n)), (1, .int (nI m)), (2, .int k)], [], hp2) _
      have l84 := Nat.le_trans (x_fd_len m f K) (x_Wd84 a1)
      have etl : (nI (x_fd m f K).length).toInt = ((x_fd m f K).length : Int) := nI_toInt (by omega)
      have etm : (nI m).toInt = (m : Int) := nI_toInt (by omega)
      by_cases h1 : k < 0
      · refine px_gx (fun _ K9 => px_a 1 (f' := (24, [(0, .ref (38 + n)), (1, .int (nI m)), (2, .int k)], [.int k], hp2)) rfl K9) ?_
        refine px_gx (fun _ K9 => px_b1 true 35 rfl rfl (decide_eq_true h1) K9) ?_
        show px_Gx _ _ (35, [(0, .ref (38 + n)), (1, .int (nI m)), (2, .int k)], [], hp2) _
        refine px_gx (fun _ K9 => px_a 2 (f' := (54, [(0, .ref (38 + n)), (1, .int (nI m)), (2, .int k)], [.int (-1)], hp2)) rfl K9) ?_
        exact ⟨_, _, px_ri rfl rfl rfl, K, f, a1, by unfold x_rv; rw [if_pos (Or.inl h1)]⟩
      · by_cases h2 : k < nI (x_fd m f K).length
        · obtain ⟨j, hj, ej⟩ : ∃ j : Nat, j < (x_fd m f K).length ∧ k = nI j := by
            rcases pk_ix k (n := (x_fd m f K).length) (by omega) with q | q | q
            · exact absurd q h1
            · exact absurd h2 (Int32.not_lt.mpr q)
            · exact q
          obtain ⟨p, hpx⟩ := x_at_some hj
          obtain ⟨b1, b2⟩ := x_at_rep a5 hpx
          have ejc : k.toNatClampNeg = j := by rw [ej, nI_clamp (by omega)]
          have e1 : ax[k.toNatClampNeg]? = some (.int (nI p.1)) := by rw [ejc]; exact b1
          have e2 : am[k.toNatClampNeg]? = some (.int (nI p.2)) := by rw [ejc]; exact b2
          refine px_gx (fun _ K9 => px_a 1 (f' := (24, [(0, .ref (38 + n)), (1, .int (nI m)), (2, .int k)], [.int k], hp2)) rfl K9) ?_
          refine px_gx (fun _ K9 => px_b1 false 35 rfl rfl (decide_eq_false h1) K9) ?_
          show px_Gx _ _ (27, [(0, .ref (38 + n)), (1, .int (nI m)), (2, .int k)], [], hp2) _
          refine px_gx (fun _ K9 => px_a 2 (f' := (29, [(0, .ref (38 + n)), (1, .int (nI m)), (2, .int k)], [.ref (38 + n), .int k], hp2)) rfl K9) ?_
          refine px_gx (fun _ K9 => px_gf (38 + n) 132 4 17 (.int (nI (x_fd m f K).length)) rfl rfl a2 rfl K9) ?_
          show px_Gx _ _ (32, [(0, .ref (38 + n)), (1, .int (nI m)), (2, .int k)], [.int (nI (x_fd m f K).length), .int k], hp2) _
          refine px_gx (fun _ K9 => px_b2 true 39 rfl rfl (decide_eq_true h2) K9) ?_
          show px_Gx _ _ (39, [(0, .ref (38 + n)), (1, .int (nI m)), (2, .int k)], [], hp2) _
          refine px_gx (fun _ K9 => px_a 1 (f' := (40, [(0, .ref (38 + n)), (1, .int (nI m)), (2, .int k)], [.ref (38 + n)], hp2)) rfl K9) ?_
          refine px_gx (fun _ K9 => px_gf (38 + n) 42 4 18 (.ref (49 + n)) rfl rfl a2 rfl K9) ?_
          show px_Gx _ _ (43, [(0, .ref (38 + n)), (1, .int (nI m)), (2, .int k)], [.ref (49 + n)], hp2) _
          refine px_gx (fun _ K9 => px_a 1 (f' := (44, [(0, .ref (38 + n)), (1, .int (nI m)), (2, .int k)], [.int k, .ref (49 + n)], hp2)) rfl K9) ?_
          refine px_gx (fun _ K9 => px_al (49 + n) (.int (nI p.1)) rfl a3 (Or.inl ⟨rfl, Or.inl rfl⟩) (h1) (e1) K9) ?_
          show px_Gx _ _ (45, [(0, .ref (38 + n)), (1, .int (nI m)), (2, .int k)], [.int (nI p.1)], hp2) _
          refine px_gx (fun _ K9 => px_a 2 (f' := (47, [(0, .ref (38 + n)), (1, .int (nI m)), (2, .int k)], [.ref (38 + n), .int 2, .int (nI p.1)], hp2)) rfl K9) ?_
          refine px_gx (fun _ K9 => px_gf (38 + n) 45 4 19 (.ref (50 + n)) rfl rfl a2 rfl K9) ?_
          show px_Gx _ _ (50, [(0, .ref (38 + n)), (1, .int (nI m)), (2, .int k)], [.ref (50 + n), .int 2, .int (nI p.1)], hp2) _
          refine px_gx (fun _ K9 => px_a 1 (f' := (51, [(0, .ref (38 + n)), (1, .int (nI m)), (2, .int k)], [.int k, .ref (50 + n), .int 2, .int (nI p.1)], hp2)) rfl K9) ?_
          refine px_gx (fun _ K9 => px_al (50 + n) (.int (nI p.2)) rfl a4 (Or.inl ⟨rfl, Or.inl rfl⟩) (h1) (e2) K9) ?_
          show px_Gx _ _ (52, [(0, .ref (38 + n)), (1, .int (nI m)), (2, .int k)], [.int (nI p.2), .int 2, .int (nI p.1)], hp2) _
          refine px_gx (fun _ K9 => px_a 2 (f' := (54, [(0, .ref (38 + n)), (1, .int (nI m)), (2, .int k)], [.int ((nI p.1) + (2 * (nI p.2)))], hp2)) rfl K9) ?_
          exact ⟨_, _, px_ri rfl rfl rfl, K, f, a1, by unfold x_rv; rw [if_neg (fun z => z.elim h1 (fun z => absurd h2 (Int32.not_lt.mpr z))), ejc, hpx]⟩
        · refine px_gx (fun _ K9 => px_a 1 (f' := (24, [(0, .ref (38 + n)), (1, .int (nI m)), (2, .int k)], [.int k], hp2)) rfl K9) ?_
          refine px_gx (fun _ K9 => px_b1 false 35 rfl rfl (decide_eq_false h1) K9) ?_
          show px_Gx _ _ (27, [(0, .ref (38 + n)), (1, .int (nI m)), (2, .int k)], [], hp2) _
          refine px_gx (fun _ K9 => px_a 2 (f' := (29, [(0, .ref (38 + n)), (1, .int (nI m)), (2, .int k)], [.ref (38 + n), .int k], hp2)) rfl K9) ?_
          refine px_gx (fun _ K9 => px_gf (38 + n) 132 4 17 (.int (nI (x_fd m f K).length)) rfl rfl a2 rfl K9) ?_
          show px_Gx _ _ (32, [(0, .ref (38 + n)), (1, .int (nI m)), (2, .int k)], [.int (nI (x_fd m f K).length), .int k], hp2) _
          refine px_gx (fun _ K9 => px_b2 false 39 rfl rfl (decide_eq_false h2) K9) ?_
          show px_Gx _ _ (35, [(0, .ref (38 + n)), (1, .int (nI m)), (2, .int k)], [], hp2) _
          refine px_gx (fun _ K9 => px_a 2 (f' := (54, [(0, .ref (38 + n)), (1, .int (nI m)), (2, .int k)], [.int (-1)], hp2)) rfl K9) ?_
          exact ⟨_, _, px_ri rfl rfl rfl, K, f, a1, by unfold x_rv; rw [if_pos (Or.inr (Int32.not_lt.mp h2))]⟩
    · have h616' := h616
      rw [Int32.le_iff_toInt_le] at h616'
      refine px_gx (fun _ K9 => px_b2 false 18 rfl rfl (decide_eq_false h616) K9) ?_
      show px_Gx _ _ (16, [(0, .ref (38 + n)), (1, .int (nI m)), (2, .int k)], [], hp614) _
      refine px_gx (fun _ K9 => px_a 1 (f' := (17, [(0, .ref (38 + n)), (1, .int (nI m)), (2, .int k)], [.int (-1)], hp614)) rfl K9) ?_
      omega
set_option maxRecDepth 20000 in
set_option maxHeartbeats 4000000 in
theorem m_runsI {d n : Nat} {hp0 : px_H} {th w h pn pl fo le ru : Int32} {x k : Int32} (hx : x < 2 ∨ ¬ x ≤ 9) (hm : hp0[38 + n]? = some (4, m_O n th w h pn pl fo le ru)) (H : pa_Hi n hp0) : px_Gx d 90 (0, [(0, .ref (38 + n)), (1, .int x)], [], hp0) (fun o _ => o = .inl (some (.int (-1)))) := by
  have clm1 : Int32.toInt (-1) = -1 := rfl
  have cl0 : Int32.toInt 0 = 0 := rfl
  have cl2 : Int32.toInt 2 = 2 := rfl
  have cl9 : Int32.toInt 9 = 9 := rfl
  obtain ⟨bth1, bth2, bw1, bw2, bh1, bh2, bpn1, bpn2, bpl1, bpl2, bfo1, bfo2, ble1, ble2, bru1, bru2⟩ := pa_bnd H hm
  have F : pa_Fr n [(24, 0), (24, 15), (24, 17), (34, 0), (35, 0), (36, 0)] hp0 hp0 := pa_Fr.refl _
  have L : hp0.length = hp0.length := rfl
  rw [Int32.lt_iff_toInt_lt, Int32.le_iff_toInt_le] at hx
  refine px_gx (fun _ K9 => px_a 2 (f' := (2, [(0, .ref (38 + n)), (1, .int x)], [.int 0, .ref (38 + n)], hp0)) rfl K9) ?_
  refine px_gx (fun _ K9 => px_pf (38 + n) 58 4 0 rfl rfl hm (by omega) (Nat.le_of_ble_eq_true rfl) (rfl) rfl (by decide) K9) ?_
  show px_Gx _ _ (5, [(0, .ref (38 + n)), (1, .int x)], [], hp0.set (38 + n) (4, (m_O n 0 w h pn pl fo le ru))) _
  have hm618 : (hp0.set (38 + n) (4, (m_O n 0 w h pn pl fo le ru)))[38 + n]? = some (4, (m_O n 0 w h pn pl fo le ru)) := px_self hm
  have H618 : pa_Hi n (hp0.set (38 + n) (4, (m_O n 0 w h pn pl fo le ru))) := pa_ms (k := 0) (v := .int 0) H hm rfl (pa_in (by omega) (by omega))
  have F618 : pa_Fr n [(24, 0), (24, 15), (24, 17), (34, 0), (35, 0), (36, 0)] hp0 (hp0.set (38 + n) (4, (m_O n 0 w h pn pl fo le ru))) := F.trans (pa_mf (k := 0) (v := .int 0) hm (by decide) (by decide))
  have L618 : (hp0.set (38 + n) (4, (m_O n 0 w h pn pl fo le ru))).length = hp0.length := List.length_set.trans L
  generalize hp0.set (38 + n) (4, (m_O n 0 w h pn pl fo le ru)) = hp618 at hm618 H618 F618 L618 ⊢
  refine px_gx (fun _ K9 => px_a 2 (f' := (7, [(0, .ref (38 + n)), (1, .int x)], [.int 2, .int x], hp618)) rfl K9) ?_
  by_cases h619 : x < 2
  · have h619' := h619
    rw [Int32.lt_iff_toInt_lt] at h619'
    refine px_gx (fun _ K9 => px_b2 true 16 rfl rfl (decide_eq_true h619) K9) ?_
    show px_Gx _ _ (16, [(0, .ref (38 + n)), (1, .int x)], [], hp618) _
    refine px_gx (fun _ K9 => px_a 1 (f' := (17, [(0, .ref (38 + n)), (1, .int x)], [.int (-1)], hp618)) rfl K9) ?_
    exact ⟨_, _, px_ri rfl rfl rfl, rfl⟩
  · have h619' := h619
    rw [Int32.lt_iff_toInt_lt] at h619'
    refine px_gx (fun _ K9 => px_b2 false 16 rfl rfl (decide_eq_false h619) K9) ?_
    show px_Gx _ _ (10, [(0, .ref (38 + n)), (1, .int x)], [], hp618) _
    refine px_gx (fun _ K9 => px_a 2 (f' := (13, [(0, .ref (38 + n)), (1, .int x)], [.int 9, .int x], hp618)) rfl K9) ?_
    by_cases h620 : x ≤ 9
    · have h620' := h620
      rw [Int32.le_iff_toInt_le] at h620'
      refine px_gx (fun _ K9 => px_b2 true 18 rfl rfl (decide_eq_true h620) K9) ?_
      show px_Gx _ _ (18, [(0, .ref (38 + n)), (1, .int x)], [], hp618) _
      refine px_gx (fun _ K9 => px_a 2 (f' := (20, [(0, .ref (38 + n)), (1, .int x)], [.int x, .ref (38 + n)], hp618)) rfl K9) ?_
      exfalso
      omega
    · have h620' := h620
      rw [Int32.le_iff_toInt_le] at h620'
      refine px_gx (fun _ K9 => px_b2 false 18 rfl rfl (decide_eq_false h620) K9) ?_
      show px_Gx _ _ (16, [(0, .ref (38 + n)), (1, .int x)], [], hp618) _
      refine px_gx (fun _ K9 => px_a 1 (f' := (17, [(0, .ref (38 + n)), (1, .int x)], [.int (-1)], hp618)) rfl K9) ?_
      exact ⟨_, _, px_ri rfl rfl rfl, rfl⟩
set_option maxRecDepth 20000 in
set_option maxHeartbeats 4000000 in
theorem m_runI {d n : Nat} {hp0 : px_H} {th w h pn pl fo le ru : Int32} {x k : Int32} (hx : x < 2 ∨ ¬ x ≤ 9) (hm : hp0[38 + n]? = some (4, m_O n th w h pn pl fo le ru)) (H : pa_Hi n hp0) : px_Gx d 89 (0, [(0, .ref (38 + n)), (1, .int x), (2, .int k)], [], hp0) (fun o _ => o = .inl (some (.int (-1)))) := by
  have clm1 : Int32.toInt (-1) = -1 := rfl
  have cl0 : Int32.toInt 0 = 0 := rfl
  have cl2 : Int32.toInt 2 = 2 := rfl
  have cl9 : Int32.toInt 9 = 9 := rfl
  obtain ⟨bth1, bth2, bw1, bw2, bh1, bh2, bpn1, bpn2, bpl1, bpl2, bfo1, bfo2, ble1, ble2, bru1, bru2⟩ := pa_bnd H hm
  have F : pa_Fr n [(24, 0), (24, 15), (24, 17), (34, 0), (35, 0), (36, 0)] hp0 hp0 := pa_Fr.refl _
  have L : hp0.length = hp0.length := rfl
  rw [Int32.lt_iff_toInt_lt, Int32.le_iff_toInt_le] at hx
  refine px_gx (fun _ K9 => px_a 2 (f' := (2, [(0, .ref (38 + n)), (1, .int x), (2, .int k)], [.int 0, .ref (38 + n)], hp0)) rfl K9) ?_
  refine px_gx (fun _ K9 => px_pf (38 + n) 58 4 0 rfl rfl hm (by omega) (Nat.le_of_ble_eq_true rfl) (rfl) rfl (by decide) K9) ?_
  show px_Gx _ _ (5, [(0, .ref (38 + n)), (1, .int x), (2, .int k)], [], hp0.set (38 + n) (4, (m_O n 0 w h pn pl fo le ru))) _
  have hm621 : (hp0.set (38 + n) (4, (m_O n 0 w h pn pl fo le ru)))[38 + n]? = some (4, (m_O n 0 w h pn pl fo le ru)) := px_self hm
  have H621 : pa_Hi n (hp0.set (38 + n) (4, (m_O n 0 w h pn pl fo le ru))) := pa_ms (k := 0) (v := .int 0) H hm rfl (pa_in (by omega) (by omega))
  have F621 : pa_Fr n [(24, 0), (24, 15), (24, 17), (34, 0), (35, 0), (36, 0)] hp0 (hp0.set (38 + n) (4, (m_O n 0 w h pn pl fo le ru))) := F.trans (pa_mf (k := 0) (v := .int 0) hm (by decide) (by decide))
  have L621 : (hp0.set (38 + n) (4, (m_O n 0 w h pn pl fo le ru))).length = hp0.length := List.length_set.trans L
  generalize hp0.set (38 + n) (4, (m_O n 0 w h pn pl fo le ru)) = hp621 at hm621 H621 F621 L621 ⊢
  refine px_gx (fun _ K9 => px_a 2 (f' := (7, [(0, .ref (38 + n)), (1, .int x), (2, .int k)], [.int 2, .int x], hp621)) rfl K9) ?_
  by_cases h622 : x < 2
  · have h622' := h622
    rw [Int32.lt_iff_toInt_lt] at h622'
    refine px_gx (fun _ K9 => px_b2 true 16 rfl rfl (decide_eq_true h622) K9) ?_
    show px_Gx _ _ (16, [(0, .ref (38 + n)), (1, .int x), (2, .int k)], [], hp621) _
    refine px_gx (fun _ K9 => px_a 1 (f' := (17, [(0, .ref (38 + n)), (1, .int x), (2, .int k)], [.int (-1)], hp621)) rfl K9) ?_
    exact ⟨_, _, px_ri rfl rfl rfl, rfl⟩
  · have h622' := h622
    rw [Int32.lt_iff_toInt_lt] at h622'
    refine px_gx (fun _ K9 => px_b2 false 16 rfl rfl (decide_eq_false h622) K9) ?_
    show px_Gx _ _ (10, [(0, .ref (38 + n)), (1, .int x), (2, .int k)], [], hp621) _
    refine px_gx (fun _ K9 => px_a 2 (f' := (13, [(0, .ref (38 + n)), (1, .int x), (2, .int k)], [.int 9, .int x], hp621)) rfl K9) ?_
    by_cases h623 : x ≤ 9
    · have h623' := h623
      rw [Int32.le_iff_toInt_le] at h623'
      refine px_gx (fun _ K9 => px_b2 true 18 rfl rfl (decide_eq_true h623) K9) ?_
      show px_Gx _ _ (18, [(0, .ref (38 + n)), (1, .int x), (2, .int k)], [], hp621) _
      refine px_gx (fun _ K9 => px_a 2 (f' := (20, [(0, .ref (38 + n)), (1, .int x), (2, .int k)], [.int x, .ref (38 + n)], hp621)) rfl K9) ?_
      exfalso
      omega
    · have h623' := h623
      rw [Int32.le_iff_toInt_le] at h623'
      refine px_gx (fun _ K9 => px_b2 false 18 rfl rfl (decide_eq_false h623) K9) ?_
      show px_Gx _ _ (16, [(0, .ref (38 + n)), (1, .int x), (2, .int k)], [], hp621) _
      refine px_gx (fun _ K9 => px_a 1 (f' := (17, [(0, .ref (38 + n)), (1, .int x), (2, .int k)], [.int (-1)], hp621)) rfl K9) ?_
      exact ⟨_, _, px_ri rfl rfl rfl, rfl⟩
theorem x_mv {x : Int32} (h : ¬ (x < 2 ∨ ¬ x ≤ 9)) : ∃ m : Nat, 2 ≤ m ∧ m ≤ 9 ∧ x = nI m := by
  rcases pk_ix x (n := 10) (by decide) with q | q | ⟨j, hj, rfl⟩
  · exact absurd (Or.inl (by rw [Int32.lt_iff_toInt_lt] at q ⊢; have e0 : (0 : Int32).toInt = 0 := rfl; have e2 : (2 : Int32).toInt = 2 := rfl; omega)) h
  · exact absurd (Or.inr (by rw [Int32.le_iff_toInt_le] at q ⊢; have e0 : (nI 10).toInt = 10 := rfl; have e2 : (9 : Int32).toInt = 9 := rfl; omega)) h
  · refine ⟨j, ?_, by omega, rfl⟩
    rcases Nat.lt_or_ge j 2 with q | q
    · exact absurd (Or.inl (nI_lt (b := 2) q (by decide))) h
    · exact q
theorem x_fd_u {W V m : Nat} {s : Int64} {K K' : Nat} {f f' : Nat → Nat} (h : x_Wd W V s K f) (h' : x_Wd W V s K' f') : x_fd m f K = x_fd m f' K' := by
  obtain ⟨rfl, e⟩ := x_Wd_u h h'
  exact x_fd_c K e
