theorem l_fo {n : Nat} {M : pa_M} {hp hp1 : px_H} (G : pa_Fr n M hp hp1) {a r t : Nat} {vs : List Value} (h : hp[a]? = some (t, vs)) (ha : pa_rg n a = r) (hM : (M.all (fun q => q.1 != r)) = true) : hp1[a]? = some (t, vs) := by
  obtain ⟨us, g1, g2, g3⟩ := G _ _ _ h
  rw [g1]
  have : us = vs := by
    apply List.ext_getElem?
    intro k
    refine g3 k ?_
    intro hq
    have := List.all_eq_true.mp hM _ hq
    rw [ha] at this
    simp at this
  rw [this]
def r_wh (n : Nat) (hp : px_H) (W V : Nat) : Prop := pa_fd hp 8 0 = some (.int (nI W)) ∧ pa_fd hp 8 1 = some (.int (nI V)) ∧ pa_fd hp (38 + n) 1 = some (.int (nI W)) ∧ pa_fd hp (38 + n) 2 = some (.int (nI V))
theorem r_wh_fr {n W V : Nat} {M : pa_M} {hp hp1 : px_H} (H : pa_Hi n hp) (G : pa_Fr n M hp hp1) (h1 : ¬ (8, 0) ∈ M) (h2 : ¬ (8, 1) ∈ M) (h3 : ¬ (24, 1) ∈ M) (h4 : ¬ (24, 2) ∈ M) (R : r_wh n hp W V) : r_wh n hp1 W V := by
  obtain ⟨f1, f2, f3, f4⟩ := R
  refine ⟨?_, ?_, ?_, ?_⟩
  · rw [l_fd H G (r := 8) rfl (by decide) (by decide) h1]; exact f1
  · rw [l_fd H G (r := 8) rfl (by decide) (by decide) h2]; exact f2
  · rw [l_fd H G (r24 n) (by decide) (by decide) h3]; exact f3
  · rw [l_fd H G (r24 n) (by decide) (by decide) h4]; exact f4
theorem r_sh_fr {n : Nat} {M : pa_M} {hp hp1 : px_H} {v : Option Value} (H : pa_Hi n hp) (G : pa_Fr n M hp hp1) (h5 : ¬ (8, 8) ∈ M) (f5 : pa_fd hp 8 8 = v) : pa_fd hp1 8 8 = v := (l_fd H G (r := 8) rfl (by decide) (by decide) h5).trans f5
theorem r_in_fr {n : Nat} {M : pa_M} {hp hp1 : px_H} {us : List Value} (G : pa_Fr n M hp hp1) (h6 : ¬ (25, 0) ∈ M) (a1 : hp[39 + n]? = some (12, us)) : hp1[39 + n]? = some (12, us) := l_fa G a1 (rr 7 (by decide) (by decide) (by omega)) (by decide) h6
def r_ol (n : Nat) (hp : px_H) (W V : Nat) : Prop := c_St hp ∧ ∃ (s : Int64) (ls : List Value) (K : Nat) (f : Nat → Nat) (rc : Int32), hp[34 + n]? = some (2, [.int (nI W), .int (nI V), .ref (35 + n), .ref (36 + n), .ref (37 + n), .int (nI K), .int rc, .long s]) ∧ hp[35 + n]? = some (10, ls) ∧ x_Wd W V s K f ∧ ∀ i, i < K → ls[i]? = some (.int (nI (f i)))
theorem c_St_fr {n : Nat} {M : pa_M} {hp hp1 : px_H} (G : pa_Fr n M hp hp1) (h : (M.all (fun q => decide (7 ≤ q.1))) = true) (R : c_St hp) : c_St hp1 := by
  intro k hk
  refine l_fa G (r := k + 1) (R k hk) ?_ (by decide) ?_
  · unfold pa_rg
    repeat (split <;> try omega)
  · intro hq
    have := List.all_eq_true.mp h _ hq
    simp at this
    omega
theorem r_ol_fr {n W V : Nat} {M : pa_M} {hp hp1 : px_H} (_ : pa_Hi n hp) (G : pa_Fr n M hp hp1) (h1 : (M.all (fun q => decide (7 ≤ q.1))) = true) (h2 : (M.all (fun q => q.1 != 20)) = true) (h3 : ¬ (21, 0) ∈ M) (R : r_ol n hp W V) : r_ol n hp1 W V := by
  obtain ⟨a, s, ls, K, f, rc, b1, b2, b3, b4⟩ := R
  exact ⟨c_St_fr G h1 a, s, ls, K, f, rc, l_fo G b1 (r20 n) h2, l_fa G b2 (rr 3 (by decide) (by decide) (by omega)) (by decide) h3, b3, b4⟩
theorem l_sh3 {n c : Nat} {sh : Int64} (h36 : n ≤ 36) (hc : c < n) (q : ∀ i, x_bt sh i = true → i < n) : ∀ i, x_bt (sh ^^^ ((1 : Int64) <<< (Int32.toInt64 (nI c) &&& 63))) i = true → i < n := by
  intro i hi
  by_cases h64 : i < 64
  · rw [x_xor, x_one (show c < 64 by omega) h64] at hi
    by_cases e : c = i
    · omega
    · rw [decide_eq_false e, Bool.xor_false] at hi
      exact q i hi
  · unfold x_bt at hi
    rw [BitVec.getLsbD_of_ge _ _ (by omega)] at hi
    cases hi
