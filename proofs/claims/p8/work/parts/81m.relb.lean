theorem x_bt0 (c : Nat) : x_bt 0 c = false := by unfold x_bt; show (0#64).getLsbD c = false; simp
theorem l_fo {n : Nat} {M : pa_M} {hp hp1 : px_H} (G : pa_Fr n M hp hp1) {a r t : Nat} {vs : List Value} (h : hp[a]? = some (t, vs)) (ha : pa_rg n a = r) (hM : (M.all (fun q => q.1 != r)) = true) : hp1[a]? = some (t, vs) := by
  obtain ⟨us, g1, g2, g3⟩ := G _ _ _ h
  rw [g1]
  have : us = vs := by
    apply List.ext_getElem?
    intro k
    refine g3 k ?_
    intro hq
    have := List.all_eq_true.mp hM _ hq
    rw [ha] at this
    simp at this
  rw [this]
def r_wh (n : Nat) (hp : px_H) (W V : Nat) : Prop := pa_fd hp 8 0 = some (.int (nI W)) ∧ pa_fd hp 8 1 = some (.int (nI V)) ∧ pa_fd hp (38 + n) 1 = some (.int (nI W)) ∧ pa_fd hp (38 + n) 2 = some (.int (nI V))
theorem r_wh_fr {n W V : Nat} {M : pa_M} {hp hp1 : px_H} (H : pa_Hi n hp) (G : pa_Fr n M hp hp1) (h1 : ¬ (8, 0) ∈ M) (h2 : ¬ (8, 1) ∈ M) (h3 : ¬ (24, 1) ∈ M) (h4 : ¬ (24, 2) ∈ M) (R : r_wh n hp W V) : r_wh n hp1 W V := by
  obtain ⟨f1, f2, f3, f4⟩ := R
  refine ⟨?_, ?_, ?_, ?_⟩
  · rw [l_fd H G (r := 8) rfl (by decide) (by decide) h1]; exact f1
  · rw [l_fd H G (r := 8) rfl (by decide) (by decide) h2]; exact f2
  · rw [l_fd H G (r24 n) (by decide) (by decide) h3]; exact f3
  · rw [l_fd H G (r24 n) (by decide) (by decide) h4]; exact f4
theorem r_sh_fr {n : Nat} {M : pa_M} {hp hp1 : px_H} {v : Option Value} (H : pa_Hi n hp) (G : pa_Fr n M hp hp1) (h5 : ¬ (8, 8) ∈ M) (f5 : pa_fd hp 8 8 = v) : pa_fd hp1 8 8 = v := (l_fd H G (r := 8) rfl (by decide) (by decide) h5).trans f5
theorem r_in_fr {n : Nat} {M : pa_M} {hp hp1 : px_H} {us : List Value} (G : pa_Fr n M hp hp1) (h6 : ¬ (25, 0) ∈ M) (a1 : hp[39 + n]? = some (12, us)) : hp1[39 + n]? = some (12, us) := l_fa G a1 (rr 7 (by decide) (by decide) (by omega)) (by decide) h6
theorem l_sh3 {n c : Nat} {sh : Int64} (h36 : n ≤ 36) (hc : c < n) (q : ∀ i, x_bt sh i = true → i < n) : ∀ i, x_bt (sh ^^^ ((1 : Int64) <<< (Int32.toInt64 (nI c) &&& 63))) i = true → i < n := by
  intro i hi
  by_cases h64 : i < 64
  · rw [x_xor, x_one (show c < 64 by omega) h64] at hi
    by_cases e : c = i
    · omega
    · rw [decide_eq_false e, Bool.xor_false] at hi
      exact q i hi
  · unfold x_bt at hi
    rw [BitVec.getLsbD_of_ge _ _ (by omega)] at hi
    cases hi
