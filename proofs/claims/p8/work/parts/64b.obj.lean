/-! the model's object, in short -/
def m_O (n : Nat) (th w h pn pl fo le ru : Int32) : List Value := [.int th, .int w, .int h, .ref (39 + n), .int pn, .ref (40 + n), .ref (41 + n), .ref (42 + n), .int pl, .ref (43 + n), .ref (44 + n), .ref (45 + n), .ref (46 + n), .int fo, .ref (47 + n), .int le, .ref (48 + n), .int ru, .ref (49 + n), .ref (50 + n), .ref (51 + n)]
theorem pa_bnd {n : Nat} {hp : px_H} {th w h pn pl fo le ru : Int32} (H : pa_Hi n hp) (hm : hp[38 + n]? = some (4, m_O n th w h pn pl fo le ru)) : 0 ≤ th.toInt ∧ th.toInt ≤ 2 ∧ 1 ≤ w.toInt ∧ w.toInt ≤ 6 ∧ 1 ≤ h.toInt ∧ h.toInt ≤ 6 ∧ 0 ≤ pn.toInt ∧ pn.toInt ≤ 6 ∧ 0 ≤ pl.toInt ∧ pl.toInt ≤ 512 ∧ 0 ≤ fo.toInt ∧ fo.toInt ≤ 1 ∧ 0 ≤ le.toInt ∧ le.toInt ≤ 200 ∧ 0 ≤ ru.toInt ∧ ru.toInt ≤ 200 := by
  obtain ⟨th', w', h', pn', pl', fo', le', ru', hm', b⟩ := pa_mod H
  have e := hm'.symm.trans hm
  unfold m_O at e
  cases e
  exact b
theorem pa_modO {n : Nat} {hp : px_H} (H : pa_Hi n hp) : ∃ (th w h pn pl fo le ru : Int32), hp[38 + n]? = some (4, m_O n th w h pn pl fo le ru) := by
  obtain ⟨th', w', h', pn', pl', fo', le', ru', hm', -⟩ := pa_mod H
  exact ⟨_, _, _, _, _, _, _, _, hm'⟩
theorem pa_fk {n : Nat} {M : pa_M} {hp hp' : px_H} {vs vs' : List Value} {k : Nat} {x y : Int32} (G : pa_Fr n M hp hp') (hm : hp[38 + n]? = some (4, vs)) (hm' : hp'[38 + n]? = some (4, vs')) (hk : ¬ (24, k) ∈ M) (e : vs[k]? = some (.int y)) (e' : vs'[k]? = some (.int x)) : x = y := by
  obtain ⟨us, h1, h2, h3⟩ := G _ _ _ hm
  have := h3 k (by
    rw [if_pos (by decide), show pa_rg n (38 + n) = 24 by have := pa_rgm' (n := n) (i := 6) (by decide) (by decide); rw [show 38 + n = 32 + n + 6 by omega]; exact this]
    exact hk)
  have e4 := h1.symm.trans hm'
  cases e4
  rw [this, e] at e'
  cases e'
  rfl
theorem pa_fa {n : Nat} {M : pa_M} {hp hp' : px_H} {a t i : Nat} {vs : List Value} (G : pa_Fr n M hp hp') (hv : hp[a]? = some (t, vs)) (ha : a = 32 + n + i) (ht : 10 ≤ t) (hi20 : i ≤ 20) (h1 : i ≠ 1) (hk : ¬ (18 + i, 0) ∈ M) : hp'[a]? = some (t, vs) := by
  obtain ⟨us, g1, g2, g3⟩ := G _ _ _ hv
  rw [g1]
  have : us = vs := by
    apply List.ext_getElem?
    intro k
    refine g3 k ?_
    rw [if_neg (by omega), ha, pa_rgm' hi20 h1]
    exact hk
  rw [this]
