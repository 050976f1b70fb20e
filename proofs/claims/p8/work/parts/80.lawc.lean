theorem l_fr0 {n : Nat} {M : pa_M} {hp hp1 : px_H} (G : pa_Fr n M hp hp1) (hM : ¬ (99, 0) ∈ M) {vs : List Value} (h : hp[(0 : Nat)]? = some (20, vs)) : hp1[(0 : Nat)]? = some (20, vs) := by
  obtain ⟨us, g1, g2, g3⟩ := G _ _ _ h
  rw [g1]
  have : us = vs := by
    apply List.ext_getElem?
    intro k
    refine g3 k ?_
    rw [if_neg (by decide), show pa_rg n 0 = 99 by unfold pa_rg; repeat (split <;> try omega)]
    exact hM
  rw [this]
def l_In (n L : Nat) (xs : Nat → Int32) (S0 : Nat) (hp : px_H) (B : Nat) : Prop := pa_Hi n hp ∧ hp[(0 : Nat)]? = some (20, px_s0 L xs) ∧ hp.length ≤ 100 + B ∧ px_sz hp ≤ S0 + 6 * B
theorem l_In.S {n L : Nat} {xs : Nat → Int32} {S0 : Nat} {hp hp1 : px_H} {B : Nat} {M : pa_M} (h : l_In n L xs S0 hp B) (s : l_S n M hp hp1) (hM : ¬ (99, 0) ∈ M) : l_In n L xs S0 hp1 (B + 1) := by
  obtain ⟨h1, h2, h3, h4⟩ := h
  obtain ⟨s1, s2, s3, s4⟩ := s
  exact ⟨s1, l_fr0 s2 hM h2, by omega, by omega⟩
theorem l_In.D {n L : Nat} {xs : Nat → Int32} {S0 : Nat} {hp hp1 : px_H} {B : Nat} {M : pa_M} (h : l_In n L xs S0 hp B) (s1 : pa_Hi n hp1) (s2 : pa_Fr n M hp hp1) (hM : ¬ (99, 0) ∈ M) (s3 : hp1.length = hp.length) (s4 : px_sz hp1 = px_sz hp) : l_In n L xs S0 hp1 B := by
  obtain ⟨h1, h2, h3, h4⟩ := h
  exact ⟨s1, l_fr0 s2 hM h2, by omega, by omega⟩
theorem l_In.up {n L : Nat} {xs : Nat → Int32} {S0 : Nat} {hp : px_H} {B B' : Nat} (h : l_In n L xs S0 hp B) (hb : B ≤ B') : l_In n L xs S0 hp B' := by
  obtain ⟨h1, h2, h3, h4⟩ := h
  exact ⟨h1, h2, by omega, by omega⟩
theorem l_fd {n : Nat} {M : pa_M} {hp hp1 : px_H} (H : pa_Hi n hp) (G : pa_Fr n M hp hp1) {a r k : Nat} (ha : pa_rg n a = r) (h9 : r ≠ 99) (ht : (pa_rs r).1 < 10) (hM : ¬ (r, k) ∈ M) : pa_fd hp1 a k = pa_fd hp a k := by
  obtain ⟨vs, h1, -⟩ := pa_Hi_get H ha h9
  obtain ⟨us, g1, g2, g3⟩ := G _ _ _ h1
  rw [pa_fd_get h1, pa_fd_get g1]
  refine g3 k ?_
  rw [if_pos ht, ha]
  exact hM
section
variable {d pc n : Nat} {lv : px_L} {hp : px_H} {P : px_O → px_H → Prop}
theorem l_ld (k : Nat) (c : Int32) {L I : Nat} {xs : Nat → Int32} {rs : List Value} (hc : c = nI k) (hi : px_ins (px_tab 6) pc = some .iaload) (h0 : hp[(0 : Nat)]? = some (20, px_s0 L xs)) (hI : I + k < L) (hL : L ≤ 10000) (K : px_Gx d 6 (pc + 1, lv, .int (xs (I + k)) :: rs, hp) P) : px_Gx d 6 (pc, lv, .int (nI I + c) :: .ref 0 :: rs, hp) P := by
  rw [hc, nI_add]
  exact px_gx (fun _ K => px_al 0 (.int (xs (I + k))) hi h0 (Or.inl ⟨rfl, Or.inr rfl⟩) (nI_pos (by omega)) (by rw [nI_clamp (by omega)]; exact px_s0_get hI) K) K
theorem l_ld0 {L I : Nat} {xs : Nat → Int32} {rs : List Value} (hi : px_ins (px_tab 6) pc = some .iaload) (h0 : hp[(0 : Nat)]? = some (20, px_s0 L xs)) (hI : I < L) (hL : L ≤ 10000) (K : px_Gx d 6 (pc + 1, lv, .int (xs I) :: rs, hp) P) : px_Gx d 6 (pc, lv, .int (nI I) :: .ref 0 :: rs, hp) P :=
  px_gx (fun _ K => px_al 0 (.int (xs I)) hi h0 (Or.inl ⟨rfl, Or.inr rfl⟩) (nI_pos (by omega)) (by rw [nI_clamp (by omega)]; exact px_s0_get hI) K) K
theorem l_cv {a idx j' ps : Nat} {K : pa_K} {as rest : List Value} (hct : pa_Ct pa_tb n j' K d) (H : pa_Hi n hp) (hi : px_ins (px_tab 6) pc = some (.invokevirtual idx)) (hl : px_lk px_ml_ (px_cn 6) idx = some (j', ps)) (ha : (pa_rs (pa_rg n a)).1 = px_cn j') (ha9 : pa_rg n a ≠ 99) (hkd : px_kd j' = 1) (hnp : px_np j' = as.length) (h8 : px_ok8 rest = true) (hlg : (lg_sl (.ref a :: as)).length ≤ px_ml j') (hargs : pa_gfs n K.1 (.ref a :: as)) (ht : K.2.2.1 = false)
    (C : ∀ v hp1, px_Go d j' (0, lv_args 0 (.ref a :: as), [], hp) (.inl v, hp1) → pa_gr n K.2.1 v → pa_Hi n hp1 → pa_Fr n K.2.2.2 hp hp1 → hp1.length = hp.length → px_sz hp1 = px_sz hp → px_Gx (d + 1) 6 (pc + 3, lv, v.toList ++ rest, hp1) P) : px_Gx (d + 1) 6 (pc, lv, as.reverse ++ .ref a :: rest, hp) P := by
  obtain ⟨o, hp1, hg, ⟨H1, G1, E1⟩, -⟩ := hct _ hp H hargs
  rcases E1 with ⟨v, rfl, hv, hl1⟩ | ⟨h, -⟩
  · obtain ⟨vs, hh, -⟩ := H.1 a ha9
    obtain ⟨o, hp', h1, h2⟩ := C v hp1 hg hv H1 G1 hl1 ((pa_kept hg).sz hl1)
    exact ⟨o, hp', px_cv a hi hl hh ha hkd hnp h8 hlg hg h1, h2⟩
  · rw [ht] at h
    cases h
theorem l_gt {L I : Nat} (hL : L ≤ 10000) (hI : I ≤ 20000) : (nI L - 4 < nI I) ↔ L < I + 4 := by
  have e4 : (4 : Int32).toInt = 4 := rfl
  have eL := nI_toInt (n := L) (by omega)
  have eI := nI_toInt (n := I) (by omega)
  have es : (nI L - 4).toInt = (nI L).toInt - (4 : Int32).toInt := i32_sub (by omega) (by omega)
  rw [Int32.lt_iff_toInt_lt]
  omega
end
