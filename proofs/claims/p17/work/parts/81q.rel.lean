def l_R (n : Nat) (hp : px_H) : Prop := ∃ (W V : Nat) (sh : Int64) (us : List Value), 1 ≤ W ∧ W ≤ 6 ∧ 1 ≤ V ∧ V ≤ 6 ∧ n = W * V ∧ r_wh n hp W V ∧ pa_fd hp 8 8 = some (.long sh) ∧ hp[39 + n]? = some (12, us) ∧ (∀ c, c < n → us[c]? = some (.int (if x_bt sh c = true then 1 else 0))) ∧ (∀ c, x_bt sh c = true → c < n) ∧ r_ol n hp W V
theorem l_R_fr {n : Nat} {M : pa_M} {hp hp1 : px_H} (H : pa_Hi n hp) (G : pa_Fr n M hp hp1) (c1 : ¬ (8, 0) ∈ M) (c2 : ¬ (8, 1) ∈ M) (c3 : ¬ (24, 1) ∈ M) (c4 : ¬ (24, 2) ∈ M) (c5 : ¬ (8, 8) ∈ M) (c6 : ¬ (25, 0) ∈ M) (c7 : (M.all (fun q => decide (7 ≤ q.1))) = true) (c8 : (M.all (fun q => q.1 != 20)) = true) (c9 : ¬ (21, 0) ∈ M) (R : l_R n hp) : l_R n hp1 := by
  obtain ⟨W, V, sh, us, w1, hW, v1, hV, hn, wh, f5, a1, q1, q3, e_ol⟩ := R
  exact ⟨W, V, sh, us, w1, hW, v1, hV, hn, r_wh_fr H G c1 c2 c3 c4 wh, r_sh_fr H G c5 f5, r_in_fr G c6 a1, q1, q3, r_ol_fr H G c7 c8 c9 e_ol⟩
theorem l_R0 {L : Nat} {xs : Nat → Int32} {W V n : Nat} (w1 : 1 ≤ W) (hW : W ≤ 6) (v1 : 1 ≤ V) (hV : V ≤ 6) (hn : n = W * V) {hn36 : n ≤ 36} : l_R n (px_H2 (20, px_s0 L xs) (px_sarr 1) (px_sarr 2) (px_sarr 3) (px_sarr 4) (px_sarr 5) (px_sarr 6) (30, []) (nI W) (nI V) n) := by
  refine ⟨W, V, 0, _, w1, hW, v1, hV, hn, ⟨by rw [pa_fd_get f_8]; rfl, by rw [pa_fd_get f_8]; rfl, by rw [pa_fd_get f_m0]; rfl, by rw [pa_fd_get f_m0]; rfl⟩, by rw [pa_fd_get f_8]; rfl, f_m1, ?_, ?_, ⟨fun k hk => by rcases (show k = 0 ∨ k = 1 ∨ k = 2 ∨ k = 3 ∨ k = 4 ∨ k = 5 by omega) with rfl | rfl | rfl | rfl | rfl | rfl <;> rfl, 0, _, 0, fun _ => 0, 0, f_n2, f_n3, Or.inl ⟨rfl, rfl⟩, fun i hi => absurd hi (Nat.not_lt_zero i)⟩⟩
  · intro c hc
    rw [x_bt0, List.getElem?_replicate, if_pos (by omega)]
    rfl
  · intro c hc
    rw [x_bt0] at hc
    cases hc
theorem x_lt_c {W V : Nat} {s : Int64} {K K' : Nat} {f f' : Nat → Nat} {i : Int32} (h : x_Wd W V s K f) (h' : x_Wd W V s K' f') : x_lt K f i = x_lt K' f' i := by
  obtain ⟨rfl, e⟩ := x_Wd_u h h'
  have k84 := x_Wd84 h
  unfold x_lt
  by_cases q : i < 0 ∨ nI K ≤ i
  · rw [if_pos q, if_pos q]
  · rw [if_neg q, if_neg q]
    rcases pk_ix i (n := K) (by omega) with z | z | ⟨j, hj, rfl⟩
    · exact absurd (Or.inl z) q
    · exact absurd (Or.inr z) q
    · rw [nI_clamp (by omega), e j hj]
