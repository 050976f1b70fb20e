def l_R (n : Nat) (hp : px_H) : Prop := ∃ (W V : Nat) (sh : Int64) (us : List Value), 1 ≤ W ∧ W ≤ 6 ∧ 1 ≤ V ∧ V ≤ 6 ∧ n = W * V ∧ r_wh n hp W V ∧ pa_fd hp 8 8 = some (.long sh) ∧ hp[39 + n]? = some (12, us) ∧ (∀ c, c < n → us[c]? = some (.int (if x_bt sh c = true then 1 else 0))) ∧ (∀ c, x_bt sh c = true → c < n) ∧ r_sq n hp
theorem l_R_fr {n : Nat} {M : pa_M} {hp hp1 : px_H} (H : pa_Hi n hp) (G : pa_Fr n M hp hp1) (c1 : ¬ (8, 0) ∈ M) (c2 : ¬ (8, 1) ∈ M) (c3 : ¬ (24, 1) ∈ M) (c4 : ¬ (24, 2) ∈ M) (c5 : ¬ (8, 8) ∈ M) (c6 : ¬ (25, 0) ∈ M) (c7 : (M.all (fun q => q.1 != 9)) = true) (c8 : ¬ (10, 4) ∈ M) (c9 : ¬ (26, 0) ∈ M) (c10 : ¬ (27, 0) ∈ M) (c11 : ¬ (8, 7) ∈ M) (c12 : ¬ (24, 4) ∈ M) (R : l_R n hp) : l_R n hp1 := by
  obtain ⟨W, V, sh, us, w1, hW, v1, hV, hn, wh, f5, a1, q1, q3, e_sq⟩ := R
  exact ⟨W, V, sh, us, w1, hW, v1, hV, hn, r_wh_fr H G c1 c2 c3 c4 wh, r_sh_fr H G c5 f5, r_in_fr G c6 a1, q1, q3, r_sq_fr H G c7 c8 c9 c10 c11 c12 e_sq⟩
theorem l_R0 {L : Nat} {xs : Nat → Int32} {W V n : Nat} (w1 : 1 ≤ W) (hW : W ≤ 6) (v1 : 1 ≤ V) (hV : V ≤ 6) (hn : n = W * V) {hn36 : n ≤ 36} : l_R n (px_H2 (20, px_s0 L xs) (px_sarr 1) (px_sarr 2) (px_sarr 3) (px_sarr 4) (px_sarr 5) (px_sarr 6) (30, []) (nI W) (nI V) n) := by
  refine ⟨W, V, 0, _, w1, hW, v1, hV, hn, ⟨by rw [pa_fd_get f_8]; rfl, by rw [pa_fd_get f_8]; rfl, by rw [pa_fd_get f_m0]; rfl, by rw [pa_fd_get f_m0]; rfl⟩, by rw [pa_fd_get f_8]; rfl, f_m1, ?_, ?_, ⟨rfl, _, _, 0, f_m2, f_m3, by rw [pa_fd_get f_8]; rfl, by rw [pa_fd_get f_m0]; rfl, by decide, fun k hk => by rcases (show k = 0 ∨ k = 1 ∨ k = 2 ∨ k = 3 ∨ k = 4 ∨ k = 5 by omega) with rfl | rfl | rfl | rfl | rfl | rfl <;> exact ⟨⟨0, [], by decide, rfl, rfl, by decide, rfl, fun q => by simp, fun i h => absurd h (Nat.not_lt_zero i)⟩, fun _ => rfl⟩⟩⟩
  · intro c hc
    rw [x_bt0, List.getElem?_replicate, if_pos (by omega)]
    rfl
  · intro c hc
    rw [x_bt0] at hc
    cases hc
