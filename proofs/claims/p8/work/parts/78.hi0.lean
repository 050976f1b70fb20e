theorem f_n3 {c0 c1 c2 c3 c4 c5 c6 c7 : px_C} {w h : Int32} {n : Nat} : (px_H2 c0 c1 c2 c3 c4 c5 c6 c7 w h n)[35 + n]? = some (10, List.replicate 84 (Value.int 0)) := by
  obtain ⟨A, hA, e⟩ := f_H1 (c0 := c0) (c1 := c1) (c2 := c2) (c3 := c3) (c4 := c4) (c5 := c5) (c6 := c6) (c7 := c7) (w := w) (h := h) (n := n)
  unfold px_H2
  rw [e]
  exact px_apl (px_ati (show 35 + n = 32 + (n + 3) by omega) (px_apq hA (px_apq List.length_replicate rfl)))
theorem f_n4 {c0 c1 c2 c3 c4 c5 c6 c7 : px_C} {w h : Int32} {n : Nat} : (px_H2 c0 c1 c2 c3 c4 c5 c6 c7 w h n)[36 + n]? = some (10, List.replicate 84 (Value.int 0)) := by
  obtain ⟨A, hA, e⟩ := f_H1 (c0 := c0) (c1 := c1) (c2 := c2) (c3 := c3) (c4 := c4) (c5 := c5) (c6 := c6) (c7 := c7) (w := w) (h := h) (n := n)
  unfold px_H2
  rw [e]
  exact px_apl (px_ati (show 36 + n = 32 + (n + 4) by omega) (px_apq hA (px_apq List.length_replicate rfl)))
theorem f_n5 {c0 c1 c2 c3 c4 c5 c6 c7 : px_C} {w h : Int32} {n : Nat} : (px_H2 c0 c1 c2 c3 c4 c5 c6 c7 w h n)[37 + n]? = some (10, List.replicate 84 (Value.int 0)) := by
  obtain ⟨A, hA, e⟩ := f_H1 (c0 := c0) (c1 := c1) (c2 := c2) (c3 := c3) (c4 := c4) (c5 := c5) (c6 := c6) (c7 := c7) (w := w) (h := h) (n := n)
  unfold px_H2
  rw [e]
  exact px_apl (px_ati (show 37 + n = 32 + (n + 5) by omega) (px_apq hA (px_apq List.length_replicate rfl)))
theorem f_row {c0 c1 c2 c3 c4 c5 c6 c7 : px_C} {w h : Int32} {n : Nat} {k : Nat} (hk : k < n) : (px_H2 c0 c1 c2 c3 c4 c5 c6 c7 w h n)[32 + k]? = some (10, List.replicate (n + 1) (Value.int 0)) := by
  obtain ⟨A, hA, e⟩ := f_H1 (c0 := c0) (c1 := c1) (c2 := c2) (c3 := c3) (c4 := c4) (c5 := c5) (c6 := c6) (c7 := c7) (w := w) (h := h) (n := n)
  unfold px_H2
  rw [e]
  refine px_apl (px_apq hA (px_apl ?_))
  rw [List.getElem?_replicate, if_pos hk]
theorem l_rep {n k t : Nat} {A : pa_V} {z : Value} {len : pa_B} (hl : (k : Int) = pa_ev n len) (hz : pa_gv n A z) : pa_gc n (t, .inr (len, A)) (some (t, List.replicate k z)) := by
  refine ⟨_, rfl, ?_, ?_⟩
  · rw [List.length_replicate]; exact hl
  · intro v hv
    rw [List.eq_of_mem_replicate hv]
    exact hz
theorem l_e0 {n : Nat} {k : Int} : k = pa_ev n (k, 0) := (pa_ev_0 _).symm
theorem l_e1 {n : Nat} {k : Int} : (n : Int) + k = pa_ev n (k, 1) := by unfold pa_ev; omega
theorem l_ri {n a : Nat} {r : Nat} (h : pa_rg n a = r) (h9 : r ≠ 99) : pa_gv n (pa_rf r) (.ref a) := ⟨a, rfl, h, h9⟩
theorem l_0 {n : Nat} {lo hi : Int} (h1 : lo ≤ 0) (h2 : 0 ≤ hi) : pa_gv n (pa_i lo hi) (.int 0) := pa_in (by exact h1) (by exact h2)
theorem l_wv {W : Nat} (h1 : 1 ≤ W) (h2 : W ≤ 6) {n : Nat} : pa_gv n (pa_i 1 6) (.int (nI W)) := by
  have := nI_toInt (n := W) (by omega)
  exact pa_in (by omega) (by omega)
theorem l_sv : ∀ k, k < 6 → ∀ v ∈ (px_sarr (k + 1)).2, ∃ x : Int32, v = .int x ∧ -1 ≤ x.toInt ∧ x.toInt ≤ 1 := by
  intro k hk v hv
  have h : v = .int (px_sv_ (k + 1) 0) ∨ v = .int (px_sv_ (k + 1) 1) ∨ v = .int (px_sv_ (k + 1) 2) ∨ v = .int (px_sv_ (k + 1) 3) := by simpa [px_sarr] using hv
  have key : ∀ k, k < 6 → ∀ i, i < 4 → -1 ≤ (px_sv_ (k + 1) i).toInt ∧ (px_sv_ (k + 1) i).toInt ≤ 1 := by decide
  rcases h with h | h | h | h
  · exact ⟨_, h, key k hk 0 (by decide)⟩
  · exact ⟨_, h, key k hk 1 (by decide)⟩
  · exact ⟨_, h, key k hk 2 (by decide)⟩
  · exact ⟨_, h, key k hk 3 (by decide)⟩
theorem l_sa {n : Nat} (k : Nat) (hk : k < 6) : pa_gc n (20, .inr ((4, 0), pa_i (-1) 1)) (some (px_sarr (k + 1))) := by
  refine ⟨(px_sarr (k + 1)).2, rfl, ?_, ?_⟩
  · exact l_e0
  · intro v hv
    obtain ⟨x, rfl, h1, h2⟩ := l_sv k hk v hv
    exact pa_in h1 h2
theorem l_nn {n : Nat} (h : n ≤ 36) : pa_gv n (.inl ((0, 1), (0, 1), 0)) (.int (nI n)) := by
  have := nI_toInt (n := n) (by omega)
  refine ⟨_, rfl, ?_, ?_⟩
  · show pa_ev n (0, 1) ≤ _
    unfold pa_ev; omega
  · show _ ≤ pa_ev n (0, 1)
    unfold pa_ev; omega
theorem r20 (n : Nat) : pa_rg n (34 + n) = 20 := by have := pa_rgm' (n := n) (i := 2) (by decide) (by decide); rw [show 34 + n = 32 + n + 2 by omega]; exact this
theorem r18 (n : Nat) : pa_rg n (32 + n) = 18 := pa_rgm' (n := n) (i := 0) (by decide) (by decide)
theorem r17 (n : Nat) : pa_rg n (33 + n) = 17 := by
  unfold pa_rg
  repeat (split <;> try omega)
theorem r17k {n k : Nat} (hk : k < n) : pa_rg n (32 + k) = 17 := by
  unfold pa_rg
  repeat (split <;> try omega)
theorem l_f9 {n : Nat} : pa_gc n (13, .inr ((6, 0), pa_rf 10)) (some (13, [.ref 10, .ref 13, .ref 16, .ref 19, .ref 22, .ref 25])) := by
  refine ⟨_, rfl, l_e0, ?_⟩
  intro v hv
  simp only [List.mem_cons, List.not_mem_nil, or_false] at hv
  rcases hv with rfl | rfl | rfl | rfl | rfl | rfl <;> exact l_ri rfl (by decide)
theorem l_f31 {n : Nat} (_ : 1 ≤ n) : pa_gc n (14, .inr ((0, 1), pa_rf 17)) (some (14, (List.range n).map (fun i => Value.ref (32 + i)))) := by
  refine ⟨_, rfl, ?_, ?_⟩
  · show (((List.range n).map (fun i => Value.ref (32 + i))).length : Int) = pa_ev n (0, 1)
    rw [List.length_map, List.length_range]
    have := @l_e1 n 0; omega
  · intro v hv
    obtain ⟨i, hi, rfl⟩ := List.mem_map.mp hv
    exact l_ri (r17k (List.mem_range.mp hi)) (by decide)
theorem rr {n a : Nat} (i : Nat) (h : i ≤ 20) (h1 : i ≠ 1) (e : a = 32 + n + i) : pa_rg n a = 18 + i := by rw [e]; exact pa_rgm' h h1
set_option maxRecDepth 20000 in
set_option maxHeartbeats 4000000 in
theorem l_Hi0 {L : Nat} {xs : Nat → Int32} {W V n : Nat} (w1 : 1 ≤ W) (w2 : W ≤ 6) (v1 : 1 ≤ V) (v2 : V ≤ 6) (hn : n = W * V) (hn0 : 1 ≤ n) (hn36 : n ≤ 36) : pa_Hi n (px_H2 (20, px_s0 L xs) (px_sarr 1) (px_sarr 2) (px_sarr 3) (px_sarr 4) (px_sarr 5) (px_sarr 6) (30, []) (nI W) (nI V) n) := by
  refine ⟨?_, W, V, _, w2, v2, hn, f_8, rfl, rfl⟩
  intro a ha
  by_cases h1 : a < 32
  · have hc : a = 1 ∨ a = 2 ∨ a = 3 ∨ a = 4 ∨ a = 5 ∨ a = 6 ∨ a = 8 ∨ a = 9 ∨ a = 10 ∨ a = 11 ∨ a = 12 ∨ a = 13 ∨ a = 14 ∨ a = 15 ∨ a = 16 ∨ a = 17 ∨ a = 18 ∨ a = 19 ∨ a = 20 ∨ a = 21 ∨ a = 22 ∨ a = 23 ∨ a = 24 ∨ a = 25 ∨ a = 26 ∨ a = 27 ∨ a = 28 ∨ a = 29 ∨ a = 30 ∨ a = 31 := by
      by_cases h0 : a = 0
      · rw [h0] at ha; exact absurd (by unfold pa_rg; repeat (split <;> try omega)) ha
      · by_cases h7 : a = 7
        · rw [h7] at ha; exact absurd (by unfold pa_rg; repeat (split <;> try omega)) ha
        · omega
    rcases hc with rfl | rfl | rfl | rfl | rfl | rfl | rfl | rfl | rfl | rfl | rfl | rfl | rfl | rfl | rfl | rfl | rfl | rfl | rfl | rfl | rfl | rfl | rfl | rfl | rfl | rfl | rfl | rfl | rfl | rfl
    · show pa_gc n (pa_rs 1) ((px_H2 (20, px_s0 L xs) (px_sarr 1) (px_sarr 2) (px_sarr 3) (px_sarr 4) (px_sarr 5) (px_sarr 6) (30, []) (nI W) (nI V) n)[(1 : Nat)]?)
      exact l_sa 0 (by decide)
    · show pa_gc n (pa_rs 2) ((px_H2 (20, px_s0 L xs) (px_sarr 1) (px_sarr 2) (px_sarr 3) (px_sarr 4) (px_sarr 5) (px_sarr 6) (30, []) (nI W) (nI V) n)[(2 : Nat)]?)
      exact l_sa 1 (by decide)
    · show pa_gc n (pa_rs 3) ((px_H2 (20, px_s0 L xs) (px_sarr 1) (px_sarr 2) (px_sarr 3) (px_sarr 4) (px_sarr 5) (px_sarr 6) (30, []) (nI W) (nI V) n)[(3 : Nat)]?)
      exact l_sa 2 (by decide)
    · show pa_gc n (pa_rs 4) ((px_H2 (20, px_s0 L xs) (px_sarr 1) (px_sarr 2) (px_sarr 3) (px_sarr 4) (px_sarr 5) (px_sarr 6) (30, []) (nI W) (nI V) n)[(4 : Nat)]?)
      exact l_sa 3 (by decide)
    · show pa_gc n (pa_rs 5) ((px_H2 (20, px_s0 L xs) (px_sarr 1) (px_sarr 2) (px_sarr 3) (px_sarr 4) (px_sarr 5) (px_sarr 6) (30, []) (nI W) (nI V) n)[(5 : Nat)]?)
      exact l_sa 4 (by decide)
    · show pa_gc n (pa_rs 6) ((px_H2 (20, px_s0 L xs) (px_sarr 1) (px_sarr 2) (px_sarr 3) (px_sarr 4) (px_sarr 5) (px_sarr 6) (30, []) (nI W) (nI V) n)[(6 : Nat)]?)
      exact l_sa 5 (by decide)
    · show pa_gc n (pa_rs 8) ((px_H2 (20, px_s0 L xs) (px_sarr 1) (px_sarr 2) (px_sarr 3) (px_sarr 4) (px_sarr 5) (px_sarr 6) (30, []) (nI W) (nI V) n)[(8 : Nat)]?)
      exact ⟨_, rfl, l_wv w1 w2, l_wv v1 v2, l_ri rfl (by decide), l_ri rfl (by decide), l_ri rfl (by decide), l_ri rfl (by decide), l_ri (r20 n) (by decide), l_0 (by decide) (by decide), pa_lgk _, l_0 (by decide) (by decide), trivial⟩
    · show pa_gc n (pa_rs 9) ((px_H2 (20, px_s0 L xs) (px_sarr 1) (px_sarr 2) (px_sarr 3) (px_sarr 4) (px_sarr 5) (px_sarr 6) (30, []) (nI W) (nI V) n)[(9 : Nat)]?)
      exact l_f9
    · show pa_gc n (pa_rs 10) ((px_H2 (20, px_s0 L xs) (px_sarr 1) (px_sarr 2) (px_sarr 3) (px_sarr 4) (px_sarr 5) (px_sarr 6) (30, []) (nI W) (nI V) n)[(10 : Nat)]?)
      exact ⟨_, rfl, l_wv w1 w2, l_wv v1 v2, l_ri rfl (by decide), l_ri rfl (by decide), pa_top_ok _, l_0 (by decide) (by decide), l_0 (by decide) (by decide), pa_lgk _, trivial⟩
    · show pa_gc n (pa_rs 11) ((px_H2 (20, px_s0 L xs) (px_sarr 1) (px_sarr 2) (px_sarr 3) (px_sarr 4) (px_sarr 5) (px_sarr 6) (30, []) (nI W) (nI V) n)[(11 : Nat)]?)
      exact l_rep l_e0 (pa_top_ok _)
    · show pa_gc n (pa_rs 12) ((px_H2 (20, px_s0 L xs) (px_sarr 1) (px_sarr 2) (px_sarr 3) (px_sarr 4) (px_sarr 5) (px_sarr 6) (30, []) (nI W) (nI V) n)[(12 : Nat)]?)
      exact l_rep l_e0 (pa_lgk _)
    · show pa_gc n (pa_rs 10) ((px_H2 (20, px_s0 L xs) (px_sarr 1) (px_sarr 2) (px_sarr 3) (px_sarr 4) (px_sarr 5) (px_sarr 6) (30, []) (nI W) (nI V) n)[(13 : Nat)]?)
      exact ⟨_, rfl, l_wv w1 w2, l_wv v1 v2, l_ri rfl (by decide), l_ri rfl (by decide), pa_top_ok _, l_0 (by decide) (by decide), l_0 (by decide) (by decide), pa_lgk _, trivial⟩
    · show pa_gc n (pa_rs 11) ((px_H2 (20, px_s0 L xs) (px_sarr 1) (px_sarr 2) (px_sarr 3) (px_sarr 4) (px_sarr 5) (px_sarr 6) (30, []) (nI W) (nI V) n)[(14 : Nat)]?)
      exact l_rep l_e0 (pa_top_ok _)
    · show pa_gc n (pa_rs 12) ((px_H2 (20, px_s0 L xs) (px_sarr 1) (px_sarr 2) (px_sarr 3) (px_sarr 4) (px_sarr 5) (px_sarr 6) (30, []) (nI W) (nI V) n)[(15 : Nat)]?)
      exact l_rep l_e0 (pa_lgk _)
    · show pa_gc n (pa_rs 10) ((px_H2 (20, px_s0 L xs) (px_sarr 1) (px_sarr 2) (px_sarr 3) (px_sarr 4) (px_sarr 5) (px_sarr 6) (30, []) (nI W) (nI V) n)[(16 : Nat)]?)
      exact ⟨_, rfl, l_wv w1 w2, l_wv v1 v2, l_ri rfl (by decide), l_ri rfl (by decide), pa_top_ok _, l_0 (by decide) (by decide), l_0 (by decide) (by decide), pa_lgk _, trivial⟩
    · show pa_gc n (pa_rs 11) ((px_H2 (20, px_s0 L xs) (px_sarr 1) (px_sarr 2) (px_sarr 3) (px_sarr 4) (px_sarr 5) (px_sarr 6) (30, []) (nI W) (nI V) n)[(17 : Nat)]?)
      exact l_rep l_e0 (pa_top_ok _)
    · show pa_gc n (pa_rs 12) ((px_H2 (20, px_s0 L xs) (px_sarr 1) (px_sarr 2) (px_sarr 3) (px_sarr 4) (px_sarr 5) (px_sarr 6) (30, []) (nI W) (nI V) n)[(18 : Nat)]?)
      exact l_rep l_e0 (pa_lgk _)
    · show pa_gc n (pa_rs 10) ((px_H2 (20, px_s0 L xs) (px_sarr 1) (px_sarr 2) (px_sarr 3) (px_sarr 4) (px_sarr 5) (px_sarr 6) (30, []) (nI W) (nI V) n)[(19 : Nat)]?)
      exact ⟨_, rfl, l_wv w1 w2, l_wv v1 v2, l_ri rfl (by decide), l_ri rfl (by decide), pa_top_ok _, l_0 (by decide) (by decide), l_0 (by decide) (by decide), pa_lgk _, trivial⟩
    · show pa_gc n (pa_rs 11) ((px_H2 (20, px_s0 L xs) (px_sarr 1) (px_sarr 2) (px_sarr 3) (px_sarr 4) (px_sarr 5) (px_sarr 6) (30, []) (nI W) (nI V) n)[(20 : Nat)]?)
      exact l_rep l_e0 (pa_top_ok _)
    · show pa_gc n (pa_rs 12) ((px_H2 (20, px_s0 L xs) (px_sarr 1) (px_sarr 2) (px_sarr 3) (px_sarr 4) (px_sarr 5) (px_sarr 6) (30, []) (nI W) (nI V) n)[(21 : Nat)]?)
      exact l_rep l_e0 (pa_lgk _)
    · show pa_gc n (pa_rs 10) ((px_H2 (20, px_s0 L xs) (px_sarr 1) (px_sarr 2) (px_sarr 3) (px_sarr 4) (px_sarr 5) (px_sarr 6) (30, []) (nI W) (nI V) n)[(22 : Nat)]?)
      exact ⟨_, rfl, l_wv w1 w2, l_wv v1 v2, l_ri rfl (by decide), l_ri rfl (by decide), pa_top_ok _, l_0 (by decide) (by decide), l_0 (by decide) (by decide), pa_lgk _, trivial⟩
    · show pa_gc n (pa_rs 11) ((px_H2 (20, px_s0 L xs) (px_sarr 1) (px_sarr 2) (px_sarr 3) (px_sarr 4) (px_sarr 5) (px_sarr 6) (30, []) (nI W) (nI V) n)[(23 : Nat)]?)
      exact l_rep l_e0 (pa_top_ok _)
    · show pa_gc n (pa_rs 12) ((px_H2 (20, px_s0 L xs) (px_sarr 1) (px_sarr 2) (px_sarr 3) (px_sarr 4) (px_sarr 5) (px_sarr 6) (30, []) (nI W) (nI V) n)[(24 : Nat)]?)
      exact l_rep l_e0 (pa_lgk _)
    · show pa_gc n (pa_rs 10) ((px_H2 (20, px_s0 L xs) (px_sarr 1) (px_sarr 2) (px_sarr 3) (px_sarr 4) (px_sarr 5) (px_sarr 6) (30, []) (nI W) (nI V) n)[(25 : Nat)]?)
      exact ⟨_, rfl, l_wv w1 w2, l_wv v1 v2, l_ri rfl (by decide), l_ri rfl (by decide), pa_top_ok _, l_0 (by decide) (by decide), l_0 (by decide) (by decide), pa_lgk _, trivial⟩
    · show pa_gc n (pa_rs 11) ((px_H2 (20, px_s0 L xs) (px_sarr 1) (px_sarr 2) (px_sarr 3) (px_sarr 4) (px_sarr 5) (px_sarr 6) (30, []) (nI W) (nI V) n)[(26 : Nat)]?)
      exact l_rep l_e0 (pa_top_ok _)
    · show pa_gc n (pa_rs 12) ((px_H2 (20, px_s0 L xs) (px_sarr 1) (px_sarr 2) (px_sarr 3) (px_sarr 4) (px_sarr 5) (px_sarr 6) (30, []) (nI W) (nI V) n)[(27 : Nat)]?)
      exact l_rep l_e0 (pa_lgk _)
    · show pa_gc n (pa_rs 13) ((px_H2 (20, px_s0 L xs) (px_sarr 1) (px_sarr 2) (px_sarr 3) (px_sarr 4) (px_sarr 5) (px_sarr 6) (30, []) (nI W) (nI V) n)[(28 : Nat)]?)
      exact l_rep (by have := @l_e1 n 0; omega) (pa_top_ok _)
    · show pa_gc n (pa_rs 14) ((px_H2 (20, px_s0 L xs) (px_sarr 1) (px_sarr 2) (px_sarr 3) (px_sarr 4) (px_sarr 5) (px_sarr 6) (30, []) (nI W) (nI V) n)[(29 : Nat)]?)
      exact l_rep (by have := @l_e1 n 0; omega) (pa_top_ok _)
    · show pa_gc n (pa_rs 15) ((px_H2 (20, px_s0 L xs) (px_sarr 1) (px_sarr 2) (px_sarr 3) (px_sarr 4) (px_sarr 5) (px_sarr 6) (30, []) (nI W) (nI V) n)[(30 : Nat)]?)
      exact ⟨_, rfl, l_nn hn36, l_ri rfl (by decide), l_ri (r18 n) (by decide), l_ri (r17 n) (by decide), pa_in (by decide) (by decide), trivial⟩
    · show pa_gc n (pa_rs 16) ((px_H2 (20, px_s0 L xs) (px_sarr 1) (px_sarr 2) (px_sarr 3) (px_sarr 4) (px_sarr 5) (px_sarr 6) (30, []) (nI W) (nI V) n)[(31 : Nat)]?)
      exact l_f31 hn0
  · by_cases h2 : a < 32 + n
    · obtain ⟨k, rfl⟩ : ∃ k, a = 32 + k := ⟨a - 32, by omega⟩
      rw [r17k (by omega), f_row (by omega)]
      exact l_rep (by have := @l_e1 n 1; push_cast; omega) (pa_top_ok _)
    · obtain ⟨i, rfl⟩ : ∃ i, a = 32 + n + i := ⟨a - (32 + n), by omega⟩
      by_cases h3 : i ≤ 20
      · by_cases h4 : i = 1
        · subst h4
          rw [show 32 + n + 1 = 33 + n by omega, r17, f_n1]
          exact l_rep (by have := @l_e1 n 1; push_cast; omega) (pa_top_ok _)
        · rw [pa_rgm' h3 h4]
          rcases (show i = 0 ∨ i = 2 ∨ i = 3 ∨ i = 4 ∨ i = 5 ∨ i = 6 ∨ i = 7 ∨ i = 8 ∨ i = 9 ∨ i = 10 ∨ i = 11 ∨ i = 12 ∨ i = 13 ∨ i = 14 ∨ i = 15 ∨ i = 16 ∨ i = 17 ∨ i = 18 ∨ i = 19 ∨ i = 20 by omega) with rfl | rfl | rfl | rfl | rfl | rfl | rfl | rfl | rfl | rfl | rfl | rfl | rfl | rfl | rfl | rfl | rfl | rfl | rfl | rfl
          · rw [show 32 + n + 0 = 32 + n by omega, f_n0]
            exact l_rep (by have := @l_e1 n 0; omega) (l_0 (by decide) (by decide))
          · rw [show 32 + n + 2 = 34 + n by omega, f_n2]
            exact ⟨_, rfl, l_wv w1 w2, l_wv v1 v2, l_ri (rr 3 (by decide) (by decide) (by omega)) (by decide), l_ri (rr 4 (by decide) (by decide) (by omega)) (by decide), l_ri (rr 5 (by decide) (by decide) (by omega)) (by decide), l_0 (by decide) (by decide), l_0 (by decide) (by decide), pa_lgk _, trivial⟩
          · rw [show 32 + n + 3 = 35 + n by omega, f_n3]
            exact l_rep l_e0 (l_0 (by decide) (by decide))
          · rw [show 32 + n + 4 = 36 + n by omega, f_n4]
            exact l_rep l_e0 (pa_top_ok _)
          · rw [show 32 + n + 5 = 37 + n by omega, f_n5]
            exact l_rep l_e0 (pa_top_ok _)
          · rw [show 32 + n + 6 = 38 + n by omega, f_m0]
            exact ⟨_, rfl, l_0 (by decide) (by decide), l_wv w1 w2, l_wv v1 v2, l_ri (rr 7 (by decide) (by decide) (by omega)) (by decide), l_0 (by decide) (by decide), l_ri (rr 8 (by decide) (by decide) (by omega)) (by decide), l_ri (rr 9 (by decide) (by decide) (by omega)) (by decide), l_ri (rr 10 (by decide) (by decide) (by omega)) (by decide), l_0 (by decide) (by decide), l_ri (rr 11 (by decide) (by decide) (by omega)) (by decide), l_ri (rr 12 (by decide) (by decide) (by omega)) (by decide), l_ri (rr 13 (by decide) (by decide) (by omega)) (by decide), l_ri (rr 14 (by decide) (by decide) (by omega)) (by decide), l_0 (by decide) (by decide), l_ri (rr 15 (by decide) (by decide) (by omega)) (by decide), l_0 (by decide) (by decide), l_ri (rr 16 (by decide) (by decide) (by omega)) (by decide), l_0 (by decide) (by decide), l_ri (rr 17 (by decide) (by decide) (by omega)) (by decide), l_ri (rr 18 (by decide) (by decide) (by omega)) (by decide), l_ri (rr 19 (by decide) (by decide) (by omega)) (by decide), trivial⟩
          · rw [show 32 + n + 7 = 39 + n by omega, f_m1]
            exact l_rep l_e0 (l_0 (by decide) (by decide))
          · rw [show 32 + n + 8 = 40 + n by omega, f_m2]
            exact l_rep l_e0 (l_0 (by decide) (by decide))
          · rw [show 32 + n + 9 = 41 + n by omega, f_m3]
            exact l_rep l_e0 (l_0 (by decide) (by decide))
          · rw [show 32 + n + 10 = 42 + n by omega, f_m4]
            exact l_rep l_e0 (pa_top_ok _)
          · rw [show 32 + n + 11 = 43 + n by omega, f_m5]
            exact l_rep l_e0 (pa_lgk _)
          · rw [show 32 + n + 12 = 44 + n by omega, f_m6]
            exact l_rep l_e0 (l_0 (by decide) (by decide))
          · rw [show 32 + n + 13 = 45 + n by omega, f_m7]
            exact l_rep l_e0 (pa_top_ok _)
          · rw [show 32 + n + 14 = 46 + n by omega, f_m8]
            exact l_rep l_e0 (pa_top_ok _)
          · rw [show 32 + n + 15 = 47 + n by omega, f_m9]
            exact l_rep l_e0 (pa_top_ok _)
          · rw [show 32 + n + 16 = 48 + n by omega, f_m10]
            exact l_rep l_e0 (l_0 (by decide) (by decide))
          · rw [show 32 + n + 17 = 49 + n by omega, f_m11]
            exact l_rep l_e0 (pa_top_ok _)
          · rw [show 32 + n + 18 = 50 + n by omega, f_m12]
            exact l_rep l_e0 (pa_top_ok _)
          · rw [show 32 + n + 19 = 51 + n by omega, f_m13]
            exact l_rep l_e0 (l_0 (by decide) (by decide))
          · rw [show 32 + n + 20 = 52 + n by omega, f_m14]
            exact l_rep l_e0 (pa_lgk _)
      · exfalso
        apply ha
        unfold pa_rg
        repeat (split <;> try omega)
