def z_csv : Option Value → Nat
  | some (.int x) => pb_cnt 16 x.toBitVec.toNat
  | _ => 0
theorem z_csP {zs us : List Value} {v : Option Value} {k : Nat} (h : q_P zs us v k) : zs[k]? = some (.int (nI (z_csv v))) ∧ z_csv v ≤ 6 := by
  obtain ⟨N, l, c1, rfl, c3, c4, c5, -⟩ := h
  have e : z_csv (some (.int (nI N))) = l.length := by
    show pb_cnt 16 (nI N).toBitVec.toNat = _
    rw [pk_tn (by omega), c5]
  rw [e]
  exact ⟨c3, c4⟩
theorem z_n {sh : Int64} {n : Nat} (n36 : n ≤ 36) (q3 : ∀ c, x_bt sh c = true → c < n) : pb_cnt 64 sh.toBitVec.toNat = z_c sh.toBitVec.toNat n := by
  have h := z_c_hi (N := sh.toBitVec.toNat) (n := n) (fun c hc => by
    rw [z_tb]
    cases e : x_bt sh c
    · rfl
    · exact absurd (q3 c e) (by omega)) (64 - n)
  rw [show n + (64 - n) = 64 by omega] at h
  exact (z_cnt 64 _).trans h
theorem x_sizesX {d n pc : Nat} {hp : px_H} {W V : Nat} {fd : Int32} {sh : Int64} {zs us : List Value} (H : pa_Hi n hp) (hc : hp[(8 : Nat)]? = some (3, [.int (nI W), .int (nI V), .ref 9, .ref 28, .ref 29, .ref 30, .ref (34 + n), .int (nI pc), .long sh, .int fd])) (h9 : hp[(9 : Nat)]? = some (13, q_forms)) (pc6 : pc ≤ 6) (Q : ∀ k, k < 6 → q_P zs us (pa_fd hp (10 + 3 * k) 4) k ∧ (pc ≤ k → zs[k]? = some (.int 0))) (n36 : n ≤ 36) (q3 : ∀ c, x_bt sh c = true → c < n) : px_Gx (d + 3) 63 (0, [(0, .ref 8)], [], hp) (fun o hp' => hp' = hp ∧ ((o = .inl (some (.int 1)) ∧ z_S (fun k => z_csv (pa_fd hp (10 + 3 * k) 4)) pc (z_c sh.toBitVec.toNat n)) ∨ (o = .inl (some (.int 0)) ∧ ¬ z_S (fun k => z_csv (pa_fd hp (10 + 3 * k) 4)) pc (z_c sh.toBitVec.toNat n)))) := by
  have kn := z_c_le sh.toBitVec.toNat n
  refine x_sizes (d := d) hc h9 pc6 ?_ (by omega) ?_
  · intro k hk
    obtain ⟨N, l, c1, c2, c3, c4, c5, -⟩ := (Q k hk).1
    obtain ⟨gw, gh, wc, sc, ss, b1, b2, hf⟩ := x_form H hk c2
    refine ⟨gw, gh, wc, sc, ss, b1, b2, N, c1, ?_, ?_, hf⟩
    · show z_csv (pa_fd hp (10 + 3 * k) 4) = _
      rw [c2]
      show pb_cnt 16 (nI N).toBitVec.toNat = _
      rw [pk_tn (by omega)]
    · exact (z_csP (Q k hk).1).2
  · have := x_bc64 (d := d + 2) (hp := hp) sh.toBitVec.isLt
    rw [← z_lN, z_n n36 q3] at this
    exact this
