def z_nv : Option Value → Nat
  | some (.int x) => x.toBitVec.toNat
  | _ => 0
theorem z_nvE {N : Nat} (h : N < 65536) : z_nv (some (.int (nI N))) = N := pk_tn (by omega)
theorem q_lq {zs us : List Value} {hp : px_H} {pc : Nat} (Q : ∀ k, k < 6 → q_P zs us (pa_fd hp (10 + 3 * k) 4) k ∧ (pc ≤ k → zs[k]? = some (.int 0))) : (∀ k, k < 6 → pa_fd hp (10 + 3 * k) 4 = some (.int (nI (z_nv (pa_fd hp (10 + 3 * k) 4)))) ∧ z_nv (pa_fd hp (10 + 3 * k) 4) < 65536) ∧ ∃ lq : Nat → List Nat, ∀ k, k < 6 → zs[k]? = some (.int (nI (lq k).length)) ∧ (lq k).length ≤ 6 ∧ (∀ (j q : Nat), (lq k)[j]? = some q → us[6 * k + j]? = some (.int (nI q)) ∧ q < 16) ∧ (∀ q, q ∈ lq k ↔ (z_nv (pa_fd hp (10 + 3 * k) 4)).testBit q = true) ∧ ∀ q, q ∈ lq k → q < 16 := by
  have e : ∀ k, k < 6 → ∃ N, N < 65536 ∧ pa_fd hp (10 + 3 * k) 4 = some (.int (nI N)) := fun k hk => by
    obtain ⟨N, l, c1, c2, -⟩ := (Q k hk).1
    exact ⟨N, c1, c2⟩
  refine ⟨fun k hk => ?_, ?_⟩
  · obtain ⟨N, c1, c2⟩ := e k hk
    rw [c2, z_nvE c1]
    exact ⟨rfl, c1⟩
  · have h : ∀ k, ∃ l : List Nat, k < 6 → zs[k]? = some (.int (nI l.length)) ∧ l.length ≤ 6 ∧ (∀ (j q : Nat), l[j]? = some q → us[6 * k + j]? = some (.int (nI q)) ∧ q < 16) ∧ (∀ q, q ∈ l ↔ (z_nv (pa_fd hp (10 + 3 * k) 4)).testBit q = true) ∧ ∀ q, q ∈ l → q < 16 := fun k => by
      by_cases hk : k < 6
      · obtain ⟨N, c1, c2⟩ := e k hk
        have Qk := (Q k hk).1
        rw [c2] at Qk
        obtain ⟨l, a3, a4, a5, a6, a7, a8⟩ := q_get c1 Qk
        refine ⟨l, fun _ => ⟨a3, a4, fun j q hq => ⟨a7 j q hq, a8 q (List.mem_of_getElem? hq)⟩, ?_, a8⟩⟩
        rw [c2, z_nvE c1]
        exact a6
      · exact ⟨[], fun z => absurd z hk⟩
    exact Classical.axiomOfChoice h
theorem p_Tot_o {vo uo : List Value} {n : Nat} {m : Int32} {DC : Nat → Nat → Prop} {p T : Nat} (q2 : ∀ c, c < n → uo[c]? = vo[c]?) (h : p_Tot uo n m DC p T) : p_Tot vo n m DC p T := by
  have e : ∀ S, p_b uo n m S = p_b vo n m S := fun S => by
    unfold p_b
    rw [x_sum_e q2 n (Nat.le_refl n)]
  obtain ⟨c, f, h1, rfl⟩ := h
  refine ⟨c, f, h1, ?_⟩
  apply p_su_c
  intro q hq
  apply p_su_c
  intro j hj
  exact e _
