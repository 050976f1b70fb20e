theorem q_zs {zs : List Value} {k : Nat} {v : Value} (h : zs[k]? = some v) : zs.set k v = zs := by
  apply List.ext_getElem?
  intro j
  by_cases e : k = j
  · subst e
    rw [List.getElem?_set_self (List.getElem?_eq_some_iff.mp h).1, h]
  · rw [List.getElem?_set_ne e]
theorem q_pc {n pc : Nat} {hp0 hp : px_H} {zs zsm us : List Value} {rx rm fcx pnm : Int32} (pc6 : pc ≤ 6) (h9 : hp[(9 : Nat)]? = some (13, q_forms)) (hz : hp[40 + n]? = some (10, zsm)) (hu : hp[41 + n]? = some (10, us)) (f7 : pa_fd hp 8 7 = some (.int fcx)) (f4 : pa_fd hp (38 + n) 4 = some (.int pnm)) (fo : ∀ j, j < 6 → pa_fd hp (10 + 3 * j) 4 = pa_fd hp0 (10 + 3 * j) 4) (Q : ∀ k, k < 6 → q_P zs us (pa_fd hp0 (10 + 3 * k) 4) k ∧ (pc ≤ k → zs[k]? = some (.int 0))) (cx : (6 ≤ nI pc ∧ rx = -1 ∧ fcx = nI pc) ∨ (¬ 6 ≤ nI pc ∧ rx = nI pc + 1 - 1 ∧ fcx = nI pc + 1)) (cm : (nI pc = 6 ∧ rm = -1 ∧ pnm = nI pc ∧ zsm = zs) ∨ (¬ nI pc = 6 ∧ rm = nI pc + 1 - 1 ∧ pnm = nI pc + 1 ∧ zsm = zs.set (nI pc).toNatClampNeg (.int 0))) : r_sq n hp := by
  have e6 : (6 : Int32).toInt = 6 := rfl
  have ep : (nI pc).toInt = pc := nI_toInt (by omega)
  by_cases h : pc = 6
  · subst h
    obtain ⟨-, -, rfl⟩ := cx.resolve_right (fun z => z.1 (by decide))
    obtain ⟨-, -, rfl, rfl⟩ := cm.resolve_right (fun z => z.1 (by decide))
    exact ⟨h9, _, _, 6, hz, hu, f7, f4, pc6, fun j hj => by rw [fo j hj]; exact Q j hj⟩
  · obtain ⟨-, -, rfl⟩ := cx.resolve_left (fun z => by have := z.1; rw [Int32.le_iff_toInt_le] at this; omega)
    obtain ⟨-, -, rfl, rfl⟩ := cm.resolve_left (fun z => by have := congrArg Int32.toInt z.1; omega)
    rw [q_s pc (by omega)] at f7 f4
    rw [nI_clamp (by omega), q_zs ((Q pc (by omega)).2 (Nat.le_refl pc))] at hz
    exact ⟨h9, _, _, pc + 1, hz, hu, f7, f4, by omega, fun j hj => by rw [fo j hj]; exact ⟨(Q j hj).1, fun c => (Q j hj).2 (by omega)⟩⟩
