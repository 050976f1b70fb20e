theorem m_and01 (x : Int64) : x &&& 1 = 0 ∨ x &&& 1 = 1 := by
  have e : (x &&& 1).toBitVec.toNat = x.toBitVec.toNat % 2 := by
    rw [Int64.toBitVec_and, BitVec.toNat_and]
    exact Nat.and_one_is_mod _
  rcases Nat.mod_two_eq_zero_or_one x.toBitVec.toNat with h | h
  · left
    apply Int64.toBitVec_inj.mp
    apply BitVec.eq_of_toNat_eq
    rw [e, h]
    rfl
  · right
    apply Int64.toBitVec_inj.mp
    apply BitVec.eq_of_toNat_eq
    rw [e, h]
    rfl
theorem m_and1 (x : Int64) : 0 ≤ (Int64.toInt32 (x &&& 1)).toInt ∧ (Int64.toInt32 (x &&& 1)).toInt ≤ 1 := by
  rcases m_and01 x with h | h <;> rw [h] <;> decide
theorem m_row0 {n : Nat} {p : Int} {hp : px_H} : m_row n p hp 0 := fun _ _ k hk => absurd hk (Nat.not_lt_zero k)
theorem m_zk0 {n : Nat} {hp : px_H} : m_zk n hp 0 := fun _ _ k hk => absurd hk (Nat.not_lt_zero k)
theorem m_row_c {n : Nat} {p : Int} {hp : px_H} {i j : Nat} (h : m_row n p hp i) (e : j = i) : m_row n p hp j := by rw [e]; exact h
theorem m_zk_c {n : Nat} {hp : px_H} {i j : Nat} (h : m_zk n hp i) (e : j = i) : m_zk n hp j := by rw [e]; exact h
def ck_75 : pa_K := ([pa_rf 24, pa_i 2 13], some (pa_i 0 1), false, [(24, 8), (29, 0), (30, 0), (31, 0), (32, 0)])
set_option maxRecDepth 20000 in
set_option maxHeartbeats 4000000 in
theorem m_equ_c {d n : Nat} {hp0 : px_H} {th w h pn pl fo le ru : Int32} {p q i : Int32} (hpr : m_pr p.toInt) (p1 : 2 ≤ p.toInt) (p2 : p.toInt ≤ 13) (i1 : 0 ≤ i.toInt) (i2 : i.toInt < pl.toInt) : ∀ (k : Nat) (c : Int32) hp (hm : hp[38 + n]? = some (4, m_O n th w h pn pl fo le ru)) (H : pa_Hi n hp) (F : pa_Fr n [(24, 8), (29, 0), (30, 0), (31, 0), (32, 0)] hp0 hp) (L : hp.length = hp0.length) (KQ : m_kq n p.toInt hp 36 37) (RJ : m_row n p.toInt hp c.toInt.toNat), c.toInt + k = 37 → 0 ≤ c.toInt → c.toInt ≤ 36 → (∀ hp (hm : hp[38 + n]? = some (4, m_O n th w h pn pl fo le ru)) (H : pa_Hi n hp) (F : pa_Fr n [(24, 8), (29, 0), (30, 0), (31, 0), (32, 0)] hp0 hp) (L : hp.length = hp0.length) (KQ : m_kq n p.toInt hp 36 37) (RJ : m_row n p.toInt hp 36), px_Gx (d + 5) 75 (81, [(3, .int i), (2, .int q), (0, .ref (38 + n)), (1, .int p)], [], hp) (fun o hp' => pa_Po n ck_75 hp0 o hp' ∧ m_kq n p.toInt hp' 36 37)) → px_Gx (d + 5) 75 (49, [(4, .int c), (3, .int i), (2, .int q), (0, .ref (38 + n)), (1, .int p)], [], hp) (fun o hp' => pa_Po n ck_75 hp0 o hp' ∧ m_kq n p.toInt hp' 36 37) := by
  have cl1 : Int32.toInt 1 = 1 := rfl
  have cl36 : Int32.toInt 36 = 36 := rfl
  intro k
  induction k with
  | zero =>
    intro c hp hm H F L KQ RJ g1 g2 g3 K
    omega
  | succ k ih =>
    intro c hp hm H F L KQ RJ g1 g2 g3 K
    obtain ⟨bth1, bth2, bw1, bw2, bh1, bh2, bpn1, bpn2, bpl1, bpl2, bfo1, bfo2, ble1, ble2, bru1, bru2⟩ := pa_bnd H hm
    refine px_gx (fun _ K => px_a 2 (f' := (53, [(4, .int c), (3, .int i), (2, .int q), (0, .ref (38 + n)), (1, .int p)], [.int 36, .int c], hp)) rfl K) ?_
    by_cases h211 : (36 : Int32) ≤ c
    · have h211' := h211
      rw [Int32.le_iff_toInt_le] at h211'
      refine px_gx (fun _ K => px_b2 true 81 rfl rfl (decide_eq_true h211) K) ?_
      show px_Gx _ _ (81, [(4, .int c), (3, .int i), (2, .int q), (0, .ref (38 + n)), (1, .int p)], [], hp) _
      refine px_wk [(3, .int i), (2, .int q), (0, .ref (38 + n)), (1, .int p)] ⟨rfl, rfl, rfl, rfl, trivial⟩ ?_
      exact K hp hm H F L KQ (m_row_c RJ (by omega))
    · have h211' := h211
      rw [Int32.le_iff_toInt_le] at h211'
      refine px_gx (fun _ K => px_b2 false 81 rfl rfl (decide_eq_false h211) K) ?_
      show px_Gx _ _ (56, [(4, .int c), (3, .int i), (2, .int q), (0, .ref (38 + n)), (1, .int p)], [], hp) _
      refine px_gx (fun _ K => px_a 1 (f' := (57, [(4, .int c), (3, .int i), (2, .int q), (0, .ref (38 + n)), (1, .int p)], [.ref (38 + n)], hp)) rfl K) ?_
      refine px_gx (fun _ K => px_gf (38 + n) 33 4 12 (.ref (46 + n)) rfl rfl hm rfl K) ?_
      show px_Gx _ _ (60, [(4, .int c), (3, .int i), (2, .int q), (0, .ref (38 + n)), (1, .int p)], [.ref (46 + n)], hp) _
      refine px_gx (fun _ K => px_a 2 (f' := (63, [(4, .int c), (3, .int i), (2, .int q), (0, .ref (38 + n)), (1, .int p)], [.ref (38 + n), .int c, .ref (46 + n)], hp)) rfl K) ?_
      refine px_gx (fun _ K => px_gf (38 + n) 23 4 9 (.ref (43 + n)) rfl rfl hm rfl K) ?_
      show px_Gx _ _ (66, [(4, .int c), (3, .int i), (2, .int q), (0, .ref (38 + n)), (1, .int p)], [.ref (43 + n), .int c, .ref (46 + n)], hp) _
      refine px_gx (fun _ K => px_a 1 (f' := (67, [(4, .int c), (3, .int i), (2, .int q), (0, .ref (38 + n)), (1, .int p)], [.int i, .ref (43 + n), .int c, .ref (46 + n)], hp)) rfl K) ?_
      obtain ⟨vs213, hv213, hl213, hg213⟩ := pa_arl (a := 43 + n) (i := 11) H (by omega) (by decide) (by decide) rfl
      have hi212 : i.toNatClampNeg < vs213.length := by show (Int32.toInt i).toNat < _; omega
      obtain ⟨z212, ez212⟩ := hg213 _ hi212
      refine px_gx (fun _ K => px_al (43 + n) (.long z212) rfl hv213 (Or.inr (Or.inl ⟨rfl, rfl⟩)) (i32_nn (by omega)) ez212 K) ?_
      show px_Gx _ _ (68, [(4, .int c), (3, .int i), (2, .int q), (0, .ref (38 + n)), (1, .int p)], [.long z212, .int c, .ref (46 + n)], hp) _
      refine px_gx (fun _ K => px_a 5 (f' := (74, [(4, .int c), (3, .int i), (2, .int q), (0, .ref (38 + n)), (1, .int p)], [.int (Int64.toInt32 ((z212 >>> (Int32.toInt64 c &&& 63)) &&& 1)), .int c, .ref (46 + n)], hp)) rfl K) ?_
      obtain ⟨z214, ez214, fz214⟩ : ∃ qz : Int32, qz = (Int64.toInt32 ((z212 >>> (Int32.toInt64 c &&& 63)) &&& 1)) ∧ 0 ≤ qz.toInt ∧ qz.toInt ≤ 1 := ⟨_, rfl, m_and1 _⟩
      rw [← ez214]
      obtain ⟨vs216, hv216, hl216, hg216⟩ := pa_ara (a := 46 + n) (i := 14) (lo := -2147483648) (hi := 2147483647) H (by omega) (by decide) (by decide) rfl
      have hi215 : c.toNatClampNeg < vs216.length := by show (Int32.toInt c).toNat < _; omega
      refine px_gx (fun _ K => px_ias (46 + n) rfl hv216 (by omega) (i32_nn (by omega)) hi215 K) ?_
      show px_Gx _ _ (75, [(4, .int c), (3, .int i), (2, .int q), (0, .ref (38 + n)), (1, .int p)], [], hp.set (46 + n) (10, vs216.set c.toNatClampNeg (.int z214))) _
      have hm215 : (hp.set (46 + n) (10, vs216.set c.toNatClampNeg (.int z214)))[38 + n]? = some (4, (m_O n th w h pn pl fo le ru)) := px_ne hm (by omega)
      have H215 : pa_Hi n (hp.set (46 + n) (10, vs216.set c.toNatClampNeg (.int z214))) := pa_aS (i := 14) H (by omega) (by decide) (by decide) hv216 rfl (pa_top_ok _)
      have F215 : pa_Fr n [(24, 8), (29, 0), (30, 0), (31, 0), (32, 0)] hp0 (hp.set (46 + n) (10, vs216.set c.toNatClampNeg (.int z214))) := F.trans (pa_aF (i := 14) (by omega) (by decide) (by decide) hv216 (by decide) (by decide))
      have L215 : (hp.set (46 + n) (10, vs216.set c.toNatClampNeg (.int z214))).length = hp0.length := List.length_set.trans L
      have R215 : m_row n p.toInt (hp.set (46 + n) (10, vs216.set c.toNatClampNeg (.int z214))) (c.toInt.toNat + 1) := by
        have e215j : c.toNatClampNeg = c.toInt.toNat := by show (Int32.toInt c).toNat = _; omega
        rw [e215j]; exact m_row_gr RJ hv216 (by omega) (by omega) (by omega)
      have K215 : m_kq n p.toInt (hp.set (46 + n) (10, vs216.set c.toNatClampNeg (.int z214))) 36 37 := m_kq_ne KQ (by omega) (by omega)
      have hv213_215 : (hp.set (46 + n) (10, vs216.set c.toNatClampNeg (.int z214)))[43 + n]? = some (11, vs213) := px_ne hv213 (by omega)
      generalize hp.set (46 + n) (10, vs216.set c.toNatClampNeg (.int z214)) = hp215 at hm215 H215 F215 L215 R215 K215 hv213_215 ⊢
      refine px_gx (fun _ K => px_a 1 (f' := (78, [(4, .int (c + 1)), (3, .int i), (2, .int q), (0, .ref (38 + n)), (1, .int p)], [], hp215)) rfl K) ?_
      obtain ⟨z217, ez217, fz217⟩ : ∃ qz : Int32, qz = c + 1 ∧ qz.toInt = Int32.toInt c + Int32.toInt 1 := ⟨_, rfl, i32_add (by omega) (by omega)⟩
      rw [← ez217]
      refine px_gx (fun _ K => px_a 1 (f' := (49, [(4, .int z217), (3, .int i), (2, .int q), (0, .ref (38 + n)), (1, .int p)], [], hp215)) rfl K) ?_
      exact ih z217 hp215 hm215 H215 F215 L215 K215 (m_row_c R215 (by omega)) (by omega) (by omega) (by omega) K
set_option maxRecDepth 20000 in
set_option maxHeartbeats 4000000 in
theorem m_equ_k {d n : Nat} {hp0 : px_H} {th w h pn pl fo le ru : Int32} {p q : Int32} (hpr : m_pr p.toInt) (p1 : 2 ≤ p.toInt) (p2 : p.toInt ≤ 13) : ∀ (k : Nat) (i : Int32) hp (hm : hp[38 + n]? = some (4, m_O n th w h pn pl fo le ru)) (H : pa_Hi n hp) (F : pa_Fr n [(24, 8), (29, 0), (30, 0), (31, 0), (32, 0)] hp0 hp) (L : hp.length = hp0.length) (KQ : m_kq n p.toInt hp 36 37), i.toInt + k = pl.toInt + 1 → 0 ≤ i.toInt → i.toInt ≤ pl.toInt → (∀ hp (hm : hp[38 + n]? = some (4, m_O n th w h pn pl fo le ru)) (H : pa_Hi n hp) (F : pa_Fr n [(24, 8), (29, 0), (30, 0), (31, 0), (32, 0)] hp0 hp) (L : hp.length = hp0.length) (KQ : m_kq n p.toInt hp 36 37), px_Gx (d + 5) 75 (101, [(2, .int q), (0, .ref (38 + n)), (1, .int p)], [], hp) (fun o hp' => pa_Po n ck_75 hp0 o hp' ∧ m_kq n p.toInt hp' 36 37)) → px_Gx (d + 5) 75 (38, [(3, .int i), (2, .int q), (0, .ref (38 + n)), (1, .int p)], [], hp) (fun o hp' => pa_Po n ck_75 hp0 o hp' ∧ m_kq n p.toInt hp' 36 37) := by
  have cl0 : Int32.toInt 0 = 0 := rfl
  have cl1 : Int32.toInt 1 = 1 := rfl
  have cl36 : Int32.toInt 36 = 36 := rfl
  intro k
  induction k with
  | zero =>
    intro i hp hm H F L KQ g1 g2 g3 K
    omega
  | succ k ih =>
    intro i hp hm H F L KQ g1 g2 g3 K
    obtain ⟨bth1, bth2, bw1, bw2, bh1, bh2, bpn1, bpn2, bpl1, bpl2, bfo1, bfo2, ble1, ble2, bru1, bru2⟩ := pa_bnd H hm
    refine px_gx (fun _ K => px_a 2 (f' := (40, [(3, .int i), (2, .int q), (0, .ref (38 + n)), (1, .int p)], [.ref (38 + n), .int i], hp)) rfl K) ?_
    refine px_gx (fun _ K => px_gf (38 + n) 80 4 8 (.int pl) rfl rfl hm rfl K) ?_
    show px_Gx _ _ (43, [(3, .int i), (2, .int q), (0, .ref (38 + n)), (1, .int p)], [.int pl, .int i], hp) _
    by_cases h218 : pl ≤ i
    · have h218' := h218
      rw [Int32.le_iff_toInt_le] at h218'
      refine px_gx (fun _ K => px_b2 true 101 rfl rfl (decide_eq_true h218) K) ?_
      show px_Gx _ _ (101, [(3, .int i), (2, .int q), (0, .ref (38 + n)), (1, .int p)], [], hp) _
      refine px_wk [(2, .int q), (0, .ref (38 + n)), (1, .int p)] ⟨rfl, rfl, rfl, trivial⟩ ?_
      exact K hp hm H F L KQ
    · have h218' := h218
      rw [Int32.le_iff_toInt_le] at h218'
      refine px_gx (fun _ K => px_b2 false 101 rfl rfl (decide_eq_false h218) K) ?_
      show px_Gx _ _ (46, [(3, .int i), (2, .int q), (0, .ref (38 + n)), (1, .int p)], [], hp) _
      refine px_gx (fun _ K => px_a 2 (f' := (49, [(4, .int 0), (3, .int i), (2, .int q), (0, .ref (38 + n)), (1, .int p)], [], hp)) rfl K) ?_
      refine m_equ_c hpr p1 p2 (by omega) (by omega) 37 0 hp hm H F L KQ (m_row_c m_row0 rfl) (by omega) (by omega) (by omega) (fun hp2 hm2 H2 F2 L2 K2 R2 => ?_)
      refine px_gx (fun _ K => px_a 1 (f' := (82, [(3, .int i), (2, .int q), (0, .ref (38 + n)), (1, .int p)], [.ref (38 + n)], hp2)) rfl K) ?_
      refine px_gx (fun _ K => px_gf (38 + n) 33 4 12 (.ref (46 + n)) rfl rfl hm2 rfl K) ?_
      show px_Gx _ _ (85, [(3, .int i), (2, .int q), (0, .ref (38 + n)), (1, .int p)], [.ref (46 + n)], hp2) _
      refine px_gx (fun _ K => px_a 2 (f' := (88, [(3, .int i), (2, .int q), (0, .ref (38 + n)), (1, .int p)], [.int 0, .int 36, .ref (46 + n)], hp2)) rfl K) ?_
      obtain ⟨vs220, hv220, hl220, hg220⟩ := pa_ara (a := 46 + n) (i := 14) (lo := -2147483648) (hi := 2147483647) H2 (by omega) (by decide) (by decide) rfl
      have hi219 : (36 : Int32).toNatClampNeg < vs220.length := by show (Int32.toInt 36).toNat < _; omega
      refine px_gx (fun _ K => px_ias (46 + n) rfl hv220 (by omega) (i32_nn (by omega)) hi219 K) ?_
      show px_Gx _ _ (89, [(3, .int i), (2, .int q), (0, .ref (38 + n)), (1, .int p)], [], hp2.set (46 + n) (10, vs220.set (36 : Int32).toNatClampNeg (.int 0))) _
      have hm219 : (hp2.set (46 + n) (10, vs220.set (36 : Int32).toNatClampNeg (.int 0)))[38 + n]? = some (4, (m_O n th w h pn pl fo le ru)) := px_ne hm2 (by omega)
      have H219 : pa_Hi n (hp2.set (46 + n) (10, vs220.set (36 : Int32).toNatClampNeg (.int 0))) := pa_aS (i := 14) H2 (by omega) (by decide) (by decide) hv220 rfl (pa_top_ok _)
      have F219 : pa_Fr n [(24, 8), (29, 0), (30, 0), (31, 0), (32, 0)] hp0 (hp2.set (46 + n) (10, vs220.set (36 : Int32).toNatClampNeg (.int 0))) := F2.trans (pa_aF (i := 14) (by omega) (by decide) (by decide) hv220 (by decide) (by decide))
      have L219 : (hp2.set (46 + n) (10, vs220.set (36 : Int32).toNatClampNeg (.int 0))).length = hp0.length := List.length_set.trans L2
      have R219 : m_row n p.toInt (hp2.set (46 + n) (10, vs220.set (36 : Int32).toNatClampNeg (.int 0))) (36 + 1) := by
        have e219j : (36 : Int32).toNatClampNeg = 36 := by show (Int32.toInt 36).toNat = _; omega
        rw [e219j]; exact m_row_gr R2 hv220 (by omega) (by omega) (by omega)
      have K219 : m_kq n p.toInt (hp2.set (46 + n) (10, vs220.set (36 : Int32).toNatClampNeg (.int 0))) 36 37 := m_kq_ne K2 (by omega) (by omega)
      generalize hp2.set (46 + n) (10, vs220.set (36 : Int32).toNatClampNeg (.int 0)) = hp219 at hm219 H219 F219 L219 R219 K219 ⊢
      refine px_gx (fun _ K => px_a 2 (f' := (91, [(3, .int i), (2, .int q), (0, .ref (38 + n)), (1, .int p)], [.int p, .ref (38 + n)], hp219)) rfl K) ?_
      have RR221 : m_row n p.toInt hp219 37 := m_row_c R219 (by omega)
      obtain ⟨o221, hp221, g221, ⟨H221, G221, E221⟩, K221⟩ := m_keep (d := d + 3) (p := p) hpr hm219 H219 RR221 K219
      rcases E221 with ⟨v221, rfl, hv221, hl221⟩ | ⟨ht221, -⟩
      rotate_left
      · exact absurd ht221 (by decide)
      obtain ⟨z221, rfl, lz221, uz221⟩ := pa_gri (lo := 0) (hi := 1) hv221
      refine px_gx (fun _ K => px_cv (38 + n) (as := [.int p]) (rest := []) rfl rfl hm219 rfl rfl rfl rfl (Nat.le_of_ble_eq_true rfl) g221 K) ?_
      show px_Gx _ _ (94, [(3, .int i), (2, .int q), (0, .ref (38 + n)), (1, .int p)], [.int z221], hp221) _
      have F221 : pa_Fr n [(24, 8), (29, 0), (30, 0), (31, 0), (32, 0)] hp0 hp221 := F219.trans (G221.mono (by decide))
      have L221 : hp221.length = hp0.length := hl221.trans L219
      obtain ⟨th221, w221, h221, pn221, pl221, fo221, le221, ru221, hm221, -, -, -, -, -, -, -, -, -, -, -, -, -, -, -, -⟩ := pa_mod H221
      obtain rfl : th = th221 := (pa_fk (k := 0) G221 hm219 hm221 (by decide) rfl rfl).symm
      obtain rfl : w = w221 := (pa_fk (k := 1) G221 hm219 hm221 (by decide) rfl rfl).symm
      obtain rfl : h = h221 := (pa_fk (k := 2) G221 hm219 hm221 (by decide) rfl rfl).symm
      obtain rfl : pn = pn221 := (pa_fk (k := 4) G221 hm219 hm221 (by decide) rfl rfl).symm
      obtain rfl : pl = pl221 := (pa_fk (k := 8) G221 hm219 hm221 (by decide) rfl rfl).symm
      obtain rfl : fo = fo221 := (pa_fk (k := 13) G221 hm219 hm221 (by decide) rfl rfl).symm
      obtain rfl : le = le221 := (pa_fk (k := 15) G221 hm219 hm221 (by decide) rfl rfl).symm
      obtain rfl : ru = ru221 := (pa_fk (k := 17) G221 hm219 hm221 (by decide) rfl rfl).symm
      change hp221[38 + n]? = some (4, (m_O n th w h pn pl fo le ru)) at hm221
      obtain ⟨lth221, uth221, lw221, uw221, lh221, uh221, lpn221, upn221, lpl221, upl221, lfo221, ufo221, lle221, ule221, lru221, uru221⟩ := pa_bnd H221 hm221
      refine px_gx (fun _ K => px_a 2 (f' := (98, [(3, .int (i + 1)), (2, .int q), (0, .ref (38 + n)), (1, .int p)], [], hp221)) rfl K) ?_
      obtain ⟨z222, ez222, fz222⟩ : ∃ qz : Int32, qz = i + 1 ∧ qz.toInt = Int32.toInt i + Int32.toInt 1 := ⟨_, rfl, i32_add (by omega) (by omega)⟩
      rw [← ez222]
      refine px_gx (fun _ K => px_a 1 (f' := (38, [(3, .int z222), (2, .int q), (0, .ref (38 + n)), (1, .int p)], [], hp221)) rfl K) ?_
      exact ih z222 hp221 hm221 H221 F221 L221 K221 (by omega) (by omega) (by omega) K
set_option maxRecDepth 20000 in
set_option maxHeartbeats 4000000 in
theorem m_equ_z {d n : Nat} {hp0 : px_H} {th w h pn pl fo le ru : Int32} {p : Int32} (hpr : m_pr p.toInt) (p1 : 2 ≤ p.toInt) (p2 : p.toInt ≤ 13) : ∀ (k : Nat) (c : Int32) hp (hm : hp[38 + n]? = some (4, m_O n th w h pn pl fo le ru)) (H : pa_Hi n hp) (F : pa_Fr n [(24, 8), (29, 0), (30, 0), (31, 0), (32, 0)] hp0 hp) (L : hp.length = hp0.length) (KQ : m_kq n p.toInt hp 36 37) (RJ : m_row n p.toInt hp c.toInt.toNat), c.toInt + k = 37 → 0 ≤ c.toInt → c.toInt ≤ 36 → px_Gx (d + 5) 75 (109, [(2, .int c), (0, .ref (38 + n)), (1, .int p)], [], hp) (fun o hp' => pa_Po n ck_75 hp0 o hp' ∧ m_kq n p.toInt hp' 36 37) := by
  have cl0 : Int32.toInt 0 = 0 := rfl
  have cl1 : Int32.toInt 1 = 1 := rfl
  have cl36 : Int32.toInt 36 = 36 := rfl
  intro k
  induction k with
  | zero =>
    intro c hp hm H F L KQ RJ g1 g2 g3
    omega
  | succ k ih =>
    intro c hp hm H F L KQ RJ g1 g2 g3
    obtain ⟨bth1, bth2, bw1, bw2, bh1, bh2, bpn1, bpn2, bpl1, bpl2, bfo1, bfo2, ble1, ble2, bru1, bru2⟩ := pa_bnd H hm
    refine px_gx (fun _ K => px_a 2 (f' := (112, [(2, .int c), (0, .ref (38 + n)), (1, .int p)], [.int 36, .int c], hp)) rfl K) ?_
    by_cases h223 : (36 : Int32) ≤ c
    · have h223' := h223
      rw [Int32.le_iff_toInt_le] at h223'
      refine px_gx (fun _ K => px_b2 true 149 rfl rfl (decide_eq_true h223) K) ?_
      show px_Gx _ _ (149, [(2, .int c), (0, .ref (38 + n)), (1, .int p)], [], hp) _
      have RR : m_row n p.toInt hp 36 := m_row_c RJ (by omega)
      refine px_gx (fun _ K => px_a 1 (f' := (150, [(2, .int c), (0, .ref (38 + n)), (1, .int p)], [.ref (38 + n)], hp)) rfl K) ?_
      refine px_gx (fun _ K => px_gf (38 + n) 33 4 12 (.ref (46 + n)) rfl rfl hm rfl K) ?_
      show px_Gx _ _ (153, [(2, .int c), (0, .ref (38 + n)), (1, .int p)], [.ref (46 + n)], hp) _
      refine px_gx (fun _ K => px_a 2 (f' := (156, [(2, .int c), (0, .ref (38 + n)), (1, .int p)], [.int 1, .int 36, .ref (46 + n)], hp)) rfl K) ?_
      obtain ⟨vs225, hv225, hl225, hg225⟩ := pa_ara (a := 46 + n) (i := 14) (lo := -2147483648) (hi := 2147483647) H (by omega) (by decide) (by decide) rfl
      have hi224 : (36 : Int32).toNatClampNeg < vs225.length := by show (Int32.toInt 36).toNat < _; omega
      refine px_gx (fun _ K => px_ias (46 + n) rfl hv225 (by omega) (i32_nn (by omega)) hi224 K) ?_
      show px_Gx _ _ (157, [(2, .int c), (0, .ref (38 + n)), (1, .int p)], [], hp.set (46 + n) (10, vs225.set (36 : Int32).toNatClampNeg (.int 1))) _
      have hm224 : (hp.set (46 + n) (10, vs225.set (36 : Int32).toNatClampNeg (.int 1)))[38 + n]? = some (4, (m_O n th w h pn pl fo le ru)) := px_ne hm (by omega)
      have H224 : pa_Hi n (hp.set (46 + n) (10, vs225.set (36 : Int32).toNatClampNeg (.int 1))) := pa_aS (i := 14) H (by omega) (by decide) (by decide) hv225 rfl (pa_top_ok _)
      have F224 : pa_Fr n [(24, 8), (29, 0), (30, 0), (31, 0), (32, 0)] hp0 (hp.set (46 + n) (10, vs225.set (36 : Int32).toNatClampNeg (.int 1))) := F.trans (pa_aF (i := 14) (by omega) (by decide) (by decide) hv225 (by decide) (by decide))
      have L224 : (hp.set (46 + n) (10, vs225.set (36 : Int32).toNatClampNeg (.int 1))).length = hp0.length := List.length_set.trans L
      have R224 : m_row n p.toInt (hp.set (46 + n) (10, vs225.set (36 : Int32).toNatClampNeg (.int 1))) (36 + 1) := by
        have e224j : (36 : Int32).toNatClampNeg = 36 := by show (Int32.toInt 36).toNat = _; omega
        rw [e224j]; exact m_row_gr RR hv225 (by omega) (by omega) (by omega)
      have K224 : m_kq n p.toInt (hp.set (46 + n) (10, vs225.set (36 : Int32).toNatClampNeg (.int 1))) 36 37 := m_kq_ne KQ (by omega) (by omega)
      generalize hp.set (46 + n) (10, vs225.set (36 : Int32).toNatClampNeg (.int 1)) = hp224 at hm224 H224 F224 L224 R224 K224 ⊢
      refine px_gx (fun _ K => px_a 2 (f' := (159, [(2, .int c), (0, .ref (38 + n)), (1, .int p)], [.int p, .ref (38 + n)], hp224)) rfl K) ?_
      have RR226 : m_row n p.toInt hp224 37 := m_row_c R224 (by omega)
      obtain ⟨o226, hp226, g226, ⟨H226, G226, E226⟩, K226⟩ := m_keep (d := d + 3) (p := p) hpr hm224 H224 RR226 K224
      rcases E226 with ⟨v226, rfl, hv226, hl226⟩ | ⟨ht226, -⟩
      rotate_left
      · exact absurd ht226 (by decide)
      obtain ⟨z226, rfl, lz226, uz226⟩ := pa_gri (lo := 0) (hi := 1) hv226
      refine px_gx (fun _ K => px_cv (38 + n) (as := [.int p]) (rest := []) rfl rfl hm224 rfl rfl rfl rfl (Nat.le_of_ble_eq_true rfl) g226 K) ?_
      show px_Gx _ _ (162, [(2, .int c), (0, .ref (38 + n)), (1, .int p)], [.int z226], hp226) _
      have F226 : pa_Fr n [(24, 8), (29, 0), (30, 0), (31, 0), (32, 0)] hp0 hp226 := F224.trans (G226.mono (by decide))
      have L226 : hp226.length = hp0.length := hl226.trans L224
      obtain ⟨th226, w226, h226, pn226, pl226, fo226, le226, ru226, hm226, -, -, -, -, -, -, -, -, -, -, -, -, -, -, -, -⟩ := pa_mod H226
      obtain rfl : th = th226 := (pa_fk (k := 0) G226 hm224 hm226 (by decide) rfl rfl).symm
      obtain rfl : w = w226 := (pa_fk (k := 1) G226 hm224 hm226 (by decide) rfl rfl).symm
      obtain rfl : h = h226 := (pa_fk (k := 2) G226 hm224 hm226 (by decide) rfl rfl).symm
      obtain rfl : pn = pn226 := (pa_fk (k := 4) G226 hm224 hm226 (by decide) rfl rfl).symm
      obtain rfl : pl = pl226 := (pa_fk (k := 8) G226 hm224 hm226 (by decide) rfl rfl).symm
      obtain rfl : fo = fo226 := (pa_fk (k := 13) G226 hm224 hm226 (by decide) rfl rfl).symm
      obtain rfl : le = le226 := (pa_fk (k := 15) G226 hm224 hm226 (by decide) rfl rfl).symm
      obtain rfl : ru = ru226 := (pa_fk (k := 17) G226 hm224 hm226 (by decide) rfl rfl).symm
      change hp226[38 + n]? = some (4, (m_O n th w h pn pl fo le ru)) at hm226
      obtain ⟨lth226, uth226, lw226, uw226, lh226, uh226, lpn226, upn226, lpl226, upl226, lfo226, ufo226, lle226, ule226, lru226, uru226⟩ := pa_bnd H226 hm226
      exact ⟨_, _, px_ri rfl rfl (pa_nb (by omega) (by omega)), ⟨H226, F226, Or.inl ⟨_, rfl, pa_in (by omega) (by omega), L226⟩⟩, K226⟩
    · have h223' := h223
      rw [Int32.le_iff_toInt_le] at h223'
      refine px_gx (fun _ K => px_b2 false 149 rfl rfl (decide_eq_false h223) K) ?_
      show px_Gx _ _ (115, [(2, .int c), (0, .ref (38 + n)), (1, .int p)], [], hp) _
      refine px_gx (fun _ K => px_a 1 (f' := (116, [(2, .int c), (0, .ref (38 + n)), (1, .int p)], [.ref (38 + n)], hp)) rfl K) ?_
      refine px_gx (fun _ K => px_gf (38 + n) 33 4 12 (.ref (46 + n)) rfl rfl hm rfl K) ?_
      show px_Gx _ _ (119, [(2, .int c), (0, .ref (38 + n)), (1, .int p)], [.ref (46 + n)], hp) _
      refine px_gx (fun _ K => px_a 3 (f' := (122, [(2, .int c), (0, .ref (38 + n)), (1, .int p)], [.ref (38 + n), .int c, .int c, .ref (46 + n)], hp)) rfl K) ?_
      refine px_gx (fun _ K => px_cv (38 + n) (as := []) (rest := [.int c, .int c, .ref (46 + n)]) rfl rfl hm rfl rfl rfl rfl (Nat.le_of_ble_eq_true rfl) (p_cells hm) K) ?_
      show px_Gx _ _ (125, [(2, .int c), (0, .ref (38 + n)), (1, .int p)], [.int (w * h), .int c, .int c, .ref (46 + n)], hp) _
      obtain ⟨z227, ez227, fz227⟩ : ∃ qz : Int32, qz = w * h ∧ qz.toInt = w.toInt * h.toInt ∧ 1 ≤ qz.toInt ∧ qz.toInt ≤ 36 := ⟨_, rfl, m_mul6 (by omega) (by omega) (by omega) (by omega)⟩
      rw [← ez227]
      by_cases h228 : z227 ≤ c
      · have h228' := h228
        rw [Int32.le_iff_toInt_le] at h228'
        refine px_gx (fun _ K => px_b2 true 141 rfl rfl (decide_eq_true h228) K) ?_
        show px_Gx _ _ (141, [(2, .int c), (0, .ref (38 + n)), (1, .int p)], [.int c, .ref (46 + n)], hp) _
        refine px_gx (fun _ K => px_a 1 (f' := (142, [(2, .int c), (0, .ref (38 + n)), (1, .int p)], [.int 0, .int c, .ref (46 + n)], hp)) rfl K) ?_
        obtain ⟨vs230, hv230, hl230, hg230⟩ := pa_ara (a := 46 + n) (i := 14) (lo := -2147483648) (hi := 2147483647) H (by omega) (by decide) (by decide) rfl
        have hi229 : c.toNatClampNeg < vs230.length := by show (Int32.toInt c).toNat < _; omega
        refine px_gx (fun _ K => px_ias (46 + n) rfl hv230 (by omega) (i32_nn (by omega)) hi229 K) ?_
        show px_Gx _ _ (143, [(2, .int c), (0, .ref (38 + n)), (1, .int p)], [], hp.set (46 + n) (10, vs230.set c.toNatClampNeg (.int 0))) _
        have hm229 : (hp.set (46 + n) (10, vs230.set c.toNatClampNeg (.int 0)))[38 + n]? = some (4, (m_O n th w h pn pl fo le ru)) := px_ne hm (by omega)
        have H229 : pa_Hi n (hp.set (46 + n) (10, vs230.set c.toNatClampNeg (.int 0))) := pa_aS (i := 14) H (by omega) (by decide) (by decide) hv230 rfl (pa_top_ok _)
        have F229 : pa_Fr n [(24, 8), (29, 0), (30, 0), (31, 0), (32, 0)] hp0 (hp.set (46 + n) (10, vs230.set c.toNatClampNeg (.int 0))) := F.trans (pa_aF (i := 14) (by omega) (by decide) (by decide) hv230 (by decide) (by decide))
        have L229 : (hp.set (46 + n) (10, vs230.set c.toNatClampNeg (.int 0))).length = hp0.length := List.length_set.trans L
        have R229 : m_row n p.toInt (hp.set (46 + n) (10, vs230.set c.toNatClampNeg (.int 0))) (c.toInt.toNat + 1) := by
          have e229j : c.toNatClampNeg = c.toInt.toNat := by show (Int32.toInt c).toNat = _; omega
          rw [e229j]; exact m_row_gr RJ hv230 (by omega) (by omega) (by omega)
        have K229 : m_kq n p.toInt (hp.set (46 + n) (10, vs230.set c.toNatClampNeg (.int 0))) 36 37 := m_kq_ne KQ (by omega) (by omega)
        generalize hp.set (46 + n) (10, vs230.set c.toNatClampNeg (.int 0)) = hp229 at hm229 H229 F229 L229 R229 K229 ⊢
        refine px_gx (fun _ K => px_a 1 (f' := (146, [(2, .int (c + 1)), (0, .ref (38 + n)), (1, .int p)], [], hp229)) rfl K) ?_
        obtain ⟨z231, ez231, fz231⟩ : ∃ qz : Int32, qz = c + 1 ∧ qz.toInt = Int32.toInt c + Int32.toInt 1 := ⟨_, rfl, i32_add (by omega) (by omega)⟩
        rw [← ez231]
        refine px_gx (fun _ K => px_a 1 (f' := (109, [(2, .int z231), (0, .ref (38 + n)), (1, .int p)], [], hp229)) rfl K) ?_
        exact ih z231 hp229 hm229 H229 F229 L229 K229 (m_row_c R229 (by omega)) (by omega) (by omega) (by omega)
      · have h228' := h228
        rw [Int32.le_iff_toInt_le] at h228'
        refine px_gx (fun _ K => px_b2 false 141 rfl rfl (decide_eq_false h228) K) ?_
        show px_Gx _ _ (128, [(2, .int c), (0, .ref (38 + n)), (1, .int p)], [.int c, .ref (46 + n)], hp) _
        refine px_gx (fun _ K => px_a 1 (f' := (129, [(2, .int c), (0, .ref (38 + n)), (1, .int p)], [.ref (38 + n), .int c, .ref (46 + n)], hp)) rfl K) ?_
        refine px_gx (fun _ K => px_gf (38 + n) 7 4 3 (.ref (39 + n)) rfl rfl hm rfl K) ?_
        show px_Gx _ _ (132, [(2, .int c), (0, .ref (38 + n)), (1, .int p)], [.ref (39 + n), .int c, .ref (46 + n)], hp) _
        refine px_gx (fun _ K => px_a 1 (f' := (133, [(2, .int c), (0, .ref (38 + n)), (1, .int p)], [.int c, .ref (39 + n), .int c, .ref (46 + n)], hp)) rfl K) ?_
        obtain ⟨vs233, hv233, hl233, hg233⟩ := pa_ara (a := 39 + n) (i := 7) (lo := 0) (hi := 1) H (by omega) (by decide) (by decide) rfl
        have hi232 : c.toNatClampNeg < vs233.length := by show (Int32.toInt c).toNat < _; omega
        obtain ⟨z232, ez232, lz232, uz232⟩ := hg233 _ hi232
        refine px_gx (fun _ K => px_al (39 + n) (.int z232) rfl hv233 (Or.inr (Or.inr (Or.inl ⟨rfl, rfl⟩))) (i32_nn (by omega)) ez232 K) ?_
        show px_Gx _ _ (134, [(2, .int c), (0, .ref (38 + n)), (1, .int p)], [.int z232, .int c, .ref (46 + n)], hp) _
        by_cases h234 : z232 = 0
        · have h234' := h234
          replace h234' := congrArg Int32.toInt h234
          refine px_gx (fun _ K => px_b1 true 141 rfl rfl (decide_eq_true h234) K) ?_
          show px_Gx _ _ (141, [(2, .int c), (0, .ref (38 + n)), (1, .int p)], [.int c, .ref (46 + n)], hp) _
          refine px_gx (fun _ K => px_a 1 (f' := (142, [(2, .int c), (0, .ref (38 + n)), (1, .int p)], [.int 0, .int c, .ref (46 + n)], hp)) rfl K) ?_
          obtain ⟨vs236, hv236, hl236, hg236⟩ := pa_ara (a := 46 + n) (i := 14) (lo := -2147483648) (hi := 2147483647) H (by omega) (by decide) (by decide) rfl
          have hi235 : c.toNatClampNeg < vs236.length := by show (Int32.toInt c).toNat < _; omega
          refine px_gx (fun _ K => px_ias (46 + n) rfl hv236 (by omega) (i32_nn (by omega)) hi235 K) ?_
          show px_Gx _ _ (143, [(2, .int c), (0, .ref (38 + n)), (1, .int p)], [], hp.set (46 + n) (10, vs236.set c.toNatClampNeg (.int 0))) _
          have hm235 : (hp.set (46 + n) (10, vs236.set c.toNatClampNeg (.int 0)))[38 + n]? = some (4, (m_O n th w h pn pl fo le ru)) := px_ne hm (by omega)
          have H235 : pa_Hi n (hp.set (46 + n) (10, vs236.set c.toNatClampNeg (.int 0))) := pa_aS (i := 14) H (by omega) (by decide) (by decide) hv236 rfl (pa_top_ok _)
          have F235 : pa_Fr n [(24, 8), (29, 0), (30, 0), (31, 0), (32, 0)] hp0 (hp.set (46 + n) (10, vs236.set c.toNatClampNeg (.int 0))) := F.trans (pa_aF (i := 14) (by omega) (by decide) (by decide) hv236 (by decide) (by decide))
          have L235 : (hp.set (46 + n) (10, vs236.set c.toNatClampNeg (.int 0))).length = hp0.length := List.length_set.trans L
          have R235 : m_row n p.toInt (hp.set (46 + n) (10, vs236.set c.toNatClampNeg (.int 0))) (c.toInt.toNat + 1) := by
            have e235j : c.toNatClampNeg = c.toInt.toNat := by show (Int32.toInt c).toNat = _; omega
            rw [e235j]; exact m_row_gr RJ hv236 (by omega) (by omega) (by omega)
          have K235 : m_kq n p.toInt (hp.set (46 + n) (10, vs236.set c.toNatClampNeg (.int 0))) 36 37 := m_kq_ne KQ (by omega) (by omega)
          have hv233_235 : (hp.set (46 + n) (10, vs236.set c.toNatClampNeg (.int 0)))[39 + n]? = some (12, vs233) := px_ne hv233 (by omega)
          generalize hp.set (46 + n) (10, vs236.set c.toNatClampNeg (.int 0)) = hp235 at hm235 H235 F235 L235 R235 K235 hv233_235 ⊢
          refine px_gx (fun _ K => px_a 1 (f' := (146, [(2, .int (c + 1)), (0, .ref (38 + n)), (1, .int p)], [], hp235)) rfl K) ?_
          obtain ⟨z237, ez237, fz237⟩ : ∃ qz : Int32, qz = c + 1 ∧ qz.toInt = Int32.toInt c + Int32.toInt 1 := ⟨_, rfl, i32_add (by omega) (by omega)⟩
          rw [← ez237]
          refine px_gx (fun _ K => px_a 1 (f' := (109, [(2, .int z237), (0, .ref (38 + n)), (1, .int p)], [], hp235)) rfl K) ?_
          exact ih z237 hp235 hm235 H235 F235 L235 K235 (m_row_c R235 (by omega)) (by omega) (by omega) (by omega)
        · have h234' := h234
          have h234'' : Int32.toInt z232 ≠ Int32.toInt 0 := fun z => h234 (Int32.toInt_inj.mp z)
          refine px_gx (fun _ K => px_b1 false 141 rfl rfl (decide_eq_false h234) K) ?_
          show px_Gx _ _ (137, [(2, .int c), (0, .ref (38 + n)), (1, .int p)], [.int c, .ref (46 + n)], hp) _
          refine px_gx (fun _ K => px_a 2 (f' := (142, [(2, .int c), (0, .ref (38 + n)), (1, .int p)], [.int 1, .int c, .ref (46 + n)], hp)) rfl K) ?_
          obtain ⟨vs239, hv239, hl239, hg239⟩ := pa_ara (a := 46 + n) (i := 14) (lo := -2147483648) (hi := 2147483647) H (by omega) (by decide) (by decide) rfl
          have hi238 : c.toNatClampNeg < vs239.length := by show (Int32.toInt c).toNat < _; omega
          refine px_gx (fun _ K => px_ias (46 + n) rfl hv239 (by omega) (i32_nn (by omega)) hi238 K) ?_
          show px_Gx _ _ (143, [(2, .int c), (0, .ref (38 + n)), (1, .int p)], [], hp.set (46 + n) (10, vs239.set c.toNatClampNeg (.int 1))) _
          have hm238 : (hp.set (46 + n) (10, vs239.set c.toNatClampNeg (.int 1)))[38 + n]? = some (4, (m_O n th w h pn pl fo le ru)) := px_ne hm (by omega)
          have H238 : pa_Hi n (hp.set (46 + n) (10, vs239.set c.toNatClampNeg (.int 1))) := pa_aS (i := 14) H (by omega) (by decide) (by decide) hv239 rfl (pa_top_ok _)
          have F238 : pa_Fr n [(24, 8), (29, 0), (30, 0), (31, 0), (32, 0)] hp0 (hp.set (46 + n) (10, vs239.set c.toNatClampNeg (.int 1))) := F.trans (pa_aF (i := 14) (by omega) (by decide) (by decide) hv239 (by decide) (by decide))
          have L238 : (hp.set (46 + n) (10, vs239.set c.toNatClampNeg (.int 1))).length = hp0.length := List.length_set.trans L
          have R238 : m_row n p.toInt (hp.set (46 + n) (10, vs239.set c.toNatClampNeg (.int 1))) (c.toInt.toNat + 1) := by
            have e238j : c.toNatClampNeg = c.toInt.toNat := by show (Int32.toInt c).toNat = _; omega
            rw [e238j]; exact m_row_gr RJ hv239 (by omega) (by omega) (by omega)
          have K238 : m_kq n p.toInt (hp.set (46 + n) (10, vs239.set c.toNatClampNeg (.int 1))) 36 37 := m_kq_ne KQ (by omega) (by omega)
          have hv233_238 : (hp.set (46 + n) (10, vs239.set c.toNatClampNeg (.int 1)))[39 + n]? = some (12, vs233) := px_ne hv233 (by omega)
          generalize hp.set (46 + n) (10, vs239.set c.toNatClampNeg (.int 1)) = hp238 at hm238 H238 F238 L238 R238 K238 hv233_238 ⊢
          refine px_gx (fun _ K => px_a 1 (f' := (146, [(2, .int (c + 1)), (0, .ref (38 + n)), (1, .int p)], [], hp238)) rfl K) ?_
          obtain ⟨z240, ez240, fz240⟩ : ∃ qz : Int32, qz = c + 1 ∧ qz.toInt = Int32.toInt c + Int32.toInt 1 := ⟨_, rfl, i32_add (by omega) (by omega)⟩
          rw [← ez240]
          refine px_gx (fun _ K => px_a 1 (f' := (109, [(2, .int z240), (0, .ref (38 + n)), (1, .int p)], [], hp238)) rfl K) ?_
          exact ih z240 hp238 hm238 H238 F238 L238 K238 (m_row_c R238 (by omega)) (by omega) (by omega) (by omega)
set_option maxRecDepth 20000 in
set_option maxHeartbeats 4000000 in
theorem m_equ_p {d n : Nat} (hN : pa_N n) {hp0 : px_H} {th w h pn fo le ru : Int32} {p : Int32} (hpr : m_pr p.toInt) (p1 : 2 ≤ p.toInt) (p2 : p.toInt ≤ 13) : ∀ (k : Nat) (q : Int32) hp pl (hm : hp[38 + n]? = some (4, m_O n th w h pn pl fo le ru)) (H : pa_Hi n hp) (F : pa_Fr n [(24, 8), (29, 0), (30, 0), (31, 0), (32, 0)] hp0 hp) (L : hp.length = hp0.length) (KQ : m_kq n p.toInt hp 36 37), q.toInt + k = pn.toInt + 1 → 0 ≤ q.toInt → q.toInt ≤ pn.toInt → px_Gx (d + 5) 75 (23, [(2, .int q), (0, .ref (38 + n)), (1, .int p)], [], hp) (fun o hp' => pa_Po n ck_75 hp0 o hp' ∧ m_kq n p.toInt hp' 36 37) := by
  have cl0 : Int32.toInt 0 = 0 := rfl
  have cl1 : Int32.toInt 1 = 1 := rfl
  intro k
  induction k with
  | zero =>
    intro q hp pl hm H F L KQ g1 g2 g3
    omega
  | succ k ih =>
    intro q hp pl hm H F L KQ g1 g2 g3
    obtain ⟨bth1, bth2, bw1, bw2, bh1, bh2, bpn1, bpn2, bpl1, bpl2, bfo1, bfo2, ble1, ble2, bru1, bru2⟩ := pa_bnd H hm
    refine px_gx (fun _ K => px_a 2 (f' := (25, [(2, .int q), (0, .ref (38 + n)), (1, .int p)], [.ref (38 + n), .int q], hp)) rfl K) ?_
    refine px_gx (fun _ K => px_gf (38 + n) 61 4 4 (.int pn) rfl rfl hm rfl K) ?_
    show px_Gx _ _ (28, [(2, .int q), (0, .ref (38 + n)), (1, .int p)], [.int pn, .int q], hp) _
    by_cases h241 : pn ≤ q
    · have h241' := h241
      rw [Int32.le_iff_toInt_le] at h241'
      refine px_gx (fun _ K => px_b2 true 107 rfl rfl (decide_eq_true h241) K) ?_
      show px_Gx _ _ (107, [(2, .int q), (0, .ref (38 + n)), (1, .int p)], [], hp) _
      refine px_gx (fun _ K => px_a 2 (f' := (109, [(2, .int 0), (0, .ref (38 + n)), (1, .int p)], [], hp)) rfl K) ?_
      exact m_equ_z hpr p1 p2 37 0 hp hm H F L KQ (m_row_c m_row0 rfl) (by omega) (by omega) (by omega)
    · have h241' := h241
      rw [Int32.le_iff_toInt_le] at h241'
      refine px_gx (fun _ K => px_b2 false 107 rfl rfl (decide_eq_false h241) K) ?_
      show px_Gx _ _ (31, [(2, .int q), (0, .ref (38 + n)), (1, .int p)], [], hp) _
      refine px_gx (fun _ K => px_a 2 (f' := (33, [(2, .int q), (0, .ref (38 + n)), (1, .int p)], [.int q, .ref (38 + n)], hp)) rfl K) ?_
      obtain ⟨o242, hp242, g242, ⟨H242, G242, E242⟩, A242⟩ := (ct_85 hN).deep (d' := d + 4) (by omega) [.ref (38 + n), .int q] hp H ⟨pa_r24, pa_in (by omega) (by omega), trivial⟩
      rcases E242 with ⟨v242, rfl, hv242, hl242⟩ | ⟨ht242, -⟩
      rotate_left
      · exact absurd ht242 (by decide)
      obtain rfl : v242 = none := pa_gr0 hv242
      refine px_gx (fun _ K => px_cv (38 + n) (as := [.int q]) (rest := []) rfl rfl hm rfl rfl rfl rfl (Nat.le_of_ble_eq_true rfl) g242 K) ?_
      show px_Gx _ _ (36, [(2, .int q), (0, .ref (38 + n)), (1, .int p)], [], hp242) _
      have F242 : pa_Fr n [(24, 8), (29, 0), (30, 0), (31, 0), (32, 0)] hp0 hp242 := F.trans (G242.mono (by decide))
      have L242 : hp242.length = hp0.length := hl242.trans L
      obtain ⟨th242, w242, h242, pn242, pl242, fo242, le242, ru242, hm242, -, -, -, -, -, -, -, -, -, -, -, -, -, -, -, -⟩ := pa_mod H242
      obtain rfl : th = th242 := (pa_fk (k := 0) G242 hm hm242 (by decide) rfl rfl).symm
      obtain rfl : w = w242 := (pa_fk (k := 1) G242 hm hm242 (by decide) rfl rfl).symm
      obtain rfl : h = h242 := (pa_fk (k := 2) G242 hm hm242 (by decide) rfl rfl).symm
      obtain rfl : pn = pn242 := (pa_fk (k := 4) G242 hm hm242 (by decide) rfl rfl).symm
      obtain rfl : fo = fo242 := (pa_fk (k := 13) G242 hm hm242 (by decide) rfl rfl).symm
      obtain rfl : le = le242 := (pa_fk (k := 15) G242 hm hm242 (by decide) rfl rfl).symm
      obtain rfl : ru = ru242 := (pa_fk (k := 17) G242 hm hm242 (by decide) rfl rfl).symm
      change hp242[38 + n]? = some (4, (m_O n th w h pn pl242 fo le ru)) at hm242
      obtain ⟨lth242, uth242, lw242, uw242, lh242, uh242, lpn242, upn242, lpl242, upl242, lfo242, ufo242, lle242, ule242, lru242, uru242⟩ := pa_bnd H242 hm242
      have K242 := m_kq_fr H G242 (by decide) (by decide) KQ
      refine px_gx (fun _ K => px_a 2 (f' := (38, [(3, .int 0), (2, .int q), (0, .ref (38 + n)), (1, .int p)], [], hp242)) rfl K) ?_
      refine m_equ_k hpr p1 p2 (pl242.toInt.toNat + 1) 0 hp242 hm242 H242 F242 L242 K242 (by omega) (by omega) (by omega) (fun hp2 hm2 H2 F2 L2 K2 => ?_)
      refine px_gx (fun _ K => px_a 1 (f' := (104, [(2, .int (q + 1)), (0, .ref (38 + n)), (1, .int p)], [], hp2)) rfl K) ?_
      obtain ⟨z243, ez243, fz243⟩ : ∃ qz : Int32, qz = q + 1 ∧ qz.toInt = Int32.toInt q + Int32.toInt 1 := ⟨_, rfl, i32_add (by omega) (by omega)⟩
      rw [← ez243]
      refine px_gx (fun _ K => px_a 1 (f' := (23, [(2, .int z243), (0, .ref (38 + n)), (1, .int p)], [], hp2)) rfl K) ?_
      exact ih z243 hp2 pl242 hm2 H2 F2 L2 K2 (by omega) (by omega) (by omega)
set_option maxRecDepth 20000 in
set_option maxHeartbeats 4000000 in
theorem m_equ_i {d n : Nat} (hN : pa_N n) {hp0 : px_H} {th w h pn pl fo le ru : Int32} {p : Int32} (hpr : m_pr p.toInt) (p1 : 2 ≤ p.toInt) (p2 : p.toInt ≤ 13) : ∀ (k : Nat) (c : Int32) hp (hm : hp[38 + n]? = some (4, m_O n th w h pn pl fo le ru)) (H : pa_Hi n hp) (F : pa_Fr n [(24, 8), (29, 0), (30, 0), (31, 0), (32, 0)] hp0 hp) (L : hp.length = hp0.length) (ZJ : m_zk n hp c.toInt.toNat), c.toInt + k = 37 → 0 ≤ c.toInt → c.toInt ≤ 36 → px_Gx (d + 5) 75 (2, [(2, .int c), (0, .ref (38 + n)), (1, .int p)], [], hp) (fun o hp' => pa_Po n ck_75 hp0 o hp' ∧ m_kq n p.toInt hp' 36 37) := by
  have cl0 : Int32.toInt 0 = 0 := rfl
  have cl1 : Int32.toInt 1 = 1 := rfl
  have cl36 : Int32.toInt 36 = 36 := rfl
  intro k
  induction k with
  | zero =>
    intro c hp hm H F L ZJ g1 g2 g3
    omega
  | succ k ih =>
    intro c hp hm H F L ZJ g1 g2 g3
    obtain ⟨bth1, bth2, bw1, bw2, bh1, bh2, bpn1, bpn2, bpl1, bpl2, bfo1, bfo2, ble1, ble2, bru1, bru2⟩ := pa_bnd H hm
    refine px_gx (fun _ K => px_a 2 (f' := (5, [(2, .int c), (0, .ref (38 + n)), (1, .int p)], [.int 36, .int c], hp)) rfl K) ?_
    by_cases h244 : (36 : Int32) ≤ c
    · have h244' := h244
      rw [Int32.le_iff_toInt_le] at h244'
      refine px_gx (fun _ K => px_b2 true 21 rfl rfl (decide_eq_true h244) K) ?_
      show px_Gx _ _ (21, [(2, .int c), (0, .ref (38 + n)), (1, .int p)], [], hp) _
      refine px_gx (fun _ K => px_a 2 (f' := (23, [(2, .int 0), (0, .ref (38 + n)), (1, .int p)], [], hp)) rfl K) ?_
      exact m_equ_p hN hpr p1 p2 (pn.toInt.toNat + 1) 0 hp pl hm H F L (m_kq_z (m_zk_c ZJ (by omega))) (by omega) (by omega) (by omega)
    · have h244' := h244
      rw [Int32.le_iff_toInt_le] at h244'
      refine px_gx (fun _ K => px_b2 false 21 rfl rfl (decide_eq_false h244) K) ?_
      show px_Gx _ _ (8, [(2, .int c), (0, .ref (38 + n)), (1, .int p)], [], hp) _
      refine px_gx (fun _ K => px_a 1 (f' := (9, [(2, .int c), (0, .ref (38 + n)), (1, .int p)], [.ref (38 + n)], hp)) rfl K) ?_
      refine px_gx (fun _ K => px_gf (38 + n) 27 4 10 (.ref (44 + n)) rfl rfl hm rfl K) ?_
      show px_Gx _ _ (12, [(2, .int c), (0, .ref (38 + n)), (1, .int p)], [.ref (44 + n)], hp) _
      refine px_gx (fun _ K => px_a 2 (f' := (14, [(2, .int c), (0, .ref (38 + n)), (1, .int p)], [.int 0, .int c, .ref (44 + n)], hp)) rfl K) ?_
      obtain ⟨vs246, hv246, hl246, hg246⟩ := pa_ara (a := 44 + n) (i := 12) (lo := 0) (hi := 1) H (by omega) (by decide) (by decide) rfl
      have hi245 : c.toNatClampNeg < vs246.length := by show (Int32.toInt c).toNat < _; omega
      refine px_gx (fun _ K => px_zas (44 + n) rfl hv246 (by omega) (i32_nn (by omega)) hi245 (pa_nb (by omega) (by omega)) K) ?_
      show px_Gx _ _ (15, [(2, .int c), (0, .ref (38 + n)), (1, .int p)], [], hp.set (44 + n) (12, vs246.set c.toNatClampNeg (.int 0))) _
      have hm245 : (hp.set (44 + n) (12, vs246.set c.toNatClampNeg (.int 0)))[38 + n]? = some (4, (m_O n th w h pn pl fo le ru)) := px_ne hm (by omega)
      have H245 : pa_Hi n (hp.set (44 + n) (12, vs246.set c.toNatClampNeg (.int 0))) := pa_aS (i := 12) H (by omega) (by decide) (by decide) hv246 rfl (pa_in (by omega) (by omega))
      have F245 : pa_Fr n [(24, 8), (29, 0), (30, 0), (31, 0), (32, 0)] hp0 (hp.set (44 + n) (12, vs246.set c.toNatClampNeg (.int 0))) := F.trans (pa_aF (i := 12) (by omega) (by decide) (by decide) hv246 (by decide) (by decide))
      have L245 : (hp.set (44 + n) (12, vs246.set c.toNatClampNeg (.int 0))).length = hp0.length := List.length_set.trans L
      have Z245 : m_zk n (hp.set (44 + n) (12, vs246.set c.toNatClampNeg (.int 0))) (c.toInt.toNat + 1) := by
        exact m_zk_st ZJ hv246 (by show (Int32.toInt c).toNat < _; omega)
      generalize hp.set (44 + n) (12, vs246.set c.toNatClampNeg (.int 0)) = hp245 at hm245 H245 F245 L245 Z245 ⊢
      refine px_gx (fun _ K => px_a 1 (f' := (18, [(2, .int (c + 1)), (0, .ref (38 + n)), (1, .int p)], [], hp245)) rfl K) ?_
      obtain ⟨z247, ez247, fz247⟩ : ∃ qz : Int32, qz = c + 1 ∧ qz.toInt = Int32.toInt c + Int32.toInt 1 := ⟨_, rfl, i32_add (by omega) (by omega)⟩
      rw [← ez247]
      refine px_gx (fun _ K => px_a 1 (f' := (2, [(2, .int z247), (0, .ref (38 + n)), (1, .int p)], [], hp245)) rfl K) ?_
      exact ih z247 hp245 hm245 H245 F245 L245 (m_zk_c Z245 (by omega)) (by omega) (by omega) (by omega)
set_option maxRecDepth 20000 in
set_option maxHeartbeats 4000000 in
theorem m_equ {d n : Nat} (hN : pa_N n) {hp0 : px_H} {th w h pn pl fo le ru : Int32} {p : Int32} (hpr : m_pr p.toInt) (hm : hp0[38 + n]? = some (4, m_O n th w h pn pl fo le ru)) (H : pa_Hi n hp0) : px_Gx (d + 5) 75 (0, [(0, .ref (38 + n)), (1, .int p)], [], hp0) (fun o hp' => pa_Po n ck_75 hp0 o hp' ∧ m_kq n p.toInt hp' 36 37) := by
  have cl0 : Int32.toInt 0 = 0 := rfl
  obtain ⟨bth1, bth2, bw1, bw2, bh1, bh2, bpn1, bpn2, bpl1, bpl2, bfo1, bfo2, ble1, ble2, bru1, bru2⟩ := pa_bnd H hm
  have F : pa_Fr n [(24, 8), (29, 0), (30, 0), (31, 0), (32, 0)] hp0 hp0 := pa_Fr.refl _
  have L : hp0.length = hp0.length := rfl
  have p12 : 2 ≤ p.toInt ∧ p.toInt ≤ 13 := by unfold m_pr at hpr; omega
  refine px_gx (fun _ K => px_a 2 (f' := (2, [(2, .int 0), (0, .ref (38 + n)), (1, .int p)], [], hp0)) rfl K) ?_
  exact m_equ_i hN hpr (by omega) (by omega) 37 0 hp0 hm H F L (m_zk_c m_zk0 rfl) (by omega) (by omega) (by omega)
