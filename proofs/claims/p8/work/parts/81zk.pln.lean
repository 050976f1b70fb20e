def m_ck (W V : Nat) (sh : Int64) (tu dx dy : Int) (q : Nat) : Prop := 0 ≤ (m_rot tu q).1 + dx ∧ (m_rot tu q).1 + dx < W ∧ 0 ≤ (m_rot tu q).2 + dy ∧ (m_rot tu q).2 + dy < V ∧ x_bt sh ((W : Int) * ((m_rot tu q).2 + dy) + ((m_rot tu q).1 + dx)).toNat = true
def m_Sx (W V : Nat) (sh : Int64) (tu dx dy : Int) (l : List Nat) (i : Nat) (z : Int64) : Prop := i ≤ l.length ∧ (∀ (j q : Nat), j < i → l[j]? = some q → m_ck W V sh tu dx dy q) ∧ ∃ S : Nat, z = lN S ∧ S < 2 ^ 36 ∧ ∀ t : Nat, S.testBit t = true ↔ ∃ (j q : Nat), j < i ∧ l[j]? = some q ∧ (t : Int) = W * ((m_rot tu q).2 + dy) + ((m_rot tu q).1 + dx)
theorem m_bn {W V : Nat} {Xc Yc : Int} (hW : W ≤ 6) (hV : V ≤ 6) (a1 : 0 ≤ Xc) (a2 : Xc < W) (b1 : 0 ≤ Yc) (b2 : Yc < V) : 0 ≤ (W : Int) * Yc + Xc ∧ (W : Int) * Yc + Xc < (W * V : Nat) ∧ (W : Int) * Yc + Xc < 36 := by
  have h1 : (W : Int) * Yc ≤ W * (V - 1) := Int.mul_le_mul_of_nonneg_left (by omega) (by omega)
  have h2 : 0 ≤ (W : Int) * Yc := Int.mul_nonneg (by omega) b1
  have h3 : W * V ≤ 6 * 6 := Nat.mul_le_mul hW hV
  rw [Int.mul_sub, Int.mul_one, ← Int.natCast_mul] at h1
  omega
theorem m_39 {n W V : Nat} {vsu : List Value} {sh : Int64} {w : Int32} {Xc Yc : Int} {ix z : Int32} (hW : W ≤ 6) (hV : V ≤ 6) (hn : n = W * V) (ew : w.toInt = W) (q1 : ∀ c, c < n → vsu[c]? = some (.int (if x_bt sh c = true then 1 else 0))) (a1 : 0 ≤ Xc) (a2 : Xc < W) (b1 : 0 ≤ Yc) (b2 : Yc < V) (hix : ix.toInt = w.toInt * Yc + Xc) (ez : vsu[ix.toNatClampNeg]? = some (.int z)) : (z = 1 ∧ x_bt sh ((W : Int) * Yc + Xc).toNat = true) ∨ (z = 0 ∧ x_bt sh ((W : Int) * Yc + Xc).toNat = false) := by
  rw [ew] at hix
  have hb := m_bn hW hV a1 a2 b1 b2
  have e : ix.toNatClampNeg = ((W : Int) * Yc + Xc).toNat := by show ix.toInt.toNat = _; rw [hix]
  rw [e, q1 _ (by omega)] at ez
  injection ez with ez
  injection ez with ez
  cases h : x_bt sh ((W : Int) * Yc + Xc).toNat
  · rw [h] at ez
    exact Or.inr ⟨ez.symm, rfl⟩
  · rw [h] at ez
    exact Or.inl ⟨ez.symm, rfl⟩
theorem m_okI {W V : Nat} {sh : Int64} {tu dx dy X Y Xc Yc : Int} {q0 : Nat} (hr : m_rot tu q0 = (X, Y)) (e1 : Xc = X + dx) (e2 : Yc = Y + dy) (a1 : 0 ≤ Xc) (a2 : Xc < W) (b1 : 0 ≤ Yc) (b2 : Yc < V) (bit : x_bt sh ((W : Int) * Yc + Xc).toNat = true) : m_ck W V sh tu dx dy q0 := by
  unfold m_ck
  rw [hr]
  dsimp only
  rw [← e1, ← e2]
  exact ⟨a1, a2, b1, b2, bit⟩
theorem m_okE {W V : Nat} {sh : Int64} {tu dx dy X Y Xc Yc : Int} {q0 : Nat} (hr : m_rot tu q0 = (X, Y)) (e1 : Xc = X + dx) (e2 : Yc = Y + dy) (h : m_ck W V sh tu dx dy q0) : 0 ≤ Xc ∧ Xc < W ∧ 0 ≤ Yc ∧ Yc < V ∧ x_bt sh ((W : Int) * Yc + Xc).toNat = true := by
  unfold m_ck at h
  rw [hr] at h
  dsimp only at h
  rw [← e1, ← e2] at h
  exact h
theorem m_nokc {W V : Nat} {sh : Int64} {w h xv yv : Int32} {tu dx dy X Y : Int} {q0 : Nat} (ew : w.toInt = W) (eh : h.toInt = V) (hr : m_rot tu q0 = (X, Y)) (e1 : xv.toInt = X + dx) (e2 : yv.toInt = Y + dy) (ho : xv < 0 ∨ w ≤ xv ∨ yv < 0 ∨ h ≤ yv) : ¬ m_ck W V sh tu dx dy q0 := by
  intro z
  obtain ⟨c1, c2, c3, c4, -⟩ := m_okE hr e1 e2 z
  have e0 : (0 : Int32).toInt = 0 := rfl
  rw [Int32.lt_iff_toInt_lt, Int32.le_iff_toInt_le, Int32.lt_iff_toInt_lt, Int32.le_iff_toInt_le] at ho
  omega
theorem m_Sx_s {W V : Nat} {sh : Int64} {w : Int32} {tu dx dy X Y Xc Yc : Int} {l : List Nat} {i q0 : Nat} {z : Int64} {ix : Int32} (hW : W ≤ 6) (hV : V ≤ 6) (ew : w.toInt = W) (h : m_Sx W V sh tu dx dy l i z) (hq : l[i]? = some q0) (hr : m_rot tu q0 = (X, Y)) (e1 : Xc = X + dx) (e2 : Yc = Y + dy) (ok : m_ck W V sh tu dx dy q0) (hix : ix.toInt = w.toInt * Yc + Xc) : m_Sx W V sh tu dx dy l (i + 1) (z ||| ((1 : Int64) <<< (Int32.toInt64 ix &&& 63))) := by
  rw [ew] at hix
  obtain ⟨c1, c2, c3, c4, -⟩ := m_okE hr e1 e2 ok
  have hb := m_bn hW hV c1 c2 c3 c4
  obtain ⟨b, eb⟩ : ∃ b : Nat, (b : Int) = (W : Int) * Yc + Xc := ⟨((W : Int) * Yc + Xc).toNat, by omega⟩
  obtain rfl : ix = nI b := by
    apply Int32.toInt_inj.mp
    rw [nI_toInt (by omega), hix, eb]
  obtain ⟨h1, h2, S, rfl, h3, h4⟩ := h
  have hi : i < l.length := (List.getElem?_eq_some_iff.mp hq).1
  have b36 : (2 : Nat) ^ b < 2 ^ 36 := Nat.pow_lt_pow_right (by decide) (by omega)
  refine ⟨hi, fun j q hj e => ?_, S ||| 2 ^ b, ?_, Nat.or_lt_two_pow h3 b36, fun t => ?_⟩
  · by_cases ej : j = i
    · subst ej
      rw [hq] at e
      injection e with e
      exact e ▸ ok
    · exact h2 j q (by omega) e
  · rw [show (1 : Int64) = lN 1 from rfl, wb_shl 1 (by omega), Nat.one_mul, wb_or (Nat.lt_trans h3 (by decide)) (Nat.lt_trans b36 (by decide))]
  · rw [Nat.testBit_or, Bool.or_eq_true, h4, Nat.testBit_two_pow, decide_eq_true_eq]
    constructor
    · rintro (⟨j, q, z1, z2, z3⟩ | rfl)
      · exact ⟨j, q, by omega, z2, z3⟩
      · exact ⟨i, q0, by omega, hq, by rw [hr, eb, e1, e2]⟩
    · rintro ⟨j, q, z1, z2, z3⟩
      by_cases ej : j = i
      · subst ej
        rw [hq] at z2
        injection z2 with z2
        subst z2
        right
        rw [hr] at z3
        dsimp only at z3
        rw [← e1, ← e2, ← eb] at z3
        omega
      · exact Or.inl ⟨j, q, by omega, z2, z3⟩
theorem m_ldq {l : List Nat} {kk : Nat} {vsq : List Value} {ix z i : Int32} (hu : ∀ (j q : Nat), l[j]? = some q → vsq[6 * kk + j]? = some (.int (nI q)) ∧ q < 16) (hi : i.toInt.toNat < l.length) (hix : ix.toInt = 6 * (kk : Int) + i.toInt) (h0 : 0 ≤ i.toInt) (ez : vsq[ix.toNatClampNeg]? = some (.int z)) : ∃ q0 : Nat, l[i.toInt.toNat]? = some q0 ∧ z.toInt = (q0 : Int) ∧ q0 < 16 := by
  have hq : l[i.toInt.toNat]? = some l[i.toInt.toNat] := List.getElem?_eq_getElem hi
  have h1 := hu _ _ hq
  have e : ix.toNatClampNeg = 6 * kk + i.toInt.toNat := by show ix.toInt.toNat = _; omega
  rw [e, h1.1] at ez
  injection ez with ez
  injection ez with ez
  exact ⟨_, hq, by rw [← ez, nI_toInt (by omega)], h1.2⟩
theorem m_zl {l : List Nat} {kk : Nat} {vsz : List Value} {p z : Int32} (hp : p.toInt = (kk : Int)) (hz : vsz[kk]? = some (.int (nI l.length))) (l6 : l.length ≤ 6) (ez : vsz[p.toNatClampNeg]? = some (.int z)) : z.toInt = (l.length : Int) := by
  have e : p.toNatClampNeg = kk := by show p.toInt.toNat = _; omega
  rw [e, hz] at ez
  injection ez with ez
  injection ez with ez
  rw [← ez, nI_toInt (by omega)]
set_option maxRecDepth 20000 in
set_option maxHeartbeats 4000000 in
theorem m_setXk {d n W V kk : Nat} {hp : px_H} {th w h pn pl fo le ru : Int32} {sh : Int64} {l : List Nat} {vsu vsz vsq : List Value} (hW : W ≤ 6) (hV : V ≤ 6) (hnn : n = W * V) (ew : w.toInt = W) (eh : h.toInt = V) (hm : hp[38 + n]? = some (4, m_O n th w h pn pl fo le ru)) (H : pa_Hi n hp) (hvu : hp[39 + n]? = some (12, vsu)) (hvz : hp[40 + n]? = some (10, vsz)) (hvq : hp[41 + n]? = some (10, vsq)) (q1 : ∀ c, c < n → vsu[c]? = some (.int (if x_bt sh c = true then 1 else 0))) (hz0 : vsz[kk]? = some (.int (nI l.length))) (l6 : l.length ≤ 6) (hu0 : ∀ (j q : Nat), l[j]? = some q → vsq[6 * kk + j]? = some (.int (nI q)) ∧ q < 16) {p tu dx dy : Int32} (hpk : p.toInt = (kk : Int)) (p1 : 0 ≤ p.toInt) (p2 : p.toInt ≤ 5) (t1 : 0 ≤ tu.toInt) (t2 : tu.toInt ≤ 7) (dx1 : -3 ≤ dx.toInt) (dx2 : dx.toInt ≤ 9) (dy1 : -3 ≤ dy.toInt) (dy2 : dy.toInt ≤ 9) : ∀ (k : Nat) (i : Int32) (z : Int64), i.toInt + k = 7 → 0 ≤ i.toInt → i.toInt ≤ 6 → m_Sx W V sh tu.toInt dx.toInt dy.toInt l i.toInt.toNat z → px_Gx (d + 1) 91 (6, [(7, .int i), (5, .long z), (0, .ref (38 + n)), (1, .int p), (2, .int tu), (3, .int dx), (4, .int dy)], [], hp) (fun o hp' => ∃ z : Int64, o = .inl (some (.long z)) ∧ hp' = hp ∧ ((z = 0 ∧ ∃ (j q : Nat), l[j]? = some q ∧ ¬ m_ck W V sh tu.toInt dx.toInt dy.toInt q) ∨ m_Sx W V sh tu.toInt dx.toInt dy.toInt l l.length z)) := by
  have cl0 : Int32.toInt 0 = 0 := rfl
  have cl1 : Int32.toInt 1 = 1 := rfl
  have cl3 : Int32.toInt 3 = 3 := rfl
  have cl4 : Int32.toInt 4 = 4 := rfl
  have cl6 : Int32.toInt 6 = 6 := rfl
  obtain ⟨bth1, bth2, bw1, bw2, bh1, bh2, bpn1, bpn2, bpl1, bpl2, bfo1, bfo2, ble1, ble2, bru1, bru2⟩ := pa_bnd H hm
  obtain ⟨vu_, hvu_, hlu, hgu⟩ := pa_ara (a := 39 + n) (i := 7) (lo := 0) (hi := 1) H (by omega) (by decide) (by decide) rfl
  obtain rfl : vsu = vu_ := by rw [hvu] at hvu_; cases hvu_; rfl
  obtain ⟨vz_, hvz_, hlz, hgz⟩ := pa_ara (a := 40 + n) (i := 8) (lo := 0) (hi := 6) H (by omega) (by decide) (by decide) rfl
  obtain rfl : vsz = vz_ := by rw [hvz] at hvz_; cases hvz_; rfl
  obtain ⟨vq_, hvq_, hlq, hgq⟩ := pa_ara (a := 41 + n) (i := 9) (lo := 0) (hi := 15) H (by omega) (by decide) (by decide) rfl
  obtain rfl : vsq = vq_ := by rw [hvq] at hvq_; cases hvq_; rfl
  intro k
  induction k with
  | zero =>
    intro i z g1 g2 g3 hI
    omega
  | succ k ih =>
    intro i z g1 g2 g3 hI
    refine px_gx (fun _ K9 => px_a 2 (f' := (9, [(7, .int i), (5, .long z), (0, .ref (38 + n)), (1, .int p), (2, .int tu), (3, .int dx), (4, .int dy)], [.ref (38 + n), .int i], hp)) rfl K9) ?_
    refine px_gx (fun _ K9 => px_gf (38 + n) 13 4 5 (.ref (40 + n)) rfl rfl hm rfl K9) ?_
    show px_Gx _ _ (12, [(7, .int i), (5, .long z), (0, .ref (38 + n)), (1, .int p), (2, .int tu), (3, .int dx), (4, .int dy)], [.ref (40 + n), .int i], hp) _
    refine px_gx (fun _ K9 => px_a 1 (f' := (13, [(7, .int i), (5, .long z), (0, .ref (38 + n)), (1, .int p), (2, .int tu), (3, .int dx), (4, .int dy)], [.int p, .ref (40 + n), .int i], hp)) rfl K9) ?_
    have hi602 : p.toNatClampNeg < vsz.length := by show (Int32.toInt p).toNat < _; omega
    obtain ⟨z602, ez602, lz602, uz602⟩ := hgz _ hi602
    refine px_gx (fun _ K9 => px_al (40 + n) (.int z602) rfl hvz (Or.inl ⟨rfl, Or.inl rfl⟩) (i32_nn (by omega)) ez602 K9) ?_
    show px_Gx _ _ (14, [(7, .int i), (5, .long z), (0, .ref (38 + n)), (1, .int p), (2, .int tu), (3, .int dx), (4, .int dy)], [.int z602, .int i], hp) _
    have ezl := m_zl hpk hz0 l6 ez602
    by_cases h603 : z602 ≤ i
    · have h603' := h603
      rw [Int32.le_iff_toInt_le] at h603'
      refine px_gx (fun _ K9 => px_b2 true 163 rfl rfl (decide_eq_true h603) K9) ?_
      show px_Gx _ _ (163, [(7, .int i), (5, .long z), (0, .ref (38 + n)), (1, .int p), (2, .int tu), (3, .int dx), (4, .int dy)], [], hp) _
      refine px_gx (fun _ K9 => px_a 1 (f' := (165, [(7, .int i), (5, .long z), (0, .ref (38 + n)), (1, .int p), (2, .int tu), (3, .int dx), (4, .int dy)], [.long z], hp)) rfl K9) ?_
      have ei : i.toInt.toNat = l.length := by have := hI.1; omega
      rw [ei] at hI
      exact ⟨_, _, px_e rfl rfl, z, rfl, rfl, Or.inr hI⟩
    · have h603' := h603
      rw [Int32.le_iff_toInt_le] at h603'
      refine px_gx (fun _ K9 => px_b2 false 163 rfl rfl (decide_eq_false h603) K9) ?_
      show px_Gx _ _ (17, [(7, .int i), (5, .long z), (0, .ref (38 + n)), (1, .int p), (2, .int tu), (3, .int dx), (4, .int dy)], [], hp) _
      refine px_gx (fun _ K9 => px_a 1 (f' := (18, [(7, .int i), (5, .long z), (0, .ref (38 + n)), (1, .int p), (2, .int tu), (3, .int dx), (4, .int dy)], [.ref (38 + n)], hp)) rfl K9) ?_
      refine px_gx (fun _ K9 => px_gf (38 + n) 17 4 6 (.ref (41 + n)) rfl rfl hm rfl K9) ?_
      show px_Gx _ _ (21, [(7, .int i), (5, .long z), (0, .ref (38 + n)), (1, .int p), (2, .int tu), (3, .int dx), (4, .int dy)], [.ref (41 + n)], hp) _
      refine px_gx (fun _ K9 => px_a 3 (f' := (25, [(7, .int i), (5, .long z), (0, .ref (38 + n)), (1, .int p), (2, .int tu), (3, .int dx), (4, .int dy)], [.int (6 * p), .ref (41 + n)], hp)) rfl K9) ?_
      obtain ⟨z604, ez604, fz604⟩ : ∃ qz : Int32, qz = 6 * p ∧ qz.toInt = 6 * Int32.toInt p := ⟨_, rfl, i32_mulL rfl (by omega) (by omega)⟩
      rw [← ez604]
      refine px_gx (fun _ K9 => px_a 2 (f' := (28, [(7, .int i), (5, .long z), (0, .ref (38 + n)), (1, .int p), (2, .int tu), (3, .int dx), (4, .int dy)], [.int (z604 + i), .ref (41 + n)], hp)) rfl K9) ?_
      obtain ⟨z605, ez605, fz605⟩ : ∃ qz : Int32, qz = z604 + i ∧ qz.toInt = Int32.toInt z604 + Int32.toInt i := ⟨_, rfl, i32_add (by omega) (by omega)⟩
      rw [← ez605]
      have hi606 : z605.toNatClampNeg < vsq.length := by show (Int32.toInt z605).toNat < _; omega
      obtain ⟨z606, ez606, lz606, uz606⟩ := hgq _ hi606
      refine px_gx (fun _ K9 => px_al (41 + n) (.int z606) rfl hvq (Or.inl ⟨rfl, Or.inl rfl⟩) (i32_nn (by omega)) ez606 K9) ?_
      show px_Gx _ _ (29, [(7, .int i), (5, .long z), (0, .ref (38 + n)), (1, .int p), (2, .int tu), (3, .int dx), (4, .int dy)], [.int z606], hp) _
      obtain ⟨q0, hq0, tq0, q16⟩ := m_ldq (i := i) hu0 (by omega) (by omega) (by omega) ez606
      refine px_gx (fun _ K9 => px_a 1 (f' := (30, [(7, .int i), (5, .long z), (0, .ref (38 + n)), (1, .int p), (2, .int tu), (3, .int dx), (4, .int dy)], [.int 4, .int z606], hp)) rfl K9) ?_
      refine px_gx (fun _ K9 => px_irem rfl (pa_ne0 (by omega)) K9) ?_
      show px_Gx _ _ (31, [(7, .int i), (5, .long z), (0, .ref (38 + n)), (1, .int p), (2, .int tu), (3, .int dx), (4, .int dy)], [.int (z606 - z606 / 4 * 4)], hp) _
      obtain ⟨z607, ez607, fz607⟩ : ∃ qz : Int32, qz = (z606 - z606 / 4 * 4) ∧ qz.toInt = Int32.toInt z606 % 4 := ⟨_, rfl, i32_remE (by omega) (by omega)⟩
      rw [← ez607]
      refine px_gx (fun _ K9 => px_a 2 (f' := (34, [(8, .int z607), (7, .int i), (5, .long z), (0, .ref (38 + n)), (1, .int p), (2, .int tu), (3, .int dx), (4, .int dy)], [.ref (38 + n)], hp)) rfl K9) ?_
      refine px_gx (fun _ K9 => px_gf (38 + n) 17 4 6 (.ref (41 + n)) rfl rfl hm rfl K9) ?_
      show px_Gx _ _ (37, [(8, .int z607), (7, .int i), (5, .long z), (0, .ref (38 + n)), (1, .int p), (2, .int tu), (3, .int dx), (4, .int dy)], [.ref (41 + n)], hp) _
      refine px_gx (fun _ K9 => px_a 3 (f' := (41, [(8, .int z607), (7, .int i), (5, .long z), (0, .ref (38 + n)), (1, .int p), (2, .int tu), (3, .int dx), (4, .int dy)], [.int (6 * p), .ref (41 + n)], hp)) rfl K9) ?_
      rw [← ez604]
      refine px_gx (fun _ K9 => px_a 2 (f' := (44, [(8, .int z607), (7, .int i), (5, .long z), (0, .ref (38 + n)), (1, .int p), (2, .int tu), (3, .int dx), (4, .int dy)], [.int (z604 + i), .ref (41 + n)], hp)) rfl K9) ?_
      rw [← ez605]
      refine px_gx (fun _ K9 => px_al (41 + n) (.int z606) rfl hvq (Or.inl ⟨rfl, Or.inl rfl⟩) (i32_nn (by omega)) ez606 K9) ?_
      show px_Gx _ _ (45, [(8, .int z607), (7, .int i), (5, .long z), (0, .ref (38 + n)), (1, .int p), (2, .int tu), (3, .int dx), (4, .int dy)], [.int z606], hp) _
      refine px_gx (fun _ K9 => px_a 1 (f' := (46, [(8, .int z607), (7, .int i), (5, .long z), (0, .ref (38 + n)), (1, .int p), (2, .int tu), (3, .int dx), (4, .int dy)], [.int 4, .int z606], hp)) rfl K9) ?_
      refine px_gx (fun _ K9 => px_idiv rfl (pa_ne0 (by omega)) K9) ?_
      show px_Gx _ _ (47, [(8, .int z607), (7, .int i), (5, .long z), (0, .ref (38 + n)), (1, .int p), (2, .int tu), (3, .int dx), (4, .int dy)], [.int (z606 / 4)], hp) _
      obtain ⟨z609, ez609, fz609⟩ : ∃ qz : Int32, qz = (z606 / 4) ∧ qz.toInt = Int32.toInt z606 / 4 := ⟨_, rfl, i32_divE (by omega) (by omega)⟩
      rw [← ez609]
      refine px_gx (fun _ K9 => px_a 3 (f' := (51, [(9, .int z609), (8, .int z607), (7, .int i), (5, .long z), (0, .ref (38 + n)), (1, .int p), (2, .int tu), (3, .int dx), (4, .int dy)], [.int 3, .int tu], hp)) rfl K9) ?_
      by_cases h610 : tu ≤ 3
      · have h610' := h610
        rw [Int32.le_iff_toInt_le] at h610'
        refine px_gx (fun _ K9 => px_b2 true 60 rfl rfl (decide_eq_true h610) K9) ?_
        show px_Gx _ _ (60, [(9, .int z609), (8, .int z607), (7, .int i), (5, .long z), (0, .ref (38 + n)), (1, .int p), (2, .int tu), (3, .int dx), (4, .int dy)], [], hp) _
        refine px_gx (fun _ K9 => px_a 4 (f' := (67, [(10, .int 0), (8, .int z607), (9, .int z609), (7, .int i), (5, .long z), (0, .ref (38 + n)), (1, .int p), (2, .int tu), (3, .int dx), (4, .int dy)], [], hp)) rfl K9) ?_
        refine px_wk [(10, .int 0), (9, .int z609), (8, .int z607), (7, .int i), (5, .long z), (0, .ref (38 + n)), (1, .int p), (2, .int tu), (3, .int dx), (4, .int dy)] ⟨rfl, rfl, rfl, rfl, rfl, rfl, rfl, rfl, rfl, rfl, trivial⟩ ?_
        refine m_setOf_t hm H (by omega) (by omega) (tu.toInt % 4).toNat 0 z607 z609 (by omega) (by omega) (by omega) (by omega) (by omega) (by omega) (fun x' y' e => ?_)
        have hr : (x'.toInt, y'.toInt) = m_rot tu.toInt z606.toInt := by
          rw [e]; unfold m_rot; congr 1
          · omega
          · rw [if_neg (by omega)]; refine Prod.ext ?_ ?_
            · show Int32.toInt z607 = _; omega
            · show Int32.toInt z609 = _; omega
        have hb := m_rot_b (t := tu.toInt) (q := z606.toInt) (by omega) (by omega)
        rw [← hr] at hb; dsimp only at hb
        obtain ⟨hb1, hb2, hb3, hb4⟩ := hb
        have hr2 : m_rot tu.toInt (q0 : Int) = (x'.toInt, y'.toInt) := by rw [← tq0]; exact hr.symm
        refine px_gx (fun _ K9 => px_a 4 (f' := (99, [(9, .int y'), (8, .int x'), (7, .int i), (5, .long z), (0, .ref (38 + n)), (1, .int p), (2, .int tu), (3, .int dx), (4, .int dy)], [.int (x' + dx), .ref (38 + n)], hp)) rfl K9) ?_
        obtain ⟨z611, ez611, fz611⟩ : ∃ qz : Int32, qz = x' + dx ∧ qz.toInt = Int32.toInt x' + Int32.toInt dx := ⟨_, rfl, i32_add (by omega) (by omega)⟩
        rw [← ez611]
        refine px_gx (fun _ K9 => px_a 3 (f' := (104, [(9, .int y'), (8, .int x'), (7, .int i), (5, .long z), (0, .ref (38 + n)), (1, .int p), (2, .int tu), (3, .int dx), (4, .int dy)], [.int (y' + dy), .int z611, .ref (38 + n)], hp)) rfl K9) ?_
        obtain ⟨z612, ez612, fz612⟩ : ∃ qz : Int32, qz = y' + dy ∧ qz.toInt = Int32.toInt y' + Int32.toInt dy := ⟨_, rfl, i32_add (by omega) (by omega)⟩
        rw [← ez612]
        by_cases h613 : (z611 < 0 ∨ w ≤ z611 ∨ z612 < 0 ∨ h ≤ z612)
        · refine px_gx (fun _ K9 => px_cv (38 + n) (as := [.int z611, .int z612]) (rest := []) rfl rfl hm rfl rfl rfl rfl (Nat.le_of_ble_eq_true rfl) (p_isCell_o hm h613) K9) ?_
          show px_Gx _ _ (107, [(9, .int y'), (8, .int x'), (7, .int i), (5, .long z), (0, .ref (38 + n)), (1, .int p), (2, .int tu), (3, .int dx), (4, .int dy)], [.int 0], hp) _
          refine px_gx (fun _ K9 => px_a 2 (f' := (134, [(9, .int y'), (8, .int x'), (7, .int i), (5, .long z), (0, .ref (38 + n)), (1, .int p), (2, .int tu), (3, .int dx), (4, .int dy)], [.long 0], hp)) rfl K9) ?_
          exact ⟨_, _, px_e rfl rfl, 0, rfl, rfl, Or.inl ⟨rfl, _, q0, hq0, m_nokc ew eh hr2 fz611 fz612 h613⟩⟩
        · refine px_gx (fun _ K9 => px_cv (38 + n) (as := [.int z611, .int z612]) (rest := []) rfl rfl hm rfl rfl rfl rfl (Nat.le_of_ble_eq_true rfl) (p_isCell_i hm h613) K9) ?_
          show px_Gx _ _ (107, [(9, .int y'), (8, .int x'), (7, .int i), (5, .long z), (0, .ref (38 + n)), (1, .int p), (2, .int tu), (3, .int dx), (4, .int dy)], [.int 1], hp) _
          have h613a : ¬ z611 < 0 := fun z => h613 (Or.inl z)
          rw [Int32.lt_iff_toInt_lt] at h613a
          have h613b : ¬ w ≤ z611 := fun z => h613 (Or.inr (Or.inl z))
          rw [Int32.le_iff_toInt_le] at h613b
          have h613c : ¬ z612 < 0 := fun z => h613 (Or.inr (Or.inr (Or.inl z)))
          rw [Int32.lt_iff_toInt_lt] at h613c
          have h613d : ¬ h ≤ z612 := fun z => h613 (Or.inr (Or.inr (Or.inr z)))
          rw [Int32.le_iff_toInt_le] at h613d
          refine px_gx (fun _ K9 => px_a 2 (f' := (111, [(9, .int y'), (8, .int x'), (7, .int i), (5, .long z), (0, .ref (38 + n)), (1, .int p), (2, .int tu), (3, .int dx), (4, .int dy)], [.ref (38 + n)], hp)) rfl K9) ?_
          refine px_gx (fun _ K9 => px_gf (38 + n) 7 4 3 (.ref (39 + n)) rfl rfl hm rfl K9) ?_
          show px_Gx _ _ (114, [(9, .int y'), (8, .int x'), (7, .int i), (5, .long z), (0, .ref (38 + n)), (1, .int p), (2, .int tu), (3, .int dx), (4, .int dy)], [.ref (39 + n)], hp) _
          refine px_gx (fun _ K9 => px_a 1 (f' := (115, [(9, .int y'), (8, .int x'), (7, .int i), (5, .long z), (0, .ref (38 + n)), (1, .int p), (2, .int tu), (3, .int dx), (4, .int dy)], [.ref (38 + n), .ref (39 + n)], hp)) rfl K9) ?_
          refine px_gx (fun _ K9 => px_gf (38 + n) 51 4 1 (.int w) rfl rfl hm rfl K9) ?_
          show px_Gx _ _ (118, [(9, .int y'), (8, .int x'), (7, .int i), (5, .long z), (0, .ref (38 + n)), (1, .int p), (2, .int tu), (3, .int dx), (4, .int dy)], [.int w, .ref (39 + n)], hp) _
          refine px_gx (fun _ K9 => px_a 3 (f' := (123, [(9, .int y'), (8, .int x'), (7, .int i), (5, .long z), (0, .ref (38 + n)), (1, .int p), (2, .int tu), (3, .int dx), (4, .int dy)], [.int (y' + dy), .int w, .ref (39 + n)], hp)) rfl K9) ?_
          rw [← ez612]
          refine px_gx (fun _ K9 => px_a 1 (f' := (124, [(9, .int y'), (8, .int x'), (7, .int i), (5, .long z), (0, .ref (38 + n)), (1, .int p), (2, .int tu), (3, .int dx), (4, .int dy)], [.int (w * z612), .ref (39 + n)], hp)) rfl K9) ?_
          obtain ⟨z614, ez614, fz614⟩ : ∃ qz : Int32, qz = w * z612 ∧ qz.toInt = w.toInt * Int32.toInt z612 ∧ 0 ≤ w.toInt * Int32.toInt z612 ∧ w.toInt * Int32.toInt z612 + w.toInt ≤ 36 := ⟨_, rfl, m_mulw (by omega) (by omega) (by omega) (by omega)⟩
          rw [← ez614]
          refine px_gx (fun _ K9 => px_a 2 (f' := (127, [(9, .int y'), (8, .int x'), (7, .int i), (5, .long z), (0, .ref (38 + n)), (1, .int p), (2, .int tu), (3, .int dx), (4, .int dy)], [.int (z614 + x'), .ref (39 + n)], hp)) rfl K9) ?_
          obtain ⟨z615, ez615, fz615⟩ : ∃ qz : Int32, qz = z614 + x' ∧ qz.toInt = Int32.toInt z614 + Int32.toInt x' := ⟨_, rfl, i32_add (by omega) (by omega)⟩
          rw [← ez615]
          refine px_gx (fun _ K9 => px_a 2 (f' := (129, [(9, .int y'), (8, .int x'), (7, .int i), (5, .long z), (0, .ref (38 + n)), (1, .int p), (2, .int tu), (3, .int dx), (4, .int dy)], [.int (z615 + dx), .ref (39 + n)], hp)) rfl K9) ?_
          obtain ⟨z616, ez616, fz616⟩ : ∃ qz : Int32, qz = z615 + dx ∧ qz.toInt = Int32.toInt z615 + Int32.toInt dx := ⟨_, rfl, i32_add (by omega) (by omega)⟩
          rw [← ez616]
          have hi617 : z616.toNatClampNeg < vsu.length := by show (Int32.toInt z616).toNat < _; omega
          obtain ⟨z617, ez617, lz617, uz617⟩ := hgu _ hi617
          refine px_gx (fun _ K9 => px_al (39 + n) (.int z617) rfl hvu (Or.inr (Or.inr (Or.inl ⟨rfl, rfl⟩))) (i32_nn (by omega)) ez617 K9) ?_
          show px_Gx _ _ (130, [(9, .int y'), (8, .int x'), (7, .int i), (5, .long z), (0, .ref (38 + n)), (1, .int p), (2, .int tu), (3, .int dx), (4, .int dy)], [.int z617], hp) _
          by_cases h618 : ¬ z617 = 0
          · have h618' := h618
            have h618'' : Int32.toInt z617 ≠ Int32.toInt 0 := fun z => h618 (Int32.toInt_inj.mp z)
            refine px_gx (fun _ K9 => px_b1 true 135 rfl rfl (decide_eq_true h618) K9) ?_
            show px_Gx _ _ (135, [(9, .int y'), (8, .int x'), (7, .int i), (5, .long z), (0, .ref (38 + n)), (1, .int p), (2, .int tu), (3, .int dx), (4, .int dy)], [], hp) _
            have hok : m_ck W V sh tu.toInt dx.toInt dy.toInt q0 := by
              rcases m_39 hW hV hnn ew q1 (Xc := Int32.toInt z611) (Yc := Int32.toInt z612) (by omega) (by omega) (by omega) (by omega) (by omega) ez617 with ⟨-, c2⟩ | ⟨c1, -⟩
              · exact m_okI hr2 fz611 fz612 (by omega) (by omega) (by omega) (by omega) c2
              · contradiction
            refine px_gx (fun _ K9 => px_a 3 (f' := (139, [(9, .int y'), (8, .int x'), (7, .int i), (5, .long z), (0, .ref (38 + n)), (1, .int p), (2, .int tu), (3, .int dx), (4, .int dy)], [.ref (38 + n), .long 1, .long z], hp)) rfl K9) ?_
            refine px_gx (fun _ K9 => px_gf (38 + n) 51 4 1 (.int w) rfl rfl hm rfl K9) ?_
            show px_Gx _ _ (142, [(9, .int y'), (8, .int x'), (7, .int i), (5, .long z), (0, .ref (38 + n)), (1, .int p), (2, .int tu), (3, .int dx), (4, .int dy)], [.int w, .long 1, .long z], hp) _
            refine px_gx (fun _ K9 => px_a 3 (f' := (147, [(9, .int y'), (8, .int x'), (7, .int i), (5, .long z), (0, .ref (38 + n)), (1, .int p), (2, .int tu), (3, .int dx), (4, .int dy)], [.int (y' + dy), .int w, .long 1, .long z], hp)) rfl K9) ?_
            rw [← ez612]
            refine px_gx (fun _ K9 => px_a 1 (f' := (148, [(9, .int y'), (8, .int x'), (7, .int i), (5, .long z), (0, .ref (38 + n)), (1, .int p), (2, .int tu), (3, .int dx), (4, .int dy)], [.int (w * z612), .long 1, .long z], hp)) rfl K9) ?_
            rw [← ez614]
            refine px_gx (fun _ K9 => px_a 2 (f' := (151, [(9, .int y'), (8, .int x'), (7, .int i), (5, .long z), (0, .ref (38 + n)), (1, .int p), (2, .int tu), (3, .int dx), (4, .int dy)], [.int (z614 + x'), .long 1, .long z], hp)) rfl K9) ?_
            rw [← ez615]
            refine px_gx (fun _ K9 => px_a 2 (f' := (153, [(9, .int y'), (8, .int x'), (7, .int i), (5, .long z), (0, .ref (38 + n)), (1, .int p), (2, .int tu), (3, .int dx), (4, .int dy)], [.int (z615 + dx), .long 1, .long z], hp)) rfl K9) ?_
            rw [← ez616]
            refine px_gx (fun _ K9 => px_a 4 (f' := (160, [(7, .int (i + 1)), (5, .long (z ||| (1 <<< (Int32.toInt64 z616 &&& 63)))), (9, .int y'), (8, .int x'), (0, .ref (38 + n)), (1, .int p), (2, .int tu), (3, .int dx), (4, .int dy)], [], hp)) rfl K9) ?_
            obtain ⟨z619, ez619, fz619⟩ : ∃ qz : Int32, qz = i + 1 ∧ qz.toInt = Int32.toInt i + Int32.toInt 1 := ⟨_, rfl, i32_add (by omega) (by omega)⟩
            rw [← ez619]
            refine px_gx (fun _ K9 => px_a 1 (f' := (6, [(7, .int z619), (5, .long (z ||| (1 <<< (Int32.toInt64 z616 &&& 63)))), (9, .int y'), (8, .int x'), (0, .ref (38 + n)), (1, .int p), (2, .int tu), (3, .int dx), (4, .int dy)], [], hp)) rfl K9) ?_
            refine px_wk [(7, .int z619), (5, .long (z ||| (1 <<< (Int32.toInt64 z616 &&& 63)))), (0, .ref (38 + n)), (1, .int p), (2, .int tu), (3, .int dx), (4, .int dy)] ⟨rfl, rfl, rfl, rfl, rfl, rfl, rfl, trivial⟩ ?_
            have ei2 : (z619).toInt.toNat = i.toInt.toNat + 1 := by omega
            exact ih z619 (z ||| (1 <<< (Int32.toInt64 z616 &&& 63))) (by omega) (by omega) (by omega) (by rw [ei2]; exact m_Sx_s hW hV ew hI hq0 hr2 fz611 fz612 hok (by omega))
          · have h618' := h618
            have h618'' : Int32.toInt z617 = Int32.toInt 0 := congrArg Int32.toInt (Decidable.not_not.mp h618)
            refine px_gx (fun _ K9 => px_b1 false 135 rfl rfl (decide_eq_false h618) K9) ?_
            show px_Gx _ _ (133, [(9, .int y'), (8, .int x'), (7, .int i), (5, .long z), (0, .ref (38 + n)), (1, .int p), (2, .int tu), (3, .int dx), (4, .int dy)], [], hp) _
            refine px_gx (fun _ K9 => px_a 1 (f' := (134, [(9, .int y'), (8, .int x'), (7, .int i), (5, .long z), (0, .ref (38 + n)), (1, .int p), (2, .int tu), (3, .int dx), (4, .int dy)], [.long 0], hp)) rfl K9) ?_
            have z0 : z617 = 0 := by first | assumption | (refine Classical.byContradiction (fun zz => ?_); contradiction)
            have h39 := m_39 hW hV hnn ew q1 (Xc := Int32.toInt z611) (Yc := Int32.toInt z612) (by omega) (by omega) (by omega) (by omega) (by omega) ez617
            exact ⟨_, _, px_e rfl rfl, 0, rfl, rfl, Or.inl ⟨rfl, _, q0, hq0, fun ok => by
              have o5 := (m_okE hr2 fz611 fz612 ok).2.2.2.2
              rcases h39 with ⟨c1, -⟩ | ⟨-, c2⟩
              · rw [z0] at c1; exact absurd c1 (by decide)
              · rw [c2] at o5; cases o5⟩⟩
      · have h610' := h610
        rw [Int32.le_iff_toInt_le] at h610'
        refine px_gx (fun _ K9 => px_b2 false 60 rfl rfl (decide_eq_false h610) K9) ?_
        show px_Gx _ _ (54, [(9, .int z609), (8, .int z607), (7, .int i), (5, .long z), (0, .ref (38 + n)), (1, .int p), (2, .int tu), (3, .int dx), (4, .int dy)], [], hp) _
        refine px_gx (fun _ K9 => px_a 2 (f' := (57, [(9, .int z609), (8, .int z607), (7, .int i), (5, .long z), (0, .ref (38 + n)), (1, .int p), (2, .int tu), (3, .int dx), (4, .int dy)], [.int (-z607)], hp)) rfl K9) ?_
        obtain ⟨z620, ez620, fz620⟩ : ∃ qz : Int32, qz = -z607 ∧ qz.toInt = - Int32.toInt z607 := ⟨_, rfl, i32_neg (by omega)⟩
        rw [← ez620]
        refine px_gx (fun _ K9 => px_a 4 (f' := (67, [(10, .int 0), (8, .int z620), (9, .int z609), (7, .int i), (5, .long z), (0, .ref (38 + n)), (1, .int p), (2, .int tu), (3, .int dx), (4, .int dy)], [], hp)) rfl K9) ?_
        refine px_wk [(10, .int 0), (9, .int z609), (8, .int z620), (7, .int i), (5, .long z), (0, .ref (38 + n)), (1, .int p), (2, .int tu), (3, .int dx), (4, .int dy)] ⟨rfl, rfl, rfl, rfl, rfl, rfl, rfl, rfl, rfl, rfl, trivial⟩ ?_
        refine m_setOf_t hm H (by omega) (by omega) (tu.toInt % 4).toNat 0 z620 z609 (by omega) (by omega) (by omega) (by omega) (by omega) (by omega) (fun x' y' e => ?_)
        have hr : (x'.toInt, y'.toInt) = m_rot tu.toInt z606.toInt := by
          rw [e]; unfold m_rot; congr 1
          · omega
          · rw [if_pos (by omega)]; refine Prod.ext ?_ ?_
            · show Int32.toInt z620 = _; omega
            · show Int32.toInt z609 = _; omega
        have hb := m_rot_b (t := tu.toInt) (q := z606.toInt) (by omega) (by omega)
        rw [← hr] at hb; dsimp only at hb
        obtain ⟨hb1, hb2, hb3, hb4⟩ := hb
        have hr2 : m_rot tu.toInt (q0 : Int) = (x'.toInt, y'.toInt) := by rw [← tq0]; exact hr.symm
        refine px_gx (fun _ K9 => px_a 4 (f' := (99, [(9, .int y'), (8, .int x'), (7, .int i), (5, .long z), (0, .ref (38 + n)), (1, .int p), (2, .int tu), (3, .int dx), (4, .int dy)], [.int (x' + dx), .ref (38 + n)], hp)) rfl K9) ?_
        obtain ⟨z621, ez621, fz621⟩ : ∃ qz : Int32, qz = x' + dx ∧ qz.toInt = Int32.toInt x' + Int32.toInt dx := ⟨_, rfl, i32_add (by omega) (by omega)⟩
        rw [← ez621]
        refine px_gx (fun _ K9 => px_a 3 (f' := (104, [(9, .int y'), (8, .int x'), (7, .int i), (5, .long z), (0, .ref (38 + n)), (1, .int p), (2, .int tu), (3, .int dx), (4, .int dy)], [.int (y' + dy), .int z621, .ref (38 + n)], hp)) rfl K9) ?_
        obtain ⟨z622, ez622, fz622⟩ : ∃ qz : Int32, qz = y' + dy ∧ qz.toInt = Int32.toInt y' + Int32.toInt dy := ⟨_, rfl, i32_add (by omega) (by omega)⟩
        rw [← ez622]
        by_cases h623 : (z621 < 0 ∨ w ≤ z621 ∨ z622 < 0 ∨ h ≤ z622)
        · refine px_gx (fun _ K9 => px_cv (38 + n) (as := [.int z621, .int z622]) (rest := []) rfl rfl hm rfl rfl rfl rfl (Nat.le_of_ble_eq_true rfl) (p_isCell_o hm h623) K9) ?_
          show px_Gx _ _ (107, [(9, .int y'), (8, .int x'), (7, .int i), (5, .long z), (0, .ref (38 + n)), (1, .int p), (2, .int tu), (3, .int dx), (4, .int dy)], [.int 0], hp) _
          refine px_gx (fun _ K9 => px_a 2 (f' := (134, [(9, .int y'), (8, .int x'), (7, .int i), (5, .long z), (0, .ref (38 + n)), (1, .int p), (2, .int tu), (3, .int dx), (4, .int dy)], [.long 0], hp)) rfl K9) ?_
          exact ⟨_, _, px_e rfl rfl, 0, rfl, rfl, Or.inl ⟨rfl, _, q0, hq0, m_nokc ew eh hr2 fz621 fz622 h623⟩⟩
        · refine px_gx (fun _ K9 => px_cv (38 + n) (as := [.int z621, .int z622]) (rest := []) rfl rfl hm rfl rfl rfl rfl (Nat.le_of_ble_eq_true rfl) (p_isCell_i hm h623) K9) ?_
          show px_Gx _ _ (107, [(9, .int y'), (8, .int x'), (7, .int i), (5, .long z), (0, .ref (38 + n)), (1, .int p), (2, .int tu), (3, .int dx), (4, .int dy)], [.int 1], hp) _
          have h623a : ¬ z621 < 0 := fun z => h623 (Or.inl z)
          rw [Int32.lt_iff_toInt_lt] at h623a
          have h623b : ¬ w ≤ z621 := fun z => h623 (Or.inr (Or.inl z))
          rw [Int32.le_iff_toInt_le] at h623b
          have h623c : ¬ z622 < 0 := fun z => h623 (Or.inr (Or.inr (Or.inl z)))
          rw [Int32.lt_iff_toInt_lt] at h623c
          have h623d : ¬ h ≤ z622 := fun z => h623 (Or.inr (Or.inr (Or.inr z)))
          rw [Int32.le_iff_toInt_le] at h623d
          refine px_gx (fun _ K9 => px_a 2 (f' := (111, [(9, .int y'), (8, .int x'), (7, .int i), (5, .long z), (0, .ref (38 + n)), (1, .int p), (2, .int tu), (3, .int dx), (4, .int dy)], [.ref (38 + n)], hp)) rfl K9) ?_
          refine px_gx (fun _ K9 => px_gf (38 + n) 7 4 3 (.ref (39 + n)) rfl rfl hm rfl K9) ?_
          show px_Gx _ _ (114, [(9, .int y'), (8, .int x'), (7, .int i), (5, .long z), (0, .ref (38 + n)), (1, .int p), (2, .int tu), (3, .int dx), (4, .int dy)], [.ref (39 + n)], hp) _
          refine px_gx (fun _ K9 => px_a 1 (f' := (115, [(9, .int y'), (8, .int x'), (7, .int i), (5, .long z), (0, .ref (38 + n)), (1, .int p), (2, .int tu), (3, .int dx), (4, .int dy)], [.ref (38 + n), .ref (39 + n)], hp)) rfl K9) ?_
          refine px_gx (fun _ K9 => px_gf (38 + n) 51 4 1 (.int w) rfl rfl hm rfl K9) ?_
          show px_Gx _ _ (118, [(9, .int y'), (8, .int x'), (7, .int i), (5, .long z), (0, .ref (38 + n)), (1, .int p), (2, .int tu), (3, .int dx), (4, .int dy)], [.int w, .ref (39 + n)], hp) _
          refine px_gx (fun _ K9 => px_a 3 (f' := (123, [(9, .int y'), (8, .int x'), (7, .int i), (5, .long z), (0, .ref (38 + n)), (1, .int p), (2, .int tu), (3, .int dx), (4, .int dy)], [.int (y' + dy), .int w, .ref (39 + n)], hp)) rfl K9) ?_
          rw [← ez622]
          refine px_gx (fun _ K9 => px_a 1 (f' := (124, [(9, .int y'), (8, .int x'), (7, .int i), (5, .long z), (0, .ref (38 + n)), (1, .int p), (2, .int tu), (3, .int dx), (4, .int dy)], [.int (w * z622), .ref (39 + n)], hp)) rfl K9) ?_
          obtain ⟨z624, ez624, fz624⟩ : ∃ qz : Int32, qz = w * z622 ∧ qz.toInt = w.toInt * Int32.toInt z622 ∧ 0 ≤ w.toInt * Int32.toInt z622 ∧ w.toInt * Int32.toInt z622 + w.toInt ≤ 36 := ⟨_, rfl, m_mulw (by omega) (by omega) (by omega) (by omega)⟩
          rw [← ez624]
          refine px_gx (fun _ K9 => px_a 2 (f' := (127, [(9, .int y'), (8, .int x'), (7, .int i), (5, .long z), (0, .ref (38 + n)), (1, .int p), (2, .int tu), (3, .int dx), (4, .int dy)], [.int (z624 + x'), .ref (39 + n)], hp)) rfl K9) ?_
          obtain ⟨z625, ez625, fz625⟩ : ∃ qz : Int32, qz = z624 + x' ∧ qz.toInt = Int32.toInt z624 + Int32.toInt x' := ⟨_, rfl, i32_add (by omega) (by omega)⟩
          rw [← ez625]
          refine px_gx (fun _ K9 => px_a 2 (f' := (129, [(9, .int y'), (8, .int x'), (7, .int i), (5, .long z), (0, .ref (38 + n)), (1, .int p), (2, .int tu), (3, .int dx), (4, .int dy)], [.int (z625 + dx), .ref (39 + n)], hp)) rfl K9) ?_
          obtain ⟨z626, ez626, fz626⟩ : ∃ qz : Int32, qz = z625 + dx ∧ qz.toInt = Int32.toInt z625 + Int32.toInt dx := ⟨_, rfl, i32_add (by omega) (by omega)⟩
          rw [← ez626]
          have hi627 : z626.toNatClampNeg < vsu.length := by show (Int32.toInt z626).toNat < _; omega
          obtain ⟨z627, ez627, lz627, uz627⟩ := hgu _ hi627
          refine px_gx (fun _ K9 => px_al (39 + n) (.int z627) rfl hvu (Or.inr (Or.inr (Or.inl ⟨rfl, rfl⟩))) (i32_nn (by omega)) ez627 K9) ?_
          show px_Gx _ _ (130, [(9, .int y'), (8, .int x'), (7, .int i), (5, .long z), (0, .ref (38 + n)), (1, .int p), (2, .int tu), (3, .int dx), (4, .int dy)], [.int z627], hp) _
          by_cases h628 : ¬ z627 = 0
          · have h628' := h628
            have h628'' : Int32.toInt z627 ≠ Int32.toInt 0 := fun z => h628 (Int32.toInt_inj.mp z)
            refine px_gx (fun _ K9 => px_b1 true 135 rfl rfl (decide_eq_true h628) K9) ?_
            show px_Gx _ _ (135, [(9, .int y'), (8, .int x'), (7, .int i), (5, .long z), (0, .ref (38 + n)), (1, .int p), (2, .int tu), (3, .int dx), (4, .int dy)], [], hp) _
            have hok : m_ck W V sh tu.toInt dx.toInt dy.toInt q0 := by
              rcases m_39 hW hV hnn ew q1 (Xc := Int32.toInt z621) (Yc := Int32.toInt z622) (by omega) (by omega) (by omega) (by omega) (by omega) ez627 with ⟨-, c2⟩ | ⟨c1, -⟩
              · exact m_okI hr2 fz621 fz622 (by omega) (by omega) (by omega) (by omega) c2
              · contradiction
            refine px_gx (fun _ K9 => px_a 3 (f' := (139, [(9, .int y'), (8, .int x'), (7, .int i), (5, .long z), (0, .ref (38 + n)), (1, .int p), (2, .int tu), (3, .int dx), (4, .int dy)], [.ref (38 + n), .long 1, .long z], hp)) rfl K9) ?_
            refine px_gx (fun _ K9 => px_gf (38 + n) 51 4 1 (.int w) rfl rfl hm rfl K9) ?_
            show px_Gx _ _ (142, [(9, .int y'), (8, .int x'), (7, .int i), (5, .long z), (0, .ref (38 + n)), (1, .int p), (2, .int tu), (3, .int dx), (4, .int dy)], [.int w, .long 1, .long z], hp) _
            refine px_gx (fun _ K9 => px_a 3 (f' := (147, [(9, .int y'), (8, .int x'), (7, .int i), (5, .long z), (0, .ref (38 + n)), (1, .int p), (2, .int tu), (3, .int dx), (4, .int dy)], [.int (y' + dy), .int w, .long 1, .long z], hp)) rfl K9) ?_
            rw [← ez622]
            refine px_gx (fun _ K9 => px_a 1 (f' := (148, [(9, .int y'), (8, .int x'), (7, .int i), (5, .long z), (0, .ref (38 + n)), (1, .int p), (2, .int tu), (3, .int dx), (4, .int dy)], [.int (w * z622), .long 1, .long z], hp)) rfl K9) ?_
            rw [← ez624]
            refine px_gx (fun _ K9 => px_a 2 (f' := (151, [(9, .int y'), (8, .int x'), (7, .int i), (5, .long z), (0, .ref (38 + n)), (1, .int p), (2, .int tu), (3, .int dx), (4, .int dy)], [.int (z624 + x'), .long 1, .long z], hp)) rfl K9) ?_
            rw [← ez625]
            refine px_gx (fun _ K9 => px_a 2 (f' := (153, [(9, .int y'), (8, .int x'), (7, .int i), (5, .long z), (0, .ref (38 + n)), (1, .int p), (2, .int tu), (3, .int dx), (4, .int dy)], [.int (z625 + dx), .long 1, .long z], hp)) rfl K9) ?_
            rw [← ez626]
            refine px_gx (fun _ K9 => px_a 4 (f' := (160, [(7, .int (i + 1)), (5, .long (z ||| (1 <<< (Int32.toInt64 z626 &&& 63)))), (9, .int y'), (8, .int x'), (0, .ref (38 + n)), (1, .int p), (2, .int tu), (3, .int dx), (4, .int dy)], [], hp)) rfl K9) ?_
            obtain ⟨z629, ez629, fz629⟩ : ∃ qz : Int32, qz = i + 1 ∧ qz.toInt = Int32.toInt i + Int32.toInt 1 := ⟨_, rfl, i32_add (by omega) (by omega)⟩
            rw [← ez629]
            refine px_gx (fun _ K9 => px_a 1 (f' := (6, [(7, .int z629), (5, .long (z ||| (1 <<< (Int32.toInt64 z626 &&& 63)))), (9, .int y'), (8, .int x'), (0, .ref (38 + n)), (1, .int p), (2, .int tu), (3, .int dx), (4, .int dy)], [], hp)) rfl K9) ?_
            refine px_wk [(7, .int z629), (5, .long (z ||| (1 <<< (Int32.toInt64 z626 &&& 63)))), (0, .ref (38 + n)), (1, .int p), (2, .int tu), (3, .int dx), (4, .int dy)] ⟨rfl, rfl, rfl, rfl, rfl, rfl, rfl, trivial⟩ ?_
            have ei2 : (z629).toInt.toNat = i.toInt.toNat + 1 := by omega
            exact ih z629 (z ||| (1 <<< (Int32.toInt64 z626 &&& 63))) (by omega) (by omega) (by omega) (by rw [ei2]; exact m_Sx_s hW hV ew hI hq0 hr2 fz621 fz622 hok (by omega))
          · have h628' := h628
            have h628'' : Int32.toInt z627 = Int32.toInt 0 := congrArg Int32.toInt (Decidable.not_not.mp h628)
            refine px_gx (fun _ K9 => px_b1 false 135 rfl rfl (decide_eq_false h628) K9) ?_
            show px_Gx _ _ (133, [(9, .int y'), (8, .int x'), (7, .int i), (5, .long z), (0, .ref (38 + n)), (1, .int p), (2, .int tu), (3, .int dx), (4, .int dy)], [], hp) _
            refine px_gx (fun _ K9 => px_a 1 (f' := (134, [(9, .int y'), (8, .int x'), (7, .int i), (5, .long z), (0, .ref (38 + n)), (1, .int p), (2, .int tu), (3, .int dx), (4, .int dy)], [.long 0], hp)) rfl K9) ?_
            have z0 : z627 = 0 := by first | assumption | (refine Classical.byContradiction (fun zz => ?_); contradiction)
            have h39 := m_39 hW hV hnn ew q1 (Xc := Int32.toInt z621) (Yc := Int32.toInt z622) (by omega) (by omega) (by omega) (by omega) (by omega) ez627
            exact ⟨_, _, px_e rfl rfl, 0, rfl, rfl, Or.inl ⟨rfl, _, q0, hq0, fun ok => by
              have o5 := (m_okE hr2 fz621 fz622 ok).2.2.2.2
              rcases h39 with ⟨c1, -⟩ | ⟨-, c2⟩
              · rw [z0] at c1; exact absurd c1 (by decide)
              · rw [c2] at o5; cases o5⟩⟩
set_option maxRecDepth 20000 in
set_option maxHeartbeats 4000000 in
theorem m_setX {d n W V kk : Nat} {hp : px_H} {th w h pn pl fo le ru : Int32} {sh : Int64} {l : List Nat} {vsu vsz vsq : List Value} (hW : W ≤ 6) (hV : V ≤ 6) (hnn : n = W * V) (ew : w.toInt = W) (eh : h.toInt = V) (hm : hp[38 + n]? = some (4, m_O n th w h pn pl fo le ru)) (H : pa_Hi n hp) (hvu : hp[39 + n]? = some (12, vsu)) (hvz : hp[40 + n]? = some (10, vsz)) (hvq : hp[41 + n]? = some (10, vsq)) (q1 : ∀ c, c < n → vsu[c]? = some (.int (if x_bt sh c = true then 1 else 0))) (hz0 : vsz[kk]? = some (.int (nI l.length))) (l6 : l.length ≤ 6) (hu0 : ∀ (j q : Nat), l[j]? = some q → vsq[6 * kk + j]? = some (.int (nI q)) ∧ q < 16) {p tu dx dy : Int32} (hpk : p.toInt = (kk : Int)) (p1 : 0 ≤ p.toInt) (p2 : p.toInt ≤ 5) (t1 : 0 ≤ tu.toInt) (t2 : tu.toInt ≤ 7) (dx1 : -3 ≤ dx.toInt) (dx2 : dx.toInt ≤ 9) (dy1 : -3 ≤ dy.toInt) (dy2 : dy.toInt ≤ 9) : px_Gx (d + 1) 91 (0, [(0, .ref (38 + n)), (1, .int p), (2, .int tu), (3, .int dx), (4, .int dy)], [], hp) (fun o hp' => ∃ z : Int64, o = .inl (some (.long z)) ∧ hp' = hp ∧ ((z = 0 ∧ ∃ (j q : Nat), l[j]? = some q ∧ ¬ m_ck W V sh tu.toInt dx.toInt dy.toInt q) ∨ m_Sx W V sh tu.toInt dx.toInt dy.toInt l l.length z)) := by
  have cl0 : Int32.toInt 0 = 0 := rfl

  refine px_gx (fun _ K9 => px_a 4 (f' := (6, [(7, .int 0), (5, .long 0), (0, .ref (38 + n)), (1, .int p), (2, .int tu), (3, .int dx), (4, .int dy)], [], hp)) rfl K9) ?_
  exact m_setXk hW hV hnn ew eh hm H hvu hvz hvq q1 hz0 l6 hu0 hpk p1 p2 t1 t2 dx1 dx2 dy1 dy2 7 0 0 (by omega) (by omega) (by omega) ⟨Nat.zero_le _, fun j q hj => absurd hj (Nat.not_lt_zero j), 0, rfl, by decide, fun t => ⟨fun z => absurd z (by rw [Nat.zero_testBit]; decide), fun ⟨j, _, z, _⟩ => absurd z (Nat.not_lt_zero j)⟩⟩
