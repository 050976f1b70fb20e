/-! quarter turns -/
def m_rotn : Nat → Int × Int → Int × Int
  | 0, p => p
  | k + 1, p => m_rotn k (-p.2, p.1)
theorem m_rotn_b : ∀ (k : Nat) (p : Int × Int), -3 ≤ p.1 → p.1 ≤ 3 → -3 ≤ p.2 → p.2 ≤ 3 → -3 ≤ (m_rotn k p).1 ∧ (m_rotn k p).1 ≤ 3 ∧ -3 ≤ (m_rotn k p).2 ∧ (m_rotn k p).2 ≤ 3
  | 0, p, h1, h2, h3, h4 => ⟨h1, h2, h3, h4⟩
  | k + 1, p, h1, h2, h3, h4 => m_rotn_b k (-p.2, p.1) (by show -3 ≤ -p.2; omega) (by show -p.2 ≤ 3; omega) h1 h2
def m_rot (t q : Int) : Int × Int := m_rotn (t.toNat % 4) (if 3 < t then -(q % 4) else q % 4, q / 4)
theorem m_rot_b {t q : Int} (h1 : 0 ≤ q) (h2 : q ≤ 15) : -3 ≤ (m_rot t q).1 ∧ (m_rot t q).1 ≤ 3 ∧ -3 ≤ (m_rot t q).2 ∧ (m_rot t q).2 ≤ 3 := by
  unfold m_rot
  refine m_rotn_b _ _ ?_ ?_ ?_ ?_
  · show -3 ≤ (if 3 < t then -(q % 4) else q % 4)
    split <;> omega
  · show (if 3 < t then -(q % 4) else q % 4) ≤ 3
    split <;> omega
  · show -3 ≤ q / 4
    omega
  · show q / 4 ≤ 3
    omega
/-- a piece's first square -/
def m_sq0 (n : Nat) (hp : px_H) (p : Int) : Int := match hp[41 + n]? with
  | some c => (match c.2[(6 * p).toNat]? with
    | some (.int q) => q.toInt
    | _ => 0)
  | none => 0
theorem m_sq0_b {n : Nat} {hp : px_H} (H : pa_Hi n hp) {p : Int} (p1 : 0 ≤ p) (p2 : p ≤ 5) : 0 ≤ m_sq0 n hp p ∧ m_sq0 n hp p ≤ 15 := by
  obtain ⟨vs, hv, hl, hg⟩ := pa_ara (a := 41 + n) (i := 9) (lo := 0) (hi := 15) H (by omega) (by decide) (by decide) rfl
  obtain ⟨x, ex, l, u⟩ := hg (6 * p).toNat (by omega)
  unfold m_sq0
  rw [hv]
  dsimp only
  rw [ex]
  exact ⟨l, u⟩
theorem m_sq0_e {n : Nat} {hp : px_H} {vs : List Value} {t : Nat} {ix q : Int32} {p : Int} (hv : hp[41 + n]? = some (t, vs)) (e : vs[ix.toNatClampNeg]? = some (.int q)) (hi : ix.toInt = 6 * p) : m_sq0 n hp p = q.toInt := by
  unfold m_sq0
  rw [hv]
  dsimp only
  rw [← hi]
  show (match vs[ix.toNatClampNeg]? with | some (.int q) => q.toInt | _ => 0) = _
  rw [e]
theorem m_sq0_f {n : Nat} {M : pa_M} {hp hp' : px_H} (H : pa_Hi n hp) (G : pa_Fr n M hp hp') (hM : ¬ (27, 0) ∈ M) (p : Int) : m_sq0 n hp' p = m_sq0 n hp p := by
  obtain ⟨vs, hv, hl, hg⟩ := pa_ara (a := 41 + n) (i := 9) (lo := 0) (hi := 15) H (by omega) (by decide) (by decide) rfl
  have := pa_fa (i := 9) G hv (by omega) (by decide) (by decide) (by decide) hM
  unfold m_sq0
  rw [hv, this]
theorem i32_remE {x y : Int32} (hx : 0 ≤ x.toInt) (hy : 1 ≤ y.toInt) : (x - x / y * y).toInt = x.toInt % y.toInt := by
  obtain ⟨a, a1, rfl, a3⟩ := i32_of hx
  obtain ⟨b, b1, rfl, b3⟩ := i32_of (x := y) (by omega)
  rw [pk_rem a1 (by omega) (by omega), a3, b3, nI_toInt (Nat.lt_of_le_of_lt (Nat.mod_le _ _) a1)]
  omega
theorem i32_divE {x y : Int32} (hx : 0 ≤ x.toInt) (hy : 1 ≤ y.toInt) : (x / y).toInt = x.toInt / y.toInt := by
  obtain ⟨a, a1, rfl, a3⟩ := i32_of hx
  obtain ⟨b, b1, rfl, b3⟩ := i32_of (x := y) (by omega)
  rw [pk_div a1 (by omega) (by omega), a3, b3, nI_toInt (Nat.lt_of_le_of_lt (Nat.div_le_self _ _) a1)]
  omega
theorem m_mulw {w y : Int32} (w1 : 1 ≤ w.toInt) (w2 : w.toInt ≤ 6) (y1 : 0 ≤ y.toInt) (y2 : y.toInt ≤ 5) : (w * y).toInt = w.toInt * y.toInt ∧ 0 ≤ w.toInt * y.toInt ∧ w.toInt * y.toInt + w.toInt ≤ 36 := by
  have p1 : w.toInt * (y.toInt + 1) ≤ 6 * 6 := Int.mul_le_mul w2 (by omega) (by omega) (by omega)
  have p0 : 0 ≤ w.toInt * y.toInt := Int.mul_nonneg (by omega) y1
  rw [Int.mul_add] at p1
  refine ⟨i32_mul (by omega) (by omega), p0, by omega⟩
set_option maxRecDepth 20000 in
set_option maxHeartbeats 4000000 in
theorem m_setOf_t {d n : Nat} {hp : px_H} {th w h pn pl fo le ru : Int32} (hm : hp[38 + n]? = some (4, m_O n th w h pn pl fo le ru)) (H : pa_Hi n hp) {p tu dx dy i : Int32} {z : Int64} {P : px_O → px_H → Prop} (t1 : 0 ≤ tu.toInt) (t2 : tu.toInt ≤ 7) : ∀ (k : Nat) (t x y : Int32), t.toInt + k = tu.toInt % 4 → 0 ≤ t.toInt → -3 ≤ x.toInt → x.toInt ≤ 3 → -3 ≤ y.toInt → y.toInt ≤ 3 → (∀ x' y' : Int32, (x'.toInt, y'.toInt) = m_rotn k (x.toInt, y.toInt) → px_Gx d 91 (94, [(9, .int y'), (8, .int x'), (7, .int i), (5, .long z), (0, .ref (38 + n)), (1, .int p), (2, .int tu), (3, .int dx), (4, .int dy)], [], hp) P) → px_Gx d 91 (67, [(10, .int t), (9, .int y), (8, .int x), (7, .int i), (5, .long z), (0, .ref (38 + n)), (1, .int p), (2, .int tu), (3, .int dx), (4, .int dy)], [], hp) P := by
  have cl1 : Int32.toInt 1 = 1 := rfl
  have cl4 : Int32.toInt 4 = 4 := rfl
  obtain ⟨bth1, bth2, bw1, bw2, bh1, bh2, bpn1, bpn2, bpl1, bpl2, bfo1, bfo2, ble1, ble2, bru1, bru2⟩ := pa_bnd H hm
  intro k
  induction k with
  | zero =>
    intro t x y g1 g2 g3 g4 g5 g6 K
    refine px_gx (fun _ K => px_a 3 (f' := (71, [(10, .int t), (9, .int y), (8, .int x), (7, .int i), (5, .long z), (0, .ref (38 + n)), (1, .int p), (2, .int tu), (3, .int dx), (4, .int dy)], [.int 4, .int tu, .int t], hp)) rfl K) ?_
    refine px_gx (fun _ K => px_irem rfl (pa_ne0 (by omega)) K) ?_
    show px_Gx _ _ (72, [(10, .int t), (9, .int y), (8, .int x), (7, .int i), (5, .long z), (0, .ref (38 + n)), (1, .int p), (2, .int tu), (3, .int dx), (4, .int dy)], [.int (tu - tu / 4 * 4), .int t], hp) _
    obtain ⟨z112, ez112, fz112⟩ : ∃ qz : Int32, qz = (tu - tu / 4 * 4) ∧ qz.toInt = Int32.toInt tu % 4 := ⟨_, rfl, i32_remE (by omega) (by omega)⟩
    rw [← ez112]
    by_cases h113 : z112 ≤ t
    · have h113' := h113
      rw [Int32.le_iff_toInt_le] at h113'
      refine px_gx (fun _ K => px_b2 true 94 rfl rfl (decide_eq_true h113) K) ?_
      show px_Gx _ _ (94, [(10, .int t), (9, .int y), (8, .int x), (7, .int i), (5, .long z), (0, .ref (38 + n)), (1, .int p), (2, .int tu), (3, .int dx), (4, .int dy)], [], hp) _
      refine px_wk [(9, .int y), (8, .int x), (7, .int i), (5, .long z), (0, .ref (38 + n)), (1, .int p), (2, .int tu), (3, .int dx), (4, .int dy)] ⟨rfl, rfl, rfl, rfl, rfl, rfl, rfl, rfl, rfl, trivial⟩ ?_
      exact K x y rfl
    · have h113' := h113
      rw [Int32.le_iff_toInt_le] at h113'
      refine px_gx (fun _ K => px_b2 false 94 rfl rfl (decide_eq_false h113) K) ?_
      show px_Gx _ _ (75, [(10, .int t), (9, .int y), (8, .int x), (7, .int i), (5, .long z), (0, .ref (38 + n)), (1, .int p), (2, .int tu), (3, .int dx), (4, .int dy)], [], hp) _
      refine px_gx (fun _ K => px_a 4 (f' := (82, [(11, .int x), (10, .int t), (9, .int y), (8, .int x), (7, .int i), (5, .long z), (0, .ref (38 + n)), (1, .int p), (2, .int tu), (3, .int dx), (4, .int dy)], [.int (-y)], hp)) rfl K) ?_
      obtain ⟨z114, ez114, fz114⟩ : ∃ qz : Int32, qz = -y ∧ qz.toInt = - Int32.toInt y := ⟨_, rfl, i32_neg (by omega)⟩
      rw [← ez114]
      refine px_gx (fun _ K => px_a 4 (f' := (91, [(10, .int (t + 1)), (9, .int x), (8, .int z114), (11, .int x), (7, .int i), (5, .long z), (0, .ref (38 + n)), (1, .int p), (2, .int tu), (3, .int dx), (4, .int dy)], [], hp)) rfl K) ?_
      obtain ⟨z115, ez115, fz115⟩ : ∃ qz : Int32, qz = t + 1 ∧ qz.toInt = Int32.toInt t + Int32.toInt 1 := ⟨_, rfl, i32_add (by omega) (by omega)⟩
      rw [← ez115]
      refine px_gx (fun _ K => px_a 1 (f' := (67, [(10, .int z115), (9, .int x), (8, .int z114), (11, .int x), (7, .int i), (5, .long z), (0, .ref (38 + n)), (1, .int p), (2, .int tu), (3, .int dx), (4, .int dy)], [], hp)) rfl K) ?_
      omega
  | succ k ih =>
    intro t x y g1 g2 g3 g4 g5 g6 K
    refine px_gx (fun _ K => px_a 3 (f' := (71, [(10, .int t), (9, .int y), (8, .int x), (7, .int i), (5, .long z), (0, .ref (38 + n)), (1, .int p), (2, .int tu), (3, .int dx), (4, .int dy)], [.int 4, .int tu, .int t], hp)) rfl K) ?_
    refine px_gx (fun _ K => px_irem rfl (pa_ne0 (by omega)) K) ?_
    show px_Gx _ _ (72, [(10, .int t), (9, .int y), (8, .int x), (7, .int i), (5, .long z), (0, .ref (38 + n)), (1, .int p), (2, .int tu), (3, .int dx), (4, .int dy)], [.int (tu - tu / 4 * 4), .int t], hp) _
    obtain ⟨z116, ez116, fz116⟩ : ∃ qz : Int32, qz = (tu - tu / 4 * 4) ∧ qz.toInt = Int32.toInt tu % 4 := ⟨_, rfl, i32_remE (by omega) (by omega)⟩
    rw [← ez116]
    by_cases h117 : z116 ≤ t
    · have h117' := h117
      rw [Int32.le_iff_toInt_le] at h117'
      refine px_gx (fun _ K => px_b2 true 94 rfl rfl (decide_eq_true h117) K) ?_
      show px_Gx _ _ (94, [(10, .int t), (9, .int y), (8, .int x), (7, .int i), (5, .long z), (0, .ref (38 + n)), (1, .int p), (2, .int tu), (3, .int dx), (4, .int dy)], [], hp) _
      omega
    · have h117' := h117
      rw [Int32.le_iff_toInt_le] at h117'
      refine px_gx (fun _ K => px_b2 false 94 rfl rfl (decide_eq_false h117) K) ?_
      show px_Gx _ _ (75, [(10, .int t), (9, .int y), (8, .int x), (7, .int i), (5, .long z), (0, .ref (38 + n)), (1, .int p), (2, .int tu), (3, .int dx), (4, .int dy)], [], hp) _
      refine px_gx (fun _ K => px_a 4 (f' := (82, [(11, .int x), (10, .int t), (9, .int y), (8, .int x), (7, .int i), (5, .long z), (0, .ref (38 + n)), (1, .int p), (2, .int tu), (3, .int dx), (4, .int dy)], [.int (-y)], hp)) rfl K) ?_
      obtain ⟨z118, ez118, fz118⟩ : ∃ qz : Int32, qz = -y ∧ qz.toInt = - Int32.toInt y := ⟨_, rfl, i32_neg (by omega)⟩
      rw [← ez118]
      refine px_gx (fun _ K => px_a 4 (f' := (91, [(10, .int (t + 1)), (9, .int x), (8, .int z118), (11, .int x), (7, .int i), (5, .long z), (0, .ref (38 + n)), (1, .int p), (2, .int tu), (3, .int dx), (4, .int dy)], [], hp)) rfl K) ?_
      obtain ⟨z119, ez119, fz119⟩ : ∃ qz : Int32, qz = t + 1 ∧ qz.toInt = Int32.toInt t + Int32.toInt 1 := ⟨_, rfl, i32_add (by omega) (by omega)⟩
      rw [← ez119]
      refine px_gx (fun _ K => px_a 1 (f' := (67, [(10, .int z119), (9, .int x), (8, .int z118), (11, .int x), (7, .int i), (5, .long z), (0, .ref (38 + n)), (1, .int p), (2, .int tu), (3, .int dx), (4, .int dy)], [], hp)) rfl K) ?_
      refine px_wk [(10, .int z119), (9, .int x), (8, .int z118), (7, .int i), (5, .long z), (0, .ref (38 + n)), (1, .int p), (2, .int tu), (3, .int dx), (4, .int dy)] ⟨rfl, rfl, rfl, rfl, rfl, rfl, rfl, rfl, rfl, rfl, trivial⟩ ?_
      exact ih z119 z118 x (by omega) (by omega) (by omega) (by omega) (by omega) (by omega) (fun x' y' e => K x' y' (by rw [e, fz118]; rfl))
set_option maxRecDepth 20000 in
set_option maxHeartbeats 4000000 in
theorem m_setOf_k {d n : Nat} {hp : px_H} {th w h pn pl fo le ru : Int32} (hm : hp[38 + n]? = some (4, m_O n th w h pn pl fo le ru)) (H : pa_Hi n hp) {p tu dx dy : Int32} (p1 : 0 ≤ p.toInt) (p2 : p.toInt ≤ 5) (t1 : 0 ≤ tu.toInt) (t2 : tu.toInt ≤ 7) (dx1 : -3 ≤ dx.toInt) (dx2 : dx.toInt ≤ 9) (dy1 : -3 ≤ dy.toInt) (dy2 : dy.toInt ≤ 9) : ∀ (k : Nat) (i : Int32) (z : Int64), i.toInt + k = 7 → 0 ≤ i.toInt → i.toInt ≤ 6 → ((i.toInt = 0 ∧ z = 0) ∨ (0 ≤ (m_rot tu.toInt (m_sq0 n hp p.toInt)).1 + dx.toInt ∧ (m_rot tu.toInt (m_sq0 n hp p.toInt)).1 + dx.toInt ≤ 5 ∧ 0 ≤ (m_rot tu.toInt (m_sq0 n hp p.toInt)).2 + dy.toInt ∧ (m_rot tu.toInt (m_sq0 n hp p.toInt)).2 + dy.toInt ≤ 5)) → px_Gx (d + 1) 91 (6, [(7, .int i), (5, .long z), (0, .ref (38 + n)), (1, .int p), (2, .int tu), (3, .int dx), (4, .int dy)], [], hp) (fun o hp' => ∃ z : Int64, o = .inl (some (.long z)) ∧ hp' = hp ∧ (z ≠ 0 → 0 ≤ (m_rot tu.toInt (m_sq0 n hp p.toInt)).1 + dx.toInt ∧ (m_rot tu.toInt (m_sq0 n hp p.toInt)).1 + dx.toInt ≤ 5 ∧ 0 ≤ (m_rot tu.toInt (m_sq0 n hp p.toInt)).2 + dy.toInt ∧ (m_rot tu.toInt (m_sq0 n hp p.toInt)).2 + dy.toInt ≤ 5)) := by
  have cl0 : Int32.toInt 0 = 0 := rfl
  have cl1 : Int32.toInt 1 = 1 := rfl
  have cl3 : Int32.toInt 3 = 3 := rfl
  have cl4 : Int32.toInt 4 = 4 := rfl
  have cl6 : Int32.toInt 6 = 6 := rfl
  obtain ⟨bth1, bth2, bw1, bw2, bh1, bh2, bpn1, bpn2, bpl1, bpl2, bfo1, bfo2, ble1, ble2, bru1, bru2⟩ := pa_bnd H hm
  intro k
  induction k with
  | zero =>
    intro i z g1 g2 g3 hI
    omega
  | succ k ih =>
    intro i z g1 g2 g3 hI
    refine px_gx (fun _ K => px_a 2 (f' := (9, [(7, .int i), (5, .long z), (0, .ref (38 + n)), (1, .int p), (2, .int tu), (3, .int dx), (4, .int dy)], [.ref (38 + n), .int i], hp)) rfl K) ?_
    refine px_gx (fun _ K => px_gf (38 + n) 13 4 5 (.ref (40 + n)) rfl rfl hm rfl K) ?_
    show px_Gx _ _ (12, [(7, .int i), (5, .long z), (0, .ref (38 + n)), (1, .int p), (2, .int tu), (3, .int dx), (4, .int dy)], [.ref (40 + n), .int i], hp) _
    refine px_gx (fun _ K => px_a 1 (f' := (13, [(7, .int i), (5, .long z), (0, .ref (38 + n)), (1, .int p), (2, .int tu), (3, .int dx), (4, .int dy)], [.int p, .ref (40 + n), .int i], hp)) rfl K) ?_
    obtain ⟨vs121, hv121, hl121, hg121⟩ := pa_ara (a := 40 + n) (i := 8) (lo := 0) (hi := 6) H (by omega) (by decide) (by decide) rfl
    have hi120 : p.toNatClampNeg < vs121.length := by show (Int32.toInt p).toNat < _; omega
    obtain ⟨z120, ez120, lz120, uz120⟩ := hg121 _ hi120
    refine px_gx (fun _ K => px_al (40 + n) (.int z120) rfl hv121 (Or.inl ⟨rfl, Or.inl rfl⟩) (i32_nn (by omega)) ez120 K) ?_
    show px_Gx _ _ (14, [(7, .int i), (5, .long z), (0, .ref (38 + n)), (1, .int p), (2, .int tu), (3, .int dx), (4, .int dy)], [.int z120, .int i], hp) _
    by_cases h122 : z120 ≤ i
    · have h122' := h122
      rw [Int32.le_iff_toInt_le] at h122'
      refine px_gx (fun _ K => px_b2 true 163 rfl rfl (decide_eq_true h122) K) ?_
      show px_Gx _ _ (163, [(7, .int i), (5, .long z), (0, .ref (38 + n)), (1, .int p), (2, .int tu), (3, .int dx), (4, .int dy)], [], hp) _
      refine px_gx (fun _ K => px_a 1 (f' := (165, [(7, .int i), (5, .long z), (0, .ref (38 + n)), (1, .int p), (2, .int tu), (3, .int dx), (4, .int dy)], [.long z], hp)) rfl K) ?_
      exact ⟨_, _, px_e rfl rfl, z, rfl, rfl, fun q => hI.resolve_left (fun q2 => q q2.2)⟩
    · have h122' := h122
      rw [Int32.le_iff_toInt_le] at h122'
      refine px_gx (fun _ K => px_b2 false 163 rfl rfl (decide_eq_false h122) K) ?_
      show px_Gx _ _ (17, [(7, .int i), (5, .long z), (0, .ref (38 + n)), (1, .int p), (2, .int tu), (3, .int dx), (4, .int dy)], [], hp) _
      refine px_gx (fun _ K => px_a 1 (f' := (18, [(7, .int i), (5, .long z), (0, .ref (38 + n)), (1, .int p), (2, .int tu), (3, .int dx), (4, .int dy)], [.ref (38 + n)], hp)) rfl K) ?_
      refine px_gx (fun _ K => px_gf (38 + n) 17 4 6 (.ref (41 + n)) rfl rfl hm rfl K) ?_
      show px_Gx _ _ (21, [(7, .int i), (5, .long z), (0, .ref (38 + n)), (1, .int p), (2, .int tu), (3, .int dx), (4, .int dy)], [.ref (41 + n)], hp) _
      refine px_gx (fun _ K => px_a 3 (f' := (25, [(7, .int i), (5, .long z), (0, .ref (38 + n)), (1, .int p), (2, .int tu), (3, .int dx), (4, .int dy)], [.int (6 * p), .ref (41 + n)], hp)) rfl K) ?_
      obtain ⟨z123, ez123, fz123⟩ : ∃ qz : Int32, qz = 6 * p ∧ qz.toInt = 6 * Int32.toInt p := ⟨_, rfl, i32_mulL rfl (by omega) (by omega)⟩
      rw [← ez123]
      refine px_gx (fun _ K => px_a 2 (f' := (28, [(7, .int i), (5, .long z), (0, .ref (38 + n)), (1, .int p), (2, .int tu), (3, .int dx), (4, .int dy)], [.int (z123 + i), .ref (41 + n)], hp)) rfl K) ?_
      obtain ⟨z124, ez124, fz124⟩ : ∃ qz : Int32, qz = z123 + i ∧ qz.toInt = Int32.toInt z123 + Int32.toInt i := ⟨_, rfl, i32_add (by omega) (by omega)⟩
      rw [← ez124]
      obtain ⟨vs126, hv126, hl126, hg126⟩ := pa_ara (a := 41 + n) (i := 9) (lo := 0) (hi := 15) H (by omega) (by decide) (by decide) rfl
      have hi125 : z124.toNatClampNeg < vs126.length := by show (Int32.toInt z124).toNat < _; omega
      obtain ⟨z125, ez125, lz125, uz125⟩ := hg126 _ hi125
      refine px_gx (fun _ K => px_al (41 + n) (.int z125) rfl hv126 (Or.inl ⟨rfl, Or.inl rfl⟩) (i32_nn (by omega)) ez125 K) ?_
      show px_Gx _ _ (29, [(7, .int i), (5, .long z), (0, .ref (38 + n)), (1, .int p), (2, .int tu), (3, .int dx), (4, .int dy)], [.int z125], hp) _
      refine px_gx (fun _ K => px_a 1 (f' := (30, [(7, .int i), (5, .long z), (0, .ref (38 + n)), (1, .int p), (2, .int tu), (3, .int dx), (4, .int dy)], [.int 4, .int z125], hp)) rfl K) ?_
      refine px_gx (fun _ K => px_irem rfl (pa_ne0 (by omega)) K) ?_
      show px_Gx _ _ (31, [(7, .int i), (5, .long z), (0, .ref (38 + n)), (1, .int p), (2, .int tu), (3, .int dx), (4, .int dy)], [.int (z125 - z125 / 4 * 4)], hp) _
      obtain ⟨z127, ez127, fz127⟩ : ∃ qz : Int32, qz = (z125 - z125 / 4 * 4) ∧ qz.toInt = Int32.toInt z125 % 4 := ⟨_, rfl, i32_remE (by omega) (by omega)⟩
      rw [← ez127]
      refine px_gx (fun _ K => px_a 2 (f' := (34, [(8, .int z127), (7, .int i), (5, .long z), (0, .ref (38 + n)), (1, .int p), (2, .int tu), (3, .int dx), (4, .int dy)], [.ref (38 + n)], hp)) rfl K) ?_
      refine px_gx (fun _ K => px_gf (38 + n) 17 4 6 (.ref (41 + n)) rfl rfl hm rfl K) ?_
      show px_Gx _ _ (37, [(8, .int z127), (7, .int i), (5, .long z), (0, .ref (38 + n)), (1, .int p), (2, .int tu), (3, .int dx), (4, .int dy)], [.ref (41 + n)], hp) _
      refine px_gx (fun _ K => px_a 3 (f' := (41, [(8, .int z127), (7, .int i), (5, .long z), (0, .ref (38 + n)), (1, .int p), (2, .int tu), (3, .int dx), (4, .int dy)], [.int (6 * p), .ref (41 + n)], hp)) rfl K) ?_
      rw [← ez123]
      refine px_gx (fun _ K => px_a 2 (f' := (44, [(8, .int z127), (7, .int i), (5, .long z), (0, .ref (38 + n)), (1, .int p), (2, .int tu), (3, .int dx), (4, .int dy)], [.int (z123 + i), .ref (41 + n)], hp)) rfl K) ?_
      rw [← ez124]
      refine px_gx (fun _ K => px_al (41 + n) (.int z125) rfl hv126 (Or.inl ⟨rfl, Or.inl rfl⟩) (i32_nn (by omega)) ez125 K) ?_
      show px_Gx _ _ (45, [(8, .int z127), (7, .int i), (5, .long z), (0, .ref (38 + n)), (1, .int p), (2, .int tu), (3, .int dx), (4, .int dy)], [.int z125], hp) _
      refine px_gx (fun _ K => px_a 1 (f' := (46, [(8, .int z127), (7, .int i), (5, .long z), (0, .ref (38 + n)), (1, .int p), (2, .int tu), (3, .int dx), (4, .int dy)], [.int 4, .int z125], hp)) rfl K) ?_
      refine px_gx (fun _ K => px_idiv rfl (pa_ne0 (by omega)) K) ?_
      show px_Gx _ _ (47, [(8, .int z127), (7, .int i), (5, .long z), (0, .ref (38 + n)), (1, .int p), (2, .int tu), (3, .int dx), (4, .int dy)], [.int (z125 / 4)], hp) _
      obtain ⟨z129, ez129, fz129⟩ : ∃ qz : Int32, qz = (z125 / 4) ∧ qz.toInt = Int32.toInt z125 / 4 := ⟨_, rfl, i32_divE (by omega) (by omega)⟩
      rw [← ez129]
      refine px_gx (fun _ K => px_a 3 (f' := (51, [(9, .int z129), (8, .int z127), (7, .int i), (5, .long z), (0, .ref (38 + n)), (1, .int p), (2, .int tu), (3, .int dx), (4, .int dy)], [.int 3, .int tu], hp)) rfl K) ?_
      by_cases h130 : tu ≤ 3
      · have h130' := h130
        rw [Int32.le_iff_toInt_le] at h130'
        refine px_gx (fun _ K => px_b2 true 60 rfl rfl (decide_eq_true h130) K) ?_
        show px_Gx _ _ (60, [(9, .int z129), (8, .int z127), (7, .int i), (5, .long z), (0, .ref (38 + n)), (1, .int p), (2, .int tu), (3, .int dx), (4, .int dy)], [], hp) _
        refine px_gx (fun _ K => px_a 4 (f' := (67, [(10, .int 0), (8, .int z127), (9, .int z129), (7, .int i), (5, .long z), (0, .ref (38 + n)), (1, .int p), (2, .int tu), (3, .int dx), (4, .int dy)], [], hp)) rfl K) ?_
        refine px_wk [(10, .int 0), (9, .int z129), (8, .int z127), (7, .int i), (5, .long z), (0, .ref (38 + n)), (1, .int p), (2, .int tu), (3, .int dx), (4, .int dy)] ⟨rfl, rfl, rfl, rfl, rfl, rfl, rfl, rfl, rfl, rfl, trivial⟩ ?_
        refine m_setOf_t hm H (by omega) (by omega) (tu.toInt % 4).toNat 0 z127 z129 (by omega) (by omega) (by omega) (by omega) (by omega) (by omega) (fun x' y' e => ?_)
        have hr : (x'.toInt, y'.toInt) = m_rot tu.toInt z125.toInt := by
          rw [e]; unfold m_rot; congr 1
          · omega
          · rw [if_neg (by omega)]; refine Prod.ext ?_ ?_
            · show Int32.toInt z127 = _; omega
            · show Int32.toInt z129 = _; omega
        have hb := m_rot_b (t := tu.toInt) (q := z125.toInt) (by omega) (by omega)
        rw [← hr] at hb; dsimp only at hb
        obtain ⟨hb1, hb2, hb3, hb4⟩ := hb
        refine px_gx (fun _ K => px_a 4 (f' := (99, [(9, .int y'), (8, .int x'), (7, .int i), (5, .long z), (0, .ref (38 + n)), (1, .int p), (2, .int tu), (3, .int dx), (4, .int dy)], [.int (x' + dx), .ref (38 + n)], hp)) rfl K) ?_
        obtain ⟨z131, ez131, fz131⟩ : ∃ qz : Int32, qz = x' + dx ∧ qz.toInt = Int32.toInt x' + Int32.toInt dx := ⟨_, rfl, i32_add (by omega) (by omega)⟩
        rw [← ez131]
        refine px_gx (fun _ K => px_a 3 (f' := (104, [(9, .int y'), (8, .int x'), (7, .int i), (5, .long z), (0, .ref (38 + n)), (1, .int p), (2, .int tu), (3, .int dx), (4, .int dy)], [.int (y' + dy), .int z131, .ref (38 + n)], hp)) rfl K) ?_
        obtain ⟨z132, ez132, fz132⟩ : ∃ qz : Int32, qz = y' + dy ∧ qz.toInt = Int32.toInt y' + Int32.toInt dy := ⟨_, rfl, i32_add (by omega) (by omega)⟩
        rw [← ez132]
        by_cases h133 : (z131 < 0 ∨ w ≤ z131 ∨ z132 < 0 ∨ h ≤ z132)
        · refine px_gx (fun _ K => px_cv (38 + n) (as := [.int z131, .int z132]) (rest := []) rfl rfl hm rfl rfl rfl rfl (Nat.le_of_ble_eq_true rfl) (p_isCell_o hm h133) K) ?_
          show px_Gx _ _ (107, [(9, .int y'), (8, .int x'), (7, .int i), (5, .long z), (0, .ref (38 + n)), (1, .int p), (2, .int tu), (3, .int dx), (4, .int dy)], [.int 0], hp) _
          refine px_gx (fun _ K => px_a 2 (f' := (134, [(9, .int y'), (8, .int x'), (7, .int i), (5, .long z), (0, .ref (38 + n)), (1, .int p), (2, .int tu), (3, .int dx), (4, .int dy)], [.long 0], hp)) rfl K) ?_
          exact ⟨_, _, px_e rfl rfl, 0, rfl, rfl, fun q => absurd rfl q⟩
        · refine px_gx (fun _ K => px_cv (38 + n) (as := [.int z131, .int z132]) (rest := []) rfl rfl hm rfl rfl rfl rfl (Nat.le_of_ble_eq_true rfl) (p_isCell_i hm h133) K) ?_
          show px_Gx _ _ (107, [(9, .int y'), (8, .int x'), (7, .int i), (5, .long z), (0, .ref (38 + n)), (1, .int p), (2, .int tu), (3, .int dx), (4, .int dy)], [.int 1], hp) _
          have h133a : ¬ z131 < 0 := fun z => h133 (Or.inl z)
          rw [Int32.lt_iff_toInt_lt] at h133a
          have h133b : ¬ w ≤ z131 := fun z => h133 (Or.inr (Or.inl z))
          rw [Int32.le_iff_toInt_le] at h133b
          have h133c : ¬ z132 < 0 := fun z => h133 (Or.inr (Or.inr (Or.inl z)))
          rw [Int32.lt_iff_toInt_lt] at h133c
          have h133d : ¬ h ≤ z132 := fun z => h133 (Or.inr (Or.inr (Or.inr z)))
          rw [Int32.le_iff_toInt_le] at h133d
          refine px_gx (fun _ K => px_a 2 (f' := (111, [(9, .int y'), (8, .int x'), (7, .int i), (5, .long z), (0, .ref (38 + n)), (1, .int p), (2, .int tu), (3, .int dx), (4, .int dy)], [.ref (38 + n)], hp)) rfl K) ?_
          refine px_gx (fun _ K => px_gf (38 + n) 7 4 3 (.ref (39 + n)) rfl rfl hm rfl K) ?_
          show px_Gx _ _ (114, [(9, .int y'), (8, .int x'), (7, .int i), (5, .long z), (0, .ref (38 + n)), (1, .int p), (2, .int tu), (3, .int dx), (4, .int dy)], [.ref (39 + n)], hp) _
          refine px_gx (fun _ K => px_a 1 (f' := (115, [(9, .int y'), (8, .int x'), (7, .int i), (5, .long z), (0, .ref (38 + n)), (1, .int p), (2, .int tu), (3, .int dx), (4, .int dy)], [.ref (38 + n), .ref (39 + n)], hp)) rfl K) ?_
          refine px_gx (fun _ K => px_gf (38 + n) 51 4 1 (.int w) rfl rfl hm rfl K) ?_
          show px_Gx _ _ (118, [(9, .int y'), (8, .int x'), (7, .int i), (5, .long z), (0, .ref (38 + n)), (1, .int p), (2, .int tu), (3, .int dx), (4, .int dy)], [.int w, .ref (39 + n)], hp) _
          refine px_gx (fun _ K => px_a 3 (f' := (123, [(9, .int y'), (8, .int x'), (7, .int i), (5, .long z), (0, .ref (38 + n)), (1, .int p), (2, .int tu), (3, .int dx), (4, .int dy)], [.int (y' + dy), .int w, .ref (39 + n)], hp)) rfl K) ?_
          rw [← ez132]
          refine px_gx (fun _ K => px_a 1 (f' := (124, [(9, .int y'), (8, .int x'), (7, .int i), (5, .long z), (0, .ref (38 + n)), (1, .int p), (2, .int tu), (3, .int dx), (4, .int dy)], [.int (w * z132), .ref (39 + n)], hp)) rfl K) ?_
          obtain ⟨z134, ez134, fz134⟩ : ∃ qz : Int32, qz = w * z132 ∧ qz.toInt = w.toInt * Int32.toInt z132 ∧ 0 ≤ w.toInt * Int32.toInt z132 ∧ w.toInt * Int32.toInt z132 + w.toInt ≤ 36 := ⟨_, rfl, m_mulw (by omega) (by omega) (by omega) (by omega)⟩
          rw [← ez134]
          refine px_gx (fun _ K => px_a 2 (f' := (127, [(9, .int y'), (8, .int x'), (7, .int i), (5, .long z), (0, .ref (38 + n)), (1, .int p), (2, .int tu), (3, .int dx), (4, .int dy)], [.int (z134 + x'), .ref (39 + n)], hp)) rfl K) ?_
          obtain ⟨z135, ez135, fz135⟩ : ∃ qz : Int32, qz = z134 + x' ∧ qz.toInt = Int32.toInt z134 + Int32.toInt x' := ⟨_, rfl, i32_add (by omega) (by omega)⟩
          rw [← ez135]
          refine px_gx (fun _ K => px_a 2 (f' := (129, [(9, .int y'), (8, .int x'), (7, .int i), (5, .long z), (0, .ref (38 + n)), (1, .int p), (2, .int tu), (3, .int dx), (4, .int dy)], [.int (z135 + dx), .ref (39 + n)], hp)) rfl K) ?_
          obtain ⟨z136, ez136, fz136⟩ : ∃ qz : Int32, qz = z135 + dx ∧ qz.toInt = Int32.toInt z135 + Int32.toInt dx := ⟨_, rfl, i32_add (by omega) (by omega)⟩
          rw [← ez136]
          obtain ⟨vs138, hv138, hl138, hg138⟩ := pa_ara (a := 39 + n) (i := 7) (lo := 0) (hi := 1) H (by omega) (by decide) (by decide) rfl
          have hi137 : z136.toNatClampNeg < vs138.length := by show (Int32.toInt z136).toNat < _; omega
          obtain ⟨z137, ez137, lz137, uz137⟩ := hg138 _ hi137
          refine px_gx (fun _ K => px_al (39 + n) (.int z137) rfl hv138 (Or.inr (Or.inr (Or.inl ⟨rfl, rfl⟩))) (i32_nn (by omega)) ez137 K) ?_
          show px_Gx _ _ (130, [(9, .int y'), (8, .int x'), (7, .int i), (5, .long z), (0, .ref (38 + n)), (1, .int p), (2, .int tu), (3, .int dx), (4, .int dy)], [.int z137], hp) _
          by_cases h139 : ¬ z137 = 0
          · have h139' := h139
            have h139'' : Int32.toInt z137 ≠ Int32.toInt 0 := fun z => h139 (Int32.toInt_inj.mp z)
            refine px_gx (fun _ K => px_b1 true 135 rfl rfl (decide_eq_true h139) K) ?_
            show px_Gx _ _ (135, [(9, .int y'), (8, .int x'), (7, .int i), (5, .long z), (0, .ref (38 + n)), (1, .int p), (2, .int tu), (3, .int dx), (4, .int dy)], [], hp) _
            have hC : 0 ≤ (m_rot tu.toInt (m_sq0 n hp p.toInt)).1 + dx.toInt ∧ (m_rot tu.toInt (m_sq0 n hp p.toInt)).1 + dx.toInt ≤ 5 ∧ 0 ≤ (m_rot tu.toInt (m_sq0 n hp p.toInt)).2 + dy.toInt ∧ (m_rot tu.toInt (m_sq0 n hp p.toInt)).2 + dy.toInt ≤ 5 := by
              rcases hI with ⟨hI1, -⟩ | hI
              · have e0 := m_sq0_e (p := p.toInt) hv126 ez125 (by omega)
                rw [e0, ← hr]
                exact ⟨by dsimp only; omega, by dsimp only; omega, by dsimp only; omega, by dsimp only; omega⟩
              · exact hI
            refine px_gx (fun _ K => px_a 3 (f' := (139, [(9, .int y'), (8, .int x'), (7, .int i), (5, .long z), (0, .ref (38 + n)), (1, .int p), (2, .int tu), (3, .int dx), (4, .int dy)], [.ref (38 + n), .long 1, .long z], hp)) rfl K) ?_
            refine px_gx (fun _ K => px_gf (38 + n) 51 4 1 (.int w) rfl rfl hm rfl K) ?_
            show px_Gx _ _ (142, [(9, .int y'), (8, .int x'), (7, .int i), (5, .long z), (0, .ref (38 + n)), (1, .int p), (2, .int tu), (3, .int dx), (4, .int dy)], [.int w, .long 1, .long z], hp) _
            refine px_gx (fun _ K => px_a 3 (f' := (147, [(9, .int y'), (8, .int x'), (7, .int i), (5, .long z), (0, .ref (38 + n)), (1, .int p), (2, .int tu), (3, .int dx), (4, .int dy)], [.int (y' + dy), .int w, .long 1, .long z], hp)) rfl K) ?_
            rw [← ez132]
            refine px_gx (fun _ K => px_a 1 (f' := (148, [(9, .int y'), (8, .int x'), (7, .int i), (5, .long z), (0, .ref (38 + n)), (1, .int p), (2, .int tu), (3, .int dx), (4, .int dy)], [.int (w * z132), .long 1, .long z], hp)) rfl K) ?_
            rw [← ez134]
            refine px_gx (fun _ K => px_a 2 (f' := (151, [(9, .int y'), (8, .int x'), (7, .int i), (5, .long z), (0, .ref (38 + n)), (1, .int p), (2, .int tu), (3, .int dx), (4, .int dy)], [.int (z134 + x'), .long 1, .long z], hp)) rfl K) ?_
            rw [← ez135]
            refine px_gx (fun _ K => px_a 2 (f' := (153, [(9, .int y'), (8, .int x'), (7, .int i), (5, .long z), (0, .ref (38 + n)), (1, .int p), (2, .int tu), (3, .int dx), (4, .int dy)], [.int (z135 + dx), .long 1, .long z], hp)) rfl K) ?_
            rw [← ez136]
            refine px_gx (fun _ K => px_a 4 (f' := (160, [(7, .int (i + 1)), (5, .long (z ||| (1 <<< (Int32.toInt64 z136 &&& 63)))), (9, .int y'), (8, .int x'), (0, .ref (38 + n)), (1, .int p), (2, .int tu), (3, .int dx), (4, .int dy)], [], hp)) rfl K) ?_
            obtain ⟨z140, ez140, fz140⟩ : ∃ qz : Int32, qz = i + 1 ∧ qz.toInt = Int32.toInt i + Int32.toInt 1 := ⟨_, rfl, i32_add (by omega) (by omega)⟩
            rw [← ez140]
            refine px_gx (fun _ K => px_a 1 (f' := (6, [(7, .int z140), (5, .long (z ||| (1 <<< (Int32.toInt64 z136 &&& 63)))), (9, .int y'), (8, .int x'), (0, .ref (38 + n)), (1, .int p), (2, .int tu), (3, .int dx), (4, .int dy)], [], hp)) rfl K) ?_
            refine px_wk [(7, .int z140), (5, .long (z ||| (1 <<< (Int32.toInt64 z136 &&& 63)))), (0, .ref (38 + n)), (1, .int p), (2, .int tu), (3, .int dx), (4, .int dy)] ⟨rfl, rfl, rfl, rfl, rfl, rfl, rfl, trivial⟩ ?_
            exact ih z140 (z ||| (1 <<< (Int32.toInt64 z136 &&& 63))) (by omega) (by omega) (by omega) (Or.inr hC)
          · have h139' := h139
            have h139'' : Int32.toInt z137 = Int32.toInt 0 := congrArg Int32.toInt (Decidable.not_not.mp h139)
            refine px_gx (fun _ K => px_b1 false 135 rfl rfl (decide_eq_false h139) K) ?_
            show px_Gx _ _ (133, [(9, .int y'), (8, .int x'), (7, .int i), (5, .long z), (0, .ref (38 + n)), (1, .int p), (2, .int tu), (3, .int dx), (4, .int dy)], [], hp) _
            refine px_gx (fun _ K => px_a 1 (f' := (134, [(9, .int y'), (8, .int x'), (7, .int i), (5, .long z), (0, .ref (38 + n)), (1, .int p), (2, .int tu), (3, .int dx), (4, .int dy)], [.long 0], hp)) rfl K) ?_
            exact ⟨_, _, px_e rfl rfl, 0, rfl, rfl, fun q => absurd rfl q⟩
      · have h130' := h130
        rw [Int32.le_iff_toInt_le] at h130'
        refine px_gx (fun _ K => px_b2 false 60 rfl rfl (decide_eq_false h130) K) ?_
        show px_Gx _ _ (54, [(9, .int z129), (8, .int z127), (7, .int i), (5, .long z), (0, .ref (38 + n)), (1, .int p), (2, .int tu), (3, .int dx), (4, .int dy)], [], hp) _
        refine px_gx (fun _ K => px_a 2 (f' := (57, [(9, .int z129), (8, .int z127), (7, .int i), (5, .long z), (0, .ref (38 + n)), (1, .int p), (2, .int tu), (3, .int dx), (4, .int dy)], [.int (-z127)], hp)) rfl K) ?_
        obtain ⟨z141, ez141, fz141⟩ : ∃ qz : Int32, qz = -z127 ∧ qz.toInt = - Int32.toInt z127 := ⟨_, rfl, i32_neg (by omega)⟩
        rw [← ez141]
        refine px_gx (fun _ K => px_a 4 (f' := (67, [(10, .int 0), (8, .int z141), (9, .int z129), (7, .int i), (5, .long z), (0, .ref (38 + n)), (1, .int p), (2, .int tu), (3, .int dx), (4, .int dy)], [], hp)) rfl K) ?_
        refine px_wk [(10, .int 0), (9, .int z129), (8, .int z141), (7, .int i), (5, .long z), (0, .ref (38 + n)), (1, .int p), (2, .int tu), (3, .int dx), (4, .int dy)] ⟨rfl, rfl, rfl, rfl, rfl, rfl, rfl, rfl, rfl, rfl, trivial⟩ ?_
        refine m_setOf_t hm H (by omega) (by omega) (tu.toInt % 4).toNat 0 z141 z129 (by omega) (by omega) (by omega) (by omega) (by omega) (by omega) (fun x' y' e => ?_)
        have hr : (x'.toInt, y'.toInt) = m_rot tu.toInt z125.toInt := by
          rw [e]; unfold m_rot; congr 1
          · omega
          · rw [if_pos (by omega)]; refine Prod.ext ?_ ?_
            · show Int32.toInt z141 = _; omega
            · show Int32.toInt z129 = _; omega
        have hb := m_rot_b (t := tu.toInt) (q := z125.toInt) (by omega) (by omega)
        rw [← hr] at hb; dsimp only at hb
        obtain ⟨hb1, hb2, hb3, hb4⟩ := hb
        refine px_gx (fun _ K => px_a 4 (f' := (99, [(9, .int y'), (8, .int x'), (7, .int i), (5, .long z), (0, .ref (38 + n)), (1, .int p), (2, .int tu), (3, .int dx), (4, .int dy)], [.int (x' + dx), .ref (38 + n)], hp)) rfl K) ?_
        obtain ⟨z142, ez142, fz142⟩ : ∃ qz : Int32, qz = x' + dx ∧ qz.toInt = Int32.toInt x' + Int32.toInt dx := ⟨_, rfl, i32_add (by omega) (by omega)⟩
        rw [← ez142]
        refine px_gx (fun _ K => px_a 3 (f' := (104, [(9, .int y'), (8, .int x'), (7, .int i), (5, .long z), (0, .ref (38 + n)), (1, .int p), (2, .int tu), (3, .int dx), (4, .int dy)], [.int (y' + dy), .int z142, .ref (38 + n)], hp)) rfl K) ?_
        obtain ⟨z143, ez143, fz143⟩ : ∃ qz : Int32, qz = y' + dy ∧ qz.toInt = Int32.toInt y' + Int32.toInt dy := ⟨_, rfl, i32_add (by omega) (by omega)⟩
        rw [← ez143]
        by_cases h144 : (z142 < 0 ∨ w ≤ z142 ∨ z143 < 0 ∨ h ≤ z143)
        · refine px_gx (fun _ K => px_cv (38 + n) (as := [.int z142, .int z143]) (rest := []) rfl rfl hm rfl rfl rfl rfl (Nat.le_of_ble_eq_true rfl) (p_isCell_o hm h144) K) ?_
          show px_Gx _ _ (107, [(9, .int y'), (8, .int x'), (7, .int i), (5, .long z), (0, .ref (38 + n)), (1, .int p), (2, .int tu), (3, .int dx), (4, .int dy)], [.int 0], hp) _
          refine px_gx (fun _ K => px_a 2 (f' := (134, [(9, .int y'), (8, .int x'), (7, .int i), (5, .long z), (0, .ref (38 + n)), (1, .int p), (2, .int tu), (3, .int dx), (4, .int dy)], [.long 0], hp)) rfl K) ?_
          exact ⟨_, _, px_e rfl rfl, 0, rfl, rfl, fun q => absurd rfl q⟩
        · refine px_gx (fun _ K => px_cv (38 + n) (as := [.int z142, .int z143]) (rest := []) rfl rfl hm rfl rfl rfl rfl (Nat.le_of_ble_eq_true rfl) (p_isCell_i hm h144) K) ?_
          show px_Gx _ _ (107, [(9, .int y'), (8, .int x'), (7, .int i), (5, .long z), (0, .ref (38 + n)), (1, .int p), (2, .int tu), (3, .int dx), (4, .int dy)], [.int 1], hp) _
          have h144a : ¬ z142 < 0 := fun z => h144 (Or.inl z)
          rw [Int32.lt_iff_toInt_lt] at h144a
          have h144b : ¬ w ≤ z142 := fun z => h144 (Or.inr (Or.inl z))
          rw [Int32.le_iff_toInt_le] at h144b
          have h144c : ¬ z143 < 0 := fun z => h144 (Or.inr (Or.inr (Or.inl z)))
          rw [Int32.lt_iff_toInt_lt] at h144c
          have h144d : ¬ h ≤ z143 := fun z => h144 (Or.inr (Or.inr (Or.inr z)))
          rw [Int32.le_iff_toInt_le] at h144d
          refine px_gx (fun _ K => px_a 2 (f' := (111, [(9, .int y'), (8, .int x'), (7, .int i), (5, .long z), (0, .ref (38 + n)), (1, .int p), (2, .int tu), (3, .int dx), (4, .int dy)], [.ref (38 + n)], hp)) rfl K) ?_
          refine px_gx (fun _ K => px_gf (38 + n) 7 4 3 (.ref (39 + n)) rfl rfl hm rfl K) ?_
          show px_Gx _ _ (114, [(9, .int y'), (8, .int x'), (7, .int i), (5, .long z), (0, .ref (38 + n)), (1, .int p), (2, .int tu), (3, .int dx), (4, .int dy)], [.ref (39 + n)], hp) _
          refine px_gx (fun _ K => px_a 1 (f' := (115, [(9, .int y'), (8, .int x'), (7, .int i), (5, .long z), (0, .ref (38 + n)), (1, .int p), (2, .int tu), (3, .int dx), (4, .int dy)], [.ref (38 + n), .ref (39 + n)], hp)) rfl K) ?_
          refine px_gx (fun _ K => px_gf (38 + n) 51 4 1 (.int w) rfl rfl hm rfl K) ?_
          show px_Gx _ _ (118, [(9, .int y'), (8, .int x'), (7, .int i), (5, .long z), (0, .ref (38 + n)), (1, .int p), (2, .int tu), (3, .int dx), (4, .int dy)], [.int w, .ref (39 + n)], hp) _
          refine px_gx (fun _ K => px_a 3 (f' := (123, [(9, .int y'), (8, .int x'), (7, .int i), (5, .long z), (0, .ref (38 + n)), (1, .int p), (2, .int tu), (3, .int dx), (4, .int dy)], [.int (y' + dy), .int w, .ref (39 + n)], hp)) rfl K) ?_
          rw [← ez143]
          refine px_gx (fun _ K => px_a 1 (f' := (124, [(9, .int y'), (8, .int x'), (7, .int i), (5, .long z), (0, .ref (38 + n)), (1, .int p), (2, .int tu), (3, .int dx), (4, .int dy)], [.int (w * z143), .ref (39 + n)], hp)) rfl K) ?_
          obtain ⟨z145, ez145, fz145⟩ : ∃ qz : Int32, qz = w * z143 ∧ qz.toInt = w.toInt * Int32.toInt z143 ∧ 0 ≤ w.toInt * Int32.toInt z143 ∧ w.toInt * Int32.toInt z143 + w.toInt ≤ 36 := ⟨_, rfl, m_mulw (by omega) (by omega) (by omega) (by omega)⟩
          rw [← ez145]
          refine px_gx (fun _ K => px_a 2 (f' := (127, [(9, .int y'), (8, .int x'), (7, .int i), (5, .long z), (0, .ref (38 + n)), (1, .int p), (2, .int tu), (3, .int dx), (4, .int dy)], [.int (z145 + x'), .ref (39 + n)], hp)) rfl K) ?_
          obtain ⟨z146, ez146, fz146⟩ : ∃ qz : Int32, qz = z145 + x' ∧ qz.toInt = Int32.toInt z145 + Int32.toInt x' := ⟨_, rfl, i32_add (by omega) (by omega)⟩
          rw [← ez146]
          refine px_gx (fun _ K => px_a 2 (f' := (129, [(9, .int y'), (8, .int x'), (7, .int i), (5, .long z), (0, .ref (38 + n)), (1, .int p), (2, .int tu), (3, .int dx), (4, .int dy)], [.int (z146 + dx), .ref (39 + n)], hp)) rfl K) ?_
          obtain ⟨z147, ez147, fz147⟩ : ∃ qz : Int32, qz = z146 + dx ∧ qz.toInt = Int32.toInt z146 + Int32.toInt dx := ⟨_, rfl, i32_add (by omega) (by omega)⟩
          rw [← ez147]
          obtain ⟨vs149, hv149, hl149, hg149⟩ := pa_ara (a := 39 + n) (i := 7) (lo := 0) (hi := 1) H (by omega) (by decide) (by decide) rfl
          have hi148 : z147.toNatClampNeg < vs149.length := by show (Int32.toInt z147).toNat < _; omega
          obtain ⟨z148, ez148, lz148, uz148⟩ := hg149 _ hi148
          refine px_gx (fun _ K => px_al (39 + n) (.int z148) rfl hv149 (Or.inr (Or.inr (Or.inl ⟨rfl, rfl⟩))) (i32_nn (by omega)) ez148 K) ?_
          show px_Gx _ _ (130, [(9, .int y'), (8, .int x'), (7, .int i), (5, .long z), (0, .ref (38 + n)), (1, .int p), (2, .int tu), (3, .int dx), (4, .int dy)], [.int z148], hp) _
          by_cases h150 : ¬ z148 = 0
          · have h150' := h150
            have h150'' : Int32.toInt z148 ≠ Int32.toInt 0 := fun z => h150 (Int32.toInt_inj.mp z)
            refine px_gx (fun _ K => px_b1 true 135 rfl rfl (decide_eq_true h150) K) ?_
            show px_Gx _ _ (135, [(9, .int y'), (8, .int x'), (7, .int i), (5, .long z), (0, .ref (38 + n)), (1, .int p), (2, .int tu), (3, .int dx), (4, .int dy)], [], hp) _
            have hC : 0 ≤ (m_rot tu.toInt (m_sq0 n hp p.toInt)).1 + dx.toInt ∧ (m_rot tu.toInt (m_sq0 n hp p.toInt)).1 + dx.toInt ≤ 5 ∧ 0 ≤ (m_rot tu.toInt (m_sq0 n hp p.toInt)).2 + dy.toInt ∧ (m_rot tu.toInt (m_sq0 n hp p.toInt)).2 + dy.toInt ≤ 5 := by
              rcases hI with ⟨hI1, -⟩ | hI
              · have e0 := m_sq0_e (p := p.toInt) hv126 ez125 (by omega)
                rw [e0, ← hr]
                exact ⟨by dsimp only; omega, by dsimp only; omega, by dsimp only; omega, by dsimp only; omega⟩
              · exact hI
            refine px_gx (fun _ K => px_a 3 (f' := (139, [(9, .int y'), (8, .int x'), (7, .int i), (5, .long z), (0, .ref (38 + n)), (1, .int p), (2, .int tu), (3, .int dx), (4, .int dy)], [.ref (38 + n), .long 1, .long z], hp)) rfl K) ?_
            refine px_gx (fun _ K => px_gf (38 + n) 51 4 1 (.int w) rfl rfl hm rfl K) ?_
            show px_Gx _ _ (142, [(9, .int y'), (8, .int x'), (7, .int i), (5, .long z), (0, .ref (38 + n)), (1, .int p), (2, .int tu), (3, .int dx), (4, .int dy)], [.int w, .long 1, .long z], hp) _
            refine px_gx (fun _ K => px_a 3 (f' := (147, [(9, .int y'), (8, .int x'), (7, .int i), (5, .long z), (0, .ref (38 + n)), (1, .int p), (2, .int tu), (3, .int dx), (4, .int dy)], [.int (y' + dy), .int w, .long 1, .long z], hp)) rfl K) ?_
            rw [← ez143]
            refine px_gx (fun _ K => px_a 1 (f' := (148, [(9, .int y'), (8, .int x'), (7, .int i), (5, .long z), (0, .ref (38 + n)), (1, .int p), (2, .int tu), (3, .int dx), (4, .int dy)], [.int (w * z143), .long 1, .long z], hp)) rfl K) ?_
            rw [← ez145]
            refine px_gx (fun _ K => px_a 2 (f' := (151, [(9, .int y'), (8, .int x'), (7, .int i), (5, .long z), (0, .ref (38 + n)), (1, .int p), (2, .int tu), (3, .int dx), (4, .int dy)], [.int (z145 + x'), .long 1, .long z], hp)) rfl K) ?_
            rw [← ez146]
            refine px_gx (fun _ K => px_a 2 (f' := (153, [(9, .int y'), (8, .int x'), (7, .int i), (5, .long z), (0, .ref (38 + n)), (1, .int p), (2, .int tu), (3, .int dx), (4, .int dy)], [.int (z146 + dx), .long 1, .long z], hp)) rfl K) ?_
            rw [← ez147]
            refine px_gx (fun _ K => px_a 4 (f' := (160, [(7, .int (i + 1)), (5, .long (z ||| (1 <<< (Int32.toInt64 z147 &&& 63)))), (9, .int y'), (8, .int x'), (0, .ref (38 + n)), (1, .int p), (2, .int tu), (3, .int dx), (4, .int dy)], [], hp)) rfl K) ?_
            obtain ⟨z151, ez151, fz151⟩ : ∃ qz : Int32, qz = i + 1 ∧ qz.toInt = Int32.toInt i + Int32.toInt 1 := ⟨_, rfl, i32_add (by omega) (by omega)⟩
            rw [← ez151]
            refine px_gx (fun _ K => px_a 1 (f' := (6, [(7, .int z151), (5, .long (z ||| (1 <<< (Int32.toInt64 z147 &&& 63)))), (9, .int y'), (8, .int x'), (0, .ref (38 + n)), (1, .int p), (2, .int tu), (3, .int dx), (4, .int dy)], [], hp)) rfl K) ?_
            refine px_wk [(7, .int z151), (5, .long (z ||| (1 <<< (Int32.toInt64 z147 &&& 63)))), (0, .ref (38 + n)), (1, .int p), (2, .int tu), (3, .int dx), (4, .int dy)] ⟨rfl, rfl, rfl, rfl, rfl, rfl, rfl, trivial⟩ ?_
            exact ih z151 (z ||| (1 <<< (Int32.toInt64 z147 &&& 63))) (by omega) (by omega) (by omega) (Or.inr hC)
          · have h150' := h150
            have h150'' : Int32.toInt z148 = Int32.toInt 0 := congrArg Int32.toInt (Decidable.not_not.mp h150)
            refine px_gx (fun _ K => px_b1 false 135 rfl rfl (decide_eq_false h150) K) ?_
            show px_Gx _ _ (133, [(9, .int y'), (8, .int x'), (7, .int i), (5, .long z), (0, .ref (38 + n)), (1, .int p), (2, .int tu), (3, .int dx), (4, .int dy)], [], hp) _
            refine px_gx (fun _ K => px_a 1 (f' := (134, [(9, .int y'), (8, .int x'), (7, .int i), (5, .long z), (0, .ref (38 + n)), (1, .int p), (2, .int tu), (3, .int dx), (4, .int dy)], [.long 0], hp)) rfl K) ?_
            exact ⟨_, _, px_e rfl rfl, 0, rfl, rfl, fun q => absurd rfl q⟩
set_option maxRecDepth 20000 in
set_option maxHeartbeats 4000000 in
theorem m_setOf {d n : Nat} {hp : px_H} {th w h pn pl fo le ru : Int32} (hm : hp[38 + n]? = some (4, m_O n th w h pn pl fo le ru)) (H : pa_Hi n hp) {p tu dx dy : Int32} (p1 : 0 ≤ p.toInt) (p2 : p.toInt ≤ 5) (t1 : 0 ≤ tu.toInt) (t2 : tu.toInt ≤ 7) (dx1 : -3 ≤ dx.toInt) (dx2 : dx.toInt ≤ 9) (dy1 : -3 ≤ dy.toInt) (dy2 : dy.toInt ≤ 9) : px_Gx (d + 1) 91 (0, [(0, .ref (38 + n)), (1, .int p), (2, .int tu), (3, .int dx), (4, .int dy)], [], hp) (fun o hp' => ∃ z : Int64, o = .inl (some (.long z)) ∧ hp' = hp ∧ (z ≠ 0 → 0 ≤ (m_rot tu.toInt (m_sq0 n hp p.toInt)).1 + dx.toInt ∧ (m_rot tu.toInt (m_sq0 n hp p.toInt)).1 + dx.toInt ≤ 5 ∧ 0 ≤ (m_rot tu.toInt (m_sq0 n hp p.toInt)).2 + dy.toInt ∧ (m_rot tu.toInt (m_sq0 n hp p.toInt)).2 + dy.toInt ≤ 5)) := by
  have cl0 : Int32.toInt 0 = 0 := rfl

  refine px_gx (fun _ K => px_a 4 (f' := (6, [(7, .int 0), (5, .long 0), (0, .ref (38 + n)), (1, .int p), (2, .int tu), (3, .int dx), (4, .int dy)], [], hp)) rfl K) ?_
  exact m_setOf_k hm H p1 p2 t1 t2 dx1 dx2 dy1 dy2 7 0 0 (by omega) (by omega) (by omega) (Or.inl ⟨by omega, rfl⟩)
