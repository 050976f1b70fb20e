/-! how many places can have come -/
def m_cl (z : Int) : Int := if z < 0 then 0 else if 6 < z then 6 else z
def m_cb (t X Y dy dx : Int) : Int := 36 * t + 6 * m_cl (Y + dy) + (if 0 ≤ Y + dy ∧ Y + dy ≤ 5 then m_cl (X + dx) else 0)
theorem m_cl_b (z : Int) : 0 ≤ m_cl z ∧ m_cl z ≤ 6 := by
  unfold m_cl
  split
  · omega
  · split <;> omega
theorem m_cl_m (z : Int) : m_cl z ≤ m_cl (z + 1) := by
  unfold m_cl
  repeat (split <;> try omega)
theorem m_cl_s {z : Int} (h1 : 0 ≤ z) (h2 : z ≤ 5) : m_cl (z + 1) = m_cl z + 1 := by
  unfold m_cl
  repeat (split <;> try omega)
theorem m_cl_0 {z : Int} (h1 : z ≤ 0) : m_cl z = 0 := by
  unfold m_cl
  repeat (split <;> try omega)
theorem m_cl_6 {z : Int} (h1 : 6 ≤ z) : m_cl z = 6 := by
  unfold m_cl
  repeat (split <;> try omega)
theorem m_cb_1 {t X Y dy dx : Int} (h1 : 0 ≤ X + dx) (h2 : X + dx ≤ 5) (h3 : 0 ≤ Y + dy) (h4 : Y + dy ≤ 5) : m_cb t X Y dy dx + 1 ≤ m_cb t X Y dy (dx + 1) := by
  unfold m_cb
  rw [if_pos ⟨h3, h4⟩, if_pos ⟨h3, h4⟩, ← Int.add_assoc X, m_cl_s h1 h2]
  omega
theorem m_cb_2 {t X Y dy dx : Int} : m_cb t X Y dy dx ≤ m_cb t X Y dy (dx + 1) := by
  unfold m_cb
  have := m_cl_m (X + dx)
  rw [Int.add_assoc X] at this
  split <;> omega
theorem m_cb_3 {t X Y dy : Int} (h1 : -3 ≤ X) (h2 : X ≤ 3) : m_cb t X Y dy 10 ≤ m_cb t X Y (dy + 1) (-3) := by
  unfold m_cb
  rw [m_cl_0 (z := X + -3) (by omega), m_cl_6 (z := X + 10) (by omega), ← Int.add_assoc Y]
  by_cases h : 0 ≤ Y + dy ∧ Y + dy ≤ 5
  · rw [if_pos h, m_cl_s h.1 h.2]
    split <;> omega
  · rw [if_neg h]
    have := m_cl_m (Y + dy)
    split <;> omega
theorem m_cb_4 {t X Y : Int} (h1 : -3 ≤ Y) (h2 : X ≤ 3) : m_cb t X Y 10 (-3) ≤ 36 * (t + 1) := by
  unfold m_cb
  rw [m_cl_0 (z := X + -3) (by omega), m_cl_6 (z := Y + 10) (by omega)]
  split <;> omega
theorem m_cb_5 {t X Y : Int} (h1 : X ≤ 3) (h2 : Y ≤ 3) : 36 * t ≤ m_cb t X Y (-3) (-3) := by
  unfold m_cb
  rw [m_cl_0 (z := X + -3) (by omega), m_cl_0 (z := Y + -3) (by omega)]
  split <;> omega
theorem m_cb_6 {t X Y dy dx : Int} : m_cb t X Y dy dx ≤ 36 * t + 42 := by
  unfold m_cb
  have := m_cl_b (X + dx)
  have := m_cl_b (Y + dy)
  split <;> omega
theorem m_lcmp0 (z : Int64) : lg_cmp z 0 = 0 ∨ z ≠ 0 := by
  by_cases h : z = 0
  · left
    rw [h]
    decide
  · exact Or.inr h
def ck_85 : pa_K := ([pa_rf 24, pa_i 0 5], none, false, [(24, 8), (29, 0)])
set_option maxRecDepth 20000 in
set_option maxHeartbeats 4000000 in
theorem m_place_x {d n : Nat} {hp0 : px_H} {th w h pn fo le ru : Int32} {p tu dy : Int32} (H0 : pa_Hi n hp0) {X Y : Int} (hXY : m_rot tu.toInt (m_sq0 n hp0 p.toInt) = (X, Y)) (X1 : -3 ≤ X) (X2 : X ≤ 3) (Y1 : -3 ≤ Y) (Y2 : Y ≤ 3) (p1 : 0 ≤ p.toInt) (p2 : p.toInt ≤ 5) (t1 : 0 ≤ tu.toInt) (t2 : tu.toInt ≤ 7) (y1 : -3 ≤ dy.toInt) (y2 : dy.toInt ≤ 9) : ∀ (k : Nat) (dx : Int32) hp pl (hm : hp[38 + n]? = some (4, m_O n th w h pn pl fo le ru)) (H : pa_Hi n hp) (F : pa_Fr n [(24, 8), (29, 0)] hp0 hp) (L : hp.length = hp0.length), dx.toInt + k = 11 → -3 ≤ dx.toInt → dx.toInt ≤ 10 → pl.toInt ≤ m_cb tu.toInt X Y dy.toInt dx.toInt → (∀ hp pl (hm : hp[38 + n]? = some (4, m_O n th w h pn pl fo le ru)) (H : pa_Hi n hp) (F : pa_Fr n [(24, 8), (29, 0)] hp0 hp) (L : hp.length = hp0.length), pl.toInt ≤ m_cb tu.toInt X Y dy.toInt 10 → px_Gx (d + 2) 85 (63, [(3, .int dy), (2, .int tu), (0, .ref (38 + n)), (1, .int p)], [], hp) (pa_Po n ck_85 hp0)) → px_Gx (d + 2) 85 (26, [(4, .int dx), (3, .int dy), (2, .int tu), (0, .ref (38 + n)), (1, .int p)], [], hp) (pa_Po n ck_85 hp0) := by
  have clm3 : Int32.toInt (-3) = -3 := rfl
  have cl0 : Int32.toInt 0 = 0 := rfl
  have cl1 : Int32.toInt 1 = 1 := rfl
  have cl10 : Int32.toInt 10 = 10 := rfl
  intro k
  induction k with
  | zero =>
    intro dx hp pl hm H F L g1 g2 g3 gb K
    omega
  | succ k ih =>
    intro dx hp pl hm H F L g1 g2 g3 gb K
    obtain ⟨bth1, bth2, bw1, bw2, bh1, bh2, bpn1, bpn2, bpl1, bpl2, bfo1, bfo2, ble1, ble2, bru1, bru2⟩ := pa_bnd H hm
    have g6 := m_cb_6 (t := tu.toInt) (X := X) (Y := Y) (dy := dy.toInt) (dx := dx.toInt)
    refine px_gx (fun _ K => px_a 2 (f' := (30, [(4, .int dx), (3, .int dy), (2, .int tu), (0, .ref (38 + n)), (1, .int p)], [.int 10, .int dx], hp)) rfl K) ?_
    by_cases h152 : (10 : Int32) ≤ dx
    · have h152' := h152
      rw [Int32.le_iff_toInt_le] at h152'
      refine px_gx (fun _ K => px_b2 true 63 rfl rfl (decide_eq_true h152) K) ?_
      show px_Gx _ _ (63, [(4, .int dx), (3, .int dy), (2, .int tu), (0, .ref (38 + n)), (1, .int p)], [], hp) _
      refine px_wk [(3, .int dy), (2, .int tu), (0, .ref (38 + n)), (1, .int p)] ⟨rfl, rfl, rfl, rfl, trivial⟩ ?_
      have e10 : dx.toInt = 10 := by omega
      rw [e10] at gb
      exact K hp pl hm H F L gb
    · have h152' := h152
      rw [Int32.le_iff_toInt_le] at h152'
      refine px_gx (fun _ K => px_b2 false 63 rfl rfl (decide_eq_false h152) K) ?_
      show px_Gx _ _ (33, [(4, .int dx), (3, .int dy), (2, .int tu), (0, .ref (38 + n)), (1, .int p)], [], hp) _
      refine px_gx (fun _ K => px_a 5 (f' := (39, [(4, .int dx), (3, .int dy), (2, .int tu), (0, .ref (38 + n)), (1, .int p)], [.int dy, .int dx, .int tu, .int p, .ref (38 + n)], hp)) rfl K) ?_
      obtain ⟨o153, hp153, g153, z153, rfl, eh153, hz153⟩ := m_setOf (d := d) hm H (p := p) (tu := tu) (dx := dx) (dy := dy) (by omega) (by omega) (by omega) (by omega) (by omega) (by omega) (by omega) (by omega)
      rw [eh153] at g153
      refine px_gx (fun _ K => px_cv (38 + n) (as := [.int p, .int tu, .int dx, .int dy]) (rest := []) rfl rfl hm rfl rfl rfl rfl (Nat.le_of_ble_eq_true rfl) g153 K) ?_
      show px_Gx _ _ (42, [(4, .int dx), (3, .int dy), (2, .int tu), (0, .ref (38 + n)), (1, .int p)], [.long z153], hp) _
      refine px_gx (fun _ K => px_a 4 (f' := (48, [(5, .long z153), (4, .int dx), (3, .int dy), (2, .int tu), (0, .ref (38 + n)), (1, .int p)], [.int (lg_cmp z153 0)], hp)) rfl K) ?_
      obtain ⟨z154, ez154, fz154⟩ : ∃ qz : Int32, qz = (lg_cmp z153 0) ∧ (qz = 0 ∨ z153 ≠ 0) := ⟨_, rfl, m_lcmp0 z153⟩
      rw [← ez154]
      by_cases h155 : z154 = 0
      · have h155' := h155
        replace h155' := congrArg Int32.toInt h155
        refine px_gx (fun _ K => px_b1 true 57 rfl rfl (decide_eq_true h155) K) ?_
        show px_Gx _ _ (57, [(5, .long z153), (4, .int dx), (3, .int dy), (2, .int tu), (0, .ref (38 + n)), (1, .int p)], [], hp) _
        refine px_gx (fun _ K => px_a 1 (f' := (60, [(4, .int (dx + 1)), (5, .long z153), (3, .int dy), (2, .int tu), (0, .ref (38 + n)), (1, .int p)], [], hp)) rfl K) ?_
        obtain ⟨z156, ez156, fz156⟩ : ∃ qz : Int32, qz = dx + 1 ∧ qz.toInt = Int32.toInt dx + Int32.toInt 1 := ⟨_, rfl, i32_add (by omega) (by omega)⟩
        rw [← ez156]
        refine px_gx (fun _ K => px_a 1 (f' := (26, [(4, .int z156), (5, .long z153), (3, .int dy), (2, .int tu), (0, .ref (38 + n)), (1, .int p)], [], hp)) rfl K) ?_
        refine px_wk [(4, .int z156), (3, .int dy), (2, .int tu), (0, .ref (38 + n)), (1, .int p)] ⟨rfl, rfl, rfl, rfl, rfl, trivial⟩ ?_
        exact ih z156 hp pl hm H F L (by omega) (by omega) (by omega) (by rw [fz156, cl1]; exact Int.le_trans gb m_cb_2) K
      · have h155' := h155
        have h155'' : Int32.toInt z154 ≠ Int32.toInt 0 := fun z => h155 (Int32.toInt_inj.mp z)
        refine px_gx (fun _ K => px_b1 false 57 rfl rfl (decide_eq_false h155) K) ?_
        show px_Gx _ _ (51, [(5, .long z153), (4, .int dx), (3, .int dy), (2, .int tu), (0, .ref (38 + n)), (1, .int p)], [], hp) _
        refine px_gx (fun _ K => px_a 2 (f' := (54, [(5, .long z153), (4, .int dx), (3, .int dy), (2, .int tu), (0, .ref (38 + n)), (1, .int p)], [.long z153, .ref (38 + n)], hp)) rfl K) ?_
        obtain ⟨c1157, c2157, c3157, c4157⟩ := hz153 (fz154.resolve_left h155)
        rw [m_sq0_f H0 F (by decide), hXY] at c1157 c2157 c3157 c4157
        dsimp only at c1157 c2157 c3157 c4157
        obtain ⟨o157, hp157, g157, rfl, H157, G157, l157, pl157, hm157, lo157, up157⟩ := m_addPlace (d := d + 1) (z := z153) (by omega) hm H
        refine px_gx (fun _ K => px_cv (38 + n) (as := [.long z153]) (rest := []) rfl rfl hm rfl rfl rfl rfl (Nat.le_of_ble_eq_true rfl) g157 K) ?_
        have F157 : pa_Fr n [(24, 8), (29, 0)] hp0 hp157 := F.trans G157
        have L157 : hp157.length = hp0.length := l157.trans L
        show px_Gx _ _ (57, [(5, .long z153), (4, .int dx), (3, .int dy), (2, .int tu), (0, .ref (38 + n)), (1, .int p)], [], hp157) _
        refine px_gx (fun _ K => px_a 1 (f' := (60, [(4, .int (dx + 1)), (5, .long z153), (3, .int dy), (2, .int tu), (0, .ref (38 + n)), (1, .int p)], [], hp157)) rfl K) ?_
        obtain ⟨z158, ez158, fz158⟩ : ∃ qz : Int32, qz = dx + 1 ∧ qz.toInt = Int32.toInt dx + Int32.toInt 1 := ⟨_, rfl, i32_add (by omega) (by omega)⟩
        rw [← ez158]
        refine px_gx (fun _ K => px_a 1 (f' := (26, [(4, .int z158), (5, .long z153), (3, .int dy), (2, .int tu), (0, .ref (38 + n)), (1, .int p)], [], hp157)) rfl K) ?_
        refine px_wk [(4, .int z158), (3, .int dy), (2, .int tu), (0, .ref (38 + n)), (1, .int p)] ⟨rfl, rfl, rfl, rfl, rfl, trivial⟩ ?_
        exact ih z158 hp157 pl157 hm157 H157 F157 L157 (by omega) (by omega) (by omega) (by rw [fz158, cl1]; exact Int.le_trans (show _ ≤ m_cb tu.toInt X Y dy.toInt dx.toInt + 1 by omega) (m_cb_1 c1157 c2157 c3157 c4157)) K
set_option maxRecDepth 20000 in
set_option maxHeartbeats 4000000 in
theorem m_place_y {d n : Nat} {hp0 : px_H} {th w h pn fo le ru : Int32} {p tu : Int32} (H0 : pa_Hi n hp0) {X Y : Int} (hXY : m_rot tu.toInt (m_sq0 n hp0 p.toInt) = (X, Y)) (X1 : -3 ≤ X) (X2 : X ≤ 3) (Y1 : -3 ≤ Y) (Y2 : Y ≤ 3) (p1 : 0 ≤ p.toInt) (p2 : p.toInt ≤ 5) (t1 : 0 ≤ tu.toInt) (t2 : tu.toInt ≤ 7) : ∀ (k : Nat) (dy : Int32) hp pl (hm : hp[38 + n]? = some (4, m_O n th w h pn pl fo le ru)) (H : pa_Hi n hp) (F : pa_Fr n [(24, 8), (29, 0)] hp0 hp) (L : hp.length = hp0.length), dy.toInt + k = 11 → -3 ≤ dy.toInt → dy.toInt ≤ 10 → pl.toInt ≤ m_cb tu.toInt X Y dy.toInt (-3) → (∀ hp pl (hm : hp[38 + n]? = some (4, m_O n th w h pn pl fo le ru)) (H : pa_Hi n hp) (F : pa_Fr n [(24, 8), (29, 0)] hp0 hp) (L : hp.length = hp0.length), pl.toInt ≤ m_cb tu.toInt X Y 10 (-3) → px_Gx (d + 2) 85 (69, [(2, .int tu), (0, .ref (38 + n)), (1, .int p)], [], hp) (pa_Po n ck_85 hp0)) → px_Gx (d + 2) 85 (16, [(3, .int dy), (2, .int tu), (0, .ref (38 + n)), (1, .int p)], [], hp) (pa_Po n ck_85 hp0) := by
  have clm3 : Int32.toInt (-3) = -3 := rfl
  have cl1 : Int32.toInt 1 = 1 := rfl
  have cl10 : Int32.toInt 10 = 10 := rfl
  intro k
  induction k with
  | zero =>
    intro dy hp pl hm H F L g1 g2 g3 gb K
    omega
  | succ k ih =>
    intro dy hp pl hm H F L g1 g2 g3 gb K
    obtain ⟨bth1, bth2, bw1, bw2, bh1, bh2, bpn1, bpn2, bpl1, bpl2, bfo1, bfo2, ble1, ble2, bru1, bru2⟩ := pa_bnd H hm
    refine px_gx (fun _ K => px_a 2 (f' := (19, [(3, .int dy), (2, .int tu), (0, .ref (38 + n)), (1, .int p)], [.int 10, .int dy], hp)) rfl K) ?_
    by_cases h159 : (10 : Int32) ≤ dy
    · have h159' := h159
      rw [Int32.le_iff_toInt_le] at h159'
      refine px_gx (fun _ K => px_b2 true 69 rfl rfl (decide_eq_true h159) K) ?_
      show px_Gx _ _ (69, [(3, .int dy), (2, .int tu), (0, .ref (38 + n)), (1, .int p)], [], hp) _
      refine px_wk [(2, .int tu), (0, .ref (38 + n)), (1, .int p)] ⟨rfl, rfl, rfl, trivial⟩ ?_
      have e10 : dy.toInt = 10 := by omega
      rw [e10] at gb
      exact K hp pl hm H F L gb
    · have h159' := h159
      rw [Int32.le_iff_toInt_le] at h159'
      refine px_gx (fun _ K => px_b2 false 69 rfl rfl (decide_eq_false h159) K) ?_
      show px_Gx _ _ (22, [(3, .int dy), (2, .int tu), (0, .ref (38 + n)), (1, .int p)], [], hp) _
      refine px_gx (fun _ K => px_a 2 (f' := (26, [(4, .int (-3)), (3, .int dy), (2, .int tu), (0, .ref (38 + n)), (1, .int p)], [], hp)) rfl K) ?_
      refine m_place_x H0 hXY X1 X2 Y1 Y2 p1 p2 t1 t2 (by omega) (by omega) 14 (-3) hp pl hm H F L (by omega) (by omega) (by omega) (by rw [clm3]; exact gb) (fun hp2 pl2 hm2 H2 F2 L2 gb2 => ?_)
      refine px_gx (fun _ K => px_a 1 (f' := (66, [(3, .int (dy + 1)), (2, .int tu), (0, .ref (38 + n)), (1, .int p)], [], hp2)) rfl K) ?_
      obtain ⟨z160, ez160, fz160⟩ : ∃ qz : Int32, qz = dy + 1 ∧ qz.toInt = Int32.toInt dy + Int32.toInt 1 := ⟨_, rfl, i32_add (by omega) (by omega)⟩
      rw [← ez160]
      refine px_gx (fun _ K => px_a 1 (f' := (16, [(3, .int z160), (2, .int tu), (0, .ref (38 + n)), (1, .int p)], [], hp2)) rfl K) ?_
      exact ih z160 hp2 pl2 hm2 H2 F2 L2 (by omega) (by omega) (by omega) (by rw [fz160, cl1]; exact Int.le_trans gb2 (m_cb_3 X1 X2)) K
set_option maxRecDepth 20000 in
set_option maxHeartbeats 4000000 in
theorem m_place_t {d n : Nat} {hp0 : px_H} {th w h pn fo le ru : Int32} {p : Int32} (H0 : pa_Hi n hp0) (p1 : 0 ≤ p.toInt) (p2 : p.toInt ≤ 5) : ∀ (k : Nat) (tu : Int32) hp pl (hm : hp[38 + n]? = some (4, m_O n th w h pn pl fo le ru)) (H : pa_Hi n hp) (F : pa_Fr n [(24, 8), (29, 0)] hp0 hp) (L : hp.length = hp0.length), tu.toInt + k = 9 → 0 ≤ tu.toInt → tu.toInt ≤ 8 → pl.toInt ≤ 36 * tu.toInt → px_Gx (d + 2) 85 (7, [(2, .int tu), (0, .ref (38 + n)), (1, .int p)], [], hp) (pa_Po n ck_85 hp0) := by
  have clm3 : Int32.toInt (-3) = -3 := rfl
  have cl1 : Int32.toInt 1 = 1 := rfl
  have cl8 : Int32.toInt 8 = 8 := rfl
  intro k
  induction k with
  | zero =>
    intro tu hp pl hm H F L g1 g2 g3 gb
    omega
  | succ k ih =>
    intro tu hp pl hm H F L g1 g2 g3 gb
    obtain ⟨bth1, bth2, bw1, bw2, bh1, bh2, bpn1, bpn2, bpl1, bpl2, bfo1, bfo2, ble1, ble2, bru1, bru2⟩ := pa_bnd H hm
    refine px_gx (fun _ K => px_a 2 (f' := (10, [(2, .int tu), (0, .ref (38 + n)), (1, .int p)], [.int 8, .int tu], hp)) rfl K) ?_
    by_cases h161 : (8 : Int32) ≤ tu
    · have h161' := h161
      rw [Int32.le_iff_toInt_le] at h161'
      refine px_gx (fun _ K => px_b2 true 75 rfl rfl (decide_eq_true h161) K) ?_
      show px_Gx _ _ (75, [(2, .int tu), (0, .ref (38 + n)), (1, .int p)], [], hp) _
      exact ⟨_, _, px_e rfl rfl, H, F, Or.inl ⟨_, rfl, trivial, L⟩⟩
    · have h161' := h161
      rw [Int32.le_iff_toInt_le] at h161'
      refine px_gx (fun _ K => px_b2 false 75 rfl rfl (decide_eq_false h161) K) ?_
      show px_Gx _ _ (13, [(2, .int tu), (0, .ref (38 + n)), (1, .int p)], [], hp) _
      refine px_gx (fun _ K => px_a 2 (f' := (16, [(3, .int (-3)), (2, .int tu), (0, .ref (38 + n)), (1, .int p)], [], hp)) rfl K) ?_
      obtain ⟨X, Y, hXY⟩ : ∃ X Y, m_rot tu.toInt (m_sq0 n hp0 p.toInt) = (X, Y) := ⟨_, _, rfl⟩
      have hs := m_sq0_b H0 (p := p.toInt) (by omega) (by omega)
      have hb := m_rot_b (t := tu.toInt) hs.1 hs.2
      rw [hXY] at hb
      obtain ⟨hb1, hb2, hb3, hb4⟩ : -3 ≤ X ∧ X ≤ 3 ∧ -3 ≤ Y ∧ Y ≤ 3 := hb
      refine m_place_y H0 hXY hb1 hb2 hb3 hb4 p1 p2 (by omega) (by omega) 14 (-3) hp pl hm H F L (by omega) (by omega) (by omega) (by rw [clm3]; exact Int.le_trans gb (m_cb_5 hb2 hb4)) (fun hp2 pl2 hm2 H2 F2 L2 gb2 => ?_)
      refine px_gx (fun _ K => px_a 1 (f' := (72, [(2, .int (tu + 1)), (0, .ref (38 + n)), (1, .int p)], [], hp2)) rfl K) ?_
      obtain ⟨z162, ez162, fz162⟩ : ∃ qz : Int32, qz = tu + 1 ∧ qz.toInt = Int32.toInt tu + Int32.toInt 1 := ⟨_, rfl, i32_add (by omega) (by omega)⟩
      rw [← ez162]
      refine px_gx (fun _ K => px_a 1 (f' := (7, [(2, .int z162), (0, .ref (38 + n)), (1, .int p)], [], hp2)) rfl K) ?_
      have g7 := m_cb_4 (t := tu.toInt) (X := X) (Y := Y) (by omega) (by omega)
      exact ih z162 hp2 pl2 hm2 H2 F2 L2 (by omega) (by omega) (by omega) (by omega)
set_option maxRecDepth 20000 in
set_option maxHeartbeats 4000000 in
theorem m_place {d n : Nat} {hp0 : px_H} {th w h pn pl fo le ru : Int32} {p : Int32} (p1 : 0 ≤ p.toInt) (p2 : p.toInt ≤ 5) (hm : hp0[38 + n]? = some (4, m_O n th w h pn pl fo le ru)) (H : pa_Hi n hp0) : px_Gx (d + 2) 85 (0, [(0, .ref (38 + n)), (1, .int p)], [], hp0) (pa_Po n ck_85 hp0) := by
  have cl0 : Int32.toInt 0 = 0 := rfl
  obtain ⟨bth1, bth2, bw1, bw2, bh1, bh2, bpn1, bpn2, bpl1, bpl2, bfo1, bfo2, ble1, ble2, bru1, bru2⟩ := pa_bnd H hm
  have F : pa_Fr n [(24, 8), (29, 0)] hp0 hp0 := pa_Fr.refl _
  have L : hp0.length = hp0.length := rfl
  refine px_gx (fun _ K => px_a 2 (f' := (2, [(0, .ref (38 + n)), (1, .int p)], [.int 0, .ref (38 + n)], hp0)) rfl K) ?_
  refine px_gx (fun _ K => px_pf (38 + n) 80 4 8 rfl rfl hm (by omega) (Nat.le_of_ble_eq_true rfl) (rfl) rfl (by decide) K) ?_
  show px_Gx _ _ (5, [(0, .ref (38 + n)), (1, .int p)], [], hp0.set (38 + n) (4, (m_O n th w h pn 0 fo le ru))) _
  have hm163 : (hp0.set (38 + n) (4, (m_O n th w h pn 0 fo le ru)))[38 + n]? = some (4, (m_O n th w h pn 0 fo le ru)) := px_self hm
  have H163 : pa_Hi n (hp0.set (38 + n) (4, (m_O n th w h pn 0 fo le ru))) := pa_ms (k := 8) (v := .int 0) H hm rfl (pa_in (by omega) (by omega))
  have F163 : pa_Fr n [(24, 8), (29, 0)] hp0 (hp0.set (38 + n) (4, (m_O n th w h pn 0 fo le ru))) := F.trans (pa_mf (k := 8) (v := .int 0) hm (by decide) (by decide))
  have L163 : (hp0.set (38 + n) (4, (m_O n th w h pn 0 fo le ru))).length = hp0.length := List.length_set.trans L
  generalize hp0.set (38 + n) (4, (m_O n th w h pn 0 fo le ru)) = hp163 at hm163 H163 F163 L163 ⊢
  refine px_gx (fun _ K => px_a 2 (f' := (7, [(2, .int 0), (0, .ref (38 + n)), (1, .int p)], [], hp163)) rfl K) ?_
  exact m_place_t H p1 p2 9 0 hp163 0 hm163 H163 F163 L163 (by omega) (by omega) (by omega) (by omega)
theorem ct_85 {n : Nat} (hN : pa_N n) : pa_Ct pa_tb n 85 ck_85 4 := by
  intro as hp H ha
  obtain ⟨u0, us0, rfl, ⟨a, rfl, ha24, -⟩, ha1⟩ := pa_as1 ha
  obtain rfl := pa_g24 ha24
  obtain ⟨u1, us1, rfl, ⟨p, rfl, p1, p2⟩, ha2⟩ := pa_as1 ha1
  obtain rfl := pa_as0 ha2
  obtain ⟨th, w, h, pn, pl, fo, le, ru, hm⟩ := pa_modO H
  simp only [pa_ev, Int.zero_mul, Int.add_zero] at p1 p2
  obtain ⟨o, hp', hg, hP⟩ := m_place (d := 2) p1 p2 hm H
  exact ⟨o, hp', hg, hP, Or.inl rfl⟩
