theorem pl_N512 {n : Nat} {th w h pn fo le ru : Int32} {hp : px_H} {c : Nat} {D : Nat → Prop} (g : pl_N n th w h pn fo le ru hp c D) : c ≤ 512 := by
  obtain ⟨st9, f9, -, -, l9, r9, -⟩ := g
  apply Nat.le_of_not_lt
  intro z9
  have q9 := r9 512 z9
  rw [List.getElem?_eq_none (by omega)] at q9
  cases q9
def m_H (W V : Nat) (sh : Int64) (l : List Nat) (tu dx dy : Int) (S : Nat) : Prop := S ≠ 0 ∧ (∀ (j q : Nat), l[j]? = some q → m_ck W V sh tu dx dy q) ∧ ∀ t : Nat, S.testBit t = true ↔ ∃ (j q : Nat), l[j]? = some q ∧ (t : Int) = W * ((m_rot tu q).2 + dy) + ((m_rot tu q).1 + dx)
def m_D (W V : Nat) (sh : Int64) (l : List Nat) (tu dy dx : Int) (S : Nat) : Prop := ∃ tu' dy' dx' : Int, 0 ≤ tu' ∧ -3 ≤ dy' ∧ dy' ≤ 9 ∧ -3 ≤ dx' ∧ dx' ≤ 9 ∧ (tu' < tu ∨ (tu' = tu ∧ (dy' < dy ∨ (dy' = dy ∧ dx' < dx)))) ∧ m_H W V sh l tu' dx' dy' S
theorem m_D1 {W V : Nat} {sh : Int64} {l : List Nat} {tu dy dx : Int} (h0 : 0 ≤ tu) (h1 : -3 ≤ dy) (h2 : dy ≤ 9) (h3 : -3 ≤ dx) (h4 : dx ≤ 9) (S : Nat) : (m_D W V sh l tu dy dx S ∨ m_H W V sh l tu dx dy S) ↔ m_D W V sh l tu dy (dx + 1) S := by
  constructor
  · rintro (⟨a, b, c, k1, k2, k3, k4, k5, k6, k7⟩ | h)
    · exact ⟨a, b, c, k1, k2, k3, k4, k5, by omega, k7⟩
    · exact ⟨tu, dy, dx, h0, h1, h2, h3, h4, by omega, h⟩
  · rintro ⟨a, b, c, k1, k2, k3, k4, k5, k6, k7⟩
    by_cases e : a = tu ∧ b = dy ∧ c = dx
    · obtain ⟨rfl, rfl, rfl⟩ := e
      exact Or.inr k7
    · exact Or.inl ⟨a, b, c, k1, k2, k3, k4, k5, by omega, k7⟩
theorem m_D2 {W V : Nat} {sh : Int64} {l : List Nat} {tu dy : Int} (S : Nat) : m_D W V sh l tu dy 10 S ↔ m_D W V sh l tu (dy + 1) (-3) S := by
  constructor
  · rintro ⟨a, b, c, k1, k2, k3, k4, k5, k6, k7⟩
    exact ⟨a, b, c, k1, k2, k3, k4, k5, by omega, k7⟩
  · rintro ⟨a, b, c, k1, k2, k3, k4, k5, k6, k7⟩
    exact ⟨a, b, c, k1, k2, k3, k4, k5, by omega, k7⟩
theorem m_D3 {W V : Nat} {sh : Int64} {l : List Nat} {tu : Int} (S : Nat) : m_D W V sh l tu 10 (-3) S ↔ m_D W V sh l (tu + 1) (-3) (-3) S := by
  constructor
  · rintro ⟨a, b, c, k1, k2, k3, k4, k5, k6, k7⟩
    exact ⟨a, b, c, k1, k2, k3, k4, k5, by omega, k7⟩
  · rintro ⟨a, b, c, k1, k2, k3, k4, k5, k6, k7⟩
    exact ⟨a, b, c, k1, k2, k3, k4, k5, by omega, k7⟩
theorem m_D0 {W V : Nat} {sh : Int64} {l : List Nat} (S : Nat) : ¬ m_D W V sh l 0 (-3) (-3) S := by
  rintro ⟨a, b, c, k1, k2, k3, k4, k5, k6, k7⟩
  omega
theorem m_Hz {W V : Nat} {sh : Int64} {l : List Nat} {tu dx dy : Int} {z : Int64} (h : (z = 0 ∧ ∃ (j q : Nat), l[j]? = some q ∧ ¬ m_ck W V sh tu dx dy q) ∨ m_Sx W V sh tu dx dy l l.length z) (hz : z = 0) (S : Nat) : ¬ m_H W V sh l tu dx dy S := by
  rintro ⟨h1, h2, h3⟩
  rcases h with ⟨-, j, q, a, b⟩ | ⟨-, -, S0, e, b36, h4⟩
  · exact b (h2 j q a)
  · have e0 : S0 = 0 := p_inj b36 (by decide) (by rw [← e, hz]; rfl)
    subst e0
    apply h1
    apply Nat.eq_of_testBit_eq
    intro t
    rw [Nat.zero_testBit]
    cases q : S.testBit t
    · rfl
    · obtain ⟨j, q2, a, b⟩ := (h3 t).mp q
      have := (h4 t).mpr ⟨j, q2, (List.getElem?_eq_some_iff.mp a).1, a, b⟩
      rw [Nat.zero_testBit] at this
      cases this
theorem m_Hn {W V : Nat} {sh : Int64} {l : List Nat} {tu dx dy : Int} {z : Int64} (h : (z = 0 ∧ ∃ (j q : Nat), l[j]? = some q ∧ ¬ m_ck W V sh tu dx dy q) ∨ m_Sx W V sh tu dx dy l l.length z) (hz : z ≠ 0) : ∃ S0 : Nat, z = lN S0 ∧ S0 < 2 ^ 36 ∧ ∀ S, m_H W V sh l tu dx dy S ↔ S = S0 := by
  rcases h with ⟨e, -⟩ | ⟨-, h2, S0, e, b36, h4⟩
  · exact absurd e hz
  · have bits : ∀ t : Nat, S0.testBit t = true ↔ ∃ (j q : Nat), l[j]? = some q ∧ (t : Int) = W * ((m_rot tu q).2 + dy) + ((m_rot tu q).1 + dx) := fun t => (h4 t).trans ⟨fun ⟨j, q, _, a, b⟩ => ⟨j, q, a, b⟩, fun ⟨j, q, a, b⟩ => ⟨j, q, (List.getElem?_eq_some_iff.mp a).1, a, b⟩⟩
    refine ⟨S0, e, b36, fun S => ⟨fun ⟨_, _, h3⟩ => ?_, fun e2 => ?_⟩⟩
    · apply Nat.eq_of_testBit_eq
      intro t
      have k := (h3 t).trans (bits t).symm
      cases q : S0.testBit t
      · cases q2 : S.testBit t
        · rfl
        · rw [k.mp q2] at q; cases q
      · rw [k.mpr q]
    · subst e2
      exact ⟨fun z0 => hz (by rw [e, z0]; rfl), fun j q a => h2 j q (List.getElem?_eq_some_iff.mp a).1 a, bits⟩
set_option maxRecDepth 20000 in
set_option maxHeartbeats 4000000 in
theorem m_plX_x {d n W V kk : Nat} {hp0 : px_H} {th w h pn fo le ru : Int32} {sh : Int64} {l : List Nat} {vsu vsz vsq : List Value} (hW : W ≤ 6) (hV : V ≤ 6) (hnn : n = W * V) (ew : w.toInt = W) (eh : h.toInt = V) (H0 : pa_Hi n hp0) (hvu0 : hp0[39 + n]? = some (12, vsu)) (hvz0 : hp0[40 + n]? = some (10, vsz)) (hvq0 : hp0[41 + n]? = some (10, vsq)) (q1 : ∀ c, c < n → vsu[c]? = some (.int (if x_bt sh c = true then 1 else 0))) (hz0 : vsz[kk]? = some (.int (nI l.length))) (l6 : l.length ≤ 6) (hu0 : ∀ (j q : Nat), l[j]? = some q → vsq[6 * kk + j]? = some (.int (nI q)) ∧ q < 16) {p : Int32} (hpk : p.toInt = (kk : Int)) (p1 : 0 ≤ p.toInt) (p2 : p.toInt ≤ 5) {tu : Int32} (t1 : 0 ≤ tu.toInt) (t2 : tu.toInt ≤ 7) {X Y : Int} (hXY : m_rot tu.toInt (m_sq0 n hp0 p.toInt) = (X, Y)) (X1 : -3 ≤ X) (X2 : X ≤ 3) (Y1 : -3 ≤ Y) (Y2 : Y ≤ 3) {dy : Int32} (y1 : -3 ≤ dy.toInt) (y2 : dy.toInt ≤ 9) : ∀ (k : Nat) (dx : Int32) hp pl (hm : hp[38 + n]? = some (4, m_O n th w h pn pl fo le ru)) (H : pa_Hi n hp) (F : pa_Fr n [(24, 8), (29, 0)] hp0 hp) (L : hp.length = hp0.length) (c : Nat) (ec : pl = nI c) (G : pl_N n th w h pn fo le ru hp c (m_D W V sh l tu.toInt dy.toInt dx.toInt)), dx.toInt + k = 11 → -3 ≤ dx.toInt → dx.toInt ≤ 10 → pl.toInt ≤ m_cb tu.toInt X Y dy.toInt dx.toInt → (∀ hp pl (hm : hp[38 + n]? = some (4, m_O n th w h pn pl fo le ru)) (H : pa_Hi n hp) (F : pa_Fr n [(24, 8), (29, 0)] hp0 hp) (L : hp.length = hp0.length) (c : Nat) (ec : pl = nI c) (G : pl_N n th w h pn fo le ru hp c (m_D W V sh l tu.toInt dy.toInt 10)), pl.toInt ≤ m_cb tu.toInt X Y dy.toInt 10 → px_Gx (d + 2) 85 (63, [(3, .int dy), (2, .int tu), (0, .ref (38 + n)), (1, .int p)], [], hp) (fun o hp' => o = .inl none ∧ ∃ c', c' ≤ 512 ∧ pl_N n th w h pn fo le ru hp' c' (m_D W V sh l 8 (-3) (-3)))) → px_Gx (d + 2) 85 (26, [(4, .int dx), (3, .int dy), (2, .int tu), (0, .ref (38 + n)), (1, .int p)], [], hp) (fun o hp' => o = .inl none ∧ ∃ c', c' ≤ 512 ∧ pl_N n th w h pn fo le ru hp' c' (m_D W V sh l 8 (-3) (-3))) := by
  have clm3 : Int32.toInt (-3) = -3 := rfl
  have cl0 : Int32.toInt 0 = 0 := rfl
  have cl1 : Int32.toInt 1 = 1 := rfl
  have cl10 : Int32.toInt 10 = 10 := rfl
  intro k
  induction k with
  | zero =>
    intro dx hp pl hm H F L c ec G g1 g2 g3 gb K
    omega
  | succ k ih =>
    intro dx hp pl hm H F L c ec G g1 g2 g3 gb K
    obtain ⟨bth1, bth2, bw1, bw2, bh1, bh2, bpn1, bpn2, bpl1, bpl2, bfo1, bfo2, ble1, ble2, bru1, bru2⟩ := pa_bnd H hm
    have g6 := m_cb_6 (t := tu.toInt) (X := X) (Y := Y) (dy := dy.toInt) (dx := dx.toInt)
    have pl512 : pl.toInt ≤ 512 := (pa_bnd H hm).2.2.2.2.2.2.2.2.2.1
    have c512 : c ≤ 512 := pl_N512 G
    refine px_gx (fun _ K9 => px_a 2 (f' := (30, [(4, .int dx), (3, .int dy), (2, .int tu), (0, .ref (38 + n)), (1, .int p)], [.int 10, .int dx], hp)) rfl K9) ?_
    by_cases h630 : (10 : Int32) ≤ dx
    · have h630' := h630
      rw [Int32.le_iff_toInt_le] at h630'
      refine px_gx (fun _ K9 => px_b2 true 63 rfl rfl (decide_eq_true h630) K9) ?_
      show px_Gx _ _ (63, [(4, .int dx), (3, .int dy), (2, .int tu), (0, .ref (38 + n)), (1, .int p)], [], hp) _
      refine px_wk [(3, .int dy), (2, .int tu), (0, .ref (38 + n)), (1, .int p)] ⟨rfl, rfl, rfl, rfl, trivial⟩ ?_
      have e10 : dx.toInt = 10 := by omega
      rw [e10] at gb G
      exact K hp pl hm H F L c ec G gb
    · have h630' := h630
      rw [Int32.le_iff_toInt_le] at h630'
      refine px_gx (fun _ K9 => px_b2 false 63 rfl rfl (decide_eq_false h630) K9) ?_
      show px_Gx _ _ (33, [(4, .int dx), (3, .int dy), (2, .int tu), (0, .ref (38 + n)), (1, .int p)], [], hp) _
      refine px_gx (fun _ K9 => px_a 5 (f' := (39, [(4, .int dx), (3, .int dy), (2, .int tu), (0, .ref (38 + n)), (1, .int p)], [.int dy, .int dx, .int tu, .int p, .ref (38 + n)], hp)) rfl K9) ?_
      obtain ⟨o631, hp631, g631, z631, rfl, eh631, hz631⟩ := m_setOf (d := d) hm H (p := p) (tu := tu) (dx := dx) (dy := dy) (by omega) (by omega) (by omega) (by omega) (by omega) (by omega) (by omega) (by omega)
      rw [eh631] at g631
      have hvu := l_fa F hvu0 (rr 7 (by decide) (by decide) (by omega)) (by decide) (by decide)
      have hvz := l_fa F hvz0 (rr 8 (by decide) (by decide) (by omega)) (by decide) (by decide)
      have hvq := l_fa F hvq0 (rr 9 (by decide) (by decide) (by omega)) (by decide) (by decide)
      obtain ⟨oX, hpX, gX, zX, eX, ehX, hX⟩ := m_setX (d := d) hW hV hnn ew eh hm H hvu hvz hvq q1 hz0 l6 hu0 (p := p) (tu := tu) (dx := dx) (dy := dy) hpk (by omega) (by omega) (by omega) (by omega) (by omega) (by omega) (by omega) (by omega)
      rw [ehX, eX] at gX
      have eXX := px_det g631 gX
      obtain rfl : z631 = zX := by injection eXX with e1; injection e1 with e1; injection e1 with e1; injection e1
      refine px_gx (fun _ K9 => px_cv (38 + n) (as := [.int p, .int tu, .int dx, .int dy]) (rest := []) rfl rfl hm rfl rfl rfl rfl (Nat.le_of_ble_eq_true rfl) g631 K9) ?_
      show px_Gx _ _ (42, [(4, .int dx), (3, .int dy), (2, .int tu), (0, .ref (38 + n)), (1, .int p)], [.long z631], hp) _
      refine px_gx (fun _ K9 => px_a 4 (f' := (48, [(5, .long z631), (4, .int dx), (3, .int dy), (2, .int tu), (0, .ref (38 + n)), (1, .int p)], [.int (lg_cmp z631 0)], hp)) rfl K9) ?_
      obtain ⟨z632, ez632, fz632⟩ : ∃ qz : Int32, qz = (lg_cmp z631 0) ∧ (qz = 0 ∨ z631 ≠ 0) := ⟨_, rfl, m_lcmp0 z631⟩
      rw [← ez632]
      by_cases h633 : z632 = 0
      · have h633' := h633
        replace h633' := congrArg Int32.toInt h633
        refine px_gx (fun _ K9 => px_b1 true 57 rfl rfl (decide_eq_true h633) K9) ?_
        show px_Gx _ _ (57, [(5, .long z631), (4, .int dx), (3, .int dy), (2, .int tu), (0, .ref (38 + n)), (1, .int p)], [], hp) _
        refine px_gx (fun _ K9 => px_a 1 (f' := (60, [(4, .int (dx + 1)), (5, .long z631), (3, .int dy), (2, .int tu), (0, .ref (38 + n)), (1, .int p)], [], hp)) rfl K9) ?_
        obtain ⟨z634, ez634, fz634⟩ : ∃ qz : Int32, qz = dx + 1 ∧ qz.toInt = Int32.toInt dx + Int32.toInt 1 := ⟨_, rfl, i32_add (by omega) (by omega)⟩
        rw [← ez634]
        refine px_gx (fun _ K9 => px_a 1 (f' := (26, [(4, .int z634), (5, .long z631), (3, .int dy), (2, .int tu), (0, .ref (38 + n)), (1, .int p)], [], hp)) rfl K9) ?_
        refine px_wk [(4, .int z634), (3, .int dy), (2, .int tu), (0, .ref (38 + n)), (1, .int p)] ⟨rfl, rfl, rfl, rfl, rfl, trivial⟩ ?_
        have ze : z631 = 0 := by
          have h0 := h633
          refine x_cmp0.mp ?_
          rw [← ez632]
          exact h0
        exact ih z634 hp pl hm H F L c ec (pl_N_c G (fun T => Iff.trans ⟨Or.inl, fun z => z.elim id (fun z => absurd z (m_Hz hX ze T))⟩ (by rw [fz634, cl1]; exact m_D1 (by omega) (by omega) (by omega) (by omega) (by omega) T))) (by omega) (by omega) (by omega) (by rw [fz634, cl1]; exact Int.le_trans gb m_cb_2) K
      · have h633' := h633
        have h633'' : Int32.toInt z632 ≠ Int32.toInt 0 := fun z => h633 (Int32.toInt_inj.mp z)
        refine px_gx (fun _ K9 => px_b1 false 57 rfl rfl (decide_eq_false h633) K9) ?_
        show px_Gx _ _ (51, [(5, .long z631), (4, .int dx), (3, .int dy), (2, .int tu), (0, .ref (38 + n)), (1, .int p)], [], hp) _
        refine px_gx (fun _ K9 => px_a 2 (f' := (54, [(5, .long z631), (4, .int dx), (3, .int dy), (2, .int tu), (0, .ref (38 + n)), (1, .int p)], [.long z631, .ref (38 + n)], hp)) rfl K9) ?_
        have zne := fz632.resolve_left h633
        obtain ⟨c1635, c2635, c3635, c4635⟩ := hz631 zne
        rw [m_sq0_f H0 F (by decide), hXY] at c1635 c2635 c3635 c4635
        dsimp only at c1635 c2635 c3635 c4635
        obtain ⟨S0, eS0, b36, hS0⟩ := m_Hn hX zne
        obtain ⟨o635, hp635, g635, rfl, H635, G635, l635, pl635, hm635, lo635, up635⟩ := m_addPlace (d := d + 1) (z := z631) (by omega) hm H
        have gY := g635
        rw [eS0] at gY
        obtain ⟨oA, hpA, gA, eA, ⟨cA, kA1, kA2⟩, kA3⟩ := m_addX (d := d + 1) b36 (show c < 512 by rw [ec, nI_toInt (by omega)] at gb; omega) G
        have eAA := px_det gY gA
        cases eAA
        refine px_gx (fun _ K9 => px_cv (38 + n) (as := [.long z631]) (rest := []) rfl rfl hm rfl rfl rfl rfl (Nat.le_of_ble_eq_true rfl) g635 K9) ?_
        have F635 : pa_Fr n [(24, 8), (29, 0)] hp0 hp635 := F.trans G635
        have L635 : hp635.length = hp0.length := l635.trans L
        have ecA : pl635 = nI cA := by obtain ⟨stB, fB, hmB, -⟩ := kA2; rw [hm635] at hmB; injection hmB with hmB; injection hmB with _ hmB; unfold m_O at hmB; simp only [List.cons.injEq, Value.int.injEq] at hmB; exact hmB.2.2.2.2.2.2.2.2.1
        show px_Gx _ _ (57, [(5, .long z631), (4, .int dx), (3, .int dy), (2, .int tu), (0, .ref (38 + n)), (1, .int p)], [], hp635) _
        refine px_gx (fun _ K9 => px_a 1 (f' := (60, [(4, .int (dx + 1)), (5, .long z631), (3, .int dy), (2, .int tu), (0, .ref (38 + n)), (1, .int p)], [], hp635)) rfl K9) ?_
        obtain ⟨z636, ez636, fz636⟩ : ∃ qz : Int32, qz = dx + 1 ∧ qz.toInt = Int32.toInt dx + Int32.toInt 1 := ⟨_, rfl, i32_add (by omega) (by omega)⟩
        rw [← ez636]
        refine px_gx (fun _ K9 => px_a 1 (f' := (26, [(4, .int z636), (5, .long z631), (3, .int dy), (2, .int tu), (0, .ref (38 + n)), (1, .int p)], [], hp635)) rfl K9) ?_
        refine px_wk [(4, .int z636), (3, .int dy), (2, .int tu), (0, .ref (38 + n)), (1, .int p)] ⟨rfl, rfl, rfl, rfl, rfl, trivial⟩ ?_
        exact ih z636 hp635 pl635 hm635 H635 F635 L635 cA ecA (pl_N_c kA2 (fun T => Iff.trans (or_congr Iff.rfl (hS0 T).symm) (by rw [fz636, cl1]; exact m_D1 (by omega) (by omega) (by omega) (by omega) (by omega) T))) (by omega) (by omega) (by omega) (by rw [fz636, cl1]; exact Int.le_trans (show _ ≤ m_cb tu.toInt X Y dy.toInt dx.toInt + 1 by omega) (m_cb_1 c1635 c2635 c3635 c4635)) K
set_option maxRecDepth 20000 in
set_option maxHeartbeats 4000000 in
theorem m_plX_y {d n W V kk : Nat} {hp0 : px_H} {th w h pn fo le ru : Int32} {sh : Int64} {l : List Nat} {vsu vsz vsq : List Value} (hW : W ≤ 6) (hV : V ≤ 6) (hnn : n = W * V) (ew : w.toInt = W) (eh : h.toInt = V) (H0 : pa_Hi n hp0) (hvu0 : hp0[39 + n]? = some (12, vsu)) (hvz0 : hp0[40 + n]? = some (10, vsz)) (hvq0 : hp0[41 + n]? = some (10, vsq)) (q1 : ∀ c, c < n → vsu[c]? = some (.int (if x_bt sh c = true then 1 else 0))) (hz0 : vsz[kk]? = some (.int (nI l.length))) (l6 : l.length ≤ 6) (hu0 : ∀ (j q : Nat), l[j]? = some q → vsq[6 * kk + j]? = some (.int (nI q)) ∧ q < 16) {p : Int32} (hpk : p.toInt = (kk : Int)) (p1 : 0 ≤ p.toInt) (p2 : p.toInt ≤ 5) {tu : Int32} (t1 : 0 ≤ tu.toInt) (t2 : tu.toInt ≤ 7) {X Y : Int} (hXY : m_rot tu.toInt (m_sq0 n hp0 p.toInt) = (X, Y)) (X1 : -3 ≤ X) (X2 : X ≤ 3) (Y1 : -3 ≤ Y) (Y2 : Y ≤ 3) : ∀ (k : Nat) (dy : Int32) hp pl (hm : hp[38 + n]? = some (4, m_O n th w h pn pl fo le ru)) (H : pa_Hi n hp) (F : pa_Fr n [(24, 8), (29, 0)] hp0 hp) (L : hp.length = hp0.length) (c : Nat) (ec : pl = nI c) (G : pl_N n th w h pn fo le ru hp c (m_D W V sh l tu.toInt dy.toInt (-3))), dy.toInt + k = 11 → -3 ≤ dy.toInt → dy.toInt ≤ 10 → pl.toInt ≤ m_cb tu.toInt X Y dy.toInt (-3) → (∀ hp pl (hm : hp[38 + n]? = some (4, m_O n th w h pn pl fo le ru)) (H : pa_Hi n hp) (F : pa_Fr n [(24, 8), (29, 0)] hp0 hp) (L : hp.length = hp0.length) (c : Nat) (ec : pl = nI c) (G : pl_N n th w h pn fo le ru hp c (m_D W V sh l tu.toInt 10 (-3))), pl.toInt ≤ m_cb tu.toInt X Y 10 (-3) → px_Gx (d + 2) 85 (69, [(2, .int tu), (0, .ref (38 + n)), (1, .int p)], [], hp) (fun o hp' => o = .inl none ∧ ∃ c', c' ≤ 512 ∧ pl_N n th w h pn fo le ru hp' c' (m_D W V sh l 8 (-3) (-3)))) → px_Gx (d + 2) 85 (16, [(3, .int dy), (2, .int tu), (0, .ref (38 + n)), (1, .int p)], [], hp) (fun o hp' => o = .inl none ∧ ∃ c', c' ≤ 512 ∧ pl_N n th w h pn fo le ru hp' c' (m_D W V sh l 8 (-3) (-3))) := by
  have clm3 : Int32.toInt (-3) = -3 := rfl
  have cl1 : Int32.toInt 1 = 1 := rfl
  have cl10 : Int32.toInt 10 = 10 := rfl
  intro k
  induction k with
  | zero =>
    intro dy hp pl hm H F L c ec G g1 g2 g3 gb K
    omega
  | succ k ih =>
    intro dy hp pl hm H F L c ec G g1 g2 g3 gb K
    obtain ⟨bth1, bth2, bw1, bw2, bh1, bh2, bpn1, bpn2, bpl1, bpl2, bfo1, bfo2, ble1, ble2, bru1, bru2⟩ := pa_bnd H hm
    refine px_gx (fun _ K9 => px_a 2 (f' := (19, [(3, .int dy), (2, .int tu), (0, .ref (38 + n)), (1, .int p)], [.int 10, .int dy], hp)) rfl K9) ?_
    by_cases h637 : (10 : Int32) ≤ dy
    · have h637' := h637
      rw [Int32.le_iff_toInt_le] at h637'
      refine px_gx (fun _ K9 => px_b2 true 69 rfl rfl (decide_eq_true h637) K9) ?_
      show px_Gx _ _ (69, [(3, .int dy), (2, .int tu), (0, .ref (38 + n)), (1, .int p)], [], hp) _
      refine px_wk [(2, .int tu), (0, .ref (38 + n)), (1, .int p)] ⟨rfl, rfl, rfl, trivial⟩ ?_
      have e10 : dy.toInt = 10 := by omega
      rw [e10] at gb G
      exact K hp pl hm H F L c ec G gb
    · have h637' := h637
      rw [Int32.le_iff_toInt_le] at h637'
      refine px_gx (fun _ K9 => px_b2 false 69 rfl rfl (decide_eq_false h637) K9) ?_
      show px_Gx _ _ (22, [(3, .int dy), (2, .int tu), (0, .ref (38 + n)), (1, .int p)], [], hp) _
      refine px_gx (fun _ K9 => px_a 2 (f' := (26, [(4, .int (-3)), (3, .int dy), (2, .int tu), (0, .ref (38 + n)), (1, .int p)], [], hp)) rfl K9) ?_
      refine m_plX_x hW hV hnn ew eh H0 hvu0 hvz0 hvq0 q1 hz0 l6 hu0 hpk p1 p2 t1 t2 hXY X1 X2 Y1 Y2 (by omega) (by omega) 14 (-3) hp pl hm H F L c ec (by rw [clm3]; exact G) (by omega) (by omega) (by omega) (by rw [clm3]; exact gb) (fun hp2 pl2 hm2 H2 F2 L2 c2 ec2 G2 gb2 => ?_)
      refine px_gx (fun _ K9 => px_a 1 (f' := (66, [(3, .int (dy + 1)), (2, .int tu), (0, .ref (38 + n)), (1, .int p)], [], hp2)) rfl K9) ?_
      obtain ⟨z638, ez638, fz638⟩ : ∃ qz : Int32, qz = dy + 1 ∧ qz.toInt = Int32.toInt dy + Int32.toInt 1 := ⟨_, rfl, i32_add (by omega) (by omega)⟩
      rw [← ez638]
      refine px_gx (fun _ K9 => px_a 1 (f' := (16, [(3, .int z638), (2, .int tu), (0, .ref (38 + n)), (1, .int p)], [], hp2)) rfl K9) ?_
      exact ih z638 hp2 pl2 hm2 H2 F2 L2 c2 ec2 (pl_N_c G2 (fun T => by rw [fz638, cl1]; exact m_D2 T)) (by omega) (by omega) (by omega) (by rw [fz638, cl1]; exact Int.le_trans gb2 (m_cb_3 X1 X2)) K
set_option maxRecDepth 20000 in
set_option maxHeartbeats 4000000 in
theorem m_plX_t {d n W V kk : Nat} {hp0 : px_H} {th w h pn fo le ru : Int32} {sh : Int64} {l : List Nat} {vsu vsz vsq : List Value} (hW : W ≤ 6) (hV : V ≤ 6) (hnn : n = W * V) (ew : w.toInt = W) (eh : h.toInt = V) (H0 : pa_Hi n hp0) (hvu0 : hp0[39 + n]? = some (12, vsu)) (hvz0 : hp0[40 + n]? = some (10, vsz)) (hvq0 : hp0[41 + n]? = some (10, vsq)) (q1 : ∀ c, c < n → vsu[c]? = some (.int (if x_bt sh c = true then 1 else 0))) (hz0 : vsz[kk]? = some (.int (nI l.length))) (l6 : l.length ≤ 6) (hu0 : ∀ (j q : Nat), l[j]? = some q → vsq[6 * kk + j]? = some (.int (nI q)) ∧ q < 16) {p : Int32} (hpk : p.toInt = (kk : Int)) (p1 : 0 ≤ p.toInt) (p2 : p.toInt ≤ 5) : ∀ (k : Nat) (tu : Int32) hp pl (hm : hp[38 + n]? = some (4, m_O n th w h pn pl fo le ru)) (H : pa_Hi n hp) (F : pa_Fr n [(24, 8), (29, 0)] hp0 hp) (L : hp.length = hp0.length) (c : Nat) (ec : pl = nI c) (G : pl_N n th w h pn fo le ru hp c (m_D W V sh l tu.toInt (-3) (-3))), tu.toInt + k = 9 → 0 ≤ tu.toInt → tu.toInt ≤ 8 → pl.toInt ≤ 36 * tu.toInt → px_Gx (d + 2) 85 (7, [(2, .int tu), (0, .ref (38 + n)), (1, .int p)], [], hp) (fun o hp' => o = .inl none ∧ ∃ c', c' ≤ 512 ∧ pl_N n th w h pn fo le ru hp' c' (m_D W V sh l 8 (-3) (-3))) := by
  have clm3 : Int32.toInt (-3) = -3 := rfl
  have cl1 : Int32.toInt 1 = 1 := rfl
  have cl8 : Int32.toInt 8 = 8 := rfl
  intro k
  induction k with
  | zero =>
    intro tu hp pl hm H F L c ec G g1 g2 g3 gb
    omega
  | succ k ih =>
    intro tu hp pl hm H F L c ec G g1 g2 g3 gb
    obtain ⟨bth1, bth2, bw1, bw2, bh1, bh2, bpn1, bpn2, bpl1, bpl2, bfo1, bfo2, ble1, ble2, bru1, bru2⟩ := pa_bnd H hm
    refine px_gx (fun _ K9 => px_a 2 (f' := (10, [(2, .int tu), (0, .ref (38 + n)), (1, .int p)], [.int 8, .int tu], hp)) rfl K9) ?_
    by_cases h639 : (8 : Int32) ≤ tu
    · have h639' := h639
      rw [Int32.le_iff_toInt_le] at h639'
      refine px_gx (fun _ K9 => px_b2 true 75 rfl rfl (decide_eq_true h639) K9) ?_
      show px_Gx _ _ (75, [(2, .int tu), (0, .ref (38 + n)), (1, .int p)], [], hp) _
      have e8 : tu.toInt = 8 := by omega
      rw [e8] at G
      exact ⟨_, _, px_e rfl rfl, rfl, c, pl_N512 G, G⟩
    · have h639' := h639
      rw [Int32.le_iff_toInt_le] at h639'
      refine px_gx (fun _ K9 => px_b2 false 75 rfl rfl (decide_eq_false h639) K9) ?_
      show px_Gx _ _ (13, [(2, .int tu), (0, .ref (38 + n)), (1, .int p)], [], hp) _
      refine px_gx (fun _ K9 => px_a 2 (f' := (16, [(3, .int (-3)), (2, .int tu), (0, .ref (38 + n)), (1, .int p)], [], hp)) rfl K9) ?_
      obtain ⟨X, Y, hXY⟩ : ∃ X Y, m_rot tu.toInt (m_sq0 n hp0 p.toInt) = (X, Y) := ⟨_, _, rfl⟩
      have hs := m_sq0_b H0 (p := p.toInt) (by omega) (by omega)
      have hb := m_rot_b (t := tu.toInt) hs.1 hs.2
      rw [hXY] at hb
      obtain ⟨hb1, hb2, hb3, hb4⟩ : -3 ≤ X ∧ X ≤ 3 ∧ -3 ≤ Y ∧ Y ≤ 3 := hb
      refine m_plX_y hW hV hnn ew eh H0 hvu0 hvz0 hvq0 q1 hz0 l6 hu0 hpk p1 p2 (by omega) (by omega) hXY hb1 hb2 hb3 hb4 14 (-3) hp pl hm H F L c ec (by rw [clm3]; exact G) (by omega) (by omega) (by omega) (by rw [clm3]; exact Int.le_trans gb (m_cb_5 hb2 hb4)) (fun hp2 pl2 hm2 H2 F2 L2 c2 ec2 G2 gb2 => ?_)
      refine px_gx (fun _ K9 => px_a 1 (f' := (72, [(2, .int (tu + 1)), (0, .ref (38 + n)), (1, .int p)], [], hp2)) rfl K9) ?_
      obtain ⟨z640, ez640, fz640⟩ : ∃ qz : Int32, qz = tu + 1 ∧ qz.toInt = Int32.toInt tu + Int32.toInt 1 := ⟨_, rfl, i32_add (by omega) (by omega)⟩
      rw [← ez640]
      refine px_gx (fun _ K9 => px_a 1 (f' := (7, [(2, .int z640), (0, .ref (38 + n)), (1, .int p)], [], hp2)) rfl K9) ?_
      have g7 := m_cb_4 (t := tu.toInt) (X := X) (Y := Y) (by omega) (by omega)
      exact ih z640 hp2 pl2 hm2 H2 F2 L2 c2 ec2 (pl_N_c G2 (fun T => by rw [fz640, cl1]; exact m_D3 T)) (by omega) (by omega) (by omega) (by omega)
set_option maxRecDepth 20000 in
set_option maxHeartbeats 4000000 in
theorem m_placeX {d n W V kk : Nat} {hp0 : px_H} {th w h pn pl fo le ru : Int32} {sh : Int64} {l : List Nat} {vsu vsz vsq : List Value} (hW : W ≤ 6) (hV : V ≤ 6) (hnn : n = W * V) (ew : w.toInt = W) (eh : h.toInt = V) (H0 : pa_Hi n hp0) (hvu0 : hp0[39 + n]? = some (12, vsu)) (hvz0 : hp0[40 + n]? = some (10, vsz)) (hvq0 : hp0[41 + n]? = some (10, vsq)) (q1 : ∀ c, c < n → vsu[c]? = some (.int (if x_bt sh c = true then 1 else 0))) (hz0 : vsz[kk]? = some (.int (nI l.length))) (l6 : l.length ≤ 6) (hu0 : ∀ (j q : Nat), l[j]? = some q → vsq[6 * kk + j]? = some (.int (nI q)) ∧ q < 16) {p : Int32} (hpk : p.toInt = (kk : Int)) (p1 : 0 ≤ p.toInt) (p2 : p.toInt ≤ 5) (hm : hp0[38 + n]? = some (4, m_O n th w h pn pl fo le ru)) : px_Gx (d + 2) 85 (0, [(0, .ref (38 + n)), (1, .int p)], [], hp0) (fun o hp' => o = .inl none ∧ ∃ c', c' ≤ 512 ∧ pl_N n th w h pn fo le ru hp' c' (m_D W V sh l 8 (-3) (-3))) := by
  have cl0 : Int32.toInt 0 = 0 := rfl
  have H := H0
  obtain ⟨bth1, bth2, bw1, bw2, bh1, bh2, bpn1, bpn2, bpl1, bpl2, bfo1, bfo2, ble1, ble2, bru1, bru2⟩ := pa_bnd H hm
  have F : pa_Fr n [(24, 8), (29, 0)] hp0 hp0 := pa_Fr.refl _
  have L : hp0.length = hp0.length := rfl
  refine px_gx (fun _ K9 => px_a 2 (f' := (2, [(0, .ref (38 + n)), (1, .int p)], [.int 0, .ref (38 + n)], hp0)) rfl K9) ?_
  refine px_gx (fun _ K9 => px_pf (38 + n) 80 4 8 rfl rfl hm (by omega) (Nat.le_of_ble_eq_true rfl) (rfl) rfl (by decide) K9) ?_
  show px_Gx _ _ (5, [(0, .ref (38 + n)), (1, .int p)], [], hp0.set (38 + n) (4, (m_O n th w h pn 0 fo le ru))) _
  have hm641 : (hp0.set (38 + n) (4, (m_O n th w h pn 0 fo le ru)))[38 + n]? = some (4, (m_O n th w h pn 0 fo le ru)) := px_self hm
  have H641 : pa_Hi n (hp0.set (38 + n) (4, (m_O n th w h pn 0 fo le ru))) := pa_ms (k := 8) (v := .int 0) H hm rfl (pa_in (by omega) (by omega))
  have F641 : pa_Fr n [(24, 8), (29, 0)] hp0 (hp0.set (38 + n) (4, (m_O n th w h pn 0 fo le ru))) := F.trans (pa_mf (k := 8) (v := .int 0) hm (by decide) (by decide))
  have L641 : (hp0.set (38 + n) (4, (m_O n th w h pn 0 fo le ru))).length = hp0.length := List.length_set.trans L
  generalize hp0.set (38 + n) (4, (m_O n th w h pn 0 fo le ru)) = hp641 at hm641 H641 F641 L641 ⊢
  refine px_gx (fun _ K9 => px_a 2 (f' := (7, [(2, .int 0), (0, .ref (38 + n)), (1, .int p)], [], hp641)) rfl K9) ?_
  obtain ⟨st0, hst0, lst0, -⟩ := pa_arl (a := 43 + n) (i := 11) H641 (by omega) (by decide) (by decide) rfl
  exact m_plX_t hW hV hnn ew eh H0 hvu0 hvz0 hvq0 q1 hz0 l6 hu0 hpk p1 p2 9 0 hp641 0 hm641 H641 F641 L641 0 rfl ⟨st0, fun _ => 0, hm641, hst0, by omega, fun j hj => absurd hj (Nat.not_lt_zero j), fun j hj => absurd hj (Nat.not_lt_zero j), fun i j _ hj => absurd hj (Nat.not_lt_zero j), fun S => ⟨fun z => absurd z (by rw [cl0]; exact m_D0 S), fun ⟨i, hi, _⟩ => absurd hi (Nat.not_lt_zero i)⟩⟩ (by omega) (by omega) (by omega) (by omega)
