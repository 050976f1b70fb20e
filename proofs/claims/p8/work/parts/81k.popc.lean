/-! bitCount: byte by byte -/
def pb_cnt : Nat → Nat → Nat
  | 0, _ => 0
  | k + 1, x => x % 2 + pb_cnt k (x / 2)
def pb_mk (c : Nat) : Nat → Nat
  | 0 => 0
  | k + 1 => c + 256 * pb_mk c k
theorem pb_land {a c d e : Nat} (ha : a < 256) (hd : d < 256) : (a + 256 * c) &&& (d + 256 * e) = (a &&& d) + 256 * (c &&& e) := by
  have hl : a &&& d < 256 := Nat.and_lt_two_pow (n := 8) a hd
  apply Nat.eq_of_testBit_eq
  intro i
  rw [Nat.testBit_and, show a + 256 * c = 2 ^ 8 * c + a by omega, show d + 256 * e = 2 ^ 8 * e + d by omega, show (a &&& d) + 256 * (c &&& e) = 2 ^ 8 * (c &&& e) + (a &&& d) by omega, Nat.testBit_two_pow_mul_add _ (by omega), Nat.testBit_two_pow_mul_add _ (by omega), Nat.testBit_two_pow_mul_add _ (by omega)]
  split
  · rw [Nat.testBit_and]
  · rw [Nat.testBit_and]
def pb_s1 (k x : Nat) : Nat := x - ((x / 2) &&& pb_mk 0x55 k)
def pb_s2 (k x : Nat) : Nat := (x &&& pb_mk 0x33 k) + ((x / 4) &&& pb_mk 0x33 k)
def pb_s3 (k x : Nat) : Nat := (x + x / 16) &&& pb_mk 0x0f k
def pb_f1 (b : Nat) : Nat := b - ((b / 2) &&& 0x55)
def pb_f2 (b : Nat) : Nat := (b &&& 0x33) + ((b / 4) &&& 0x33)
def pb_f3 (b : Nat) : Nat := (b + b / 16) &&& 0x0f
theorem pb_c1 : ∀ b, b < 256 → ∀ r, r < 2 → (b / 2 + 128 * r) &&& 0x55 = (b / 2) &&& 0x55 := by decide +kernel
theorem pb_c1l : ∀ b, b < 256 → (b / 2) &&& 0x55 ≤ b := by decide +kernel
theorem pb_c2 : ∀ b, b < 256 → ∀ r, r < 4 → (b / 4 + 64 * r) &&& 0x33 = (b / 4) &&& 0x33 := by decide +kernel
theorem pb_c3 : ∀ b, b < 256 → ∀ r, r < 5 → pb_f2 (pb_f1 b) + pb_f2 (pb_f1 b) / 16 + 16 * r < 256 ∧ (pb_f2 (pb_f1 b) + pb_f2 (pb_f1 b) / 16 + 16 * r) &&& 0x0f = pb_cnt 8 b := by decide +kernel
theorem pb_c4 : ∀ b, b < 256 → pb_f1 b < 256 ∧ pb_f2 (pb_f1 b) < 256 ∧ pb_f2 (pb_f1 b) % 16 < 5 ∧ pb_cnt 8 b ≤ 8 := by decide +kernel
theorem pb_land_le (a b : Nat) : a &&& b ≤ a := Nat.and_le_left
theorem pb_1 {k b q : Nat} (hb : b < 256) : pb_s1 (k + 1) (b + 256 * q) = pb_f1 b + 256 * pb_s1 k q := by
  unfold pb_s1 pb_f1
  show b + 256 * q - ((b + 256 * q) / 2 &&& (0x55 + 256 * pb_mk 0x55 k)) = _
  rw [show (b + 256 * q) / 2 = (b / 2 + 128 * (q % 2)) + 256 * (q / 2) by omega, pb_land (by omega) (by decide), pb_c1 b hb _ (by omega)]
  have h1 := pb_c1l b hb
  have h2 : (q / 2) &&& pb_mk 0x55 k ≤ q / 2 := pb_land_le _ _
  omega
theorem pb_2 {k b q : Nat} (hb : b < 256) : pb_s2 (k + 1) (b + 256 * q) = pb_f2 b + 256 * pb_s2 k q := by
  unfold pb_s2 pb_f2
  show ((b + 256 * q) &&& (0x33 + 256 * pb_mk 0x33 k)) + ((b + 256 * q) / 4 &&& (0x33 + 256 * pb_mk 0x33 k)) = _
  rw [show (b + 256 * q) / 4 = (b / 4 + 64 * (q % 4)) + 256 * (q / 4) by omega, pb_land hb (by decide), pb_land (by omega) (by decide), pb_c2 b hb _ (by omega)]
  omega
theorem pb_3 {k b v : Nat} (hb : b < 256) (hv : v % 16 < 5) : pb_s3 (k + 1) (pb_f2 (pb_f1 b) + 256 * v) = pb_cnt 8 b + 256 * pb_s3 k v := by
  have h := pb_c3 b hb (v % 16) hv
  unfold pb_s3
  show (pb_f2 (pb_f1 b) + 256 * v + (pb_f2 (pb_f1 b) + 256 * v) / 16) &&& (0x0f + 256 * pb_mk 0x0f k) = _
  generalize pb_f2 (pb_f1 b) = u at *
  rw [show u + 256 * v + (u + 256 * v) / 16 = (u + u / 16 + 16 * (v % 16)) + 256 * (v + v / 16) by omega, pb_land h.1 (by decide), h.2]
def pb_T (k x : Nat) : Nat := pb_s3 k (pb_s2 k (pb_s1 k x))
theorem pb_low : ∀ (k x : Nat), x < 256 ^ k → pb_s2 k (pb_s1 k x) % 16 < 5
  | 0, x, h => by
    have : x = 0 := by simpa using h
    subst this
    decide
  | k + 1, x, h => by
    have hb : x % 256 < 256 := Nat.mod_lt _ (by decide)
    rw [show x = x % 256 + 256 * (x / 256) by omega, pb_1 hb, pb_2 (pb_c4 _ hb).1]
    have := (pb_c4 _ hb).2.2.1
    omega
theorem pb_Ts {k x : Nat} (h : x < 256 ^ (k + 1)) : pb_T (k + 1) x = pb_cnt 8 (x % 256) + 256 * pb_T k (x / 256) := by
  have hb : x % 256 < 256 := Nat.mod_lt _ (by decide)
  have hq : x / 256 < 256 ^ k := by rw [Nat.pow_succ] at h; exact Nat.div_lt_of_lt_mul (by rw [Nat.mul_comm]; exact h)
  unfold pb_T
  rw [show pb_s1 (k + 1) x = pb_f1 (x % 256) + 256 * pb_s1 k (x / 256) by rw [← pb_1 hb]; congr 1; omega, pb_2 (pb_c4 _ hb).1, pb_3 hb (pb_low k _ hq)]
theorem pb_cnt_add : ∀ (a b x : Nat), pb_cnt (a + b) x = pb_cnt a (x % 2 ^ a) + pb_cnt b (x / 2 ^ a)
  | 0, b, x => by simp [pb_cnt, Nat.mod_one]
  | a + 1, b, x => by
    rw [show a + 1 + b = (a + b) + 1 by omega]
    show x % 2 + pb_cnt (a + b) (x / 2) = (x % 2 ^ (a + 1)) % 2 + pb_cnt a ((x % 2 ^ (a + 1)) / 2) + pb_cnt b (x / 2 ^ (a + 1))
    rw [pb_cnt_add a b (x / 2), Nat.div_div_eq_div_mul, ← Nat.pow_succ', Nat.pow_succ', Nat.mod_mul_right_div_self, Nat.mod_mul_right_mod]
    omega

theorem wb_tb (n : Nat) : (lN n).toBitVec = BitVec.ofNat 64 n := rfl
theorem wb_inj {a b : Int64} (h : a.toBitVec = b.toBitVec) : a = b := Int64.toBitVec_inj.mp h
theorem wb_tn {n : Nat} (h : n < 2 ^ 64) : (lN n).toBitVec.toNat = n := by rw [wb_tb, BitVec.toNat_ofNat, Nat.mod_eq_of_lt h]
theorem wb_of (x : Int64) : ∃ n, n < 2 ^ 64 ∧ x = lN n := ⟨x.toBitVec.toNat, x.toBitVec.isLt, wb_inj (by rw [wb_tb]; simp)⟩
theorem wb_of32 (x : Int32) : ∃ n, n < 2 ^ 32 ∧ x = nI n := ⟨x.toBitVec.toNat, x.toBitVec.isLt, Int32.toBitVec_inj.mp (by show _ = BitVec.ofNat 32 _; simp)⟩
theorem wb_c : ∀ k, k < 64 → ((nI k).toInt64 &&& 63) = lN k := by decide +kernel
theorem wb_cu : ∀ k, k < 64 → ((nI k).toInt64.toUInt64 &&& Int64.toUInt64 63) = UInt64.ofNat k := by decide +kernel
theorem wb_sm : ∀ k, k < 64 → (BitVec.ofNat 64 k).smod 64 = BitVec.ofNat 64 k := by decide +kernel
theorem wb_pw {a b : Nat} (h : a ≤ b) : 2 ^ b = 2 ^ a * 2 ^ (b - a) := by rw [← Nat.pow_add]; congr 1; omega
theorem wb_lt2 {a b : Nat} (h : a < b) : 2 ^ a < 2 ^ b := Nat.pow_lt_pow_right (by decide) h
theorem wb_mod (n : Nat) : lN n = lN (n % 2 ^ 64) := wb_inj (by rw [wb_tb, wb_tb]; apply BitVec.eq_of_toNat_eq; rw [BitVec.toNat_ofNat, BitVec.toNat_ofNat, Nat.mod_mod])
theorem wb_shr {n k : Nat} (hn : n < 2 ^ 64) (hk : k < 64) : ((lN n).toUInt64 >>> ((nI k).toInt64.toUInt64 &&& Int64.toUInt64 63)).toInt64 = lN (n / 2 ^ k) := by
  rw [wb_cu k hk]
  apply wb_inj
  apply BitVec.eq_of_toNat_eq
  show ((lN n).toUInt64 >>> UInt64.ofNat k).toNat = (BitVec.ofNat 64 _).toNat
  have h1 : (UInt64.ofNat k).toNat = k := by
    show (BitVec.ofNat 64 k).toNat = k
    rw [BitVec.toNat_ofNat, Nat.mod_eq_of_lt (by omega)]
  have h2 : (lN n).toUInt64.toNat = n := wb_tn hn
  rw [UInt64.toNat_shiftRight, h1, h2, Nat.mod_eq_of_lt hk, Nat.shiftRight_eq_div_pow, BitVec.toNat_ofNat, Nat.mod_eq_of_lt (Nat.lt_of_le_of_lt (Nat.div_le_self _ _) hn)]
theorem wb_shl (n : Nat) {k : Nat} (hk : k < 64) : lN n <<< ((nI k).toInt64 &&& 63) = lN (n * 2 ^ k) := by
  rw [wb_c k hk]
  apply wb_inj
  rw [Int64.toBitVec_shiftLeft, wb_tb, wb_tb, wb_tb, wb_sm k hk]
  apply BitVec.eq_of_toNat_eq
  rw [BitVec.shiftLeft_eq', BitVec.toNat_shiftLeft, BitVec.toNat_ofNat, BitVec.toNat_ofNat, BitVec.toNat_ofNat, Nat.mod_eq_of_lt (show k < 2 ^ 64 by omega), Nat.shiftLeft_eq, Nat.mul_mod, Nat.mod_mod, ← Nat.mul_mod]
theorem wb_and {a b : Nat} (ha : a < 2 ^ 64) (hb : b < 2 ^ 64) : lN a &&& lN b = lN (a &&& b) := by
  apply wb_inj
  rw [Int64.toBitVec_and, wb_tb, wb_tb, wb_tb]
  apply BitVec.eq_of_toNat_eq
  rw [BitVec.toNat_and, BitVec.toNat_ofNat, BitVec.toNat_ofNat, BitVec.toNat_ofNat, Nat.mod_eq_of_lt ha, Nat.mod_eq_of_lt hb, Nat.mod_eq_of_lt (Nat.and_lt_two_pow _ hb)]
theorem wb_or {a b : Nat} (ha : a < 2 ^ 64) (hb : b < 2 ^ 64) : lN a ||| lN b = lN (a ||| b) := by
  apply wb_inj
  rw [Int64.toBitVec_or, wb_tb, wb_tb, wb_tb]
  apply BitVec.eq_of_toNat_eq
  rw [BitVec.toNat_or, BitVec.toNat_ofNat, BitVec.toNat_ofNat, BitVec.toNat_ofNat, Nat.mod_eq_of_lt ha, Nat.mod_eq_of_lt hb, Nat.mod_eq_of_lt (Nat.or_lt_two_pow ha hb)]
theorem pb_mk8 : pb_mk 0x55 8 = 6148914691236517205 ∧ pb_mk 0x33 8 = 3689348814741910323 ∧ pb_mk 0x0f 8 = 1085102592571150095 := by decide +kernel
theorem pb_dv {z a q : Nat} (h : z = a + 256 * q) (ha : a < 256) : z / 256 = q := by omega
theorem pb_y {z y a b q r : Nat} (h : z = a + 256 * q) (g : y = b + 256 * r) : z + y = (a + b) + 256 * (q + r) := by omega
theorem pb_md {z y a b q r : Nat} (h : z = a + 256 * q) (g : y = b + 256 * r) (k : a + b < 128) : (z + y) % 128 = a + b := by omega
theorem pb_b {z a q A B : Nat} (h : z = a + 256 * q) (ha : a ≤ A) (hq : q ≤ B) : z ≤ A + 256 * B := by omega
theorem pb_l8 {a b : Nat} (ha : a ≤ 8) (hb : b ≤ 8) : a + b ≤ 16 := by omega
theorem pb_l16 {a b : Nat} (ha : a ≤ 16) (hb : b ≤ 16) : a + b ≤ 32 := by omega
theorem pb_dk {x k : Nat} (h : x < 256 ^ (k + 1)) : x / 256 < 256 ^ k := by rw [Nat.pow_succ] at h; exact Nat.div_lt_of_lt_mul (by rw [Nat.mul_comm]; exact h)
theorem pb_c8 (y : Nat) : pb_cnt 8 (y % 256) ≤ 8 := (pb_c4 _ (Nat.mod_lt _ (by decide))).2.2.2
theorem pb_T0 (y : Nat) : pb_T 0 y = 0 := by unfold pb_T pb_s3; show _ &&& 0 = 0; exact Nat.and_zero _
theorem pb_cs (b y : Nat) : pb_cnt (8 + b) y = pb_cnt 8 (y % 256) + pb_cnt b (y / 256) := pb_cnt_add 8 b y
def pb_Z (x p0 p1 p2 p3 p4 p5 p6 p7 z0 : Nat) : Prop := p0 ≤ 8 ∧ p1 ≤ 8 ∧ p2 ≤ 8 ∧ p3 ≤ 8 ∧ p4 ≤ 8 ∧ p5 ≤ 8 ∧ p6 ≤ 8 ∧ p7 ≤ 8 ∧ pb_cnt 64 x = p0 + (p1 + (p2 + (p3 + (p4 + (p5 + (p6 + p7)))))) ∧ ∃ z1 z2 z3 z4 z5 z6 : Nat, z0 = p0 + 256 * z1 ∧ z1 = p1 + 256 * z2 ∧ z2 = p2 + 256 * z3 ∧ z3 = p3 + 256 * z4 ∧ z4 = p4 + 256 * z5 ∧ z5 = p5 + 256 * z6 ∧ z6 = p6 + 256 * p7
theorem pb_T8 {x : Nat} (h : x < 256 ^ 8) : ∃ p0 p1 p2 p3 p4 p5 p6 p7 : Nat, pb_Z x p0 p1 p2 p3 p4 p5 p6 p7 (pb_T 8 x) := by
  have h7 : x / 256 < 256 ^ 7 := pb_dk h
  have e0 := pb_Ts (k := 7) h
  have t0 := pb_cs 56 x
  have c0 := pb_c8 x
  generalize x / 256 = x1 at *
  have h6 : x1 / 256 < 256 ^ 6 := pb_dk h7
  have e1 := pb_Ts (k := 6) h7
  have t1 := pb_cs 48 x1
  have c1 := pb_c8 x1
  generalize x1 / 256 = x2 at *
  have h5 : x2 / 256 < 256 ^ 5 := pb_dk h6
  have e2 := pb_Ts (k := 5) h6
  have t2 := pb_cs 40 x2
  have c2 := pb_c8 x2
  generalize x2 / 256 = x3 at *
  have h4 : x3 / 256 < 256 ^ 4 := pb_dk h5
  have e3 := pb_Ts (k := 4) h5
  have t3 := pb_cs 32 x3
  have c3 := pb_c8 x3
  generalize x3 / 256 = x4 at *
  have h3 : x4 / 256 < 256 ^ 3 := pb_dk h4
  have e4 := pb_Ts (k := 3) h4
  have t4 := pb_cs 24 x4
  have c4 := pb_c8 x4
  generalize x4 / 256 = x5 at *
  have h2 : x5 / 256 < 256 ^ 2 := pb_dk h3
  have e5 := pb_Ts (k := 2) h3
  have t5 := pb_cs 16 x5
  have c5 := pb_c8 x5
  generalize x5 / 256 = x6 at *
  have h1 : x6 / 256 < 256 ^ 1 := pb_dk h2
  have e6 := pb_Ts (k := 1) h2
  have t6 := pb_cs 8 x6
  have c6 := pb_c8 x6
  generalize x6 / 256 = x7 at *
  have e7 := pb_Ts (k := 0) h1
  rw [pb_T0, Nat.mul_zero, Nat.add_zero] at e7
  have t7 : pb_cnt 8 x7 = pb_cnt 8 (x7 % 256) := by rw [Nat.mod_eq_of_lt (show x7 < 256 from h1)]
  have c7 := pb_c8 x7
  have e6' : pb_T 2 x6 = pb_cnt 8 (x6 % 256) + 256 * pb_cnt 8 (x7 % 256) := e6.trans (congrArg (fun q => pb_cnt 8 (x6 % 256) + 256 * q) e7)
  exact ⟨_, _, _, _, _, _, _, _, c0, c1, c2, c3, c4, c5, c6, c7, t0.trans (congrArg _ (t1.trans (congrArg _ (t2.trans (congrArg _ (t3.trans (congrArg _ (t4.trans (congrArg _ (t5.trans (congrArg _ (t6.trans (congrArg _ t7))))))))))))), _, _, _, _, _, _, e0, e1, e2, e3, e4, e5, e6'⟩
theorem pb_bd {z0 z1 z2 z3 z4 z5 z6 z7 : Nat} (b0 : z0 ≤ 578721382704613384) (b1 : z1 ≤ 2260630401189896) (b2 : z2 ≤ 8830587504648) (b3 : z3 ≤ 34494482440) (b4 : z4 ≤ 134744072) (b5 : z5 ≤ 526344) (b6 : z6 ≤ 2056) (b7 : z7 ≤ 8) : z0 < 2 ^ 63 ∧ z0 + z1 < 2 ^ 63 ∧ z0 + z1 + (z2 + z3) < 2 ^ 63 ∧ z0 + z1 + (z2 + z3) + (z4 + z5 + (z6 + z7)) < 2 ^ 63 := by
  refine ⟨by omega, by omega, by omega, by omega⟩
theorem pb_end {x p0 p1 p2 p3 p4 p5 p6 p7 z : Nat} (hz : pb_Z x p0 p1 p2 p3 p4 p5 p6 p7 z) : z < 2 ^ 63 ∧ (z + z / 2 ^ 8 < 2 ^ 63) ∧ (z + z / 2 ^ 8 + (z + z / 2 ^ 8) / 2 ^ 16 < 2 ^ 63) ∧ (z + z / 2 ^ 8 + (z + z / 2 ^ 8) / 2 ^ 16 + (z + z / 2 ^ 8 + (z + z / 2 ^ 8) / 2 ^ 16) / 2 ^ 32) % 128 = pb_cnt 64 x ∧ z + z / 2 ^ 8 + (z + z / 2 ^ 8) / 2 ^ 16 + (z + z / 2 ^ 8 + (z + z / 2 ^ 8) / 2 ^ 16) / 2 ^ 32 < 2 ^ 63 := by
  obtain ⟨a0, a1, a2, a3, a4, a5, a6, a7, t, z1, z2, z3, z4, z5, z6, h0, h1, h2, h3, h4, h5, h6⟩ := hz
  have h7 : p7 = p7 + 256 * 0 := rfl
  have lt : ∀ {a : Nat}, a ≤ 32 → a < 256 := fun h => Nat.lt_of_le_of_lt h (by decide)
  have e8 : z / 2 ^ 8 = z1 := pb_dv h0 (lt (Nat.le_trans a0 (by decide)))
  have y0 := pb_y h0 h1
  have y1 := pb_y h1 h2
  have y2 := pb_y h2 h3
  have y3 := pb_y h3 h4
  have y4 := pb_y h4 h5
  have y5 := pb_y h5 h6
  have y6 := pb_y h6 h7
  have y7 : p7 + 0 = (p7 + 0) + 256 * 0 := rfl
  have l16 : ∀ {a b : Nat}, a ≤ 8 → b ≤ 8 → a + b < 256 := fun h h' => lt (Nat.le_trans (pb_l8 h h') (by decide))
  have l32 : ∀ {a b c d : Nat}, a ≤ 8 → b ≤ 8 → c ≤ 8 → d ≤ 8 → a + b + (c + d) ≤ 32 := fun h h' h2 h3 => pb_l16 (pb_l8 h h') (pb_l8 h2 h3)
  have e16 : (z + z1) / 2 ^ 16 = z2 + z3 := by
    rw [show (2 : Nat) ^ 16 = 256 * 256 from rfl, ← Nat.div_div_eq_div_mul, pb_dv y0 (l16 a0 a1), pb_dv y1 (l16 a1 a2)]
  have w0 := pb_y y0 y2
  have w1 := pb_y y1 y3
  have w2 := pb_y y2 y4
  have w3 := pb_y y3 y5
  have w4 := pb_y y4 y6
  have e32 : (z + z1 + (z2 + z3)) / 2 ^ 32 = z4 + z5 + (z6 + p7) := by
    rw [show (2 : Nat) ^ 32 = 256 * 256 * 256 * 256 from rfl, ← Nat.div_div_eq_div_mul, ← Nat.div_div_eq_div_mul, ← Nat.div_div_eq_div_mul, pb_dv w0 (lt (l32 a0 a1 a2 a3)), pb_dv w1 (lt (l32 a1 a2 a3 a4)), pb_dv w2 (lt (l32 a2 a3 a4 a5)), pb_dv w3 (lt (l32 a3 a4 a5 a6))]
  have b6 : z6 ≤ 2056 := pb_b h6 a6 a7
  have b5 : z5 ≤ 526344 := pb_b h5 a5 b6
  have b4 : z4 ≤ 134744072 := pb_b h4 a4 b5
  have b3 : z3 ≤ 34494482440 := pb_b h3 a3 b4
  have b2 : z2 ≤ 8830587504648 := pb_b h2 a2 b3
  have b1 : z1 ≤ 2260630401189896 := pb_b h1 a1 b2
  have b0 : z ≤ 578721382704613384 := pb_b h0 a0 b1
  have bd := pb_bd b0 b1 b2 b3 b4 b5 b6 a7
  rw [e8, e16, e32]
  refine ⟨bd.1, bd.2.1, bd.2.2.1, ?_, bd.2.2.2⟩
  rw [pb_md w0 w4 (Nat.lt_of_le_of_lt (Nat.add_le_add (l32 a0 a1 a2 a3) (l32 a4 a5 a6 a7)) (by decide)), t]
  simp only [Nat.add_assoc]
theorem pb_mk4 : pb_mk 0x55 4 = 1431655765 ∧ pb_mk 0x33 4 = 858993459 ∧ pb_mk 0x0f 4 = 252645135 := by decide +kernel
theorem pb_z1 (k : Nat) : pb_s1 k 0 = 0 := by unfold pb_s1; exact Nat.zero_sub _
theorem pb_z2 (k : Nat) : pb_s2 k 0 = 0 := by unfold pb_s2; rw [Nat.zero_div, Nat.zero_and]
theorem pb_z3 (k : Nat) : pb_T k 0 = 0 := by unfold pb_T; rw [pb_z1, pb_z2]; unfold pb_s3; rw [Nat.zero_div, Nat.add_zero, Nat.zero_and]
theorem pb_w {a q : Nat} (ha : a < 256) (hq : q < 256) : a + 256 * q < 65536 := by omega
theorem pb_sp (x : Nat) : x % 256 + 256 * (x / 256) = x := by omega
theorem pb_1b {k q : Nat} (hq : q < 256) : pb_s1 (k + 1) q = pb_f1 q := by
  have := pb_1 (k := k) (b := q) (q := 0) hq
  rw [pb_z1] at this
  exact this
theorem pb_2b {k q : Nat} (hq : q < 256) : pb_s2 (k + 1) q = pb_f2 q := by
  have := pb_2 (k := k) (b := q) (q := 0) hq
  rw [pb_z2] at this
  exact this
theorem pb_1c {x : Nat} (hq : x / 256 < 256) : pb_s1 4 x = pb_f1 (x % 256) + 256 * pb_f1 (x / 256) := by
  have := pb_1 (k := 3) (b := x % 256) (q := x / 256) (Nat.mod_lt _ (by decide))
  rw [pb_sp, pb_1b (k := 2) hq] at this
  exact this
theorem pb_s4 {x : Nat} (h : x < 65536) : pb_s1 4 x < 65536 ∧ pb_s2 4 (pb_s1 4 x) < 65536 ∧ ∃ p0 p1 : Nat, p0 ≤ 8 ∧ p1 ≤ 8 ∧ pb_T 4 x = p0 + 256 * p1 ∧ pb_cnt 16 x = p0 + p1 := by
  have hb : x % 256 < 256 := Nat.mod_lt _ (by decide)
  have hq : x / 256 < 256 := by clear hb; omega
  have hq2 : x / 256 % 256 = x / 256 := Nat.mod_eq_of_lt hq
  have hq3 : x / 256 / 256 = 0 := Nat.div_eq_of_lt hq
  have c0 := pb_c4 _ hb
  have c1 := pb_c4 _ hq
  have e1 := pb_1c hq
  refine ⟨by rw [e1]; exact pb_w c0.1 c1.1, ?_, pb_cnt 8 (x % 256), pb_cnt 8 (x / 256), c0.2.2.2, c1.2.2.2, ?_, ?_⟩
  · rw [e1]
    have := pb_2 (k := 3) (b := pb_f1 (x % 256)) (q := pb_f1 (x / 256)) c0.1
    rw [pb_2b (k := 2) c1.1] at this
    rw [this]
    exact pb_w c0.2.1 c1.2.1
  · have h4 : x < 256 ^ (3 + 1) := Nat.lt_of_lt_of_le h (by decide)
    have t1 := pb_Ts (k := 3) h4
    have t2 := pb_Ts (k := 2) (pb_dk h4)
    rw [hq2, hq3, pb_z3] at t2
    exact t1.trans (congrArg (fun q => pb_cnt 8 (x % 256) + 256 * q) t2)
  · exact pb_cs 8 x
theorem pb_b63 {x : Nat} (h : x < 2 ^ 63) : x + x / 2 ^ 4 < 2 ^ 64 := by omega
theorem pb_b1 {x : Nat} (h : x < 2 ^ 64) : pb_s1 8 x < 2 ^ 64 := Nat.lt_of_le_of_lt (Nat.sub_le _ _) h
theorem pb_b2 (x : Nat) : pb_s2 8 x < 2 ^ 63 := by
  have m1 : x &&& pb_mk 0x33 8 ≤ pb_mk 0x33 8 := Nat.and_le_right
  have m2 : x / 4 &&& pb_mk 0x33 8 ≤ pb_mk 0x33 8 := Nat.and_le_right
  rw [pb_mk8.2.1] at m1 m2
  unfold pb_s2
  rw [pb_mk8.2.1]
  exact Nat.lt_of_le_of_lt (Nat.add_le_add m1 m2) (by decide)
theorem pb_fin {x y : Nat} (h : x % 128 = y) : x % 2 ^ 32 % 2 ^ 7 = y := by omega
theorem pb_q10 {x0 : Nat} (h : x0 < 2 ^ 64) : ((lN x0) - (((Int64.toUInt64 (lN x0)) >>> ((Int32.toInt64 1).toUInt64 &&& Int64.toUInt64 63)).toInt64 &&& 6148914691236517205)) = lN (pb_s1 8 x0) := by
  rw [show (6148914691236517205 : Int64) = lN 6148914691236517205 from rfl, show (Int32.toInt64 1) = (nI 1).toInt64 from rfl, wb_shr h (by decide), wb_and (Nat.lt_of_le_of_lt (Nat.div_le_self _ _) h) (by decide), lN_sub (Nat.le_trans (pb_land_le _ _) (Nat.div_le_self _ _))]
  unfold pb_s1
  rw [pb_mk8.1]
theorem pb_q24 {x0 : Nat} (h : x0 < 2 ^ 64) : (((lN x0) &&& 3689348814741910323) + (((Int64.toUInt64 (lN x0)) >>> ((Int32.toInt64 2).toUInt64 &&& Int64.toUInt64 63)).toInt64 &&& 3689348814741910323)) = lN (pb_s2 8 x0) := by
  rw [show (3689348814741910323 : Int64) = lN 3689348814741910323 from rfl, show (Int32.toInt64 2) = (nI 2).toInt64 from rfl, wb_shr h (by decide), wb_and h (by decide), wb_and (Nat.lt_of_le_of_lt (Nat.div_le_self _ _) h) (by decide), lN_add]
  unfold pb_s2
  rw [pb_mk8.2.1]
theorem pb_q34 {x0 : Nat} (h : x0 < 2 ^ 63) : (((lN x0) + ((Int64.toUInt64 (lN x0)) >>> ((Int32.toInt64 4).toUInt64 &&& Int64.toUInt64 63)).toInt64) &&& 1085102592571150095) = lN (pb_s3 8 x0) := by
  rw [show (1085102592571150095 : Int64) = lN 1085102592571150095 from rfl, show (Int32.toInt64 4) = (nI 4).toInt64 from rfl, wb_shr (Nat.lt_trans h (by decide)) (by decide), lN_add, wb_and (pb_b63 h) (by decide)]
  unfold pb_s3
  rw [pb_mk8.2.2]
theorem pb_q41 {x0 : Nat} (h : x0 < 2 ^ 63) : ((lN x0) + ((Int64.toUInt64 (lN x0)) >>> ((Int32.toInt64 8).toUInt64 &&& Int64.toUInt64 63)).toInt64) = lN (x0 + x0 / 2 ^ 8) := by
  rw [show (Int32.toInt64 8) = (nI 8).toInt64 from rfl, wb_shr (Nat.lt_trans h (by decide)) (by decide), lN_add]
theorem pb_q48 {x0 : Nat} (h : x0 < 2 ^ 63) : ((lN x0) + ((Int64.toUInt64 (lN x0)) >>> ((Int32.toInt64 16).toUInt64 &&& Int64.toUInt64 63)).toInt64) = lN (x0 + x0 / 2 ^ 16) := by
  rw [show (Int32.toInt64 16) = (nI 16).toInt64 from rfl, wb_shr (Nat.lt_trans h (by decide)) (by decide), lN_add]
theorem pb_q55 {x0 : Nat} (h : x0 < 2 ^ 63) : ((lN x0) + ((Int64.toUInt64 (lN x0)) >>> ((Int32.toInt64 32).toUInt64 &&& Int64.toUInt64 63)).toInt64) = lN (x0 + x0 / 2 ^ 32) := by
  rw [show (Int32.toInt64 32) = (nI 32).toInt64 from rfl, wb_shr (Nat.lt_trans h (by decide)) (by decide), lN_add]
theorem pb_q60 {x0 y : Nat} (h : x0 % 128 = y) : ((Int64.toInt32 (lN x0)) &&& 127) = nI y := by
  rw [lN_i, pk_and _ (m := 127) 7 rfl]
  congr 1
  show (BitVec.ofNat 32 x0).toNat % 2 ^ 7 = _
  rw [BitVec.toNat_ofNat]
  exact pb_fin h
set_option maxRecDepth 20000 in
theorem x_bc64 {d : Nat} {hp : px_H} {N : Nat} (hN : N < 2 ^ 64) : px_Go d 0 (0, [(0, .long (lN N))], [], hp) (.inl (some (.int (nI (pb_cnt 64 N)))), hp) := by
  refine px_a 8 (f' := (10, [(0, .long ((lN N) - (((Int64.toUInt64 (lN N)) >>> ((Int32.toInt64 1).toUInt64 &&& Int64.toUInt64 63)).toInt64 &&& 6148914691236517205)))], [], hp)) rfl ?_
  rw [pb_q10 hN]
  refine px_a 10 (f' := (24, [(0, .long (((lN (pb_s1 8 N)) &&& 3689348814741910323) + (((Int64.toUInt64 (lN (pb_s1 8 N))) >>> ((Int32.toInt64 2).toUInt64 &&& Int64.toUInt64 63)).toInt64 &&& 3689348814741910323)))], [], hp)) rfl ?_
  rw [pb_q24 (pb_b1 hN)]
  refine px_a 8 (f' := (34, [(0, .long (((lN (pb_s2 8 (pb_s1 8 N))) + ((Int64.toUInt64 (lN (pb_s2 8 (pb_s1 8 N)))) >>> ((Int32.toInt64 4).toUInt64 &&& Int64.toUInt64 63)).toInt64) &&& 1085102592571150095))], [], hp)) rfl ?_
  rw [pb_q34 (pb_b2 _)]
  rw [show pb_s3 8 (pb_s2 8 (pb_s1 8 N)) = pb_T 8 N from rfl]
  refine px_a 6 (f' := (41, [(0, .long ((lN (pb_T 8 N)) + ((Int64.toUInt64 (lN (pb_T 8 N))) >>> ((Int32.toInt64 8).toUInt64 &&& Int64.toUInt64 63)).toInt64))], [], hp)) rfl ?_
  obtain ⟨p0, p1, p2, p3, p4, p5, p6, p7, tz⟩ := pb_T8 hN
  have en := pb_end tz
  rw [pb_q41 en.1]
  refine px_a 6 (f' := (48, [(0, .long ((lN ((pb_T 8 N) + (pb_T 8 N) / 2 ^ 8)) + ((Int64.toUInt64 (lN ((pb_T 8 N) + (pb_T 8 N) / 2 ^ 8))) >>> ((Int32.toInt64 16).toUInt64 &&& Int64.toUInt64 63)).toInt64))], [], hp)) rfl ?_
  rw [pb_q48 en.2.1]
  refine px_a 6 (f' := (55, [(0, .long ((lN (((pb_T 8 N) + (pb_T 8 N) / 2 ^ 8) + ((pb_T 8 N) + (pb_T 8 N) / 2 ^ 8) / 2 ^ 16)) + ((Int64.toUInt64 (lN (((pb_T 8 N) + (pb_T 8 N) / 2 ^ 8) + ((pb_T 8 N) + (pb_T 8 N) / 2 ^ 8) / 2 ^ 16))) >>> ((Int32.toInt64 32).toUInt64 &&& Int64.toUInt64 63)).toInt64))], [], hp)) rfl ?_
  rw [pb_q55 en.2.2.1]
  refine px_a 4 (f' := (60, [(0, .long (lN ((((pb_T 8 N) + (pb_T 8 N) / 2 ^ 8) + ((pb_T 8 N) + (pb_T 8 N) / 2 ^ 8) / 2 ^ 16) + (((pb_T 8 N) + (pb_T 8 N) / 2 ^ 8) + ((pb_T 8 N) + (pb_T 8 N) / 2 ^ 8) / 2 ^ 16) / 2 ^ 32)))], [.int ((Int64.toInt32 (lN ((((pb_T 8 N) + (pb_T 8 N) / 2 ^ 8) + ((pb_T 8 N) + (pb_T 8 N) / 2 ^ 8) / 2 ^ 16) + (((pb_T 8 N) + (pb_T 8 N) / 2 ^ 8) + ((pb_T 8 N) + (pb_T 8 N) / 2 ^ 8) / 2 ^ 16) / 2 ^ 32))) &&& 127)], hp)) rfl ?_
  rw [pb_q60 en.2.2.2.1]
  exact px_ri rfl rfl rfl
theorem nx_and (a b : Nat) : nI a &&& nI b = nI (a &&& b) := by
  apply Int32.toBitVec_inj.1
  show BitVec.ofNat 32 a &&& BitVec.ofNat 32 b = BitVec.ofNat 32 (a &&& b)
  apply BitVec.eq_of_getLsbD_eq
  intro i hi
  simp [hi]
theorem nx_xor (a b : Nat) : nI a ^^^ nI b = nI (a ^^^ b) := by
  apply Int32.toBitVec_inj.1
  show BitVec.ofNat 32 a ^^^ BitVec.ofNat 32 b = BitVec.ofNat 32 (a ^^^ b)
  apply BitVec.eq_of_getLsbD_eq
  intro i hi
  simp [hi]
theorem nx_cnt : ∀ j : Fin 32, (UInt32.ofNat j.val &&& Int32.toUInt32 31).toNat % 32 = j.val := by decide +kernel
theorem nx_ush {k j : Nat} (hk : k < 65536) (hj : j < 32) : ((nI k).toUInt32 >>> ((nI j).toUInt32 &&& Int32.toUInt32 31)).toInt32 = nI (k >>> j) := by
  have hs : k >>> j ≤ k := by
    rw [Nat.shiftRight_eq_div_pow]
    exact Nat.div_le_self _ _
  have e2 : UInt32.ofNat k >>> (UInt32.ofNat j &&& Int32.toUInt32 31) = UInt32.ofNat (k >>> j) := by
    apply UInt32.toNat_inj.1
    have h1 : (UInt32.ofNat k).toNat = k := Nat.mod_eq_of_lt (by omega)
    have h2 : (UInt32.ofNat (k >>> j)).toNat = k >>> j := Nat.mod_eq_of_lt (by omega)
    rw [UInt32.toNat_shiftRight, nx_cnt ⟨j, hj⟩, h1, h2]
  show (UInt32.ofNat k >>> (UInt32.ofNat j &&& Int32.toUInt32 31)).toInt32 = _
  rw [e2]
  rfl
theorem pb_e4 {p0 p1 z : Nat} (a0 : p0 ≤ 8) (a1 : p1 ≤ 8) (h : z = p0 + 256 * p1) : z < 65536 ∧ z + z / 2 ^ 8 < 65536 ∧ z + z / 2 ^ 8 + (z + z / 2 ^ 8) / 2 ^ 16 < 2 ^ 32 ∧ (z + z / 2 ^ 8 + (z + z / 2 ^ 8) / 2 ^ 16) % 2 ^ 6 = p0 + p1 := by
  have e : z / 2 ^ 8 = p1 := by omega
  rw [e]
  have e2 : (z + p1) / 2 ^ 16 = 0 := by omega
  rw [e2]
  refine ⟨by omega, by omega, by omega, by omega⟩
theorem pb_r10 {x0 : Nat} (h : x0 < 65536) : ((nI x0) - (((nI x0).toUInt32 >>> (Int32.toUInt32 1 &&& Int32.toUInt32 31)).toInt32 &&& 1431655765)) = nI (pb_s1 4 x0) := by
  rw [show (1431655765 : Int32) = nI 1431655765 from rfl, show (Int32.toUInt32 1) = (nI 1).toUInt32 from rfl, nx_ush h (by decide), nx_and, Nat.shiftRight_eq_div_pow, pk_sub (Nat.le_trans (pb_land_le _ _) (Nat.div_le_self _ _))]
  unfold pb_s1
  rw [pb_mk4.1]
theorem pb_r24 {x0 : Nat} (h : x0 < 65536) : (((nI x0) &&& 858993459) + (((nI x0).toUInt32 >>> (Int32.toUInt32 2 &&& Int32.toUInt32 31)).toInt32 &&& 858993459)) = nI (pb_s2 4 x0) := by
  rw [show (858993459 : Int32) = nI 858993459 from rfl, show (Int32.toUInt32 2) = (nI 2).toUInt32 from rfl, nx_ush h (by decide), nx_and, nx_and, nI_add, Nat.shiftRight_eq_div_pow]
  unfold pb_s2
  rw [pb_mk4.2.1]
theorem pb_r34 {x0 : Nat} (h : x0 < 65536) : (((nI x0) + ((nI x0).toUInt32 >>> (Int32.toUInt32 4 &&& Int32.toUInt32 31)).toInt32) &&& 252645135) = nI (pb_s3 4 x0) := by
  rw [show (252645135 : Int32) = nI 252645135 from rfl, show (Int32.toUInt32 4) = (nI 4).toUInt32 from rfl, nx_ush h (by decide), nI_add, nx_and, Nat.shiftRight_eq_div_pow]
  unfold pb_s3
  rw [pb_mk4.2.2]
theorem pb_r41 {x0 : Nat} (h : x0 < 65536) : ((nI x0) + ((nI x0).toUInt32 >>> (Int32.toUInt32 8 &&& Int32.toUInt32 31)).toInt32) = nI (x0 + x0 / 2 ^ 8) := by
  rw [show (Int32.toUInt32 8) = (nI 8).toUInt32 from rfl, nx_ush h (by decide), nI_add, Nat.shiftRight_eq_div_pow]
theorem pb_r48 {x0 : Nat} (h : x0 < 65536) : ((nI x0) + ((nI x0).toUInt32 >>> (Int32.toUInt32 16 &&& Int32.toUInt32 31)).toInt32) = nI (x0 + x0 / 2 ^ 16) := by
  rw [show (Int32.toUInt32 16) = (nI 16).toUInt32 from rfl, nx_ush h (by decide), nI_add, Nat.shiftRight_eq_div_pow]
theorem pb_r52 {x0 y : Nat} (h : x0 < 2 ^ 32) (e : x0 % 2 ^ 6 = y) : ((nI x0) &&& 63) = nI y := by
  rw [pk_andN h (m := 63) 6 rfl, e]
set_option maxRecDepth 20000 in
theorem x_bc16 {d : Nat} {hp : px_H} {N : Nat} (hN : N < 65536) : px_Go d 1 (0, [(0, .int (nI N))], [], hp) (.inl (some (.int (nI (pb_cnt 16 N)))), hp) := by
  have s4 := pb_s4 hN
  obtain ⟨p0, p1, a0, a1, t1, t2⟩ := s4.2.2
  have en := pb_e4 a0 a1 t1
  refine px_a 8 (f' := (10, [(0, .int ((nI N) - (((nI N).toUInt32 >>> (Int32.toUInt32 1 &&& Int32.toUInt32 31)).toInt32 &&& 1431655765)))], [], hp)) rfl ?_
  rw [pb_r10 hN]
  refine px_a 10 (f' := (24, [(0, .int (((nI (pb_s1 4 N)) &&& 858993459) + (((nI (pb_s1 4 N)).toUInt32 >>> (Int32.toUInt32 2 &&& Int32.toUInt32 31)).toInt32 &&& 858993459)))], [], hp)) rfl ?_
  rw [pb_r24 s4.1]
  refine px_a 8 (f' := (34, [(0, .int (((nI (pb_s2 4 (pb_s1 4 N))) + ((nI (pb_s2 4 (pb_s1 4 N))).toUInt32 >>> (Int32.toUInt32 4 &&& Int32.toUInt32 31)).toInt32) &&& 252645135))], [], hp)) rfl ?_
  rw [pb_r34 s4.2.1]
  rw [show pb_s3 4 (pb_s2 4 (pb_s1 4 N)) = pb_T 4 N from rfl]
  refine px_a 6 (f' := (41, [(0, .int ((nI (pb_T 4 N)) + ((nI (pb_T 4 N)).toUInt32 >>> (Int32.toUInt32 8 &&& Int32.toUInt32 31)).toInt32))], [], hp)) rfl ?_
  rw [pb_r41 en.1]
  refine px_a 6 (f' := (48, [(0, .int ((nI ((pb_T 4 N) + (pb_T 4 N) / 2 ^ 8)) + ((nI ((pb_T 4 N) + (pb_T 4 N) / 2 ^ 8)).toUInt32 >>> (Int32.toUInt32 16 &&& Int32.toUInt32 31)).toInt32))], [], hp)) rfl ?_
  rw [pb_r48 en.2.1]
  refine px_a 3 (f' := (52, [(0, .int (nI (((pb_T 4 N) + (pb_T 4 N) / 2 ^ 8) + ((pb_T 4 N) + (pb_T 4 N) / 2 ^ 8) / 2 ^ 16)))], [.int ((nI (((pb_T 4 N) + (pb_T 4 N) / 2 ^ 8) + ((pb_T 4 N) + (pb_T 4 N) / 2 ^ 8) / 2 ^ 16)) &&& 63)], hp)) rfl ?_
  rw [pb_r52 en.2.2.1 (en.2.2.2.trans t2.symm)]
  exact px_ri rfl rfl rfl
