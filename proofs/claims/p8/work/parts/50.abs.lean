/-! ABSTRACT RUNS: intervals whose ends are a + b * n, regions of the heap, measures -/
abbrev pa_B : Type := Int × Int
def pa_ev (n : Nat) (b : pa_B) : Int := b.1 + b.2 * (n : Int)
def pa_le (a b : pa_B) : Bool := decide (a.1 + a.2 ≤ b.1 + b.2) && decide (a.1 + a.2 * 36 ≤ b.1 + b.2 * 36)
def pa_N (n : Nat) : Prop := 1 ≤ n ∧ n ≤ 36
theorem pa_le_ok {n : Nat} (h : pa_N n) {a b : pa_B} (hab : pa_le a b = true) : pa_ev n a ≤ pa_ev n b := by
  unfold pa_le at hab
  simp only [Bool.and_eq_true, decide_eq_true_eq] at hab
  obtain ⟨h1, h2⟩ := h
  obtain ⟨p, q⟩ := hab
  unfold pa_ev
  by_cases hd : a.2 ≤ b.2
  · have := Int.mul_nonneg (show 0 ≤ b.2 - a.2 by omega) (show (0 : Int) ≤ (n : Int) - 1 by omega)
    rw [Int.sub_mul, Int.mul_sub, Int.mul_sub] at this
    omega
  · have := Int.mul_nonneg (show 0 ≤ a.2 - b.2 by omega) (show (0 : Int) ≤ 36 - (n : Int) by omega)
    rw [Int.sub_mul, Int.mul_sub, Int.mul_sub] at this
    omega
/-- an int (its ends, where it came from), a long, a reference (its region, whether it is the receiver) -/
abbrev pa_V : Type := (pa_B × pa_B × Nat) ⊕ (Unit ⊕ (Nat × Nat))
def pa_i (a b : Int) : pa_V := .inl ((a, 0), (b, 0), 0)
def pa_top : pa_V := .inl ((-2147483648, 0), (2147483647, 0), 0)
def pa_lg : pa_V := .inr (.inl ())
def pa_rf (r : Nat) : pa_V := .inr (.inr (r, 0))
def pa_rg (n a : Nat) : Nat :=
  if a = 8 then 8 else if a = 9 then 9 else if 1 ≤ a ∧ a ≤ 6 then a else if 10 ≤ a ∧ a < 28 then 10 + (a - 10) % 3 else if 28 ≤ a ∧ a < 32 then a - 15
  else if 32 ≤ a ∧ a < 32 + n then 17 else if a = 33 + n then 17 else if 32 + n ≤ a ∧ a < 53 + n then a - (32 + n) + 18 else 99
abbrev pa_D : Type := Nat × (List pa_V ⊕ (pa_B × pa_V))
def pa_rs (r : Nat) : pa_D := match r with
  | 1 | 2 | 3 | 4 | 5 | 6 => (20, .inr ((4, 0), pa_i (-1) 1))
  | 8 => (3, .inl [pa_i 1 6, pa_i 1 6, pa_rf 9, pa_rf 13, pa_rf 14, pa_rf 15, pa_rf 20, pa_i 0 6, pa_lg, pa_i 0 1])
  | 9 => (13, .inr ((6, 0), pa_rf 10))
  | 10 => (1, .inl [pa_i 1 6, pa_i 1 6, pa_rf 11, pa_rf 12, pa_top, pa_i 0 8, pa_i 0 160, pa_lg])
  | 11 => (10, .inr ((8, 0), pa_top))
  | 12 => (11, .inr ((160, 0), pa_lg))
  | 13 | 14 => (10, .inr ((0, 1), pa_top))
  | 15 => (0, .inl [.inl ((0, 1), (0, 1), 0), pa_rf 16, pa_rf 18, pa_rf 17, pa_i 2 2147483647])
  | 16 => (14, .inr ((0, 1), pa_rf 17))
  | 17 => (10, .inr ((1, 1), pa_top))
  | 18 => (12, .inr ((0, 1), pa_i 0 1))
  | 20 => (2, .inl [pa_i 1 6, pa_i 1 6, pa_rf 21, pa_rf 22, pa_rf 23, pa_i 0 84, pa_i 0 84, pa_lg])
  | 21 => (10, .inr ((84, 0), pa_i 0 3))
  | 22 | 23 => (10, .inr ((84, 0), pa_top))
  | 24 => (4, .inl [pa_i 0 2, pa_i 1 6, pa_i 1 6, pa_rf 25, pa_i 0 6, pa_rf 26, pa_rf 27, pa_rf 28, pa_i 0 512, pa_rf 29, pa_rf 30, pa_rf 31, pa_rf 32, pa_i 0 1, pa_rf 33, pa_i 0 200, pa_rf 34, pa_i 0 200, pa_rf 35, pa_rf 36, pa_rf 37])
  | 25 | 30 => (12, .inr ((36, 0), pa_i 0 1))
  | 26 => (10, .inr ((6, 0), pa_i 0 6))
  | 27 => (10, .inr ((36, 0), pa_i 0 15))
  | 28 | 33 => (10, .inr ((36, 0), pa_top))
  | 29 => (11, .inr ((512, 0), pa_lg))
  | 31 => (10, .inr ((1332, 0), pa_top))
  | 32 => (10, .inr ((37, 0), pa_top))
  | 34 => (10, .inr ((200, 0), pa_i 0 3))
  | 35 | 36 => (10, .inr ((200, 0), pa_top))
  | 37 => (12, .inr ((37, 0), pa_i 0 1))
  | 38 => (11, .inr ((1, 0), pa_lg))
  | _ => (99, .inl [])
/-! what they stand for -/
def pa_gv (n : Nat) (A : pa_V) (v : Value) : Prop := match A with
  | .inl q => ∃ x : Int32, v = .int x ∧ pa_ev n q.1 ≤ x.toInt ∧ x.toInt ≤ pa_ev n q.2.1
  | .inr (.inl _) => ∃ x : Int64, v = .long x
  | .inr (.inr q) => ∃ a : Nat, v = .ref a ∧ pa_rg n a = q.1 ∧ q.1 ≠ 99
def pa_gfs (n : Nat) : List pa_V → List Value → Prop
  | [], [] => True
  | A :: l, v :: vs => pa_gv n A v ∧ pa_gfs n l vs
  | _, _ => False
def pa_gc (n : Nat) (s : pa_D) (c : Option px_C) : Prop := ∃ vs, c = some (s.1, vs) ∧ (match s.2 with
  | .inl l => pa_gfs n l vs
  | .inr q => (vs.length : Int) = pa_ev n q.1 ∧ ∀ v ∈ vs, pa_gv n q.2 v)
def pa_wh (n : Nat) (hp : px_H) : Prop := ∃ (W V : Nat) (vs : List Value), W ≤ 6 ∧ V ≤ 6 ∧ n = W * V ∧ hp[(8 : Nat)]? = some (3, vs) ∧ vs[(0 : Nat)]? = some (.int (nI W)) ∧ vs[(1 : Nat)]? = some (.int (nI V))
def pa_Hi (n : Nat) (hp : px_H) : Prop := (∀ a, pa_rg n a ≠ 99 → pa_gc n (pa_rs (pa_rg n a)) hp[a]?) ∧ pa_wh n hp
abbrev pa_M : Type := List (Nat × Nat)
def pa_Fr (n : Nat) (M : pa_M) (hp hp' : px_H) : Prop := ∀ (a t : Nat) (vs : List Value), hp[a]? = some (t, vs) → ∃ vs', hp'[a]? = some (t, vs') ∧ vs'.length = vs.length ∧ ∀ k, ¬ (pa_rg n a, if t < 10 then k else 0) ∈ M → vs'[k]? = vs[k]?
theorem pa_Fr.refl {n : Nat} {M : pa_M} (hp : px_H) : pa_Fr n M hp hp := fun _ _ vs h => ⟨vs, h, rfl, fun _ _ => rfl⟩
theorem pa_Fr.trans {n : Nat} {M : pa_M} {a b c : px_H} (h : pa_Fr n M a b) (k : pa_Fr n M b c) : pa_Fr n M a c := by
  intro x t vs hx
  obtain ⟨v1, h1, l1, e1⟩ := h x t vs hx
  obtain ⟨v2, h2, l2, e2⟩ := k x t v1 h1
  exact ⟨v2, h2, l2.trans l1, fun i hi => (e2 i hi).trans (e1 i hi)⟩
theorem pa_Fr.mono {n : Nat} {M M' : pa_M} {a b : px_H} (h : pa_Fr n M a b) (hM : ∀ q ∈ M, q ∈ M') : pa_Fr n M' a b := by
  intro x t vs hx
  obtain ⟨v1, h1, l1, e1⟩ := h x t vs hx
  exact ⟨v1, h1, l1, fun i hi => e1 i (fun z => hi (hM _ z))⟩
/-! contracts: arguments, answer, whether it may throw, what it writes -/
abbrev pa_K : Type := List pa_V × Option pa_V × Bool × pa_M
def pa_gr (n : Nat) (r : Option pa_V) (o : Option Value) : Prop := match r, o with
  | none, none => True
  | some A, some v => pa_gv n A v
  | _, _ => False
def px_Gx (d j : Nat) (f : px_F) (P : px_O → px_H → Prop) : Prop := ∃ o hp', px_Go d j f (o, hp') ∧ P o hp'
def pa_Po (n : Nat) (k : pa_K) (hp : px_H) (o : px_O) (hp' : px_H) : Prop := pa_Hi n hp' ∧ pa_Fr n k.2.2.2 hp hp' ∧
  ((∃ v, o = .inl v ∧ pa_gr n k.2.1 v ∧ hp'.length = hp.length) ∨ (k.2.2.1 = true ∧ ∃ E, o = .inr E ∧ hp'.length = hp.length + 1 ∧ px_sz hp' = px_sz hp + 6))
/-- what an answer tells of the arguments, method by method -/
abbrev pa_T : Type := List (Nat × List (pa_V × List pa_V))
def pa_al (tb : pa_T) (j : Nat) : List (pa_V × List pa_V) := match tb with
  | [] => []
  | q :: r => if q.1 = j then q.2 else pa_al r j
def pa_Ak (n : Nat) (l : List (pa_V × List pa_V)) (as : List Value) (o : px_O) : Prop := l = [] ∨ ∀ v, o = .inl (some v) → ∃ q ∈ l, pa_gv n q.1 v ∧ pa_gfs n q.2 as
def pa_Ct (tb : pa_T) (n j : Nat) (k : pa_K) (d : Nat) : Prop := ∀ (as : List Value) (hp : px_H), pa_Hi n hp → pa_gfs n k.1 as → px_Gx d j (0, lv_args 0 as, [], hp) (fun o hp' => pa_Po n k hp o hp' ∧ pa_Ak n (pa_al tb j) as o)
theorem pa_Ct.deep {tb : pa_T} {n j : Nat} {k : pa_K} {d d' : Nat} (h : pa_Ct tb n j k d) (hd : d ≤ d') : pa_Ct tb n j k d' := by
  intro as hp h1 h2
  obtain ⟨o, hp', hg, hp⟩ := h as hp h1 h2
  exact ⟨o, hp', hg.deep hd, hp⟩
/-! states: locals, stack, fields of the receiver -/
abbrev pa_S : Type := List (Nat × pa_V) × List pa_V × List (Nat × pa_B × pa_B)
def pa_gl (n : Nat) (lv : px_L) : List (Nat × pa_V) → Prop
  | [] => True
  | q :: l => (∃ v, px_get lv q.1 = some v ∧ pa_gv n q.2 v) ∧ pa_gl n lv l
def pa_fd (hp : px_H) (a k : Nat) : Option Value := match hp[a]? with
  | some c => c.2[k]?
  | none => none
def pa_or (a0 : Nat) (lv : px_L) (hp : px_H) (A : pa_V) (v : Value) : Prop := match A with
  | .inl q => q.2.2 = 0 ∨ (q.2.2 < 100 ∧ px_get lv (q.2.2 - 1) = some v) ∨ (100 ≤ q.2.2 ∧ pa_fd hp a0 (q.2.2 - 100) = some v)
  | .inr (.inl _) => True
  | .inr (.inr q) => q.2 = 0 ∨ v = .ref a0
def pa_gs (n a0 : Nat) (lv : px_L) (hp : px_H) : List pa_V → List Value → Prop
  | [], [] => True
  | A :: l, v :: vs => (pa_gv n A v ∧ pa_or a0 lv hp A v) ∧ pa_gs n a0 lv hp l vs
  | _, _ => False
def pa_gf (n a0 : Nat) (hp : px_H) : List (Nat × pa_B × pa_B) → Prop
  | [] => True
  | q :: l => (∃ x : Int32, pa_fd hp a0 q.1 = some (.int x) ∧ pa_ev n q.2.1 ≤ x.toInt ∧ x.toInt ≤ pa_ev n q.2.2) ∧ pa_gf n a0 hp l
/-- vt: the receiver lies in local 0 (of region r0) -/
def pa_st (n a0 : Nat) (vt : Bool) (s : pa_S) (lv : px_L) (st : List Value) (hp : px_H) : Prop :=
  pa_gl n lv s.1 ∧ pa_gs n a0 lv hp s.2.1 st ∧ pa_gf n a0 hp s.2.2 ∧ (vt = true → px_get lv 0 = some (.ref a0))
/-! the transfer -/
abbrev pa_U : Type := Option (Nat × Option Int)
abbrev pa_R : Type := Option (List (Nat × pa_S × pa_U))
def pa_get (l : List (Nat × pa_V)) (i : Nat) : Option pa_V := match l with
  | [] => none
  | q :: r => if q.1 = i then some q.2 else pa_get r i
def pa_fget (l : List (Nat × pa_B × pa_B)) (i : Nat) : Option (pa_B × pa_B) := match l with
  | [] => none
  | q :: r => if q.1 = i then some q.2 else pa_fget r i
def pa_isL (A : pa_V) : Bool := match A with
  | .inr (.inl _) => true
  | _ => false
def pa_cl (f : Nat → Bool) (A : pa_V) : pa_V := match A with
  | .inl q => .inl (q.1, q.2.1, if f q.2.2 = true then 0 else q.2.2)
  | x => x
def pa_one (pc : Nat) (s : pa_S) : pa_R := some [(pc, s, none)]
def pa_ld (t k pc : Nat) (s : pa_S) (i : Nat) : pa_R := match pa_get s.1 i with
  | some (.inl q) => if t = 0 ∧ i < 99 then pa_one (pc + k) (s.1, .inl (q.1, q.2.1, i + 1) :: s.2.1, s.2.2) else none
  | some (.inr (.inl _)) => if t = 1 then pa_one (pc + k) (s.1, pa_lg :: s.2.1, s.2.2) else none
  | some (.inr (.inr q)) => if t = 2 then pa_one (pc + k) (s.1, .inr (.inr (q.1, if i = 0 then 1 else 0)) :: s.2.1, s.2.2) else none
  | none => none
def pa_put (l : List (Nat × pa_V)) (i : Nat) (A : pa_V) : List (Nat × pa_V) := (i, A) :: l.filter (fun q => !(q.1 == i) && !(q.1 + 1 == i && pa_isL q.2) && !(pa_isL A && q.1 == i + 1))
def pa_sv (t k nL pc : Nat) (s : pa_S) (i : Nat) : pa_R := match s.2.1 with
  | .inl q :: r => if t = 0 ∧ i < nL ∧ ¬ i = 0 then some [(pc + k, (pa_put s.1 i (.inl (q.1, q.2.1, 0)), r.map (pa_cl (fun o => o == i + 1)), s.2.2), some (i + 1000, none))] else none
  | .inr (.inl _) :: r => if t = 1 ∧ i + 1 < nL ∧ ¬ i = 0 then some [(pc + k, (pa_put s.1 i pa_lg, r.map (pa_cl (fun o => o == i + 1 || o == i + 2)), s.2.2), some (i, none))] else none
  | .inr (.inr q) :: r => if t = 2 ∧ i < nL ∧ ¬ i = 0 then some [(pc + k, (pa_put s.1 i (pa_rf q.1), r.map (pa_cl (fun o => o == i + 1)), s.2.2), some (i + 1000, none))] else none
  | [] => none
def pa_rng (lo hi : pa_B) : pa_V := if pa_le (-2147483648, 0) lo && pa_le hi (2147483647, 0) then .inl (lo, hi, 0) else pa_top
def pa_inc (pc : Nat) (nL : Nat) (s : pa_S) (i : Nat) (c : Int) : pa_R := match pa_get s.1 i with
  | some (.inl q) => if i < nL ∧ ¬ i = 0 ∧ pa_le (-2147483648, 0) (q.1.1 + c, q.1.2) = true ∧ pa_le (q.2.1.1 + c, q.2.1.2) (2147483647, 0) = true then
      some [(pc + 3, (pa_put s.1 i (.inl ((q.1.1 + c, q.1.2), (q.2.1.1 + c, q.2.1.2), 0)), s.2.1.map (pa_cl (fun o => o == i + 1)), s.2.2), some (i, some c))]
    else if i < nL ∧ ¬ i = 0 then some [(pc + 3, (pa_put s.1 i pa_top, s.2.1.map (pa_cl (fun o => o == i + 1)), s.2.2), some (i + 1000, none))] else none
  | _ => none
def pa_bin (pc : Nat) (s : pa_S) (f : (pa_B × pa_B) → (pa_B × pa_B) → Option pa_V) : pa_R := match s.2.1 with
  | .inl y :: .inl x :: r => match f (x.1, x.2.1) (y.1, y.2.1) with
    | some A => pa_one (pc + 1) (s.1, A :: r, s.2.2)
    | none => none
  | _ => none
def pa_add (x y : pa_B × pa_B) : Option pa_V := some (pa_rng (x.1.1 + y.1.1, x.1.2 + y.1.2) (x.2.1 + y.2.1, x.2.2 + y.2.2))
def pa_sub (x y : pa_B × pa_B) : Option pa_V := some (pa_rng (x.1.1 - y.2.1, x.1.2 - y.2.2) (x.2.1 - y.1.1, x.2.2 - y.1.2))
def pa_mul (x y : pa_B × pa_B) : Option pa_V := if x.1.2 = 0 ∧ x.2.2 = 0 ∧ y.1.2 = 0 ∧ y.2.2 = 0 ∧ 0 ≤ x.1.1 ∧ 0 ≤ y.1.1 ∧ x.2.1 * y.2.1 ≤ 2147483647 ∧ x.2.1 ≤ 2147483647 ∧ y.2.1 ≤ 2147483647 then some (.inl ((0, 0), (x.2.1 * y.2.1, 0), 0)) else some pa_top
def pa_and (_ y : pa_B × pa_B) : Option pa_V := if pa_le (0, 0) y.1 then some (.inl ((0, 0), y.2, 0)) else some pa_top
def pa_rem (x y : pa_B × pa_B) : Option pa_V := if pa_le (1, 0) y.1 then (if pa_le (0, 0) x.1 then some (.inl ((0, 0), (y.2.1 - 1, y.2.2), 0)) else some pa_top) else none
def pa_div (x y : pa_B × pa_B) : Option pa_V := if pa_le (1, 0) y.1 then (if pa_le (0, 0) x.1 then some (.inl ((0, 0), x.2, 0)) else some pa_top) else none
def pa_t2 (_ _ : pa_B × pa_B) : Option pa_V := some pa_top
def pa_ll (pc : Nat) (s : pa_S) : pa_R := match s.2.1 with
  | .inr (.inl _) :: .inr (.inl _) :: r => pa_one (pc + 1) (s.1, pa_lg :: r, s.2.2)
  | _ => none
def pa_li (pc : Nat) (s : pa_S) : pa_R := match s.2.1 with
  | .inl _ :: .inr (.inl _) :: r => pa_one (pc + 1) (s.1, pa_lg :: r, s.2.2)
  | _ => none
def pa_min (a b : pa_B) : pa_B := if pa_le a b then a else if pa_le b a then b else a
def pa_max (a b : pa_B) : pa_B := if pa_le b a then a else if pa_le a b then b else a
def pa_neg (c : ClassFile.Cond) : ClassFile.Cond := match c with
  | .eq => .ne | .ne => .eq | .lt => .ge | .ge => .lt | .gt => .le | .le => .gt
def pa_swp (c : ClassFile.Cond) : ClassFile.Cond := match c with
  | .eq => .eq | .ne => .ne | .lt => .gt | .ge => .le | .gt => .lt | .le => .ge
/-- what is known of x where 'x c y' holds -/
def pa_ref (c : ClassFile.Cond) (x y : pa_B × pa_B) : pa_B × pa_B := match c with
  | .lt => (x.1, pa_min x.2 (y.2.1 - 1, y.2.2))
  | .le => (x.1, pa_min x.2 y.2)
  | .gt => (pa_max x.1 (y.1.1 + 1, y.1.2), x.2)
  | .ge => (pa_max x.1 y.1, x.2)
  | .eq => (pa_max x.1 y.1, pa_min x.2 y.2)
  | .ne => if y.1 = y.2 then (if x.1 = y.1 then (x.1.1 + 1, x.1.2) else x.1, if x.2 = y.1 then (x.2.1 - 1, x.2.2) else x.2) else x
def pa_upd (s : pa_S) (o : Nat) (x : pa_B × pa_B) : pa_S :=
  if o = 0 then s else if o < 100 then ((o - 1, .inl (x.1, x.2, 0)) :: s.1.filter (fun q => !(q.1 == o - 1)), s.2.1, s.2.2)
  else (s.1, s.2.1, (o - 100, x.1, x.2) :: s.2.2.filter (fun q => !(q.1 == o - 100)))
def pa_emp (x : pa_B × pa_B) : Bool := pa_le (x.2.1 + 1, x.2.2) x.1
def pa_br (pc : Nat) (s : pa_S) (c : ClassFile.Cond) (x y : pa_B × pa_B) (ox oy : Nat) : List (Nat × pa_S × pa_U) :=
  let x' := pa_ref c x y
  let y' := pa_ref (pa_swp c) y x
  if pa_emp x' || pa_emp y' then [] else [(pc, pa_upd (pa_upd s ox x') oy y', none)]
def pa_if (pc : Nat) (off : Int) (s : pa_S) (c : ClassFile.Cond) (x y : pa_B × pa_B) (ox oy : Nat) : pa_R :=
  if 0 ≤ (pc : Int) + off then some (pa_br ((pc : Int) + off).toNat s c x y ox oy ++ pa_br (pc + 3) s (pa_neg c) x y ox oy) else none
def pa_sub1 (A B : pa_V) : Bool := match A, B with
  | .inl x, .inl y => pa_le y.1 x.1 && pa_le x.2.1 y.2.1
  | .inr (.inl _), .inr (.inl _) => true
  | .inr (.inr x), .inr (.inr y) => x.1 == y.1
  | _, _ => false
def pa_ori (A : pa_V) (o : Nat) : pa_V := match A with
  | .inl q => .inl (q.1, q.2.1, o)
  | .inr (.inl u) => .inr (.inl u)
  | .inr (.inr q) => .inr (.inr (q.1, 0))
def pa_ald (ok : Nat → Bool) (pc : Nat) (s : pa_S) : pa_R := match s.2.1 with
  | .inl i :: .inr (.inr q) :: r => match pa_rs q.1 with
    | (t, .inr (len, e)) => if ok t = true ∧ pa_le (0, 0) i.1 = true ∧ pa_le i.2.1 (len.1 - 1, len.2) = true then pa_one (pc + 1) (s.1, pa_ori e 0 :: r, s.2.2) else none
    | _ => none
  | _ => none
def pa_ast (t0 : Nat) (M : pa_M) (pc : Nat) (s : pa_S) : pa_R := match s.2.1 with
  | A :: .inl i :: .inr (.inr q) :: r => match pa_rs q.1 with
    | (t, .inr (len, e)) => if t = t0 ∧ 8 ≤ q.1 ∧ pa_sub1 A e = true ∧ (t0 = 12 → pa_sub1 A (pa_i 0 1) = true) ∧ pa_le (0, 0) i.1 = true ∧ pa_le i.2.1 (len.1 - 1, len.2) = true ∧ (q.1, 0) ∈ M then pa_one (pc + 1) (s.1, r, s.2.2) else none
    | _ => none
  | _ => none
def pa_gtf (cn idx pc : Nat) (s : pa_S) : pa_R := match s.2.1 with
  | .inr (.inr q) :: r => match px_lk px_fl_ cn idx with
    | some (ci, k, _) => match pa_rs q.1 with
      | (t, .inl l) => match l[k]? with
        | some A => if t = ci then (if q.2 = 1 then (match pa_fget s.2.2 k with
            | some x => pa_one (pc + 3) (s.1, .inl (x.1, x.2, 100 + k) :: r, s.2.2)
            | none => pa_one (pc + 3) (s.1, pa_ori A (100 + k) :: r, s.2.2)) else pa_one (pc + 3) (s.1, pa_ori A 0 :: r, s.2.2)) else none
        | none => none
      | _ => none
    | none => none
  | _ => none
def pa_ftok (ty : FieldType) (A : pa_V) : Bool := match ty with
  | .int => (match A with | .inl _ => true | _ => false)
  | .long => pa_isL A
  | .boolean => pa_sub1 A (pa_i 0 1)
  | _ => false
def pa_ptf (j idx pc : Nat) (M : pa_M) (s : pa_S) : pa_R := match s.2.1 with
  | A :: .inr (.inr q) :: r => match px_lk px_fl_ (px_cn j) idx with
    | some (ci, k, _, nest) => match pa_rs q.1 with
      | (t, .inl l) => match l[k]? with
        | some B => if t = ci ∧ t < 10 ∧ 8 ≤ q.1 ∧ nest = 0 ∧ px_fin ci k = false ∧ pa_ftok (px_ft ci k) A = true ∧ pa_sub1 A B = true ∧ (q.1, k) ∈ M then
            pa_one (pc + 3) (s.1, r.map (pa_cl (fun o => if q.2 = 1 then o == 100 + k else decide (100 ≤ o))), if q.2 = 1 then (match A with
              | .inl x => (k, x.1, x.2.1) :: s.2.2.filter (fun z => !(z.1 == k))
              | _ => s.2.2.filter (fun z => !(z.1 == k))) else []) else none
        | none => none
      | _ => none
    | none => none
  | _ => none
def pa_sub2 : List pa_V → List pa_V → Bool
  | [], [] => true
  | A :: l, B :: m => pa_sub1 A B && pa_sub2 l m
  | _, _ => false
def pa_ct (A : pa_V) : Nat := if pa_isL A then 2 else 1
def pa_rfn : List pa_V → List pa_V → pa_S → Option pa_S
  | .inl x :: l, .inl y :: m, s => if pa_emp (pa_max x.1 y.1, pa_min x.2.1 y.2.1) = true then none else pa_rfn l m (pa_upd s (if x.2.2 < 100 then x.2.2 else 0) (pa_max x.1 y.1, pa_min x.2.1 y.2.1))
  | _ :: l, _ :: m, s => pa_rfn l m s
  | _, _, s => some s
def pa_alts (pc : Nat) (as rest : List pa_V) (lv : List (Nat × pa_V)) : List (pa_V × List pa_V) → List (Nat × pa_S × pa_U)
  | [] => []
  | q :: l => (match pa_rfn as q.2 (lv, [], []) with
    | some s => [(pc + 3, (s.1, pa_ori q.1 0 :: rest, []), none)]
    | none => []) ++ pa_alts pc as rest lv l
def pa_call (tb : pa_T) (env : List (Nat × pa_K)) (M : pa_M) (thr : Bool) (j' pc : Nat) (as rest : List pa_V) (s : pa_S) : pa_R := match env.find? (fun q => q.1 == j') with
  | some (_, k) => if pa_sub2 as k.1 = true ∧ (rest.map pa_ct).sum ≤ 8 ∧ (as.map pa_ct).sum ≤ px_ml j' ∧ (k.2.2.1 = true → thr = true) ∧ (k.2.2.2.all (fun q => M.contains q)) = true ∧ px_kd j' ≠ 2 then
      (match pa_al tb j' with
      | [] => pa_one (pc + 3) (s.1, (k.2.1.map (fun A => pa_ori A 0)).toList ++ rest.map (pa_cl (fun o => decide (100 ≤ o))), [])
      | l => if k.2.1.isSome = true then some (pa_alts pc as (rest.map (pa_cl (fun o => decide (100 ≤ o)))) s.1 l) else none) else none
  | none => none
def pa_mx (j' : Nat) (x y : pa_B × pa_B) : pa_V := if j' = 2 then (.inl (pa_max x.1 y.1, if pa_le x.2 y.2 then y.2 else if pa_le y.2 x.2 then x.2 else (2147483647, 0), 0)) else (.inl (if pa_le x.1 y.1 then x.1 else if pa_le y.1 x.1 then y.1 else (-2147483648, 0), pa_min x.2 y.2, 0))
def pa_inv (tb : pa_T) (env : List (Nat × pa_K)) (M : pa_M) (thr : Bool) (cn idx pc : Nat) (st : Bool) (s : pa_S) : pa_R := match px_lk px_ml_ cn idx with
  | some (j', _) => if st = true then
      (if j' = 2 ∨ j' = 3 then (match s.2.1 with
        | .inl y :: .inl x :: r => if (r.map pa_ct).sum ≤ 8 then pa_one (pc + 3) (s.1, pa_mx j' (x.1, x.2.1) (y.1, y.2.1) :: r, s.2.2) else none
        | _ => none)
      else if px_kd j' = 0 ∧ px_np j' ≤ s.2.1.length then pa_call tb env M thr j' pc (s.2.1.take (px_np j')).reverse (s.2.1.drop (px_np j')) s else none)
    else (match s.2.1.drop (px_np j') with
      | .inr (.inr q) :: r => if px_kd j' = 1 ∧ px_np j' ≤ s.2.1.length ∧ (pa_rs q.1).1 = px_cn j' then pa_call tb env M thr j' pc (.inr (.inr q) :: (s.2.1.take (px_np j')).reverse) r s else none
      | _ => none)
  | none => none
def pa_rtok (j : Nat) (A : pa_V) : Bool := match px_rt j with
  | some .int => true
  | some .boolean => pa_sub1 A (pa_i 0 1)
  | _ => false
def pa_tr (tb : pa_T) (env : List (Nat × pa_K)) (K : pa_K) (j pc : Nat) (i : Instr) (s : pa_S) : pa_R := match i with
  | .iconst c => pa_one (pc + 1) (s.1, pa_i (Int32.ofInt c).toInt (Int32.ofInt c).toInt :: s.2.1, s.2.2)
  | .bipush c => pa_one (pc + 2) (s.1, pa_i (Int8.ofInt c).toInt32.toInt (Int8.ofInt c).toInt32.toInt :: s.2.1, s.2.2)
  | .sipush c => pa_one (pc + 3) (s.1, pa_i (Int16.ofInt c).toInt32.toInt (Int16.ofInt c).toInt32.toInt :: s.2.1, s.2.2)
  | .lconst _ => pa_one (pc + 1) (s.1, pa_lg :: s.2.1, s.2.2)
  | .ldc_w idx => match px_lk px_ki_ (px_cn j) idx with
    | some _ => pa_one (pc + 3) (s.1, pa_top :: s.2.1, s.2.2)
    | none => none
  | .ldc2_w idx => match px_lk px_kl_ (px_cn j) idx with
    | some _ => pa_one (pc + 3) (s.1, pa_lg :: s.2.1, s.2.2)
    | none => none
  | .iload_n k => pa_ld 0 1 pc s (k : Nat)
  | .iload k => pa_ld 0 2 pc s k
  | .lload_n k => pa_ld 1 1 pc s (k : Nat)
  | .lload k => pa_ld 1 2 pc s k
  | .aload_n k => pa_ld 2 1 pc s (k : Nat)
  | .aload k => pa_ld 2 2 pc s k
  | .istore_n k => pa_sv 0 1 (px_ml j) pc s (k : Nat)
  | .istore k => pa_sv 0 2 (px_ml j) pc s k
  | .lstore_n k => pa_sv 1 1 (px_ml j) pc s (k : Nat)
  | .lstore k => pa_sv 1 2 (px_ml j) pc s k
  | .astore_n k => pa_sv 2 1 (px_ml j) pc s (k : Nat)
  | .astore k => pa_sv 2 2 (px_ml j) pc s k
  | .iinc k c => pa_inc pc (px_ml j) s k (Int32.ofInt c).toInt
  | .iadd => pa_bin pc s pa_add
  | .isub => pa_bin pc s pa_sub
  | .imul => pa_bin pc s pa_mul
  | .iand => pa_bin pc s pa_and
  | .ior => pa_bin pc s pa_t2
  | .ishl => pa_bin pc s pa_t2
  | .ishr => pa_bin pc s pa_t2
  | .iushr => pa_bin pc s pa_t2
  | .idiv => pa_bin pc s pa_div
  | .irem => pa_bin pc s pa_rem
  | .ineg => match s.2.1 with
    | .inl _ :: r => pa_one (pc + 1) (s.1, pa_top :: r, s.2.2)
    | _ => none
  | .ladd => pa_ll pc s
  | .lsub => pa_ll pc s
  | .land => pa_ll pc s
  | .lor => pa_ll pc s
  | .lxor => pa_ll pc s
  | .lneg => match s.2.1 with
    | .inr (.inl _) :: r => pa_one (pc + 1) (s.1, pa_lg :: r, s.2.2)
    | _ => none
  | .lshl => pa_li pc s
  | .lshr => pa_li pc s
  | .lushr => pa_li pc s
  | .i2l => match s.2.1 with
    | .inl _ :: r => pa_one (pc + 1) (s.1, pa_lg :: r, s.2.2)
    | _ => none
  | .l2i => match s.2.1 with
    | .inr (.inl _) :: r => pa_one (pc + 1) (s.1, pa_top :: r, s.2.2)
    | _ => none
  | .lcmp => match s.2.1 with
    | .inr (.inl _) :: .inr (.inl _) :: r => pa_one (pc + 1) (s.1, pa_top :: r, s.2.2)
    | _ => none
  | .dup => match s.2.1 with
    | A :: r => if pa_isL A = false then pa_one (pc + 1) (s.1, A :: A :: r, s.2.2) else none
    | _ => none
  | .pop => match s.2.1 with
    | A :: r => if pa_isL A = false then pa_one (pc + 1) (s.1, r, s.2.2) else none
    | _ => none
  | .dup2 => match s.2.1 with
    | A :: B :: r => if pa_isL A = false ∧ pa_isL B = false then pa_one (pc + 1) (s.1, A :: B :: A :: B :: r, s.2.2) else none
    | _ => none
  | .ifCond c off => match s.2.1 with
    | .inl x :: r => pa_if pc off (s.1, r, s.2.2) c (x.1, x.2.1) ((0, 0), (0, 0)) x.2.2 0
    | _ => none
  | .if_icmp c off => match s.2.1 with
    | .inl y :: .inl x :: r => pa_if pc off (s.1, r, s.2.2) c (x.1, x.2.1) (y.1, y.2.1) x.2.2 (if x.2.2 = y.2.2 then 0 else y.2.2)
    | _ => none
  | .goto off => if 0 ≤ (pc : Int) + off then pa_one ((pc : Int) + off).toNat s else none
  | .tableswitch dflt lo hi offs => match s.2.1 with
    | .inl x :: r => if 0 ≤ (pc : Int) + dflt ∧ (offs.toList.all (fun z => decide (0 ≤ (pc : Int) + z))) = true ∧ hi - lo < offs.size then some ((dflt :: offs.toList).map (fun z => (((pc : Int) + z).toNat, (s.1, r, s.2.2), none))) else none
    | _ => none
  | .iaload => pa_ald (fun t => t == 10 || t == 20) pc s
  | .laload => pa_ald (fun t => t == 11) pc s
  | .baload => pa_ald (fun t => t == 12) pc s
  | .aaload => pa_ald (fun t => t == 13 || t == 14) pc s
  | .iastore => pa_ast 10 K.2.2.2 pc s
  | .lastore => pa_ast 11 K.2.2.2 pc s
  | .bastore => pa_ast 12 K.2.2.2 pc s
  | .arraylength => match s.2.1 with
    | .inr (.inr q) :: r => match pa_rs q.1 with
      | (t, .inr (len, _)) => if 10 ≤ t ∧ t ≤ 20 ∧ pa_le len (2147483647, 0) = true then pa_one (pc + 1) (s.1, .inl (len, len, 0) :: r, s.2.2) else none
      | _ => none
    | _ => none
  | .new _ => match px_thr j pc with
    | some _ => if (s.2.1.map pa_ct).sum ≤ 8 ∧ K.2.2.1 = true then some [] else none
    | none => none
  | .getfield idx => pa_gtf (px_cn j) idx pc s
  | .putfield idx => pa_ptf j idx pc K.2.2.2 s
  | .getstatic idx => match px_lk px_sl_ (px_cn j) idx with
    | some (r, _) => if 1 ≤ r ∧ r ≤ 6 then pa_one (pc + 3) (s.1, pa_rf r :: s.2.1, s.2.2) else none
    | none => none
  | .invokestatic idx => pa_inv tb env K.2.2.2 K.2.2.1 (px_cn j) idx pc true s
  | .invokevirtual idx => pa_inv tb env K.2.2.2 K.2.2.1 (px_cn j) idx pc false s
  | .ireturn => match s.2.1, K.2.1 with
    | [.inl x], some B => if pa_rtok j (.inl x) = true ∧ pa_sub1 (.inl x) B = true then some [] else none
    | _, _ => none
  | .lreturn => match s.2.1, K.2.1 with
    | [.inr (.inl _)], some (.inr (.inl _)) => match px_rt j with
      | some .long => some []
      | _ => none
    | _, _ => none
  | .areturn => match s.2.1, K.2.1 with
    | [.inr (.inr x)], some (.inr (.inr y)) => match px_rt j with
      | some (.object _) => if x.1 = y.1 then some [] else none
      | _ => none
    | _, _ => none
  | .return_ => match s.2.1, K.2.1, px_rt j with
    | [], none, none => some []
    | _, _, _ => none
  | _ => none
/-! a certificate: for each place a state and a measure -/
abbrev pa_W : Type := pa_B × List (Nat × Int)
abbrev pa_A : Type := List (Nat × pa_S × pa_W)
def pa_aget (l : pa_A) (pc : Nat) : Option (pa_S × pa_W) := match l with
  | [] => none
  | q :: r => if q.1 = pc then some q.2 else pa_aget r pc
def pa_sl (l m : List (Nat × pa_V)) : Bool := m.all (fun q => match pa_get l q.1 with
  | some A => pa_sub1 A q.2
  | none => false)
def pa_so (A B : pa_V) : Bool := match A, B with
  | .inl x, .inl y => y.2.2 == 0 || y.2.2 == x.2.2
  | .inr (.inr x), .inr (.inr y) => y.2 == 0 || (x.2 == 1 && y.2 == 1)
  | _, _ => true
def pa_ss : List pa_V → List pa_V → Bool
  | [], [] => true
  | A :: l, B :: m => pa_sub1 A B && pa_so A B && pa_ss l m
  | _, _ => false
def pa_sf (l m : List (Nat × pa_B × pa_B)) : Bool := m.all (fun q => match pa_fget l q.1 with
  | some x => pa_le q.2.1 x.1 && pa_le x.2 q.2.2
  | none => false)
def pa_sS (s t : pa_S) : Bool := pa_sl s.1 t.1 && pa_ss s.2.1 t.2.1 && pa_sf s.2.2 t.2.2
def pa_lin (l : List (Nat × pa_V)) : List (Nat × Int) → Option pa_B
  | [] => some (0, 0)
  | q :: r => if q.2 = 0 then pa_lin l r else match pa_get l q.1, pa_lin l r with
    | some (.inl x), some b => if 0 ≤ q.2 then some (q.2 * x.1.1 + b.1, q.2 * x.1.2 + b.2) else some (q.2 * x.2.1.1 + b.1, q.2 * x.2.1.2 + b.2)
    | _, _ => none
def pa_zip : List (Nat × Int) → List (Nat × Int) → Option (List (Nat × Int))
  | [], [] => some []
  | q :: l, p :: m => if q.1 = p.1 then (match pa_zip l m with
    | some r => some ((q.1, q.2 - p.2) :: r)
    | none => none) else none
  | _, _ => none
def pa_co (i : Nat) : List (Nat × Int) → Int
  | [] => 0
  | q :: l => (if q.1 = i then q.2 else 0) + pa_co i l
def pa_edge (M M' : pa_W) (u : pa_U) (s : pa_S) : Bool := match pa_zip M.2 M'.2 with
  | some ds => match pa_lin s.1 ds with
    | some b => match u with
      | none => pa_le (1, 0) (b.1 + M.1.1 - M'.1.1, b.2 + M.1.2 - M'.1.2)
      | some (i, some c) => pa_le (1, 0) (b.1 + M.1.1 - M'.1.1 - pa_co i M.2 * c, b.2 + M.1.2 - M'.1.2)
      | some (i, none) => pa_le (1, 0) (b.1 + M.1.1 - M'.1.1, b.2 + M.1.2 - M'.1.2) && M.2.all (fun q => q.2 == 0 || !(q.1 == i) && !(q.1 + 1000 == i) && !(q.1 == i + 1))
    | none => false
  | none => false
def pa_pos (M : pa_W) (s : pa_S) : Bool := match pa_lin s.1 M.2 with
  | some b => pa_le (0, 0) (b.1 + M.1.1, b.2 + M.1.2)
  | none => false
def pa_chk1 (tb : pa_T) (env : List (Nat × pa_K)) (K : pa_K) (j : Nat) (ann : pa_A) (q : Nat × pa_S × pa_W) : Bool := match px_ins (px_tab j) q.1 with
  | some i => pa_pos q.2.2 q.2.1 && (match pa_tr tb env K j q.1 i q.2.1 with
    | some L => L.all (fun e => ann.any (fun t => t.1 == e.1 && pa_sS e.2.1 t.2.1 && pa_edge q.2.2 t.2.2 e.2.2 e.2.1))
    | none => false)
  | none => false
def pa_args : Nat → List pa_V → List (Nat × pa_V)
  | _, [] => []
  | i, A :: l => (i, A) :: pa_args (if pa_isL A then i + 2 else i + 1) l
def pa_obj (K : pa_K) : Bool := match K.1 with
  | .inr (.inr q) :: _ => (match (pa_rs q.1).2 with
    | .inl _ => true
    | _ => false)
  | _ => true
def pa_chk (tb : pa_T) (env : List (Nat × pa_K)) (K : pa_K) (j : Nat) (ann : pa_A) : Bool := ann.all (pa_chk1 tb env K j ann) && pa_obj K && (match pa_aget ann 0 with
  | some t => pa_sS (pa_args 0 K.1, [], []) t.1
  | none => false)
