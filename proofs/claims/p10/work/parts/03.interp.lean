/-! THE PURE INTERPRETER: a heap is a list of cells (tag, contents); a reference is a number of a cell -/
abbrev px_C : Type := Nat × List Value
abbrev px_H : Type := List px_C
abbrev px_L : Type := List (Nat × Value)
abbrev px_O : Type := Option Value ⊕ String
abbrev px_F : Type := Nat × px_L × List Value × px_H
abbrev px_E : Type := px_O × px_H
/-- what a step comes to: a frame; an end; a call (method, arguments, the stack below them) -/
abbrev px_N : Type := px_F ⊕ px_E ⊕ (Nat × List Value × List Value)
def px_lk {α : Type} (l : List (Nat × Nat × α)) (a b : Nat) : Option α := match l with
  | [] => none
  | q :: r => if q.1 = a ∧ q.2.1 = b then some q.2.2 else px_lk r a b
def px_ins (t : List (Nat × Instr)) (pc : Nat) : Option Instr := match t with
  | [] => none
  | q :: r => if q.1 = pc then some q.2 else px_ins r pc
def px_get (lv : px_L) (i : Nat) : Option Value := match lv with
  | [] => none
  | q :: r => if q.1 = i then some q.2 else px_get r i
def px_s1 (lv : px_L) (i : Nat) (v : Value) : px_L := (i, v) :: lv.filter (fun q => !(q.1 == i) && !(q.1 + 1 == i && q.2.category == 2))
def px_s2 (lv : px_L) (i : Nat) (v : Value) : px_L := (i, v) :: lv.filter (fun q => !(q.1 == i) && (!(q.1 == i + 1) && !(q.1 + 1 == i && q.2.category == 2)))
def px_ok8 (st : List Value) : Bool := decide ((st.map fun v => v.category).sum ≤ 8)
def px_go (pc : Nat) (lv : px_L) (st : List Value) (hp : px_H) : Option px_N := some (.inl (pc, lv, st, hp))
def px_end (o : px_O) (hp : px_H) : Option px_N := some (.inr (.inl (o, hp)))
def px_jmp (pc : Nat) (off : Int) (lv : px_L) (st : List Value) (hp : px_H) : Option px_N :=
  if 0 ≤ (pc : Int) + off then px_go ((pc : Int) + off).toNat lv st hp else none
def px_if (b : Bool) (pc : Nat) (off : Int) (lv : px_L) (st : List Value) (hp : px_H) : Option px_N :=
  if 0 ≤ (pc : Int) + off then (if b = true then px_go ((pc : Int) + off).toNat lv st hp else px_go (pc + 3) lv st hp) else none
def px_c1 (cond : ClassFile.Cond) (x : Int32) : Bool := match cond with
  | .eq => decide (x = 0) | .ne => decide (¬ x = 0) | .lt => decide (x < 0) | .ge => decide (0 ≤ x) | .gt => decide (0 < x) | .le => decide (x ≤ 0)
def px_c2 (cond : ClassFile.Cond) (x y : Int32) : Bool := match cond with
  | .eq => decide (x = y) | .ne => decide (¬ x = y) | .lt => decide (x < y) | .ge => decide (y ≤ x) | .gt => decide (y < x) | .le => decide (x ≤ y)
def px_ld (k : Nat) (t : Nat) (pc : Nat) (lv : px_L) (st : List Value) (hp : px_H) (i : Nat) : Option px_N := match px_get lv i with
  | some (.int x) => if t = 0 then px_go (pc + k) lv (.int x :: st) hp else none
  | some (.long x) => if t = 1 then px_go (pc + k) lv (.long x :: st) hp else none
  | some (.ref x) => if t = 2 then px_go (pc + k) lv (.ref x :: st) hp else none
  | _ => none
def px_sv (k : Nat) (t : Nat) (nL pc : Nat) (lv : px_L) (st : List Value) (hp : px_H) (i : Nat) : Option px_N := match st with
  | .int x :: r => if t = 0 ∧ i < nL then px_go (pc + k) (px_s1 lv i (.int x)) r hp else none
  | .long x :: r => if t = 1 ∧ i + 1 < nL then px_go (pc + k) (px_s2 lv i (.long x)) r hp else none
  | .ref x :: r => if t = 2 ∧ i < nL then px_go (pc + k) (px_s1 lv i (.ref x)) r hp else none
  | _ => none
def px_ii (pc : Nat) (lv : px_L) (st : List Value) (hp : px_H) (f : Int32 → Int32 → Int32) : Option px_N := match st with
  | .int y :: .int x :: r => px_go (pc + 1) lv (.int (f x y) :: r) hp
  | _ => none
def px_iz (pc : Nat) (lv : px_L) (st : List Value) (hp : px_H) (f : Int32 → Int32 → Int32) : Option px_N := match st with
  | .int y :: .int x :: r => if y = 0 then none else px_go (pc + 1) lv (.int (f x y) :: r) hp
  | _ => none
def px_ll (pc : Nat) (lv : px_L) (st : List Value) (hp : px_H) (f : Int64 → Int64 → Int64) : Option px_N := match st with
  | .long y :: .long x :: r => px_go (pc + 1) lv (.long (f x y) :: r) hp
  | _ => none
def px_li (pc : Nat) (lv : px_L) (st : List Value) (hp : px_H) (f : Int64 → Int32 → Int64) : Option px_N := match st with
  | .int y :: .long x :: r => px_go (pc + 1) lv (.long (f x y) :: r) hp
  | _ => none
/-- element types by tags: 10 int, 11 long, 12 boolean, 13 Form, 14 int[], 20 int (an old one, read alone) -/
def px_ty (t : Nat) : FieldType := match t with
  | 10 => .int | 11 => .long | 12 => .boolean | 13 => .object "ColourSums$Form" | 14 => .array .int | _ => .int
def px_ald (ok : Nat → Bool) (pc : Nat) (lv : px_L) (st : List Value) (hp : px_H) : Option px_N := match st with
  | .int i :: .ref a :: r => match hp[a]? with
    | some (t, vs) => if ok t = true ∧ ¬ i < 0 then (match vs[i.toNatClampNeg]? with
      | some v => px_go (pc + 1) lv (v :: r) hp
      | none => none) else none
    | none => none
  | _ => none
def px_set (hp : px_H) (a : Nat) (t : Nat) (vs : List Value) (i : Nat) (v : Value) : px_H := hp.set a (t, vs.set i v)
def px_iast (pc : Nat) (lv : px_L) (st : List Value) (hp : px_H) : Option px_N := match st with
  | .int x :: .int i :: .ref a :: r => match hp[a]? with
    | some (t, vs) => if t = 10 ∧ 8 ≤ a ∧ ¬ i < 0 ∧ i.toNatClampNeg < vs.length then px_go (pc + 1) lv r (px_set hp a t vs i.toNatClampNeg (.int x)) else none
    | none => none
  | _ => none
def px_zast (pc : Nat) (lv : px_L) (st : List Value) (hp : px_H) : Option px_N := match st with
  | .int x :: .int i :: .ref a :: r => match hp[a]? with
    | some (t, vs) => if t = 12 ∧ 8 ≤ a ∧ ¬ i < 0 ∧ i.toNatClampNeg < vs.length ∧ narrow .boolean (.int x) = .int x then px_go (pc + 1) lv r (px_set hp a t vs i.toNatClampNeg (.int x)) else none
    | none => none
  | _ => none
def px_last (pc : Nat) (lv : px_L) (st : List Value) (hp : px_H) : Option px_N := match st with
  | .long x :: .int i :: .ref a :: r => match hp[a]? with
    | some (t, vs) => if t = 11 ∧ 8 ≤ a ∧ ¬ i < 0 ∧ i.toNatClampNeg < vs.length then px_go (pc + 1) lv r (px_set hp a t vs i.toNatClampNeg (.long x)) else none
    | none => none
  | _ => none
def px_aast (pc : Nat) (lv : px_L) (st : List Value) (hp : px_H) : Option px_N := match st with
  | .ref b :: .int i :: .ref a :: r => match hp[a]? with
    | some (t, vs) => match hp[b]? with
      | some (u, _) => if t = 13 ∧ u = 1 ∧ 8 ≤ a ∧ ¬ i < 0 ∧ i.toNatClampNeg < vs.length then px_go (pc + 1) lv r (px_set hp a t vs i.toNatClampNeg (.ref b)) else none
      | none => none
    | none => none
  | _ => none
def px_alen (pc : Nat) (lv : px_L) (st : List Value) (hp : px_H) : Option px_N := match st with
  | .ref a :: r => match hp[a]? with
    | some (t, vs) => if 10 ≤ t ∧ t ≤ 20 then px_go (pc + 1) lv (.int vs.length.toInt32 :: r) hp else none
    | none => none
  | _ => none
def px_at_ (a : ArrayType) : Option (Nat × Value) := match a with
  | .int => some (10, .int 0) | .long => some (11, .long 0) | .boolean => some (12, .int 0) | _ => none
def px_newa (at_ : ArrayType) (pc : Nat) (lv : px_L) (st : List Value) (hp : px_H) : Option px_N := match st with
  | .int n :: r => match px_at_ at_ with
    | some (t, z) => if ¬ n < 0 ∧ n.toNatClampNeg ≤ 10000 then px_go (pc + 2) lv (.ref hp.length :: r) (hp ++ [(t, List.replicate n.toNatClampNeg z)]) else none
    | none => none
  | _ => none
def px_anew (cn idx : Nat) (pc : Nat) (lv : px_L) (st : List Value) (hp : px_H) : Option px_N := match st with
  | .int n :: r => if cn = 3 ∧ idx = 25 ∧ ¬ n < 0 ∧ n.toNatClampNeg ≤ 10000 then px_go (pc + 3) lv (.ref hp.length :: r) (hp ++ [(13, List.replicate n.toNatClampNeg .null)]) else none
  | _ => none
def px_mna (cn idx dims : Nat) (pc : Nat) (lv : px_L) (st : List Value) (hp : px_H) : Option px_N := match st with
  | .int k :: .int n :: r => if cn = 0 ∧ idx = 13 ∧ dims = 2 ∧ ¬ n < 0 ∧ ¬ k < 0 ∧ n.toNatClampNeg ≤ 1000 ∧ k.toNatClampNeg ≤ 1000 then
      px_go (pc + 4) lv (.ref hp.length :: r) (hp ++ ((14, (List.range n.toNatClampNeg).map (fun i => Value.ref (hp.length + 1 + i))) :: List.replicate n.toNatClampNeg (10, List.replicate k.toNatClampNeg (.int 0)))) else none
  | _ => none
def px_thr (j pc : Nat) : Option String :=
  if j = 49 ∧ pc = 12 then some "java/lang/ArrayIndexOutOfBoundsException" else if j = 53 ∧ pc = 24 then some "java/lang/ArrayIndexOutOfBoundsException" else if j = 64 ∧ pc = 25 then some "java/lang/IllegalArgumentException" else none
def px_new (j idx : Nat) (pc : Nat) (lv : px_L) (st : List Value) (hp : px_H) : Option px_N := match px_thr j pc with
  | some E => if px_ok8 st = true then px_end (.inr E) (hp ++ [(30, List.replicate 6 .null)]) else none
  | none => match px_lk px_cl_ (px_cn j) idx with
    | some (t, _) => px_go (pc + 3) lv (.ref hp.length :: st) (hp ++ [(t, px_df t)])
    | none => none
/-- what a method of the law answers where its callee has thrown -/
def px_hd (j pc : Nat) (E : String) : Option Int32 :=
  if E = "java/lang/ArrayIndexOutOfBoundsException" then
    (if (j = 5 ∨ j = 7 ∨ j = 8 ∨ j = 9 ∨ j = 10 ∨ j = 11) ∧ pc < 9 then some 1 else none)
  else if E = "java/lang/IllegalArgumentException" ∧ j = 10 ∧ pc < 9 then some 2 else none
def px_getf (cn idx : Nat) (pc : Nat) (lv : px_L) (st : List Value) (hp : px_H) : Option px_N := match st with
  | .ref a :: r => match px_lk px_fl_ cn idx with
    | some (ci, k, _) => match hp[a]? with
      | some (t, vs) => if t = ci then (match vs[k]? with
        | some v => px_go (pc + 3) lv (v :: r) hp
        | none => none) else none
      | none => none
    | none => none
  | _ => none
def px_putf (j idx : Nat) (pc : Nat) (lv : px_L) (st : List Value) (hp : px_H) : Option px_N := match st with
  | v :: .ref a :: r => match px_lk px_fl_ (px_cn j) idx with
    | some (ci, k, _, nest) => match hp[a]? with
      | some (t, vs) => if t = ci ∧ 8 ≤ a ∧ k < vs.length ∧ nest = 0 ∧ narrow (px_ft ci k) v = v ∧ fits (px_ft ci k) v = true ∧ (px_fin ci k = true → px_kd j = 2 ∧ px_cn j = ci) then
          px_go (pc + 3) lv r (px_set hp a t vs k v) else none
      | none => none
    | none => none
  | _ => none
def px_gets (cn idx : Nat) (pc : Nat) (lv : px_L) (st : List Value) (hp : px_H) : Option px_N := match px_lk px_sl_ cn idx with
  | some (n, _) => px_go (pc + 3) lv (.ref n :: st) hp
  | none => none
def px_call (j' : Nat) (as rest : List Value) : Option px_N := if px_ok8 rest = true ∧ (lg_sl as).length ≤ px_ml j' then some (.inr (.inr (j', as, rest))) else none
/-- Math.max, Math.min (2, 3) are answered at once -/
def px_math (j' pc : Nat) (lv : px_L) (st : List Value) (hp : px_H) : Option px_N := match st with
  | .int y :: .int x :: r => if px_ok8 r = true then px_go (pc + 3) lv (.int (if j' = 2 then (if x < y then y else x) else (if y < x then y else x)) :: r) hp else none
  | _ => none
def px_invs (cn idx pc : Nat) (lv : px_L) (st : List Value) (hp : px_H) : Option px_N := match px_lk px_ml_ cn idx with
  | some (j', _) => if j' = 2 ∨ j' = 3 then px_math j' pc lv st hp else if px_kd j' = 0 ∧ px_np j' ≤ st.length then px_call j' (st.take (px_np j')).reverse (st.drop (px_np j')) else none
  | none => none
def px_invv (cn idx : Nat) (st : List Value) (hp : px_H) : Option px_N := match px_lk px_ml_ cn idx with
  | some (j', _) => match st.drop (px_np j') with
    | .ref a :: r => match hp[a]? with
      | some (t, _) => if px_kd j' = 1 ∧ px_np j' ≤ st.length ∧ t = px_cn j' then px_call j' (.ref a :: (st.take (px_np j')).reverse) r else none
      | none => none
    | _ => none
  | none => none
def px_invi (cn idx : Nat) (pc : Nat) (lv : px_L) (st : List Value) (hp : px_H) : Option px_N := match px_lk px_oi_ cn idx with
  | some _ => match st with
    | .ref _ :: r => if px_ok8 r = true then px_go (pc + 3) lv r hp else none
    | _ => none
  | none => match px_lk px_ml_ cn idx with
    | some (j', _) => match st.drop (px_np j') with
      | .ref a :: r => if px_kd j' = 2 ∧ px_np j' ≤ st.length then px_call j' (.ref a :: (st.take (px_np j')).reverse) r else none
      | _ => none
    | none => none
def px_sw (dflt lo hi : Int) (offs : Array Int) (pc : Nat) (lv : px_L) (st : List Value) (hp : px_H) : Option px_N := match st with
  | .int x :: r => if x.toInt < lo ∨ hi < x.toInt then px_jmp pc dflt lv r hp else (match offs[(x.toInt - lo).toNat]? with
    | some off => px_jmp pc off lv r hp
    | none => none)
  | _ => none
def px_step (j pc : Nat) (lv : px_L) (st : List Value) (hp : px_H) (i : Instr) : Option px_N := match i with
  | .iconst n => px_go (pc + 1) lv (.int (Int32.ofInt n) :: st) hp
  | .bipush n => px_go (pc + 2) lv (.int (Int8.ofInt n).toInt32 :: st) hp
  | .sipush n => px_go (pc + 3) lv (.int (Int16.ofInt n).toInt32 :: st) hp
  | .lconst n => px_go (pc + 1) lv (.long (Int64.ofNat (n : Nat)) :: st) hp
  | .ldc_w idx => match px_lk px_ki_ (px_cn j) idx with
    | some (v, _) => px_go (pc + 3) lv (.int v :: st) hp
    | none => none
  | .ldc2_w idx => match px_lk px_kl_ (px_cn j) idx with
    | some (v, _) => px_go (pc + 3) lv (.long v :: st) hp
    | none => none
  | .iload_n k => px_ld 1 0 pc lv st hp (k : Nat)
  | .iload k => px_ld 2 0 pc lv st hp k
  | .lload_n k => px_ld 1 1 pc lv st hp (k : Nat)
  | .lload k => px_ld 2 1 pc lv st hp k
  | .aload_n k => px_ld 1 2 pc lv st hp (k : Nat)
  | .aload k => px_ld 2 2 pc lv st hp k
  | .istore_n k => px_sv 1 0 (px_ml j) pc lv st hp (k : Nat)
  | .istore k => px_sv 2 0 (px_ml j) pc lv st hp k
  | .lstore_n k => px_sv 1 1 (px_ml j) pc lv st hp (k : Nat)
  | .lstore k => px_sv 2 1 (px_ml j) pc lv st hp k
  | .astore_n k => px_sv 1 2 (px_ml j) pc lv st hp (k : Nat)
  | .astore k => px_sv 2 2 (px_ml j) pc lv st hp k
  | .iinc k n => match px_get lv k with
    | some (.int x) => if k < px_ml j then px_go (pc + 3) (px_s1 lv k (.int (x + Int32.ofInt n))) st hp else none
    | _ => none
  | .iadd => px_ii pc lv st hp (fun x y => x + y)
  | .isub => px_ii pc lv st hp (fun x y => x - y)
  | .imul => px_ii pc lv st hp (fun x y => x * y)
  | .iand => px_ii pc lv st hp (fun x y => x &&& y)
  | .ior => px_ii pc lv st hp (fun x y => x ||| y)
  | .ishl => px_ii pc lv st hp (fun x y => x <<< (y &&& 31))
  | .ishr => px_ii pc lv st hp (fun x y => x >>> (y &&& 31))
  | .iushr => px_ii pc lv st hp (fun x y => (x.toUInt32 >>> (y.toUInt32 &&& Int32.toUInt32 31)).toInt32)
  | .idiv => px_iz pc lv st hp (fun x y => x / y)
  | .irem => px_iz pc lv st hp (fun x y => x - x / y * y)
  | .ineg => match st with
    | .int x :: r => px_go (pc + 1) lv (.int (-x) :: r) hp
    | _ => none
  | .ladd => px_ll pc lv st hp (fun x y => x + y)
  | .lsub => px_ll pc lv st hp (fun x y => x - y)
  | .land => px_ll pc lv st hp (fun x y => x &&& y)
  | .lor => px_ll pc lv st hp (fun x y => x ||| y)
  | .lxor => px_ll pc lv st hp (fun x y => x ^^^ y)
  | .lneg => match st with
    | .long x :: r => px_go (pc + 1) lv (.long (-x) :: r) hp
    | _ => none
  | .lshl => px_li pc lv st hp (fun x y => x <<< (y.toInt64 &&& 63))
  | .lshr => px_li pc lv st hp (fun x y => x >>> (y.toInt64 &&& 63))
  | .lushr => px_li pc lv st hp (fun x y => (x.toUInt64 >>> (y.toInt64.toUInt64 &&& Int64.toUInt64 63)).toInt64)
  | .i2l => match st with
    | .int x :: r => px_go (pc + 1) lv (.long x.toInt64 :: r) hp
    | _ => none
  | .l2i => match st with
    | .long x :: r => px_go (pc + 1) lv (.int x.toInt32 :: r) hp
    | _ => none
  | .lcmp => match st with
    | .long y :: .long x :: r => px_go (pc + 1) lv (.int (lg_cmp x y) :: r) hp
    | _ => none
  | .dup => match st with
    | v :: r => if v.category = 1 then px_go (pc + 1) lv (v :: v :: r) hp else none
    | _ => none
  | .pop => match st with
    | v :: r => if v.category = 1 then px_go (pc + 1) lv r hp else none
    | _ => none
  | .dup2 => match st with
    | v :: w :: r => if v.category = 1 ∧ w.category = 1 then px_go (pc + 1) lv (v :: w :: v :: w :: r) hp else none
    | _ => none
  | .ifCond cond off => match st with
    | .int x :: r => px_if (px_c1 cond x) pc off lv r hp
    | _ => none
  | .if_icmp cond off => match st with
    | .int y :: .int x :: r => px_if (px_c2 cond x y) pc off lv r hp
    | _ => none
  | .goto off => px_jmp pc off lv st hp
  | .tableswitch d lo hi offs => px_sw d lo hi offs pc lv st hp
  | .iaload => px_ald (fun t => t == 10 || t == 20) pc lv st hp
  | .laload => px_ald (fun t => t == 11) pc lv st hp
  | .baload => px_ald (fun t => t == 12) pc lv st hp
  | .aaload => px_ald (fun t => t == 13 || t == 14) pc lv st hp
  | .iastore => px_iast pc lv st hp
  | .lastore => px_last pc lv st hp
  | .bastore => px_zast pc lv st hp
  | .aastore => px_aast pc lv st hp
  | .arraylength => px_alen pc lv st hp
  | .newarray at_ => px_newa at_ pc lv st hp
  | .anewarray idx => px_anew (px_cn j) idx pc lv st hp
  | .multianewarray idx dims => px_mna (px_cn j) idx dims pc lv st hp
  | .new idx => px_new j idx pc lv st hp
  | .getfield idx => px_getf (px_cn j) idx pc lv st hp
  | .putfield idx => px_putf j idx pc lv st hp
  | .getstatic idx => px_gets (px_cn j) idx pc lv st hp
  | .invokestatic idx => px_invs (px_cn j) idx pc lv st hp
  | .invokevirtual idx => px_invv (px_cn j) idx st hp
  | .invokespecial idx => px_invi (px_cn j) idx pc lv st hp
  | .ireturn => match st with
    | [.int v] => match px_rt j with
      | some ty => if narrow ty (.int v) = .int v then px_end (.inl (some (.int v))) hp else none
      | none => none
    | _ => none
  | .lreturn => match st with
    | [.long v] => match px_rt j with
      | some .long => px_end (.inl (some (.long v))) hp
      | _ => none
    | _ => none
  | .areturn => match st with
    | [.ref a] => match px_rt j with
      | some (.object _) => px_end (.inl (some (.ref a))) hp
      | _ => none
    | _ => none
  | .return_ => match st with
    | [] => match px_rt j with
      | none => px_end (.inl none) hp
      | _ => none
    | _ => none
  | _ => none
/-- d: the depth of calls that is left; n: the steps -/
def px_run : Nat → Nat → Nat → Nat → px_L → List Value → px_H → Option px_E
  | _, 0, _, _, _, _, _ => none
  | d, n + 1, j, pc, lv, st, hp => match px_ins (px_tab j) pc with
    | none => none
    | some i => match px_step j pc lv st hp i with
      | none => none
      | some (.inl f) => px_run d n j f.1 f.2.1 f.2.2.1 f.2.2.2
      | some (.inr (.inl r)) => some r
      | some (.inr (.inr q)) => match d with
        | 0 => none
        | d' + 1 => match px_run d' n q.1 0 (lv_args 0 q.2.1) [] hp with
          | none => none
          | some (.inl v, hp') => px_run (d' + 1) n j (pc + 3) lv (v.toList ++ q.2.2) hp'
          | some (.inr E, hp') => if px_kd q.1 = 2 then none else match px_hd j pc E with
            | some x => some (.inl (some (.int x)), hp')
            | none => if px_hh j = [] then some (.inr E, hp') else none
def px_sz (hp : px_H) : Nat := (hp.map (fun c => c.2.length)).sum
