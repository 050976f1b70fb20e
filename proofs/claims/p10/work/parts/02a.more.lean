def px_len (pc : Nat) (i : Instr) : Nat := match i with
  | .iload _ => 2 | .lload _ => 2 | .aload _ => 2 | .istore _ => 2 | .lstore _ => 2 | .astore _ => 2
  | .bipush _ => 2 | .ldc _ => 2 | .newarray _ => 2
  | .sipush _ => 3 | .iinc _ _ => 3 | .getfield _ => 3 | .putfield _ => 3 | .getstatic _ => 3
  | .ifCond _ _ => 3 | .if_icmp _ _ => 3 | .goto _ => 3 | .new _ => 3 | .anewarray _ => 3 | .ldc2_w _ => 3 | .ldc_w _ => 3
  | .invokevirtual _ => 3 | .invokestatic _ => 3 | .invokespecial _ => 3
  | .multianewarray _ _ => 4
  | .tableswitch _ _ _ offs => 1 + (3 - pc % 4) + 12 + 4 * offs.size
  | _ => 1
/-- the fields of a new object -/
def px_df (t : Nat) : List Value := match t with
  | 0 => [.int 0, .null, .null, .null, .int 0]
  | 1 => [.int 0, .int 0, .null, .null, .int 0, .int 0, .int 0, .long 0]
  | 2 => [.int 0, .int 0, .null, .null, .null, .int 0, .int 0, .long 0]
  | 3 => [.int 0, .int 0, .null, .null, .null, .null, .null, .int 0, .long 0, .int 0]
  | 4 => [.int 0, .int 0, .int 0, .null, .int 0, .null, .null, .null, .int 0, .null, .null, .null, .null, .int 0, .null, .int 0, .null, .int 0, .null, .null, .null]
  | _ => []
def px_ft (t k : Nat) : FieldType := match t with
  | 0 => tyX0 k | 1 => tyX1 k | 2 => tyX2 k | 3 => tyX3 k | _ => tyX4 k
def px_fin (t k : Nat) : Bool := match t with
  | 0 => (TX0 k).2.2.2 | 1 => (TX1 k).2.2.2 | 2 => (TX2 k).2.2.2 | 3 => (TX3 k).2.2.2 | _ => (TX4 k).2.2.2
def px_T (t : Nat) : u_T := match t with
  | 0 => TX0 | 1 => TX1 | 2 => TX2 | 3 => TX3 | _ => TX4
def px_nf (t : Nat) : Nat := match t with
  | 0 => 5 | 1 => 8 | 2 => 8 | 3 => 10 | _ => 21
def px_PT : List Cond := lw_tbl.filter goodWord
def px_sn (n : Nat) : String := match n with
  | 1 => "STEP_X" | 2 => "STEP_Y" | 3 => "RIGHT_X" | 4 => "RIGHT_Y" | 5 => "LEFT_X" | _ => "LEFT_Y"
