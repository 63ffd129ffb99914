/-! CHECKS: every table entry is held against the printed words, every instruction against decode, by program -/
def ckLk (mi idx : Nat) (rz : List Nat) : Bool := rz == [] || (decide (idx < 1000) && lkT.lookup (mO mi * 1000 + idx) == some rz)
def ckX (mi E ic : Nat) : Bool := mO mi == 9 && ((E == 0 && ic == 283) || (E == 1 && ic == 94) || (E == 2 && ic == 108)) && (mG mi).2.2.2.2.isEmpty
def ckTh (mi pc E : Nat) : Bool := (match dec mi (pc + 3), dec mi (pc + 4), dec mi (pc + 6), dec mi (pc + 9) with
  | some (.dup, 1, _), some (.ldc _, 2, _), some (.invokespecial ic, 3, _), some (.athrow, 1, _) => ckX mi E ic
  | _, _, _, _ => false) || (match dec mi (pc + 3), dec mi (pc + 4), dec mi (pc + 7), dec mi (pc + 10) with
  | some (.dup, 1, _), some (.ldc_w _, 3, _), some (.invokespecial ic, 3, _), some (.athrow, 1, _) => ckX mi E ic
  | _, _, _, _ => false)
def ckT1 (pc : Nat) (o : Int) (rz : List Nat) : Bool := match rz with
  | [t] => (pc : Int) + o == (t : Int)
  | _ => false
def ckR (mi pc : Nat) (i : ClassFile.Instr) (len : Nat) (rz : List Nat) : Bool := match i with
  | .iconst n => len == 1 && (match rz with | [k] => Int32.ofInt n == nI k | _ => false)
  | .bipush n => len == 2 && (match rz with | [k] => (Int8.ofInt n).toInt32 == nI k | _ => false)
  | .sipush n => len == 3 && (match rz with | [k] => (Int16.ofInt n).toInt32 == nI k | _ => false)
  | .lconst n => len == 1 && (match rz with | [k] => Int64.ofNat (n : Nat) == lN k | _ => false)
  | .dconst n => len == 1 && n == 0
  | .goto o => len == 3 && ckT1 pc o rz
  | .ifCond _ o => len == 3 && ckT1 pc o rz
  | .if_icmp _ o => len == 3 && ckT1 pc o rz
  | .ifnull o => len == 3 && ckT1 pc o rz
  | .ifnonnull o => len == 3 && ckT1 pc o rz
  | .iinc k n => len == 3 && decide (k < mL mi) && (match rz with | [v] => Int32.ofInt n == nI v | _ => false)
  | .istore k => len == 2 && decide (k < mL mi)
  | .astore k => len == 2 && decide (k < mL mi)
  | .lstore k => len == 2 && decide (k + 1 < mL mi)
  | .dstore k => len == 2 && decide (k + 1 < mL mi)
  | .istore_n k => len == 1 && decide ((k : Nat) < mL mi)
  | .astore_n k => len == 1 && decide ((k : Nat) < mL mi)
  | .lstore_n k => len == 1 && decide ((k : Nat) + 1 < mL mi)
  | .dstore_n k => len == 1 && decide ((k : Nat) + 1 < mL mi)
  | .iload _ => len == 2
  | .aload _ => len == 2
  | .lload _ => len == 2
  | .dload _ => len == 2
  | .getfield k => len == 3 && ckLk mi k rz
  | .putfield k => len == 3 && ckLk mi k rz && (match rz with | 1 :: ci :: fi :: _ :: nest :: _ => (fT ci fi).2.2.2 == false || ((mG mi).1.name == "<init>" && (fT ci fi).1 == cn (mO mi) && nest == 0) | _ => true)
  | .invokevirtual k => len == 3 && ckLk mi k rz && (match rz with | 2 :: _ :: knd :: _ => knd == 2 | [] => true | _ => false)
  | .invokespecial k => len == 3 && ckLk mi k rz && (match rz with | 2 :: _ :: knd :: _ => knd == 1 | [4, _] => true | [] => true | _ => false)
  | .invokestatic k => len == 3 && ckLk mi k rz && (match rz with | 2 :: _ :: knd :: _ => knd == 0 | [3, _] => true | [10, _] => true | [11, _] => true | [] => true | _ => false)
  | .ireturn => len == 1 && (match rz with | [0] => decide ((mG mi).2.2.2.1 = some .int) | [1] => decide ((mG mi).2.2.2.1 = some .boolean) | _ => false)
  | .lreturn => len == 1 && decide ((mG mi).2.2.2.1 = some .long)
  | .dreturn => len == 1 && decide ((mG mi).2.2.2.1 = some .double)
  | .areturn => len == 1 && (match (mG mi).2.2.2.1 with | some (.object _) => true | _ => false)
  | .return_ => len == 1 && decide ((mG mi).2.2.2.1 = none)
  | .new k => len == 3 && ckLk mi k rz && (match rz with | 6 :: E :: _ => ckTh mi pc E | _ => true)
  | .anewarray k => len == 3 && ckLk mi k rz
  | .newarray _ => len == 2
  | .ldc k => len == 2 && ckLk mi k rz
  | .ldc_w k => len == 3 && ckLk mi k rz
  | .ldc2_w k => len == 3 && ckLk mi k rz
  | .tableswitch _ _ _ _ => true
  | .lookupswitch _ ps => (ps.toList.zip (ps.toList.drop 1)).all (fun (a, next) => decide (a.1 < next.1))
  | _ => len == 1
def ckI (mi pc : Nat) : Bool := match dec mi pc with
  | none => true
  | some (i, len, rz) => decide (decode (mG mi).2.1 pc = .ok (i, len)) && ckR mi pc i len rz
def dln (mi : Nat) : Nat := (dcl.map (fun e => e.1)).getD mi 0
def ckM (mi : Nat) : Prop := ((List.range (dln mi)).all (ckI mi)) = true
