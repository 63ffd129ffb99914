/-! SEM: the abstract interpreter. A memory is: the kinds and the pointers of the cells and how many there are; the ints; the longs; how much was made. A cell's number stands for its address. -/
abbrev MP : Type := (Nat → Nat × Nat) × (Nat → Nat → Option Nat) × Nat
abbrev MI : Type := Nat → Nat → Int32
abbrev ML : Type := Nat → Nat → Int64
abbrev MC : Type := Nat × Nat
abbrev FR : Type := Nat × List Value × List Value
abbrev MM : Type := MP × MI × ML × MC
abbrev SR : Type := Option ((FR × MM) ⊕ (Option Value ⊕ ((Nat × List Value × List Value) ⊕ Nat)))
abbrev RV : Type := Option Value ⊕ Nat
/-- a local that is not set -/
abbrev UN : Value := .retAddr 0
def xu {α : Type} (f : Nat → Nat → α) (k j : Nat) (v : α) : Nat → Nat → α := fun a b => if a = k ∧ b = j then v else f a b
def xr {α : Type} (f : Nat → α) (k : Nat) (r : α) : Nat → α := fun a => if a = k then r else f a
def gl : List Value → Nat → Option Value
  | [], _ => none
  | v :: _, 0 => some v
  | _ :: r, n + 1 => gl r n
def sl : List Value → Nat → Value → List Value
  | [], _, _ => []
  | _ :: r, 0, w => w :: r
  | v :: r, n + 1, w => v :: sl r n w
/-- a store at n: a long ahead of it is gone -/
def k1 (ls : List Value) (n : Nat) : List Value := match n with
  | 0 => ls
  | j + 1 => match gl ls j with
    | some (.long _) => sl ls j UN
    | some (.double _) => sl ls j UN
    | _ => ls
def s1 (ls : List Value) (n : Nat) (v : Value) : List Value := sl (k1 ls n) n v
def s2 (ls : List Value) (n : Nat) (v : Value) : List Value := sl (sl (k1 ls n) n v) (n + 1) UN
def pops : List Nat → List Value → List Value → Option (List Value × List Value)
  | [], st, acc => some (acc, st)
  | _ :: ps, v :: st, acc => pops ps st (v :: acc)
  | _ :: _, [], _ => none
def catS (st : List Value) : Nat := (st.map fun v => v.category).sum
def lay : List Value → List Value
  | [] => []
  | v :: r => if v.category = 2 then v :: UN :: lay r else v :: lay r
def ent (mj : Nat) (as : List Value) : List Value := lay as ++ List.replicate (mL mj - (lay as).length) UN
def sN (pc : Nat) (ls st : List Value) (P : MP) (I : MI) (L : ML) (C : MC) : SR := some (.inl ((pc, ls, st), (P, I, L, C)))
def sR (v : Option Value) : SR := some (.inr (.inl v))
def sC (mj : Nat) (as st : List Value) : SR := some (.inr (.inr (.inl (mj, as, st))))
def sT (E : Nat) : SR := some (.inr (.inr (.inr E)))
def inb (i : Int32) (n : Nat) : Bool := !decide (i < 0) && decide (i.toNatClampNeg < n)
theorem inb_in {i : Int32} {n : Nat} (h : inb i n = true) : vp_in i n := by
  unfold inb at h
  simp only [Bool.and_eq_true, Bool.not_eq_true', decide_eq_false_iff_not, decide_eq_true_eq] at h
  exact fun q => q.elim h.1 (fun z => absurd h.2 (Nat.not_lt.mpr z))
def ldI (ls : List Value) (k pc : Nat) (st : List Value) (P : MP) (I : MI) (L : ML) (C : MC) : SR := match gl ls k with
  | some (.int v) => sN pc ls (.int v :: st) P I L C
  | _ => none
def ldA (ls : List Value) (k pc : Nat) (st : List Value) (P : MP) (I : MI) (L : ML) (C : MC) : SR := match gl ls k with
  | some (.ref v) => sN pc ls (.ref v :: st) P I L C
  | _ => none
def ldL (ls : List Value) (k pc : Nat) (st : List Value) (P : MP) (I : MI) (L : ML) (C : MC) : SR := match gl ls k with
  | some (.long v) => sN pc ls (.long v :: st) P I L C
  | _ => none
def ldD (ls : List Value) (k pc : Nat) (st : List Value) (P : MP) (I : MI) (L : ML) (C : MC) : SR := match gl ls k with
  | some (.double v) => sN pc ls (.double v :: st) P I L C
  | _ => none
def stI (ls : List Value) (k pc : Nat) (st : List Value) (P : MP) (I : MI) (L : ML) (C : MC) : SR := match st with
  | .int v :: st => sN pc (s1 ls k (.int v)) st P I L C
  | _ => none
def stA (ls : List Value) (k pc : Nat) (st : List Value) (P : MP) (I : MI) (L : ML) (C : MC) : SR := match st with
  | .ref v :: st => sN pc (s1 ls k (.ref v)) st P I L C
  | _ => none
def stL (ls : List Value) (k pc : Nat) (st : List Value) (P : MP) (I : MI) (L : ML) (C : MC) : SR := match st with
  | .long v :: st => sN pc (s2 ls k (.long v)) st P I L C
  | _ => none
def stD (ls : List Value) (k pc : Nat) (st : List Value) (P : MP) (I : MI) (L : ML) (C : MC) : SR := match st with
  | .double v :: st => sN pc (s2 ls k (.double v)) st P I L C
  | _ => none
/-- a new cell -/
def mkP (P : MP) (t len : Nat) : MP := (xr P.1 (P.2.2 + 1) (t, len), xr P.2.1 (P.2.2 + 1) (fun _ => none), P.2.2 + 1)
def mk (pc : Nat) (ls st : List Value) (t len nf : Nat) (P : MP) (I : MI) (L : ML) (C : MC) : SR :=
  sN pc ls (.ref (P.2.2 + 1) :: st) (mkP P t len) (xr I (P.2.2 + 1) (fun _ => 0)) (xr L (P.2.2 + 1) (fun _ => 0)) (C.1 + 1, C.2 + nf)
def o1I (f : Int32 → Value) (pc : Nat) (ls st : List Value) (P : MP) (I : MI) (L : ML) (C : MC) : SR := match st with
  | .int x :: st => sN pc ls (f x :: st) P I L C
  | _ => none
def o2I (f : Int32 → Int32 → Int32) (pc : Nat) (ls st : List Value) (P : MP) (I : MI) (L : ML) (C : MC) : SR := match st with
  | .int y :: .int x :: st => sN pc ls (.int (f x y) :: st) P I L C
  | _ => none
def o2L (f : Int64 → Int64 → Int64) (pc : Nat) (ls st : List Value) (P : MP) (I : MI) (L : ML) (C : MC) : SR := match st with
  | .long y :: .long x :: st => sN pc ls (.long (f x y) :: st) P I L C
  | _ => none
def brI (c : ClassFile.Cond) (x : Int32) (t f : SR) : SR := match c with
  | .eq => if x = 0 then t else f
  | .ne => if x = 0 then f else t
  | .lt => if x < 0 then t else f
  | .ge => if 0 ≤ x then t else f
  | .gt => if 0 < x then t else f
  | .le => if x ≤ 0 then t else f
def brII (c : ClassFile.Cond) (x y : Int32) (t f : SR) : SR := match c with
  | .eq => if x = y then t else f
  | .ne => if x = y then f else t
  | .lt => if x < y then t else f
  | .ge => if y ≤ x then t else f
  | .gt => if y < x then t else f
  | .le => if x ≤ y then t else f
def stp (pc : Nat) (i : ClassFile.Instr) (len : Nat) (rz : List Nat) (ls st : List Value) (P : MP) (I : MI) (L : ML) (C : MC) : SR := match i with
  | .aload_n n => ldA ls n (pc + len) st P I L C
  | .aload n => ldA ls n (pc + len) st P I L C
  | .iload_n n => ldI ls n (pc + len) st P I L C
  | .iload n => ldI ls n (pc + len) st P I L C
  | .lload_n n => ldL ls n (pc + len) st P I L C
  | .lload n => ldL ls n (pc + len) st P I L C
  | .dload n => ldD ls n (pc + len) st P I L C
  | .dload_n n => ldD ls n (pc + len) st P I L C
  | .istore_n n => stI ls n (pc + len) st P I L C
  | .istore n => stI ls n (pc + len) st P I L C
  | .astore_n n => stA ls n (pc + len) st P I L C
  | .astore n => stA ls n (pc + len) st P I L C
  | .lstore_n n => stL ls n (pc + len) st P I L C
  | .lstore n => stL ls n (pc + len) st P I L C
  | .dstore n => stD ls n (pc + len) st P I L C
  | .dstore_n n => stD ls n (pc + len) st P I L C
  | .iconst _ => match rz with
    | [k] => sN (pc + len) ls (.int (nI k) :: st) P I L C
    | _ => none
  | .bipush _ => match rz with
    | [k] => sN (pc + len) ls (.int (nI k) :: st) P I L C
    | _ => none
  | .sipush _ => match rz with
    | [k] => sN (pc + len) ls (.int (nI k) :: st) P I L C
    | _ => none
  | .ldc _ => match rz with
    | [8, k, _] => sN (pc + len) ls (.int (nI k) :: st) P I L C
    | _ => none
  | .ldc_w _ => match rz with
    | [8, k, _] => sN (pc + len) ls (.int (nI k) :: st) P I L C
    | _ => none
  | .ldc2_w _ => match rz with
    | [9, k, _] => sN (pc + len) ls (.long (lN k) :: st) P I L C
    | _ => none
  | .lconst _ => match rz with
    | [k] => sN (pc + len) ls (.long (lN k) :: st) P I L C
    | _ => none
  | .dconst _ => sN (pc + len) ls (.double FP.dconst0 :: st) P I L C
  | .aconst_null => sN (pc + len) ls (.null :: st) P I L C
  | .iinc n _ => match gl ls n, rz with
    | some (.int x), [k] => sN (pc + len) (s1 ls n (.int (x + nI k))) st P I L C
    | _, _ => none
  | .dup => match st with
    | v :: st => if v.category = 1 then sN (pc + len) ls (v :: v :: st) P I L C else none
    | _ => none
  | .dup2 => match st with
    | v :: w :: st => if v.category = 1 ∧ w.category = 1 then sN (pc + len) ls (v :: w :: v :: w :: st) P I L C else none
    | _ => none
  | .pop => match st with
    | v :: st => if v.category = 1 then sN (pc + len) ls st P I L C else none
    | _ => none
  | .iadd => o2I (fun x y => x + y) (pc + len) ls st P I L C
  | .isub => o2I (fun x y => x - y) (pc + len) ls st P I L C
  | .imul => o2I (fun x y => x * y) (pc + len) ls st P I L C
  | .iand => o2I (fun x y => x &&& y) (pc + len) ls st P I L C
  | .ior => o2I (fun x y => x ||| y) (pc + len) ls st P I L C
  | .ixor => o2I (fun x y => x ^^^ y) (pc + len) ls st P I L C
  | .ishl => o2I (fun x y => x <<< (y &&& 31)) (pc + len) ls st P I L C
  | .ishr => o2I (fun x y => x >>> (y &&& 31)) (pc + len) ls st P I L C
  | .iushr => o2I (fun x y => (x.toUInt32 >>> (y.toUInt32 &&& Int32.toUInt32 31)).toInt32) (pc + len) ls st P I L C
  | .idiv => match st with
    | .int y :: .int x :: st => if y = 0 then none else sN (pc + len) ls (.int (x / y) :: st) P I L C
    | _ => none
  | .irem => match st with
    | .int y :: .int x :: st => if y = 0 then none else sN (pc + len) ls (.int (x - x / y * y) :: st) P I L C
    | _ => none
  | .i2l => o1I (fun x => .long x.toInt64) (pc + len) ls st P I L C
  | .i2d => o1I (fun x => .double (FP.i2d x)) (pc + len) ls st P I L C
  | .i2b => o1I (fun x => .int x.toInt8.toInt32) (pc + len) ls st P I L C
  | .l2i => match st with
    | .long x :: st => sN (pc + len) ls (.int x.toInt32 :: st) P I L C
    | _ => none
  | .ladd => o2L (fun x y => x + y) (pc + len) ls st P I L C
  | .lmul => o2L (fun x y => x * y) (pc + len) ls st P I L C
  | .ldiv => match st with
    | .long y :: .long x :: st => if y = 0 then none else sN (pc + len) ls (.long (x / y) :: st) P I L C
    | _ => none
  | .lrem => match st with
    | .long y :: .long x :: st => if y = 0 then none else sN (pc + len) ls (.long (x - x / y * y) :: st) P I L C
    | _ => none
  | .lcmp => match st with
    | .long y :: .long x :: st => sN (pc + len) ls (.int (lg_cmp x y) :: st) P I L C
    | _ => none
  | .dcmp op => match st with
    | .double y :: .double x :: st => sN (pc + len) ls (.int (Op.cmpValue (FP.dcmp x y) op) :: st) P I L C
    | _ => none
  | .ddiv => match st with
    | .double y :: .double x :: st => if FP.ddiv x y &&& 0x7fffffffffffffff ≤ 0x7ff0000000000000 then sN (pc + len) ls (.double (FP.ddiv x y) :: st) P I L C else none
    | _ => none
  | .goto _ => match rz with
    | [t] => sN t ls st P I L C
    | _ => none
  | .ifCond c _ => match st, rz with
    | .int x :: st, [t] => brI c x (sN t ls st P I L C) (sN (pc + len) ls st P I L C)
    | _, _ => none
  | .if_icmp c _ => match st, rz with
    | .int y :: .int x :: st, [t] => brII c x y (sN t ls st P I L C) (sN (pc + len) ls st P I L C)
    | _, _ => none
  | .ifnull _ => match st with
    | .ref _ :: st => sN (pc + len) ls st P I L C
    | _ => none
  | .ifnonnull _ => match st, rz with
    | .ref _ :: st, [t] => sN t ls st P I L C
    | _, _ => none
  | .tableswitch dflt lo hi offs => match st with
    | .int x :: st => if x.toInt < lo ∨ hi < x.toInt then (if 0 ≤ (pc : Int) + dflt then sN ((pc : Int) + dflt).toNat ls st P I L C else none) else (match offs[(x.toInt - lo).toNat]? with
      | some o => if 0 ≤ (pc : Int) + o then sN ((pc : Int) + o).toNat ls st P I L C else none
      | none => none)
    | _ => none
  | .lookupswitch dflt ps => match st with
    | .int x :: st => if 0 ≤ (pc : Int) + Op.lookupswitch.offset ps.toList dflt x.toInt then sN ((pc : Int) + Op.lookupswitch.offset ps.toList dflt x.toInt).toNat ls st P I L C else none
    | _ => none
  | .getfield _ => match rz, st with
    | [1, ci, fi, 0, _, _], .ref k :: st => if (P.1 k).1 = ci + 1 then sN (pc + len) ls (.int (I k fi) :: st) P I L C else none
    | [1, ci, fi, 1, _, _], .ref k :: st => if (P.1 k).1 = ci + 1 then sN (pc + len) ls (.long (L k fi) :: st) P I L C else none
    | [1, ci, fi, 2, _, _], .ref k :: st => if (P.1 k).1 = ci + 1 then sN (pc + len) ls (va_rf (P.2.1 k fi) :: st) P I L C else none
    | _, _ => none
  | .putfield _ => match rz, st with
    | [1, ci, fi, 0, _, _], .int v :: .ref k :: st => if (P.1 k).1 = ci + 1 then sN (pc + len) ls st P (xu I k fi v) L C else none
    | [1, ci, fi, 1, _, _], .long v :: .ref k :: st => if (P.1 k).1 = ci + 1 then sN (pc + len) ls st P I (xu L k fi v) C else none
    | [1, ci, fi, 2, _, _], .ref v :: .ref k :: st => if (P.1 k).1 = ci + 1 ∧ 1 ≤ v then sN (pc + len) ls st (P.1, xu P.2.1 k fi (some v), P.2.2) I L C else none
    | _, _ => none
  | .arraylength => match st with
    | .ref k :: st => if 20 ≤ (P.1 k).1 then sN (pc + len) ls (.int (nI (P.1 k).2) :: st) P I L C else none
    | _ => none
  | .iaload => match st with
    | .int i :: .ref k :: st => if ((P.1 k).1 = 20 ∨ (P.1 k).1 = 30) ∧ inb i (P.1 k).2 then sN (pc + len) ls (.int (I k i.toNatClampNeg) :: st) P I L C else none
    | _ => none
  | .baload => match st with
    | .int i :: .ref k :: st => if (P.1 k).1 = 22 ∧ inb i (P.1 k).2 then sN (pc + len) ls (.int (I k i.toNatClampNeg) :: st) P I L C else none
    | _ => none
  | .laload => match st with
    | .int i :: .ref k :: st => if (P.1 k).1 = 21 ∧ inb i (P.1 k).2 then sN (pc + len) ls (.long (L k i.toNatClampNeg) :: st) P I L C else none
    | _ => none
  | .aaload => match st with
    | .int i :: .ref k :: st => if (P.1 k).1 = 23 ∧ inb i (P.1 k).2 then sN (pc + len) ls (va_rf (P.2.1 k i.toNatClampNeg) :: st) P I L C else none
    | _ => none
  | .iastore => match st with
    | .int v :: .int i :: .ref k :: st => if (P.1 k).1 = 20 ∧ inb i (P.1 k).2 then sN (pc + len) ls st P (xu I k i.toNatClampNeg v) L C else none
    | _ => none
  | .bastore => match st with
    | .int v :: .int i :: .ref k :: st => if (P.1 k).1 = 22 ∧ inb i (P.1 k).2 then sN (pc + len) ls st P (xu I k i.toNatClampNeg v.toInt8.toInt32) L C else none
    | _ => none
  | .lastore => match st with
    | .long v :: .int i :: .ref k :: st => if (P.1 k).1 = 21 ∧ inb i (P.1 k).2 then sN (pc + len) ls st P I (xu L k i.toNatClampNeg v) C else none
    | _ => none
  | .aastore => match st with
    | .ref v :: .int i :: .ref k :: st => if ((P.1 k).1 = 23 ∧ (P.1 v).1 = 7) ∧ inb i (P.1 k).2 then sN (pc + len) ls st (P.1, xu P.2.1 k i.toNatClampNeg (some v), P.2.2) I L C else none
    | _ => none
  | .new _ => match rz with
    | [5, ci, _, _, _] => mk (pc + len) ls st (ci + 1) 0 (fN ci) P I L C
    | [7, _, _] => mk (pc + len) ls st (6 + 1) 0 (fN 6) P I L C
    | 6 :: E :: _ => if catS st ≤ 8 then sT E else none
    | _ => none
  | .newarray t => match st with
    | .int a :: st => if inb a 10000 then (match t with
      | .int => mk (pc + len) ls st 20 a.toNatClampNeg a.toNatClampNeg P I L C
      | .long => mk (pc + len) ls st 21 a.toNatClampNeg a.toNatClampNeg P I L C
      | .byte => mk (pc + len) ls st 22 a.toNatClampNeg a.toNatClampNeg P I L C
      | _ => none) else none
    | _ => none
  | .anewarray _ => match rz, st with
    | [7, _, _], .int a :: st => if inb a 10000 then mk (pc + len) ls st 23 a.toNatClampNeg a.toNatClampNeg P I L C else none
    | _, _ => none
  | .invokestatic _ => match rz with
    | 2 :: mj :: _ :: _ :: _ :: _ :: ps => (match pops ps st [] with
      | some (as, st) => if catS st ≤ 8 then sC mj as st else none
      | none => none)
    | [3, _] => (match st with
      | .int n :: .int dp :: .ref a :: .int sp :: .ref a0 :: st => if (((P.1 a).1 = 20 ∧ (P.1 a0).1 = 20) ∧ ¬ sp < 0 ∧ ¬ dp < 0 ∧ ¬ n < 0) ∧ (sp.toNatClampNeg + n.toNatClampNeg ≤ (P.1 a0).2 ∧ dp.toNatClampNeg + n.toNatClampNeg ≤ (P.1 a).2) ∧ catS st ≤ 8 then sN (pc + len) ls st P (xr I a (va_cpy (I a0) (I a) sp.toNatClampNeg dp.toNatClampNeg n.toNatClampNeg)) L C else none
      | _ => none)
    | [10, _] => (match st with
      | .int y :: .int x :: st => if catS st ≤ 8 then sN (pc + len) ls (.int (if y < x then y else x) :: st) P I L C else none
      | _ => none)
    | [11, _] => (match st with
      | .int y :: .int x :: st => if catS st ≤ 8 then sN (pc + len) ls (.int (if x < y then y else x) :: st) P I L C else none
      | _ => none)
    | _ => none
  | .invokespecial _ => match rz with
    | 2 :: mj :: _ :: ci :: _ :: _ :: ps => (match pops ps st [] with
      | some (as, .ref k :: st) => if (P.1 k).1 = ci + 1 ∧ catS st ≤ 8 then sC mj (.ref k :: as) st else none
      | _ => none)
    | [4, _] => (match st with
      | .ref _ :: st => if catS st ≤ 8 then sN (pc + len) ls st P I L C else none
      | _ => none)
    | _ => none
  | .invokevirtual _ => match rz with
    | 2 :: mj :: _ :: ci :: _ :: _ :: ps => (match pops ps st [] with
      | some (as, .ref k :: st) => if (P.1 k).1 = ci + 1 ∧ catS st ≤ 8 then sC mj (.ref k :: as) st else none
      | _ => none)
    | _ => none
  | .return_ => match st with
    | [] => sR none
    | _ => none
  | .ireturn => match rz, st with
    | [0], [.int v] => sR (some (.int v))
    | [1], [.int v] => if v &&& 1 = v then sR (some (.int v)) else none
    | _, _ => none
  | .lreturn => match st with
    | [.long v] => sR (some (.long v))
    | _ => none
  | .dreturn => match st with
    | [.double v] => sR (some (.double v))
    | _ => none
  | .areturn => match st with
    | [.ref v] => sR (some (.ref v))
    | _ => none
  | _ => none
def xct (ct : Nat) : Nat := match ct with
  | 15 => 0
  | 18 => 1
  | 25 => 2
  | _ => 9
def hfind : List (Nat × Nat × Nat × Nat) → Nat → Nat → Option Nat
  | [], _, _ => none
  | (a, b, h, ct) :: r, pc, E => if a ≤ pc ∧ pc < b ∧ xct ct = E then some h else hfind r pc E
/-- at a handler's head the exception is put away -/
def hgo (mi h : Nat) (ls : List Value) : Option FR := match dec mi h with
  | some (.astore_n k, _, _) => some (h + 1, s1 ls k UN, [])
  | some (.astore k, _, _) => some (h + 2, s1 ls k UN, [])
  | _ => none
/-- the machine: f steps at most, d calls deep at most -/
def ex : Nat → Nat → Nat → FR → MM → Option (RV × MM)
  | 0, _, _, _, _ => none
  | f + 1, d, mi, fr, M => match dec mi fr.1 with
    | none => none
    | some (i, len, rz) => match stp fr.1 i len rz fr.2.1 fr.2.2 M.1 M.2.1 M.2.2.1 M.2.2.2 with
      | none => none
      | some (.inl (fr', M')) => ex f d mi fr' M'
      | some (.inr (.inl v)) => some (.inl v, M)
      | some (.inr (.inr (.inr E))) => some (.inr E, (M.1, M.2.1, M.2.2.1, (M.2.2.2.1 + 1, M.2.2.2.2 + 6)))
      | some (.inr (.inr (.inl (mj, as, st)))) => if d = 0 ∨ mL mj < (lay as).length then none else match ex f (d - 1) mj (0, ent mj as, []) M with
        | none => none
        | some (.inl v, M') => ex f d mi (fr.1 + 3, fr.2.1, v.toList ++ st) M'
        | some (.inr E, M') => match hfind (mG mi).2.2.2.2 fr.1 E with
          | none => some (.inr E, M')
          | some h => match hgo mi h fr.2.1 with
            | none => none
            | some fr' => ex f d mi fr' M'
theorem ex_mono {f : Nat} : ∀ {d mi : Nat} {fr : FR} {M : MM} {r : RV × MM}, ex f d mi fr M = some r → ex (f + 1) d mi fr M = some r := by
  induction f with
  | zero => intro d mi fr M r h; cases h
  | succ f ih =>
    intro d mi fr M r h
    rw [ex] at h ⊢
    cases hd : dec mi fr.1 with
    | none => rw [hd] at h; cases h
    | some q =>
      obtain ⟨i, len, rz⟩ := q
      rw [hd] at h
      dsimp only at h ⊢
      cases hs : stp fr.1 i len rz fr.2.1 fr.2.2 M.1 M.2.1 M.2.2.1 M.2.2.2 with
      | none => rw [hs] at h; cases h
      | some w =>
        rw [hs] at h
        rcases w with ⟨fr', M'⟩ | v | ⟨mj, as, st⟩ | E
        · exact ih h
        · exact h
        · dsimp only at h ⊢
          by_cases hc : d = 0 ∨ mL mj < (lay as).length
          · rw [if_pos hc] at h; cases h
          · rw [if_neg hc] at h ⊢
            cases he : ex f (d - 1) mj (0, ent mj as, []) M with
            | none => rw [he] at h; cases h
            | some z =>
              rw [he] at h
              rw [ih he]
              obtain ⟨v | E, M'⟩ := z
              · exact ih h
              · dsimp only at h ⊢
                cases hh : hfind (mG mi).2.2.2.2 fr.1 E with
                | none => rw [hh] at h; exact h
                | some hd2 =>
                  rw [hh] at h
                  dsimp only at h ⊢
                  cases hg : hgo mi hd2 fr.2.1 with
                  | none => rw [hg] at h; cases h
                  | some fr' => rw [hg] at h; exact ih h
        · exact h
theorem ex_more {f : Nat} (k : Nat) {d mi : Nat} {fr : FR} {M : MM} {r : RV × MM} (h : ex f d mi fr M = some r) : ex (f + k) d mi fr M = some r := by
  induction k with
  | zero => exact h
  | succ k ih => exact ex_mono ih
theorem ex_det {f g d mi : Nat} {fr : FR} {M : MM} {r r' : RV × MM} (h : ex f d mi fr M = some r) (h' : ex g d mi fr M = some r') : r = r' := by
  have h1 := ex_more g h
  have h2 := ex_more f h'
  rw [Nat.add_comm] at h2
  exact Option.some.inj (h1.symm.trans h2)
abbrev QT : Type := RV → MP → MI → ML → MC → Prop
/-- from here the method comes to an end with Q -/
def X (d mi pc : Nat) (ls st : List Value) (P : MP) (I : MI) (L : ML) (C : MC) (Q : QT) : Prop := ∃ (f : Nat) (r : RV × MM), ex f d mi (pc, ls, st) (P, I, L, C) = some r ∧ Q r.1 r.2.1 r.2.2.1 r.2.2.2.1 r.2.2.2.2
/-- a call -/
def Ct (d mj : Nat) (as : List Value) (P : MP) (I : MI) (L : ML) (C : MC) (Q : QT) : Prop := X d mj 0 (ent mj as) [] P I L C Q
/-- where a method goes on behind a call -/
def bk (d mi pc : Nat) (ls st : List Value) (Q : QT) : QT := fun r P I L C => match r with
  | .inl v => X d mi (pc + 3) ls (v.toList ++ st) P I L C Q
  | .inr E => match hfind (mG mi).2.2.2.2 pc E with
    | none => Q (.inr E) P I L C
    | some h => match hgo mi h ls with
      | none => False
      | some fr => X d mi fr.1 fr.2.1 fr.2.2 P I L C Q
def go (d mi pc : Nat) (ls : List Value) (P : MP) (I : MI) (L : ML) (C : MC) (Q : QT) (s : SR) : Prop := match s with
  | none => False
  | some (.inl (fr, M)) => X d mi fr.1 fr.2.1 fr.2.2 M.1 M.2.1 M.2.2.1 M.2.2.2 Q
  | some (.inr (.inl v)) => Q (.inl v) P I L C
  | some (.inr (.inr (.inl (mj, as, st)))) => ¬ (d = 0 ∨ mL mj < (lay as).length) ∧ Ct (d - 1) mj as P I L C (bk d mi pc ls st Q)
  | some (.inr (.inr (.inr E))) => Q (.inr E) P I L (C.1 + 1, C.2 + 6)
def go2 (d mi pc : Nat) (ls st : List Value) (P : MP) (I : MI) (L : ML) (C : MC) (Q : QT) (o : Option (ClassFile.Instr × Nat × List Nat)) : Prop := match o with
  | none => False
  | some (i, len, rz) => go d mi pc ls P I L C Q (stp pc i len rz ls st P I L C)
theorem X_go {d mi pc : Nat} {ls st : List Value} {P : MP} {I : MI} {L : ML} {C : MC} {Q : QT} : X d mi pc ls st P I L C Q = go2 d mi pc ls st P I L C Q (dec mi pc) := by
  apply propext
  constructor
  · rintro ⟨f, r, h, hq⟩
    cases f with
    | zero => cases h
    | succ f =>
      rw [ex] at h
      dsimp only at h
      unfold go2
      cases hd : dec mi pc with
      | none => rw [hd] at h; cases h
      | some q =>
        obtain ⟨i, len, rz⟩ := q
        rw [hd] at h
        dsimp only at h ⊢
        unfold go
        cases hs : stp pc i len rz ls st P I L C with
        | none => rw [hs] at h; cases h
        | some w =>
          rw [hs] at h
          rcases w with ⟨fr', M'⟩ | v | ⟨mj, as, st'⟩ | E
          · exact ⟨f, r, h, hq⟩
          · cases h; exact hq
          · dsimp only at h ⊢
            by_cases hc : d = 0 ∨ mL mj < (lay as).length
            · rw [if_pos hc] at h; cases h
            · rw [if_neg hc] at h
              refine ⟨hc, ?_⟩
              cases he : ex f (d - 1) mj (0, ent mj as, []) (P, I, L, C) with
              | none => rw [he] at h; cases h
              | some z =>
                rw [he] at h
                obtain ⟨v | E, M'⟩ := z
                · exact ⟨f, _, he, ⟨f, r, h, hq⟩⟩
                · refine ⟨f, _, he, ?_⟩
                  dsimp only at h
                  unfold bk
                  dsimp only
                  cases hh : hfind (mG mi).2.2.2.2 pc E with
                  | none => rw [hh] at h; cases h; exact hq
                  | some hd2 =>
                    rw [hh] at h
                    dsimp only at h ⊢
                    cases hg : hgo mi hd2 ls with
                    | none => rw [hg] at h; cases h
                    | some fr' => rw [hg] at h; exact ⟨f, r, h, hq⟩
          · cases h; exact hq
  · intro h
    unfold go2 at h
    cases hd : dec mi pc with
    | none => rw [hd] at h; exact h.elim
    | some q =>
      obtain ⟨i, len, rz⟩ := q
      rw [hd] at h
      dsimp only at h
      unfold go at h
      cases hs : stp pc i len rz ls st P I L C with
      | none => rw [hs] at h; exact h.elim
      | some w =>
        rw [hs] at h
        have step : ∀ f r, (match stp pc i len rz ls st P I L C with
            | none => none
            | some (.inl (fr', M')) => ex f d mi fr' M'
            | some (.inr (.inl v)) => some (.inl v, (P, I, L, C))
            | some (.inr (.inr (.inr E))) => some (.inr E, (P, I, L, (C.1 + 1, C.2 + 6)))
            | some (.inr (.inr (.inl (mj, as, st)))) => if d = 0 ∨ mL mj < (lay as).length then none else match ex f (d - 1) mj (0, ent mj as, []) (P, I, L, C) with
              | none => none
              | some (.inl v, M') => ex f d mi (pc + 3, ls, v.toList ++ st) M'
              | some (.inr E, M') => match hfind (mG mi).2.2.2.2 pc E with
                | none => some (.inr E, M')
                | some h => match hgo mi h ls with
                  | none => none
                  | some fr' => ex f d mi fr' M') = some r → ex (f + 1) d mi (pc, ls, st) (P, I, L, C) = some r := by
          intro f r hh
          rw [ex]
          dsimp only
          rw [hd]
          exact hh
        rw [hs] at step
        rcases w with ⟨fr', M'⟩ | v | ⟨mj, as, st'⟩ | E
        · obtain ⟨f, r, h1, hq⟩ := h
          exact ⟨f + 1, r, step f r h1, hq⟩
        · exact ⟨1, _, step 0 _ rfl, h⟩
        · obtain ⟨hc, f, z, he, hb⟩ := h
          dsimp only at step
          simp only [if_neg hc] at step
          obtain ⟨v | E, M'⟩ := z
          · obtain ⟨g, r, h1, hq⟩ := hb
            refine ⟨f + g + 1, r, step (f + g) r ?_, hq⟩
            rw [ex_more g he]
            dsimp only
            have := ex_more f h1
            rw [Nat.add_comm] at this
            exact this
          · unfold bk at hb
            dsimp only at hb
            cases hh : hfind (mG mi).2.2.2.2 pc E with
            | none =>
              rw [hh] at hb
              refine ⟨f + 1, _, step f (.inr E, M') ?_, hb⟩
              rw [he]
              dsimp only
              rw [hh]
            | some hd2 =>
              rw [hh] at hb
              dsimp only at hb
              cases hg : hgo mi hd2 ls with
              | none => rw [hg] at hb; exact hb.elim
              | some fr' =>
                rw [hg] at hb
                obtain ⟨g, r, h1, hq⟩ := hb
                refine ⟨f + g + 1, r, step (f + g) r ?_, hq⟩
                rw [ex_more g he]
                dsimp only
                rw [hh]
                dsimp only
                rw [hg]
                dsimp only
                have := ex_more f h1
                rw [Nat.add_comm] at this
                exact this
        · exact ⟨1, _, step 0 _ rfl, h⟩
theorem X_mono {d mi pc : Nat} {ls st : List Value} {P : MP} {I : MI} {L : ML} {C : MC} {Q Q' : QT} (h : X d mi pc ls st P I L C Q) (hq : ∀ r P I L C, Q r P I L C → Q' r P I L C) : X d mi pc ls st P I L C Q' := by
  obtain ⟨f, r, h1, h2⟩ := h
  exact ⟨f, r, h1, hq _ _ _ _ _ h2⟩
/-- what a call answers, told once, tells all that is asked of it -/
theorem Ct_eq {d mj : Nat} {as : List Value} {P : MP} {I : MI} {L : ML} {C : MC} {r0 : RV} {P0 : MP} {I0 : MI} {L0 : ML} {C0 : MC} (h : Ct d mj as P I L C (fun r P I L C => r = r0 ∧ P = P0 ∧ I = I0 ∧ L = L0 ∧ C = C0)) (Q : QT) : Ct d mj as P I L C Q = Q r0 P0 I0 L0 C0 := by
  obtain ⟨f, ⟨r, P1, I1, L1, C1⟩, h1, h2, h3, h4, h5, h6⟩ := h
  dsimp only at h2 h3 h4 h5 h6
  subst h2; subst h3; subst h4; subst h5; subst h6
  apply propext
  constructor
  · rintro ⟨g, r', g1, g2⟩
    have := ex_det h1 g1
    subst this
    exact g2
  · intro hq
    exact ⟨f, _, h1, hq⟩
theorem go_sN {d mi pc : Nat} {ls : List Value} {P : MP} {I : MI} {L : ML} {C : MC} {Q : QT} {pc' : Nat} {ls' st' : List Value} {P' : MP} {I' : MI} {L' : ML} {C' : MC} : go d mi pc ls P I L C Q (sN pc' ls' st' P' I' L' C') = X d mi pc' ls' st' P' I' L' C' Q := rfl
theorem go_sR {d mi pc : Nat} {ls : List Value} {P : MP} {I : MI} {L : ML} {C : MC} {Q : QT} {v : Option Value} : go d mi pc ls P I L C Q (sR v) = Q (.inl v) P I L C := rfl
theorem go_sC {d mi pc : Nat} {ls : List Value} {P : MP} {I : MI} {L : ML} {C : MC} {Q : QT} {mj : Nat} {as st : List Value} : go d mi pc ls P I L C Q (sC mj as st) = (¬ (d = 0 ∨ mL mj < (lay as).length) ∧ Ct (d - 1) mj as P I L C (bk d mi pc ls st Q)) := rfl
theorem go_sT {d mi pc : Nat} {ls : List Value} {P : MP} {I : MI} {L : ML} {C : MC} {Q : QT} {E : Nat} : go d mi pc ls P I L C Q (sT E) = Q (.inr E) P I L (C.1 + 1, C.2 + 6) := rfl
theorem go_no {d mi pc : Nat} {ls : List Value} {P : MP} {I : MI} {L : ML} {C : MC} {Q : QT} : go d mi pc ls P I L C Q none = False := rfl
theorem go_if {d mi pc : Nat} {ls : List Value} {P : MP} {I : MI} {L : ML} {C : MC} {Q : QT} {c : Prop} [Decidable c] {a b : SR} : go d mi pc ls P I L C Q (if c then a else b) = if c then go d mi pc ls P I L C Q a else go d mi pc ls P I L C Q b := by
  by_cases h : c
  · rw [if_pos h, if_pos h]
  · rw [if_neg h, if_neg h]
theorem go2_some {d mi pc : Nat} {ls st : List Value} {P : MP} {I : MI} {L : ML} {C : MC} {Q : QT} {i : ClassFile.Instr} {len : Nat} {rz : List Nat} : go2 d mi pc ls st P I L C Q (some (i, len, rz)) = go d mi pc ls P I L C Q (stp pc i len rz ls st P I L C) := rfl
theorem bk_v {d mi pc : Nat} {ls st : List Value} {P : MP} {I : MI} {L : ML} {C : MC} {Q : QT} {v : Value} : bk d mi pc ls st Q (.inl (some v)) P I L C = X d mi (pc + 3) ls (v :: st) P I L C Q := rfl
theorem bk_0 {d mi pc : Nat} {ls st : List Value} {P : MP} {I : MI} {L : ML} {C : MC} {Q : QT} : bk d mi pc ls st Q (.inl none) P I L C = X d mi (pc + 3) ls st P I L C Q := rfl
