/-! TWO: a second interpreter, for the law's own methods: its memory is the state as numbers; the calls of the class are one function -/
/-- the state, how many are saved, the saved ones, the work done -/
abbrev LW : Type := GS × Nat × (Nat → GS) × Nat
/-- the script: its length, its ints -/
abbrev SX : Type := Nat × (Nat → Int32)
abbrev R2 : Type := Option (RV × LW)
def vok (v : Value) (S : LW) : R2 := some (.inl (some v), S)
def xer (E : Nat) (S : LW) : R2 := some (.inr E, (S.1, S.2.1, S.2.2.1, S.2.2.2 + 1))
/-- saved, and then g' -/
def sav (g' : GS) (S : LW) (w : Nat) : LW := (g', puN S.2.1, puS S.2.1 S.2.2.1 S.1, S.2.2.2 + w)
abbrev cm (x : Int32) : Nat := x.toNatClampNeg
def q85 (a b : Int32) (S : LW) : R2 := if nI 0 ≤ a ∧ a ≤ nI 2 then (if nI 1 ≤ b ∧ b ≤ nI 2 then vok (.int (nI (S.1 (cm a)))) (sav (ud S.1 (cm a) (cm b)) S 0) else xer 1 S) else xer 0 S
def q90 (a w we ra gr on : Int32) (S : LW) : R2 := if on = nI 0 ∨ on = nI 1 then (if nI 0 ≤ a ∧ a ≤ nI 2 then (if (nI 0 ≤ w ∧ w ≤ nI 18) ∧ ¬ (16 ≤ cm w ∧ cm w ≤ cm a + 16) ∧ (nI 1 ≤ we ∧ we ≤ nI 1000) ∧ (nI 0 ≤ ra ∧ ra ≤ nI (if cm w < 16 then 3 else 0)) ∧ (nI 0 ≤ gr ∧ gr ≤ nI 3) then (if S.1 (3 + cm a) < 6 then vok (.int (nI (S.1 (3 + cm a)))) (sav (addG S.1 (cm a) (cm w) (cm we) (cm ra) (cm gr) (cm on)) S 0) else xer 2 S) else xer 1 S) else xer 0 S) else none
def q92 (a e : Int32) (S : LW) : R2 := if (nI 0 ≤ a ∧ a ≤ nI 2) ∧ nI 0 ≤ e ∧ e < nI (S.1 (3 + cm a)) then vok (.int (nI (S.1 (3 + cm a) - 1))) (sav (remG S.1 (cm a) (cm e)) S 0) else xer 0 S
def q97 (a e w : Int32) (S : LW) : R2 := if (nI 0 ≤ a ∧ a ≤ nI 2) ∧ nI 0 ≤ e ∧ e < nI (S.1 (3 + cm a)) then (if nI 1 ≤ w ∧ w ≤ nI 1000 then vok (.int (nI (S.1 (cl (cm a) (cm e) 1)))) (sav (ud S.1 (cl (cm a) (cm e) 1) (cm w)) S 0) else xer 1 S) else xer 0 S
def q10 (S : LW) : R2 := vok (.int (nI (spc S.1))) (sav (resG S.1) S 0)
def q99 (a e w : Int32) (S : LW) : R2 := if (nI 0 ≤ a ∧ a ≤ nI 2) ∧ nI 0 ≤ e ∧ e < nI (S.1 (3 + cm a)) then (if nI 0 ≤ w ∧ w ≤ nI 7 then vok (.int (nI (eV S.1 (cm a) (cm e) (cm w)))) S else xer 1 S) else xer 0 S
def q101 (a w : Int32) (S : LW) : R2 := if nI 0 ≤ a ∧ a ≤ nI 2 then (if nI 0 ≤ w ∧ w ≤ nI 3 then vok (.int (nI (tV S.1 (cm a) (cm w)))) S else xer 1 S) else xer 0 S
def q103 (r v : Int32) (S : LW) : R2 := if nI 1 ≤ r ∧ r ≤ nI 3 then (if nI 0 ≤ v ∧ v ≤ nI 200 then vok (.int (nI (S.1 (113 + cm r)))) (sav (ud S.1 (113 + cm r) (cm v)) S 0) else xer 1 S) else xer 0 S
def q106 (r v : Int32) (S : LW) : R2 := if nI 1 ≤ r ∧ r ≤ nI 3 then (if nI 0 ≤ v ∧ v ≤ nI 200 then vok (.int (nI (S.1 (116 + cm r)))) (sav (ud S.1 (116 + cm r) (cm v)) S 0) else xer 1 S) else xer 0 S
def q108 (x s : Int32) (S : LW) : R2 := if nI 0 ≤ x ∧ x ≤ nI 50 then (if s = nI 4294967295 then vok (.int (nI (S.1 120))) (sav (ud S.1 120 (cm x)) S 0) else if nI 0 ≤ s ∧ s ≤ nI 999999 then vok (.int (nI (S.1 120))) (sav (ud (ud S.1 120 (cm x)) 121 (cm s)) S 0) else xer 1 S) else xer 1 S
def q110 (r b : Int32) (S : LW) : R2 := if nI 1 ≤ r ∧ r ≤ nI 3 then (if b = nI 0 then vok (.int (nI (S.1 (113 + cm r)))) S else if b = nI 1 then vok (.int (nI (S.1 (116 + cm r)))) S else none) else xer 0 S
def q112 (w : Int32) (S : LW) : R2 := if nI 0 ≤ w ∧ w ≤ nI 7 then vok (.int (nI (vV S.1 (cm w)))) S else xer 1 S
def q114 (a : Int32) (S : LW) : R2 := if nI 0 ≤ a ∧ a ≤ nI 2 then vok (.int (nI (opN (cm a) S.1))) (sav (opn (cm a) S.1) S 1) else xer 0 S
def q124 (a m : Int32) (S : LW) : R2 := if nI 0 ≤ a ∧ a ≤ nI 2 then (if nI 1 ≤ m ∧ m ≤ nI 200 then vok (.int (nI (opT (cm a) (cm m) S.1))) (sav (opI (cm a) (cm m) S.1) S (cm m)) else xer 1 S) else xer 0 S
def q126 (i w : Int32) (S : LW) : R2 := if nI 0 ≤ i then (if nI 0 ≤ w ∧ w ≤ nI 2 then vok (.int (tellG S.1 (cm i) (cm w))) S else xer 1 S) else xer 1 S
def q128 (i : Int32) (S : LW) : R2 := if nI 0 ≤ i ∧ i ≤ nI 15 then vok (.int (nI (S.1 (124 + cm i)))) S else xer 0 S
def q131 (a e b : Int32) (S : LW) : R2 := if b = nI 0 ∨ b = nI 1 then (if (nI 0 ≤ a ∧ a ≤ nI 2) ∧ nI 0 ≤ e ∧ e < nI (S.1 (3 + cm a)) then vok (.int (nI (frV (fw S.1 (cm a) (cm e)) (fs S.1 (cm a)) (cm b)))) S else xer 0 S) else none
def q134 (a i : Int32) (S : LW) : R2 := if nI 0 ≤ a ∧ a ≤ nI 2 then (if nI 0 ≤ i ∧ i ≤ nI 15 then vok (.int (chV S.1 (cm a) (cm i)).toInt32) S else xer 0 S) else xer 0 S
def q137 (a r : Int32) (S : LW) : R2 := if nI 0 ≤ a ∧ a ≤ nI 2 then (if nI 0 ≤ r ∧ r ≤ nI 3 then vok (.int (raV (chV S.1 (cm a)) (cm r)).toInt32) S else xer 1 S) else xer 0 S
def q139 (a : Int32) (S : LW) : R2 := if nI 0 ≤ a ∧ a ≤ nI 2 then vok (.long (chV S.1 (cm a) 20)) S else xer 0 S
def q31 (S : LW) : R2 := vok (.double (lsV S.1)) S
def q141 (a i : Int32) (S : LW) : R2 := if nI 0 ≤ a ∧ a ≤ nI 2 then (if nI 0 ≤ i ∧ i ≤ nI 15 then vok (.int (soV (cm a) (cm i) (S.1 (124 + cm i)) 300 0 S.1)) S else xer 0 S) else xer 0 S
def q143 (a i : Int32) (S : LW) : R2 := if nI 0 ≤ a ∧ a ≤ nI 2 then (if nI 0 ≤ i ∧ i ≤ nI 15 then vok (.int (bdV S.1 (cm a) (cm i) (S.1 (3 + cm a)) 0 (nI 4294967295) (lN 18446744073709551615))) S else xer 0 S) else xer 0 S
def q145 (v : Int32) (S : LW) : R2 := if nI 0 ≤ v ∧ v ≤ nI 127 then none else xer 1 S
def q148 (S : LW) : R2 := if S.2.1 = 0 then xer 2 S else vok (.int (nI (S.2.1 - 1))) (S.2.2.1 (S.2.1 - 1), S.2.1 - 1, S.2.2.1, S.2.2.2)
/-- the calls of the class -/
def sp2 (mj : Nat) (as : List Value) (S : LW) : R2 := match mj with
  | 85 => (match as with | [.ref 1, .int a, .int b] => q85 a b S | _ => none)
  | 90 => (match as with | [.ref 1, .int a, .int b, .int c, .int e, .int f, .int h] => q90 a b c e f h S | _ => none)
  | 92 => (match as with | [.ref 1, .int a, .int b] => q92 a b S | _ => none)
  | 97 => (match as with | [.ref 1, .int a, .int b, .int c] => q97 a b c S | _ => none)
  | 10 => (match as with | [.ref 1] => q10 S | _ => none)
  | 99 => (match as with | [.ref 1, .int a, .int b, .int c] => q99 a b c S | _ => none)
  | 101 => (match as with | [.ref 1, .int a, .int b] => q101 a b S | _ => none)
  | 103 => (match as with | [.ref 1, .int a, .int b] => q103 a b S | _ => none)
  | 106 => (match as with | [.ref 1, .int a, .int b] => q106 a b S | _ => none)
  | 108 => (match as with | [.ref 1, .int a, .int b] => q108 a b S | _ => none)
  | 110 => (match as with | [.ref 1, .int a, .int b] => q110 a b S | _ => none)
  | 112 => (match as with | [.ref 1, .int a] => q112 a S | _ => none)
  | 114 => (match as with | [.ref 1, .int a] => q114 a S | _ => none)
  | 124 => (match as with | [.ref 1, .int a, .int b] => q124 a b S | _ => none)
  | 126 => (match as with | [.ref 1, .int a, .int b] => q126 a b S | _ => none)
  | 128 => (match as with | [.ref 1, .int a] => q128 a S | _ => none)
  | 131 => (match as with | [.ref 1, .int a, .int b, .int c] => q131 a b c S | _ => none)
  | 134 => (match as with | [.ref 1, .int a, .int b] => q134 a b S | _ => none)
  | 137 => (match as with | [.ref 1, .int a, .int b] => q137 a b S | _ => none)
  | 139 => (match as with | [.ref 1, .int a] => q139 a S | _ => none)
  | 31 => (match as with | [.ref 1] => q31 S | _ => none)
  | 141 => (match as with | [.ref 1, .int a, .int b] => q141 a b S | _ => none)
  | 143 => (match as with | [.ref 1, .int a, .int b] => q143 a b S | _ => none)
  | 145 => (match as with | [.ref 1, .int a] => q145 a S | _ => none)
  | 148 => (match as with | [.ref 1] => q148 S | _ => none)
  | _ => none
