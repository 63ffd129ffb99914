/-! EVALUATION: calls, and the smallest methods -/
/-- a call from depth d -/
def CT (d mj : Nat) (as : List Value) (P : MP) (I : MI) (L : ML) (C : MC) (Q : QT) : Prop := ¬ (d = 0 ∨ mL mj < (lay as).length) ∧ Ct (d - 1) mj as P I L C Q
theorem go_CT {d mi pc : Nat} {ls : List Value} {P : MP} {I : MI} {L : ML} {C : MC} {Q : QT} {mj : Nat} {as st : List Value} : go d mi pc ls P I L C Q (sC mj as st) = CT d mj as P I L C (bk d mi pc ls st Q) := rfl
theorem CT_in {d mj : Nat} {as : List Value} {P : MP} {I : MI} {L : ML} {C : MC} {Q : QT} (hd : 1 ≤ d) (hl : (lay as).length ≤ mL mj) : CT d mj as P I L C Q = X (d - 1) mj 0 (ent mj as) [] P I L C Q := by
  unfold CT Ct
  apply propext
  constructor
  · exact fun h => h.2
  · exact fun h => ⟨fun q => by omega, h⟩
theorem lay_1 {v : Value} {r : List Value} (h : v.category = 1) : lay (v :: r) = v :: lay r := by
  unfold lay; rw [if_neg (by omega)]; cases r <;> rfl
theorem lay_i {x : Int32} {r : List Value} : lay (.int x :: r) = .int x :: lay r := lay_1 rfl
theorem lay_r {x : Nat} {r : List Value} : lay (.ref x :: r) = .ref x :: lay r := lay_1 rfl
theorem lay_l {x : Int64} {r : List Value} : lay (.long x :: r) = .long x :: UN :: lay r := rfl
theorem lay_0 : lay [] = [] := rfl
theorem CT_e {d mj : Nat} {as e : List Value} {P : MP} {I : MI} {L : ML} {C : MC} {Q : QT} (hd : 1 ≤ d) (he : ent mj as = e) (hl : (lay as).length ≤ mL mj) : CT d mj as P I L C Q = X (d - 1) mj 0 e [] P I L C Q := by
  rw [← he]; exact CT_in hd hl
theorem va_some {r : Nat} : va_rf (some r) = .ref r := rfl
theorem catS_n : catS [] = 0 := rfl
theorem catS_c (v : Value) (st : List Value) : catS (v :: st) = v.category + catS st := by unfold catS; rw [List.map_cons, List.sum_cons]
theorem catS_i {x : Int32} {st : List Value} : catS (.int x :: st) = 1 + catS st := catS_c _ _
theorem catS_r {x : Nat} {st : List Value} : catS (.ref x :: st) = 1 + catS st := catS_c _ _
theorem catS_l {x : Int64} {st : List Value} : catS (.long x :: st) = 2 + catS st := catS_c _ _
theorem catS_d {x : UInt64} {st : List Value} : catS (.double x :: st) = 2 + catS st := catS_c _ _
theorem an0 : (nI 0 &&& 1 = nI 0) = True := eq_true (by decide)
theorem an1 : (nI 1 &&& 1 = nI 1) = True := eq_true (by decide)
theorem cat_r {x : Nat} : (Value.ref x).category = 1 := rfl
theorem cat_i {x : Int32} : (Value.int x).category = 1 := rfl
theorem cat_l {x : Int64} : (Value.long x).category = 2 := rfl
