/-! THE LAW: its wrappers, over the second interpreter -/
theorem b2_h {z : SX} {d mi pc : Nat} {ls st : List Value} {Z : ZT} {E : Nat} {S : LW} {h k len : Nat} {rz : List Nat} (h1 : hfind (mG mi).2.2.2.2 pc E = some h) (h2 : dec mi h = some (.astore k, len, rz)) : bk2 z d mi pc ls st Z (.inr E) S = X2 z d mi (h + 2) (s1 ls k UN) [] S Z := by
  unfold bk2
  dsimp only
  rw [h1]
  dsimp only
  unfold hgo
  rw [h2]
theorem b2_hn {z : SX} {d mi pc : Nat} {ls st : List Value} {Z : ZT} {E : Nat} {S : LW} {h len : Nat} {k : Fin 4} {rz : List Nat} (h1 : hfind (mG mi).2.2.2.2 pc E = some h) (h2 : dec mi h = some (.astore_n k, len, rz)) : bk2 z d mi pc ls st Z (.inr E) S = X2 z d mi (h + 1) (s1 ls ↑k UN) [] S Z := by
  unfold bk2
  dsimp only
  rw [h1]
  dsimp only
  unfold hgo
  rw [h2]
/-- the three numbers that stand for exceptions -/
def xco (E : Nat) : Int32 := match E with
  | 0 => nI 4289967293
  | 1 => nI 4289967295
  | _ => nI 4289967294
def run3 (r : R2) (Z : ZT) : Prop := match r with
  | none => False
  | some (.inl v, S) => Z (.inl v) S
  | some (.inr E, S) => Z (.inl (some (.int (xco E)))) S
theorem run2_n {Z : ZT} : run2 none Z = False := rfl
theorem run3_n {Z : ZT} : run3 none Z = False := rfl
theorem run3_v {v : Value} {S : LW} {Z : ZT} : run3 (vok v S) Z = Z (.inl (some v)) S := rfl
theorem run3_x0 {g : GS} {n k : Nat} {ps : Nat → GS} {Z : ZT} : run3 (xer 0 (g, n, ps, k)) Z = Z (.inl (some (.int (nI 4289967293)))) (g, n, ps, k + 1) := rfl
theorem run3_x1 {g : GS} {n k : Nat} {ps : Nat → GS} {Z : ZT} : run3 (xer 1 (g, n, ps, k)) Z = Z (.inl (some (.int (nI 4289967295)))) (g, n, ps, k + 1) := rfl
theorem run3_x2 {g : GS} {n k : Nat} {ps : Nat → GS} {Z : ZT} : run3 (xer 2 (g, n, ps, k)) Z = Z (.inl (some (.int (nI 4289967294)))) (g, n, ps, k + 1) := rfl
theorem run3_if {c : Prop} [Decidable c] {a b : R2} {Z : ZT} : run3 (if c then a else b) Z = if c then run3 a Z else run3 b Z := by
  split <;> rfl
/-- the same for a long -/
def runL (r : R2) (Z : ZT) : Prop := match r with
  | none => False
  | some (.inl v, S) => Z (.inl v) S
  | some (.inr _, S) => Z (.inl (some (.long (lN 18446744073704551613)))) S
theorem runL_v {v : Value} {S : LW} {Z : ZT} : runL (vok v S) Z = Z (.inl (some v)) S := rfl
theorem runL_x {E : Nat} {g : GS} {n k : Nat} {ps : Nat → GS} {Z : ZT} : runL (xer E (g, n, ps, k)) Z = Z (.inl (some (.long (lN 18446744073704551613)))) (g, n, ps, k + 1) := rfl
theorem runL_if {c : Prop} [Decidable c] {a b : R2} {Z : ZT} : runL (if c then a else b) Z = if c then runL a Z else runL b Z := by
  split <;> rfl
theorem e84_0 : dek 84 0 = some (.aload_n 0, 1, []) := rfl
theorem e84_1 : dek 84 1 = some (.iload_n 1, 1, []) := rfl
theorem e84_2 : dek 84 2 = some (.iload_n 2, 1, []) := rfl
theorem e84_3 : dek 84 3 = some (.invokevirtual 9, 3, [2, 85, 2, 9, 0, 637, 0, 0]) := rfl
theorem e84_6 : dek 84 6 = some (.istore_n 3, 1, []) := rfl
theorem e84_7 : dek 84 7 = some (.goto 13, 3, [20]) := rfl
theorem e84_10 : dek 84 10 = some (.astore 4, 2, []) := rfl
theorem e84_12 : dek 84 12 = some (.ldc 17, 2, [8, 4289967293, 582]) := rfl
theorem e84_14 : dek 84 14 = some (.ireturn, 1, [0]) := rfl
theorem e84_15 : dek 84 15 = some (.astore 4, 2, []) := rfl
theorem e84_17 : dek 84 17 = some (.ldc 20, 2, [8, 4289967295, 498]) := rfl
theorem e84_19 : dek 84 19 = some (.ireturn, 1, [0]) := rfl
theorem e84_20 : dek 84 20 = some (.iload_n 3, 1, []) := rfl
theorem e84_21 : dek 84 21 = some (.ireturn, 1, [0]) := rfl
theorem C2_85 {z : SX} {d : Nat} {S : LW} {Z : ZT} {x1 x2 : Int32} (hd : 30 ≤ d) : C2 z d 85 [.ref 1, .int x1, .int x2] S Z = run2 (q85 x1 x2 S) Z := C2_sp (by decide) hd (Nat.le_of_ble_eq_true rfl)
theorem v84 {z : SX} {d : Nat} {g : GS} {n k : Nat} {ps : Nat → GS} {Z : ZT} {x1 x2 : Int32} (hd : 31 ≤ d) : C2 z d 84 [.ref 1, .int x1, .int x2] (g, n, ps, k) Z = run3 (q85 x1 x2 (g, n, ps, k)) Z := by
  rw [C2_e (mj := 84) (e := [.ref 1, .int x1, .int x2, UN, UN]) rfl (by omega) rfl (Nat.le_of_ble_eq_true rfl)]
  unfold q85
  simp (disch := first | assumption | omega) only [Nat.reduceAdd, mP_1, mP_0, X2_go, g4_some, stp, ldI, ldA, ldL, stI, stA, stL, o1I, o2I, o2L, brI, brII, gl, s1, s2, k1, sl, g3_sN, g3_sR, g3_sC, g3_if, g3_no, pops, b2_v, e84_0, e84_1, e84_2, e84_3, e84_6, e84_7, e84_10, e84_12, e84_14, e84_15, e84_17, e84_19, e84_20, e84_21, n_lt, n_le, n_eq, n_lt0, n_ge0, n_gt0, n_le0, n_eq0, m_lt, m_le, m_gt, m_ge, m_eq, m_eq', m_lt0, m_ge0, m_gt0, m_le0, m_ltm, m_lem, n_in, m_in, n_cl, n_ti, n_div, n_rem', n_dec, n_l, nI_add, pk_mul, an0, an1, decide_eq_true_eq, if_true, if_false, ite_true, ite_false, and_true, true_and, and_false, false_and, not_true, not_false_iff, or_false, false_or, or_true, true_or, eq_self, va_some, Bool.false_eq_true, reduceIte, catS_n, catS_i, catS_r, catS_l, catS_d, Nat.zero_add, Nat.add_zero, decide_true, decide_false, Nat.reduceLeDiff, cat_r, cat_i, cat_l, nle_T, nle_F, nlt_T, nlt_F, neq_T, neq_F, C2_85, q85, run2_if, run2_v, run2_x, run2_n, run3_v, run3_x0, run3_x1, run3_x2, run3_if, run3_n, b2_h (mi := 84) (pc := 3) (E := 0) (h := 10) rfl (show dec 84 10 = some (.astore 4, 2, []) from rfl), b2_h (mi := 84) (pc := 3) (E := 1) (h := 15) rfl (show dec 84 15 = some (.astore 4, 2, []) from rfl)]
theorem e89_0 : dek 89 0 = some (.aload_n 0, 1, []) := rfl
theorem e89_1 : dek 89 1 = some (.iload_n 1, 1, []) := rfl
theorem e89_2 : dek 89 2 = some (.iload_n 2, 1, []) := rfl
theorem e89_3 : dek 89 3 = some (.iload_n 3, 1, []) := rfl
theorem e89_4 : dek 89 4 = some (.iload 4, 2, []) := rfl
theorem e89_6 : dek 89 6 = some (.iload 5, 2, []) := rfl
theorem e89_8 : dek 89 8 = some (.iload 6, 2, []) := rfl
theorem e89_10 : dek 89 10 = some (.invokevirtual 21, 3, [2, 90, 2, 9, 0, 658, 0, 0, 0, 0, 0, 0]) := rfl
theorem e89_13 : dek 89 13 = some (.istore 7, 2, []) := rfl
theorem e89_15 : dek 89 15 = some (.goto 18, 3, [33]) := rfl
theorem e89_18 : dek 89 18 = some (.astore 8, 2, []) := rfl
theorem e89_20 : dek 89 20 = some (.ldc 17, 2, [8, 4289967293, 582]) := rfl
theorem e89_22 : dek 89 22 = some (.ireturn, 1, [0]) := rfl
theorem e89_23 : dek 89 23 = some (.astore 8, 2, []) := rfl
theorem e89_25 : dek 89 25 = some (.ldc 20, 2, [8, 4289967295, 498]) := rfl
theorem e89_27 : dek 89 27 = some (.ireturn, 1, [0]) := rfl
theorem e89_28 : dek 89 28 = some (.astore 8, 2, []) := rfl
theorem e89_30 : dek 89 30 = some (.ldc 27, 2, [8, 4289967294, 420]) := rfl
theorem e89_32 : dek 89 32 = some (.ireturn, 1, [0]) := rfl
theorem e89_33 : dek 89 33 = some (.iload 7, 2, []) := rfl
theorem e89_35 : dek 89 35 = some (.ireturn, 1, [0]) := rfl
theorem C2_90 {z : SX} {d : Nat} {S : LW} {Z : ZT} {x1 x2 x3 x4 x5 x6 : Int32} (hd : 30 ≤ d) : C2 z d 90 [.ref 1, .int x1, .int x2, .int x3, .int x4, .int x5, .int x6] S Z = run2 (q90 x1 x2 x3 x4 x5 x6 S) Z := C2_sp (by decide) hd (Nat.le_of_ble_eq_true rfl)
theorem v89 {z : SX} {d : Nat} {g : GS} {n k : Nat} {ps : Nat → GS} {Z : ZT} {x1 x2 x3 x4 x5 x6 : Int32} (hd : 31 ≤ d) : C2 z d 89 [.ref 1, .int x1, .int x2, .int x3, .int x4, .int x5, .int x6] (g, n, ps, k) Z = run3 (q90 x1 x2 x3 x4 x5 x6 (g, n, ps, k)) Z := by
  rw [C2_e (mj := 89) (e := [.ref 1, .int x1, .int x2, .int x3, .int x4, .int x5, .int x6, UN, UN]) rfl (by omega) rfl (Nat.le_of_ble_eq_true rfl)]
  unfold q90
  simp (disch := first | assumption | omega) only [Nat.reduceAdd, mP_1, mP_0, X2_go, g4_some, stp, ldI, ldA, ldL, stI, stA, stL, o1I, o2I, o2L, brI, brII, gl, s1, s2, k1, sl, g3_sN, g3_sR, g3_sC, g3_if, g3_no, pops, b2_v, e89_0, e89_1, e89_2, e89_3, e89_4, e89_6, e89_8, e89_10, e89_13, e89_15, e89_18, e89_20, e89_22, e89_23, e89_25, e89_27, e89_28, e89_30, e89_32, e89_33, e89_35, n_lt, n_le, n_eq, n_lt0, n_ge0, n_gt0, n_le0, n_eq0, m_lt, m_le, m_gt, m_ge, m_eq, m_eq', m_lt0, m_ge0, m_gt0, m_le0, m_ltm, m_lem, n_in, m_in, n_cl, n_ti, n_div, n_rem', n_dec, n_l, nI_add, pk_mul, an0, an1, decide_eq_true_eq, if_true, if_false, ite_true, ite_false, and_true, true_and, and_false, false_and, not_true, not_false_iff, or_false, false_or, or_true, true_or, eq_self, va_some, Bool.false_eq_true, reduceIte, catS_n, catS_i, catS_r, catS_l, catS_d, Nat.zero_add, Nat.add_zero, decide_true, decide_false, Nat.reduceLeDiff, cat_r, cat_i, cat_l, nle_T, nle_F, nlt_T, nlt_F, neq_T, neq_F, C2_90, q90, run2_if, run2_v, run2_x, run2_n, run3_v, run3_x0, run3_x1, run3_x2, run3_if, run3_n, b2_h (mi := 89) (pc := 10) (E := 0) (h := 18) rfl (show dec 89 18 = some (.astore 8, 2, []) from rfl), b2_h (mi := 89) (pc := 10) (E := 1) (h := 23) rfl (show dec 89 23 = some (.astore 8, 2, []) from rfl), b2_h (mi := 89) (pc := 10) (E := 2) (h := 28) rfl (show dec 89 28 = some (.astore 8, 2, []) from rfl)]
theorem e91_0 : dek 91 0 = some (.aload_n 0, 1, []) := rfl
theorem e91_1 : dek 91 1 = some (.iload_n 1, 1, []) := rfl
theorem e91_2 : dek 91 2 = some (.iload_n 2, 1, []) := rfl
theorem e91_3 : dek 91 3 = some (.invokevirtual 28, 3, [2, 92, 2, 9, 0, 680, 0, 0]) := rfl
theorem e91_6 : dek 91 6 = some (.istore_n 3, 1, []) := rfl
theorem e91_7 : dek 91 7 = some (.goto 8, 3, [15]) := rfl
theorem e91_10 : dek 91 10 = some (.astore 4, 2, []) := rfl
theorem e91_12 : dek 91 12 = some (.ldc 17, 2, [8, 4289967293, 582]) := rfl
theorem e91_14 : dek 91 14 = some (.ireturn, 1, [0]) := rfl
theorem e91_15 : dek 91 15 = some (.iload_n 3, 1, []) := rfl
theorem e91_16 : dek 91 16 = some (.ireturn, 1, [0]) := rfl
theorem C2_92 {z : SX} {d : Nat} {S : LW} {Z : ZT} {x1 x2 : Int32} (hd : 30 ≤ d) : C2 z d 92 [.ref 1, .int x1, .int x2] S Z = run2 (q92 x1 x2 S) Z := C2_sp (by decide) hd (Nat.le_of_ble_eq_true rfl)
theorem v91 {z : SX} {d : Nat} {g : GS} {n k : Nat} {ps : Nat → GS} {Z : ZT} {x1 x2 : Int32} (hd : 31 ≤ d) : C2 z d 91 [.ref 1, .int x1, .int x2] (g, n, ps, k) Z = run3 (q92 x1 x2 (g, n, ps, k)) Z := by
  rw [C2_e (mj := 91) (e := [.ref 1, .int x1, .int x2, UN, UN]) rfl (by omega) rfl (Nat.le_of_ble_eq_true rfl)]
  unfold q92
  simp (disch := first | assumption | omega) only [Nat.reduceAdd, mP_1, mP_0, X2_go, g4_some, stp, ldI, ldA, ldL, stI, stA, stL, o1I, o2I, o2L, brI, brII, gl, s1, s2, k1, sl, g3_sN, g3_sR, g3_sC, g3_if, g3_no, pops, b2_v, e91_0, e91_1, e91_2, e91_3, e91_6, e91_7, e91_10, e91_12, e91_14, e91_15, e91_16, n_lt, n_le, n_eq, n_lt0, n_ge0, n_gt0, n_le0, n_eq0, m_lt, m_le, m_gt, m_ge, m_eq, m_eq', m_lt0, m_ge0, m_gt0, m_le0, m_ltm, m_lem, n_in, m_in, n_cl, n_ti, n_div, n_rem', n_dec, n_l, nI_add, pk_mul, an0, an1, decide_eq_true_eq, if_true, if_false, ite_true, ite_false, and_true, true_and, and_false, false_and, not_true, not_false_iff, or_false, false_or, or_true, true_or, eq_self, va_some, Bool.false_eq_true, reduceIte, catS_n, catS_i, catS_r, catS_l, catS_d, Nat.zero_add, Nat.add_zero, decide_true, decide_false, Nat.reduceLeDiff, cat_r, cat_i, cat_l, nle_T, nle_F, nlt_T, nlt_F, neq_T, neq_F, C2_92, q92, run2_if, run2_v, run2_x, run2_n, run3_v, run3_x0, run3_x1, run3_x2, run3_if, run3_n, b2_h (mi := 91) (pc := 3) (E := 0) (h := 10) rfl (show dec 91 10 = some (.astore 4, 2, []) from rfl)]
theorem e96_0 : dek 96 0 = some (.aload_n 0, 1, []) := rfl
theorem e96_1 : dek 96 1 = some (.iload_n 1, 1, []) := rfl
theorem e96_2 : dek 96 2 = some (.iload_n 2, 1, []) := rfl
theorem e96_3 : dek 96 3 = some (.iload_n 3, 1, []) := rfl
theorem e96_4 : dek 96 4 = some (.invokevirtual 31, 3, [2, 97, 2, 9, 0, 695, 0, 0, 0]) := rfl
theorem e96_7 : dek 96 7 = some (.istore 4, 2, []) := rfl
theorem e96_9 : dek 96 9 = some (.goto 13, 3, [22]) := rfl
theorem e96_12 : dek 96 12 = some (.astore 5, 2, []) := rfl
theorem e96_14 : dek 96 14 = some (.ldc 17, 2, [8, 4289967293, 582]) := rfl
theorem e96_16 : dek 96 16 = some (.ireturn, 1, [0]) := rfl
theorem e96_17 : dek 96 17 = some (.astore 5, 2, []) := rfl
theorem e96_19 : dek 96 19 = some (.ldc 20, 2, [8, 4289967295, 498]) := rfl
theorem e96_21 : dek 96 21 = some (.ireturn, 1, [0]) := rfl
theorem e96_22 : dek 96 22 = some (.iload 4, 2, []) := rfl
theorem e96_24 : dek 96 24 = some (.ireturn, 1, [0]) := rfl
theorem C2_97 {z : SX} {d : Nat} {S : LW} {Z : ZT} {x1 x2 x3 : Int32} (hd : 30 ≤ d) : C2 z d 97 [.ref 1, .int x1, .int x2, .int x3] S Z = run2 (q97 x1 x2 x3 S) Z := C2_sp (by decide) hd (Nat.le_of_ble_eq_true rfl)
theorem v96 {z : SX} {d : Nat} {g : GS} {n k : Nat} {ps : Nat → GS} {Z : ZT} {x1 x2 x3 : Int32} (hd : 31 ≤ d) : C2 z d 96 [.ref 1, .int x1, .int x2, .int x3] (g, n, ps, k) Z = run3 (q97 x1 x2 x3 (g, n, ps, k)) Z := by
  rw [C2_e (mj := 96) (e := [.ref 1, .int x1, .int x2, .int x3, UN, UN]) rfl (by omega) rfl (Nat.le_of_ble_eq_true rfl)]
  unfold q97
  simp (disch := first | assumption | omega) only [Nat.reduceAdd, mP_1, mP_0, X2_go, g4_some, stp, ldI, ldA, ldL, stI, stA, stL, o1I, o2I, o2L, brI, brII, gl, s1, s2, k1, sl, g3_sN, g3_sR, g3_sC, g3_if, g3_no, pops, b2_v, e96_0, e96_1, e96_2, e96_3, e96_4, e96_7, e96_9, e96_12, e96_14, e96_16, e96_17, e96_19, e96_21, e96_22, e96_24, n_lt, n_le, n_eq, n_lt0, n_ge0, n_gt0, n_le0, n_eq0, m_lt, m_le, m_gt, m_ge, m_eq, m_eq', m_lt0, m_ge0, m_gt0, m_le0, m_ltm, m_lem, n_in, m_in, n_cl, n_ti, n_div, n_rem', n_dec, n_l, nI_add, pk_mul, an0, an1, decide_eq_true_eq, if_true, if_false, ite_true, ite_false, and_true, true_and, and_false, false_and, not_true, not_false_iff, or_false, false_or, or_true, true_or, eq_self, va_some, Bool.false_eq_true, reduceIte, catS_n, catS_i, catS_r, catS_l, catS_d, Nat.zero_add, Nat.add_zero, decide_true, decide_false, Nat.reduceLeDiff, cat_r, cat_i, cat_l, nle_T, nle_F, nlt_T, nlt_F, neq_T, neq_F, C2_97, q97, run2_if, run2_v, run2_x, run2_n, run3_v, run3_x0, run3_x1, run3_x2, run3_if, run3_n, b2_h (mi := 96) (pc := 4) (E := 0) (h := 12) rfl (show dec 96 12 = some (.astore 5, 2, []) from rfl), b2_h (mi := 96) (pc := 4) (E := 1) (h := 17) rfl (show dec 96 17 = some (.astore 5, 2, []) from rfl)]
theorem e98_0 : dek 98 0 = some (.aload_n 0, 1, []) := rfl
theorem e98_1 : dek 98 1 = some (.iload_n 1, 1, []) := rfl
theorem e98_2 : dek 98 2 = some (.iload_n 2, 1, []) := rfl
theorem e98_3 : dek 98 3 = some (.iload_n 3, 1, []) := rfl
theorem e98_4 : dek 98 4 = some (.invokevirtual 35, 3, [2, 99, 2, 9, 0, 586, 0, 0, 0]) := rfl
theorem e98_7 : dek 98 7 = some (.istore 4, 2, []) := rfl
theorem e98_9 : dek 98 9 = some (.goto 13, 3, [22]) := rfl
theorem e98_12 : dek 98 12 = some (.astore 5, 2, []) := rfl
theorem e98_14 : dek 98 14 = some (.ldc 17, 2, [8, 4289967293, 582]) := rfl
theorem e98_16 : dek 98 16 = some (.ireturn, 1, [0]) := rfl
theorem e98_17 : dek 98 17 = some (.astore 5, 2, []) := rfl
theorem e98_19 : dek 98 19 = some (.ldc 20, 2, [8, 4289967295, 498]) := rfl
theorem e98_21 : dek 98 21 = some (.ireturn, 1, [0]) := rfl
theorem e98_22 : dek 98 22 = some (.iload 4, 2, []) := rfl
theorem e98_24 : dek 98 24 = some (.ireturn, 1, [0]) := rfl
theorem C2_99 {z : SX} {d : Nat} {S : LW} {Z : ZT} {x1 x2 x3 : Int32} (hd : 30 ≤ d) : C2 z d 99 [.ref 1, .int x1, .int x2, .int x3] S Z = run2 (q99 x1 x2 x3 S) Z := C2_sp (by decide) hd (Nat.le_of_ble_eq_true rfl)
theorem v98 {z : SX} {d : Nat} {g : GS} {n k : Nat} {ps : Nat → GS} {Z : ZT} {x1 x2 x3 : Int32} (hd : 31 ≤ d) : C2 z d 98 [.ref 1, .int x1, .int x2, .int x3] (g, n, ps, k) Z = run3 (q99 x1 x2 x3 (g, n, ps, k)) Z := by
  rw [C2_e (mj := 98) (e := [.ref 1, .int x1, .int x2, .int x3, UN, UN]) rfl (by omega) rfl (Nat.le_of_ble_eq_true rfl)]
  unfold q99
  simp (disch := first | assumption | omega) only [Nat.reduceAdd, mP_1, mP_0, X2_go, g4_some, stp, ldI, ldA, ldL, stI, stA, stL, o1I, o2I, o2L, brI, brII, gl, s1, s2, k1, sl, g3_sN, g3_sR, g3_sC, g3_if, g3_no, pops, b2_v, e98_0, e98_1, e98_2, e98_3, e98_4, e98_7, e98_9, e98_12, e98_14, e98_16, e98_17, e98_19, e98_21, e98_22, e98_24, n_lt, n_le, n_eq, n_lt0, n_ge0, n_gt0, n_le0, n_eq0, m_lt, m_le, m_gt, m_ge, m_eq, m_eq', m_lt0, m_ge0, m_gt0, m_le0, m_ltm, m_lem, n_in, m_in, n_cl, n_ti, n_div, n_rem', n_dec, n_l, nI_add, pk_mul, an0, an1, decide_eq_true_eq, if_true, if_false, ite_true, ite_false, and_true, true_and, and_false, false_and, not_true, not_false_iff, or_false, false_or, or_true, true_or, eq_self, va_some, Bool.false_eq_true, reduceIte, catS_n, catS_i, catS_r, catS_l, catS_d, Nat.zero_add, Nat.add_zero, decide_true, decide_false, Nat.reduceLeDiff, cat_r, cat_i, cat_l, nle_T, nle_F, nlt_T, nlt_F, neq_T, neq_F, C2_99, q99, run2_if, run2_v, run2_x, run2_n, run3_v, run3_x0, run3_x1, run3_x2, run3_if, run3_n, b2_h (mi := 98) (pc := 4) (E := 0) (h := 12) rfl (show dec 98 12 = some (.astore 5, 2, []) from rfl), b2_h (mi := 98) (pc := 4) (E := 1) (h := 17) rfl (show dec 98 17 = some (.astore 5, 2, []) from rfl)]
theorem e100_0 : dek 100 0 = some (.aload_n 0, 1, []) := rfl
theorem e100_1 : dek 100 1 = some (.iload_n 1, 1, []) := rfl
theorem e100_2 : dek 100 2 = some (.iload_n 2, 1, []) := rfl
theorem e100_3 : dek 100 3 = some (.invokevirtual 38, 3, [2, 101, 2, 9, 0, 503, 0, 0]) := rfl
theorem e100_6 : dek 100 6 = some (.istore_n 3, 1, []) := rfl
theorem e100_7 : dek 100 7 = some (.goto 13, 3, [20]) := rfl
theorem e100_10 : dek 100 10 = some (.astore 4, 2, []) := rfl
theorem e100_12 : dek 100 12 = some (.ldc 17, 2, [8, 4289967293, 582]) := rfl
theorem e100_14 : dek 100 14 = some (.ireturn, 1, [0]) := rfl
theorem e100_15 : dek 100 15 = some (.astore 4, 2, []) := rfl
theorem e100_17 : dek 100 17 = some (.ldc 20, 2, [8, 4289967295, 498]) := rfl
theorem e100_19 : dek 100 19 = some (.ireturn, 1, [0]) := rfl
theorem e100_20 : dek 100 20 = some (.iload_n 3, 1, []) := rfl
theorem e100_21 : dek 100 21 = some (.ireturn, 1, [0]) := rfl
theorem C2_101 {z : SX} {d : Nat} {S : LW} {Z : ZT} {x1 x2 : Int32} (hd : 30 ≤ d) : C2 z d 101 [.ref 1, .int x1, .int x2] S Z = run2 (q101 x1 x2 S) Z := C2_sp (by decide) hd (Nat.le_of_ble_eq_true rfl)
theorem v100 {z : SX} {d : Nat} {g : GS} {n k : Nat} {ps : Nat → GS} {Z : ZT} {x1 x2 : Int32} (hd : 31 ≤ d) : C2 z d 100 [.ref 1, .int x1, .int x2] (g, n, ps, k) Z = run3 (q101 x1 x2 (g, n, ps, k)) Z := by
  rw [C2_e (mj := 100) (e := [.ref 1, .int x1, .int x2, UN, UN]) rfl (by omega) rfl (Nat.le_of_ble_eq_true rfl)]
  unfold q101
  simp (disch := first | assumption | omega) only [Nat.reduceAdd, mP_1, mP_0, X2_go, g4_some, stp, ldI, ldA, ldL, stI, stA, stL, o1I, o2I, o2L, brI, brII, gl, s1, s2, k1, sl, g3_sN, g3_sR, g3_sC, g3_if, g3_no, pops, b2_v, e100_0, e100_1, e100_2, e100_3, e100_6, e100_7, e100_10, e100_12, e100_14, e100_15, e100_17, e100_19, e100_20, e100_21, n_lt, n_le, n_eq, n_lt0, n_ge0, n_gt0, n_le0, n_eq0, m_lt, m_le, m_gt, m_ge, m_eq, m_eq', m_lt0, m_ge0, m_gt0, m_le0, m_ltm, m_lem, n_in, m_in, n_cl, n_ti, n_div, n_rem', n_dec, n_l, nI_add, pk_mul, an0, an1, decide_eq_true_eq, if_true, if_false, ite_true, ite_false, and_true, true_and, and_false, false_and, not_true, not_false_iff, or_false, false_or, or_true, true_or, eq_self, va_some, Bool.false_eq_true, reduceIte, catS_n, catS_i, catS_r, catS_l, catS_d, Nat.zero_add, Nat.add_zero, decide_true, decide_false, Nat.reduceLeDiff, cat_r, cat_i, cat_l, nle_T, nle_F, nlt_T, nlt_F, neq_T, neq_F, C2_101, q101, run2_if, run2_v, run2_x, run2_n, run3_v, run3_x0, run3_x1, run3_x2, run3_if, run3_n, b2_h (mi := 100) (pc := 3) (E := 0) (h := 10) rfl (show dec 100 10 = some (.astore 4, 2, []) from rfl), b2_h (mi := 100) (pc := 3) (E := 1) (h := 15) rfl (show dec 100 15 = some (.astore 4, 2, []) from rfl)]
theorem e102_0 : dek 102 0 = some (.aload_n 0, 1, []) := rfl
theorem e102_1 : dek 102 1 = some (.iload_n 1, 1, []) := rfl
theorem e102_2 : dek 102 2 = some (.iload_n 2, 1, []) := rfl
theorem e102_3 : dek 102 3 = some (.invokevirtual 41, 3, [2, 103, 2, 9, 0, 702, 0, 0]) := rfl
theorem e102_6 : dek 102 6 = some (.istore_n 3, 1, []) := rfl
theorem e102_7 : dek 102 7 = some (.goto 13, 3, [20]) := rfl
theorem e102_10 : dek 102 10 = some (.astore 4, 2, []) := rfl
theorem e102_12 : dek 102 12 = some (.ldc 17, 2, [8, 4289967293, 582]) := rfl
theorem e102_14 : dek 102 14 = some (.ireturn, 1, [0]) := rfl
theorem e102_15 : dek 102 15 = some (.astore 4, 2, []) := rfl
theorem e102_17 : dek 102 17 = some (.ldc 20, 2, [8, 4289967295, 498]) := rfl
theorem e102_19 : dek 102 19 = some (.ireturn, 1, [0]) := rfl
theorem e102_20 : dek 102 20 = some (.iload_n 3, 1, []) := rfl
theorem e102_21 : dek 102 21 = some (.ireturn, 1, [0]) := rfl
theorem C2_103 {z : SX} {d : Nat} {S : LW} {Z : ZT} {x1 x2 : Int32} (hd : 30 ≤ d) : C2 z d 103 [.ref 1, .int x1, .int x2] S Z = run2 (q103 x1 x2 S) Z := C2_sp (by decide) hd (Nat.le_of_ble_eq_true rfl)
theorem v102 {z : SX} {d : Nat} {g : GS} {n k : Nat} {ps : Nat → GS} {Z : ZT} {x1 x2 : Int32} (hd : 31 ≤ d) : C2 z d 102 [.ref 1, .int x1, .int x2] (g, n, ps, k) Z = run3 (q103 x1 x2 (g, n, ps, k)) Z := by
  rw [C2_e (mj := 102) (e := [.ref 1, .int x1, .int x2, UN, UN]) rfl (by omega) rfl (Nat.le_of_ble_eq_true rfl)]
  unfold q103
  simp (disch := first | assumption | omega) only [Nat.reduceAdd, mP_1, mP_0, X2_go, g4_some, stp, ldI, ldA, ldL, stI, stA, stL, o1I, o2I, o2L, brI, brII, gl, s1, s2, k1, sl, g3_sN, g3_sR, g3_sC, g3_if, g3_no, pops, b2_v, e102_0, e102_1, e102_2, e102_3, e102_6, e102_7, e102_10, e102_12, e102_14, e102_15, e102_17, e102_19, e102_20, e102_21, n_lt, n_le, n_eq, n_lt0, n_ge0, n_gt0, n_le0, n_eq0, m_lt, m_le, m_gt, m_ge, m_eq, m_eq', m_lt0, m_ge0, m_gt0, m_le0, m_ltm, m_lem, n_in, m_in, n_cl, n_ti, n_div, n_rem', n_dec, n_l, nI_add, pk_mul, an0, an1, decide_eq_true_eq, if_true, if_false, ite_true, ite_false, and_true, true_and, and_false, false_and, not_true, not_false_iff, or_false, false_or, or_true, true_or, eq_self, va_some, Bool.false_eq_true, reduceIte, catS_n, catS_i, catS_r, catS_l, catS_d, Nat.zero_add, Nat.add_zero, decide_true, decide_false, Nat.reduceLeDiff, cat_r, cat_i, cat_l, nle_T, nle_F, nlt_T, nlt_F, neq_T, neq_F, C2_103, q103, run2_if, run2_v, run2_x, run2_n, run3_v, run3_x0, run3_x1, run3_x2, run3_if, run3_n, b2_h (mi := 102) (pc := 3) (E := 0) (h := 10) rfl (show dec 102 10 = some (.astore 4, 2, []) from rfl), b2_h (mi := 102) (pc := 3) (E := 1) (h := 15) rfl (show dec 102 15 = some (.astore 4, 2, []) from rfl)]
theorem e105_0 : dek 105 0 = some (.aload_n 0, 1, []) := rfl
theorem e105_1 : dek 105 1 = some (.iload_n 1, 1, []) := rfl
theorem e105_2 : dek 105 2 = some (.iload_n 2, 1, []) := rfl
theorem e105_3 : dek 105 3 = some (.invokevirtual 44, 3, [2, 106, 2, 9, 0, 709, 0, 0]) := rfl
theorem e105_6 : dek 105 6 = some (.istore_n 3, 1, []) := rfl
theorem e105_7 : dek 105 7 = some (.goto 13, 3, [20]) := rfl
theorem e105_10 : dek 105 10 = some (.astore 4, 2, []) := rfl
theorem e105_12 : dek 105 12 = some (.ldc 17, 2, [8, 4289967293, 582]) := rfl
theorem e105_14 : dek 105 14 = some (.ireturn, 1, [0]) := rfl
theorem e105_15 : dek 105 15 = some (.astore 4, 2, []) := rfl
theorem e105_17 : dek 105 17 = some (.ldc 20, 2, [8, 4289967295, 498]) := rfl
theorem e105_19 : dek 105 19 = some (.ireturn, 1, [0]) := rfl
theorem e105_20 : dek 105 20 = some (.iload_n 3, 1, []) := rfl
theorem e105_21 : dek 105 21 = some (.ireturn, 1, [0]) := rfl
theorem C2_106 {z : SX} {d : Nat} {S : LW} {Z : ZT} {x1 x2 : Int32} (hd : 30 ≤ d) : C2 z d 106 [.ref 1, .int x1, .int x2] S Z = run2 (q106 x1 x2 S) Z := C2_sp (by decide) hd (Nat.le_of_ble_eq_true rfl)
theorem v105 {z : SX} {d : Nat} {g : GS} {n k : Nat} {ps : Nat → GS} {Z : ZT} {x1 x2 : Int32} (hd : 31 ≤ d) : C2 z d 105 [.ref 1, .int x1, .int x2] (g, n, ps, k) Z = run3 (q106 x1 x2 (g, n, ps, k)) Z := by
  rw [C2_e (mj := 105) (e := [.ref 1, .int x1, .int x2, UN, UN]) rfl (by omega) rfl (Nat.le_of_ble_eq_true rfl)]
  unfold q106
  simp (disch := first | assumption | omega) only [Nat.reduceAdd, mP_1, mP_0, X2_go, g4_some, stp, ldI, ldA, ldL, stI, stA, stL, o1I, o2I, o2L, brI, brII, gl, s1, s2, k1, sl, g3_sN, g3_sR, g3_sC, g3_if, g3_no, pops, b2_v, e105_0, e105_1, e105_2, e105_3, e105_6, e105_7, e105_10, e105_12, e105_14, e105_15, e105_17, e105_19, e105_20, e105_21, n_lt, n_le, n_eq, n_lt0, n_ge0, n_gt0, n_le0, n_eq0, m_lt, m_le, m_gt, m_ge, m_eq, m_eq', m_lt0, m_ge0, m_gt0, m_le0, m_ltm, m_lem, n_in, m_in, n_cl, n_ti, n_div, n_rem', n_dec, n_l, nI_add, pk_mul, an0, an1, decide_eq_true_eq, if_true, if_false, ite_true, ite_false, and_true, true_and, and_false, false_and, not_true, not_false_iff, or_false, false_or, or_true, true_or, eq_self, va_some, Bool.false_eq_true, reduceIte, catS_n, catS_i, catS_r, catS_l, catS_d, Nat.zero_add, Nat.add_zero, decide_true, decide_false, Nat.reduceLeDiff, cat_r, cat_i, cat_l, nle_T, nle_F, nlt_T, nlt_F, neq_T, neq_F, C2_106, q106, run2_if, run2_v, run2_x, run2_n, run3_v, run3_x0, run3_x1, run3_x2, run3_if, run3_n, b2_h (mi := 105) (pc := 3) (E := 0) (h := 10) rfl (show dec 105 10 = some (.astore 4, 2, []) from rfl), b2_h (mi := 105) (pc := 3) (E := 1) (h := 15) rfl (show dec 105 15 = some (.astore 4, 2, []) from rfl)]
theorem e107_0 : dek 107 0 = some (.aload_n 0, 1, []) := rfl
theorem e107_1 : dek 107 1 = some (.iload_n 1, 1, []) := rfl
theorem e107_2 : dek 107 2 = some (.iload_n 2, 1, []) := rfl
theorem e107_3 : dek 107 3 = some (.invokevirtual 47, 3, [2, 108, 2, 9, 0, 716, 0, 0]) := rfl
theorem e107_6 : dek 107 6 = some (.istore_n 3, 1, []) := rfl
theorem e107_7 : dek 107 7 = some (.goto 8, 3, [15]) := rfl
theorem e107_10 : dek 107 10 = some (.astore 4, 2, []) := rfl
theorem e107_12 : dek 107 12 = some (.ldc 20, 2, [8, 4289967295, 498]) := rfl
theorem e107_14 : dek 107 14 = some (.ireturn, 1, [0]) := rfl
theorem e107_15 : dek 107 15 = some (.iload_n 3, 1, []) := rfl
theorem e107_16 : dek 107 16 = some (.ireturn, 1, [0]) := rfl
theorem C2_108 {z : SX} {d : Nat} {S : LW} {Z : ZT} {x1 x2 : Int32} (hd : 30 ≤ d) : C2 z d 108 [.ref 1, .int x1, .int x2] S Z = run2 (q108 x1 x2 S) Z := C2_sp (by decide) hd (Nat.le_of_ble_eq_true rfl)
theorem v107 {z : SX} {d : Nat} {g : GS} {n k : Nat} {ps : Nat → GS} {Z : ZT} {x1 x2 : Int32} (hd : 31 ≤ d) : C2 z d 107 [.ref 1, .int x1, .int x2] (g, n, ps, k) Z = run3 (q108 x1 x2 (g, n, ps, k)) Z := by
  rw [C2_e (mj := 107) (e := [.ref 1, .int x1, .int x2, UN, UN]) rfl (by omega) rfl (Nat.le_of_ble_eq_true rfl)]
  unfold q108
  simp (disch := first | assumption | omega) only [Nat.reduceAdd, mP_1, mP_0, X2_go, g4_some, stp, ldI, ldA, ldL, stI, stA, stL, o1I, o2I, o2L, brI, brII, gl, s1, s2, k1, sl, g3_sN, g3_sR, g3_sC, g3_if, g3_no, pops, b2_v, e107_0, e107_1, e107_2, e107_3, e107_6, e107_7, e107_10, e107_12, e107_14, e107_15, e107_16, n_lt, n_le, n_eq, n_lt0, n_ge0, n_gt0, n_le0, n_eq0, m_lt, m_le, m_gt, m_ge, m_eq, m_eq', m_lt0, m_ge0, m_gt0, m_le0, m_ltm, m_lem, n_in, m_in, n_cl, n_ti, n_div, n_rem', n_dec, n_l, nI_add, pk_mul, an0, an1, decide_eq_true_eq, if_true, if_false, ite_true, ite_false, and_true, true_and, and_false, false_and, not_true, not_false_iff, or_false, false_or, or_true, true_or, eq_self, va_some, Bool.false_eq_true, reduceIte, catS_n, catS_i, catS_r, catS_l, catS_d, Nat.zero_add, Nat.add_zero, decide_true, decide_false, Nat.reduceLeDiff, cat_r, cat_i, cat_l, nle_T, nle_F, nlt_T, nlt_F, neq_T, neq_F, C2_108, q108, run2_if, run2_v, run2_x, run2_n, run3_v, run3_x0, run3_x1, run3_x2, run3_if, run3_n, b2_h (mi := 107) (pc := 3) (E := 1) (h := 10) rfl (show dec 107 10 = some (.astore 4, 2, []) from rfl)]
theorem e109_0 : dek 109 0 = some (.aload_n 0, 1, []) := rfl
theorem e109_1 : dek 109 1 = some (.iload_n 1, 1, []) := rfl
theorem e109_2 : dek 109 2 = some (.iload_n 2, 1, []) := rfl
theorem e109_3 : dek 109 3 = some (.invokevirtual 50, 3, [2, 110, 2, 9, 0, 609, 0, 0]) := rfl
theorem e109_6 : dek 109 6 = some (.istore_n 3, 1, []) := rfl
theorem e109_7 : dek 109 7 = some (.goto 8, 3, [15]) := rfl
theorem e109_10 : dek 109 10 = some (.astore 4, 2, []) := rfl
theorem e109_12 : dek 109 12 = some (.ldc 17, 2, [8, 4289967293, 582]) := rfl
theorem e109_14 : dek 109 14 = some (.ireturn, 1, [0]) := rfl
theorem e109_15 : dek 109 15 = some (.iload_n 3, 1, []) := rfl
theorem e109_16 : dek 109 16 = some (.ireturn, 1, [0]) := rfl
theorem C2_110 {z : SX} {d : Nat} {S : LW} {Z : ZT} {x1 x2 : Int32} (hd : 30 ≤ d) : C2 z d 110 [.ref 1, .int x1, .int x2] S Z = run2 (q110 x1 x2 S) Z := C2_sp (by decide) hd (Nat.le_of_ble_eq_true rfl)
theorem v109 {z : SX} {d : Nat} {g : GS} {n k : Nat} {ps : Nat → GS} {Z : ZT} {x1 x2 : Int32} (hd : 31 ≤ d) : C2 z d 109 [.ref 1, .int x1, .int x2] (g, n, ps, k) Z = run3 (q110 x1 x2 (g, n, ps, k)) Z := by
  rw [C2_e (mj := 109) (e := [.ref 1, .int x1, .int x2, UN, UN]) rfl (by omega) rfl (Nat.le_of_ble_eq_true rfl)]
  unfold q110
  simp (disch := first | assumption | omega) only [Nat.reduceAdd, mP_1, mP_0, X2_go, g4_some, stp, ldI, ldA, ldL, stI, stA, stL, o1I, o2I, o2L, brI, brII, gl, s1, s2, k1, sl, g3_sN, g3_sR, g3_sC, g3_if, g3_no, pops, b2_v, e109_0, e109_1, e109_2, e109_3, e109_6, e109_7, e109_10, e109_12, e109_14, e109_15, e109_16, n_lt, n_le, n_eq, n_lt0, n_ge0, n_gt0, n_le0, n_eq0, m_lt, m_le, m_gt, m_ge, m_eq, m_eq', m_lt0, m_ge0, m_gt0, m_le0, m_ltm, m_lem, n_in, m_in, n_cl, n_ti, n_div, n_rem', n_dec, n_l, nI_add, pk_mul, an0, an1, decide_eq_true_eq, if_true, if_false, ite_true, ite_false, and_true, true_and, and_false, false_and, not_true, not_false_iff, or_false, false_or, or_true, true_or, eq_self, va_some, Bool.false_eq_true, reduceIte, catS_n, catS_i, catS_r, catS_l, catS_d, Nat.zero_add, Nat.add_zero, decide_true, decide_false, Nat.reduceLeDiff, cat_r, cat_i, cat_l, nle_T, nle_F, nlt_T, nlt_F, neq_T, neq_F, C2_110, q110, run2_if, run2_v, run2_x, run2_n, run3_v, run3_x0, run3_x1, run3_x2, run3_if, run3_n, b2_h (mi := 109) (pc := 3) (E := 0) (h := 10) rfl (show dec 109 10 = some (.astore 4, 2, []) from rfl)]
theorem e111_0 : dek 111 0 = some (.aload_n 0, 1, []) := rfl
theorem e111_1 : dek 111 1 = some (.iload_n 1, 1, []) := rfl
theorem e111_2 : dek 111 2 = some (.invokevirtual 54, 3, [2, 112, 2, 9, 0, 430, 0]) := rfl
theorem e111_5 : dek 111 5 = some (.istore_n 2, 1, []) := rfl
theorem e111_6 : dek 111 6 = some (.goto 7, 3, [13]) := rfl
theorem e111_9 : dek 111 9 = some (.astore_n 3, 1, []) := rfl
theorem e111_10 : dek 111 10 = some (.ldc 20, 2, [8, 4289967295, 498]) := rfl
theorem e111_12 : dek 111 12 = some (.ireturn, 1, [0]) := rfl
theorem e111_13 : dek 111 13 = some (.iload_n 2, 1, []) := rfl
theorem e111_14 : dek 111 14 = some (.ireturn, 1, [0]) := rfl
theorem C2_112 {z : SX} {d : Nat} {S : LW} {Z : ZT} {x1 : Int32} (hd : 30 ≤ d) : C2 z d 112 [.ref 1, .int x1] S Z = run2 (q112 x1 S) Z := C2_sp (by decide) hd (Nat.le_of_ble_eq_true rfl)
theorem v111 {z : SX} {d : Nat} {g : GS} {n k : Nat} {ps : Nat → GS} {Z : ZT} {x1 : Int32} (hd : 31 ≤ d) : C2 z d 111 [.ref 1, .int x1] (g, n, ps, k) Z = run3 (q112 x1 (g, n, ps, k)) Z := by
  rw [C2_e (mj := 111) (e := [.ref 1, .int x1, UN, UN]) rfl (by omega) rfl (Nat.le_of_ble_eq_true rfl)]
  unfold q112
  simp (disch := first | assumption | omega) only [Nat.reduceAdd, mP_1, mP_0, X2_go, g4_some, stp, ldI, ldA, ldL, stI, stA, stL, o1I, o2I, o2L, brI, brII, gl, s1, s2, k1, sl, g3_sN, g3_sR, g3_sC, g3_if, g3_no, pops, b2_v, e111_0, e111_1, e111_2, e111_5, e111_6, e111_9, e111_10, e111_12, e111_13, e111_14, n_lt, n_le, n_eq, n_lt0, n_ge0, n_gt0, n_le0, n_eq0, m_lt, m_le, m_gt, m_ge, m_eq, m_eq', m_lt0, m_ge0, m_gt0, m_le0, m_ltm, m_lem, n_in, m_in, n_cl, n_ti, n_div, n_rem', n_dec, n_l, nI_add, pk_mul, an0, an1, decide_eq_true_eq, if_true, if_false, ite_true, ite_false, and_true, true_and, and_false, false_and, not_true, not_false_iff, or_false, false_or, or_true, true_or, eq_self, va_some, Bool.false_eq_true, reduceIte, catS_n, catS_i, catS_r, catS_l, catS_d, Nat.zero_add, Nat.add_zero, decide_true, decide_false, Nat.reduceLeDiff, cat_r, cat_i, cat_l, nle_T, nle_F, nlt_T, nlt_F, neq_T, neq_F, C2_112, q112, run2_if, run2_v, run2_x, run2_n, run3_v, run3_x0, run3_x1, run3_x2, run3_if, run3_n, b2_hn (mi := 111) (pc := 2) (E := 1) (h := 9) rfl (show dec 111 9 = some (.astore_n 3, 1, []) from rfl)]
theorem e113_0 : dek 113 0 = some (.aload_n 0, 1, []) := rfl
theorem e113_1 : dek 113 1 = some (.iload_n 1, 1, []) := rfl
theorem e113_2 : dek 113 2 = some (.invokevirtual 58, 3, [2, 114, 2, 9, 0, 724, 0]) := rfl
theorem e113_5 : dek 113 5 = some (.istore_n 2, 1, []) := rfl
theorem e113_6 : dek 113 6 = some (.goto 7, 3, [13]) := rfl
theorem e113_9 : dek 113 9 = some (.astore_n 3, 1, []) := rfl
theorem e113_10 : dek 113 10 = some (.ldc 17, 2, [8, 4289967293, 582]) := rfl
theorem e113_12 : dek 113 12 = some (.ireturn, 1, [0]) := rfl
theorem e113_13 : dek 113 13 = some (.iload_n 2, 1, []) := rfl
theorem e113_14 : dek 113 14 = some (.ireturn, 1, [0]) := rfl
theorem C2_114 {z : SX} {d : Nat} {S : LW} {Z : ZT} {x1 : Int32} (hd : 30 ≤ d) : C2 z d 114 [.ref 1, .int x1] S Z = run2 (q114 x1 S) Z := C2_sp (by decide) hd (Nat.le_of_ble_eq_true rfl)
theorem v113 {z : SX} {d : Nat} {g : GS} {n k : Nat} {ps : Nat → GS} {Z : ZT} {x1 : Int32} (hd : 31 ≤ d) : C2 z d 113 [.ref 1, .int x1] (g, n, ps, k) Z = run3 (q114 x1 (g, n, ps, k)) Z := by
  rw [C2_e (mj := 113) (e := [.ref 1, .int x1, UN, UN]) rfl (by omega) rfl (Nat.le_of_ble_eq_true rfl)]
  unfold q114
  simp (disch := first | assumption | omega) only [Nat.reduceAdd, mP_1, mP_0, X2_go, g4_some, stp, ldI, ldA, ldL, stI, stA, stL, o1I, o2I, o2L, brI, brII, gl, s1, s2, k1, sl, g3_sN, g3_sR, g3_sC, g3_if, g3_no, pops, b2_v, e113_0, e113_1, e113_2, e113_5, e113_6, e113_9, e113_10, e113_12, e113_13, e113_14, n_lt, n_le, n_eq, n_lt0, n_ge0, n_gt0, n_le0, n_eq0, m_lt, m_le, m_gt, m_ge, m_eq, m_eq', m_lt0, m_ge0, m_gt0, m_le0, m_ltm, m_lem, n_in, m_in, n_cl, n_ti, n_div, n_rem', n_dec, n_l, nI_add, pk_mul, an0, an1, decide_eq_true_eq, if_true, if_false, ite_true, ite_false, and_true, true_and, and_false, false_and, not_true, not_false_iff, or_false, false_or, or_true, true_or, eq_self, va_some, Bool.false_eq_true, reduceIte, catS_n, catS_i, catS_r, catS_l, catS_d, Nat.zero_add, Nat.add_zero, decide_true, decide_false, Nat.reduceLeDiff, cat_r, cat_i, cat_l, nle_T, nle_F, nlt_T, nlt_F, neq_T, neq_F, C2_114, q114, run2_if, run2_v, run2_x, run2_n, run3_v, run3_x0, run3_x1, run3_x2, run3_if, run3_n, b2_hn (mi := 113) (pc := 2) (E := 0) (h := 9) rfl (show dec 113 9 = some (.astore_n 3, 1, []) from rfl)]
theorem e123_0 : dek 123 0 = some (.aload_n 0, 1, []) := rfl
theorem e123_1 : dek 123 1 = some (.iload_n 1, 1, []) := rfl
theorem e123_2 : dek 123 2 = some (.iload_n 2, 1, []) := rfl
theorem e123_3 : dek 123 3 = some (.invokevirtual 61, 3, [2, 124, 2, 9, 0, 787, 0, 0]) := rfl
theorem e123_6 : dek 123 6 = some (.istore_n 3, 1, []) := rfl
theorem e123_7 : dek 123 7 = some (.goto 13, 3, [20]) := rfl
theorem e123_10 : dek 123 10 = some (.astore 4, 2, []) := rfl
theorem e123_12 : dek 123 12 = some (.ldc 17, 2, [8, 4289967293, 582]) := rfl
theorem e123_14 : dek 123 14 = some (.ireturn, 1, [0]) := rfl
theorem e123_15 : dek 123 15 = some (.astore 4, 2, []) := rfl
theorem e123_17 : dek 123 17 = some (.ldc 20, 2, [8, 4289967295, 498]) := rfl
theorem e123_19 : dek 123 19 = some (.ireturn, 1, [0]) := rfl
theorem e123_20 : dek 123 20 = some (.iload_n 3, 1, []) := rfl
theorem e123_21 : dek 123 21 = some (.ireturn, 1, [0]) := rfl
theorem C2_124 {z : SX} {d : Nat} {S : LW} {Z : ZT} {x1 x2 : Int32} (hd : 30 ≤ d) : C2 z d 124 [.ref 1, .int x1, .int x2] S Z = run2 (q124 x1 x2 S) Z := C2_sp (by decide) hd (Nat.le_of_ble_eq_true rfl)
theorem v123 {z : SX} {d : Nat} {g : GS} {n k : Nat} {ps : Nat → GS} {Z : ZT} {x1 x2 : Int32} (hd : 31 ≤ d) : C2 z d 123 [.ref 1, .int x1, .int x2] (g, n, ps, k) Z = run3 (q124 x1 x2 (g, n, ps, k)) Z := by
  rw [C2_e (mj := 123) (e := [.ref 1, .int x1, .int x2, UN, UN]) rfl (by omega) rfl (Nat.le_of_ble_eq_true rfl)]
  unfold q124
  simp (disch := first | assumption | omega) only [Nat.reduceAdd, mP_1, mP_0, X2_go, g4_some, stp, ldI, ldA, ldL, stI, stA, stL, o1I, o2I, o2L, brI, brII, gl, s1, s2, k1, sl, g3_sN, g3_sR, g3_sC, g3_if, g3_no, pops, b2_v, e123_0, e123_1, e123_2, e123_3, e123_6, e123_7, e123_10, e123_12, e123_14, e123_15, e123_17, e123_19, e123_20, e123_21, n_lt, n_le, n_eq, n_lt0, n_ge0, n_gt0, n_le0, n_eq0, m_lt, m_le, m_gt, m_ge, m_eq, m_eq', m_lt0, m_ge0, m_gt0, m_le0, m_ltm, m_lem, n_in, m_in, n_cl, n_ti, n_div, n_rem', n_dec, n_l, nI_add, pk_mul, an0, an1, decide_eq_true_eq, if_true, if_false, ite_true, ite_false, and_true, true_and, and_false, false_and, not_true, not_false_iff, or_false, false_or, or_true, true_or, eq_self, va_some, Bool.false_eq_true, reduceIte, catS_n, catS_i, catS_r, catS_l, catS_d, Nat.zero_add, Nat.add_zero, decide_true, decide_false, Nat.reduceLeDiff, cat_r, cat_i, cat_l, nle_T, nle_F, nlt_T, nlt_F, neq_T, neq_F, C2_124, q124, run2_if, run2_v, run2_x, run2_n, run3_v, run3_x0, run3_x1, run3_x2, run3_if, run3_n, b2_h (mi := 123) (pc := 3) (E := 0) (h := 10) rfl (show dec 123 10 = some (.astore 4, 2, []) from rfl), b2_h (mi := 123) (pc := 3) (E := 1) (h := 15) rfl (show dec 123 15 = some (.astore 4, 2, []) from rfl)]
theorem e125_0 : dek 125 0 = some (.aload_n 0, 1, []) := rfl
theorem e125_1 : dek 125 1 = some (.iload_n 1, 1, []) := rfl
theorem e125_2 : dek 125 2 = some (.iload_n 2, 1, []) := rfl
theorem e125_3 : dek 125 3 = some (.invokevirtual 64, 3, [2, 126, 2, 9, 0, 620, 0, 0]) := rfl
theorem e125_6 : dek 125 6 = some (.istore_n 3, 1, []) := rfl
theorem e125_7 : dek 125 7 = some (.goto 8, 3, [15]) := rfl
theorem e125_10 : dek 125 10 = some (.astore 4, 2, []) := rfl
theorem e125_12 : dek 125 12 = some (.ldc 20, 2, [8, 4289967295, 498]) := rfl
theorem e125_14 : dek 125 14 = some (.ireturn, 1, [0]) := rfl
theorem e125_15 : dek 125 15 = some (.iload_n 3, 1, []) := rfl
theorem e125_16 : dek 125 16 = some (.ireturn, 1, [0]) := rfl
theorem C2_126 {z : SX} {d : Nat} {S : LW} {Z : ZT} {x1 x2 : Int32} (hd : 30 ≤ d) : C2 z d 126 [.ref 1, .int x1, .int x2] S Z = run2 (q126 x1 x2 S) Z := C2_sp (by decide) hd (Nat.le_of_ble_eq_true rfl)
theorem v125 {z : SX} {d : Nat} {g : GS} {n k : Nat} {ps : Nat → GS} {Z : ZT} {x1 x2 : Int32} (hd : 31 ≤ d) : C2 z d 125 [.ref 1, .int x1, .int x2] (g, n, ps, k) Z = run3 (q126 x1 x2 (g, n, ps, k)) Z := by
  rw [C2_e (mj := 125) (e := [.ref 1, .int x1, .int x2, UN, UN]) rfl (by omega) rfl (Nat.le_of_ble_eq_true rfl)]
  unfold q126
  simp (disch := first | assumption | omega) only [Nat.reduceAdd, mP_1, mP_0, X2_go, g4_some, stp, ldI, ldA, ldL, stI, stA, stL, o1I, o2I, o2L, brI, brII, gl, s1, s2, k1, sl, g3_sN, g3_sR, g3_sC, g3_if, g3_no, pops, b2_v, e125_0, e125_1, e125_2, e125_3, e125_6, e125_7, e125_10, e125_12, e125_14, e125_15, e125_16, n_lt, n_le, n_eq, n_lt0, n_ge0, n_gt0, n_le0, n_eq0, m_lt, m_le, m_gt, m_ge, m_eq, m_eq', m_lt0, m_ge0, m_gt0, m_le0, m_ltm, m_lem, n_in, m_in, n_cl, n_ti, n_div, n_rem', n_dec, n_l, nI_add, pk_mul, an0, an1, decide_eq_true_eq, if_true, if_false, ite_true, ite_false, and_true, true_and, and_false, false_and, not_true, not_false_iff, or_false, false_or, or_true, true_or, eq_self, va_some, Bool.false_eq_true, reduceIte, catS_n, catS_i, catS_r, catS_l, catS_d, Nat.zero_add, Nat.add_zero, decide_true, decide_false, Nat.reduceLeDiff, cat_r, cat_i, cat_l, nle_T, nle_F, nlt_T, nlt_F, neq_T, neq_F, C2_126, q126, run2_if, run2_v, run2_x, run2_n, run3_v, run3_x0, run3_x1, run3_x2, run3_if, run3_n, b2_h (mi := 125) (pc := 3) (E := 1) (h := 10) rfl (show dec 125 10 = some (.astore 4, 2, []) from rfl)]
theorem e127_0 : dek 127 0 = some (.aload_n 0, 1, []) := rfl
theorem e127_1 : dek 127 1 = some (.iload_n 1, 1, []) := rfl
theorem e127_2 : dek 127 2 = some (.invokevirtual 67, 3, [2, 128, 2, 9, 0, 794, 0]) := rfl
theorem e127_5 : dek 127 5 = some (.istore_n 2, 1, []) := rfl
theorem e127_6 : dek 127 6 = some (.goto 7, 3, [13]) := rfl
theorem e127_9 : dek 127 9 = some (.astore_n 3, 1, []) := rfl
theorem e127_10 : dek 127 10 = some (.ldc 17, 2, [8, 4289967293, 582]) := rfl
theorem e127_12 : dek 127 12 = some (.ireturn, 1, [0]) := rfl
theorem e127_13 : dek 127 13 = some (.iload_n 2, 1, []) := rfl
theorem e127_14 : dek 127 14 = some (.ireturn, 1, [0]) := rfl
theorem C2_128 {z : SX} {d : Nat} {S : LW} {Z : ZT} {x1 : Int32} (hd : 30 ≤ d) : C2 z d 128 [.ref 1, .int x1] S Z = run2 (q128 x1 S) Z := C2_sp (by decide) hd (Nat.le_of_ble_eq_true rfl)
theorem v127 {z : SX} {d : Nat} {g : GS} {n k : Nat} {ps : Nat → GS} {Z : ZT} {x1 : Int32} (hd : 31 ≤ d) : C2 z d 127 [.ref 1, .int x1] (g, n, ps, k) Z = run3 (q128 x1 (g, n, ps, k)) Z := by
  rw [C2_e (mj := 127) (e := [.ref 1, .int x1, UN, UN]) rfl (by omega) rfl (Nat.le_of_ble_eq_true rfl)]
  unfold q128
  simp (disch := first | assumption | omega) only [Nat.reduceAdd, mP_1, mP_0, X2_go, g4_some, stp, ldI, ldA, ldL, stI, stA, stL, o1I, o2I, o2L, brI, brII, gl, s1, s2, k1, sl, g3_sN, g3_sR, g3_sC, g3_if, g3_no, pops, b2_v, e127_0, e127_1, e127_2, e127_5, e127_6, e127_9, e127_10, e127_12, e127_13, e127_14, n_lt, n_le, n_eq, n_lt0, n_ge0, n_gt0, n_le0, n_eq0, m_lt, m_le, m_gt, m_ge, m_eq, m_eq', m_lt0, m_ge0, m_gt0, m_le0, m_ltm, m_lem, n_in, m_in, n_cl, n_ti, n_div, n_rem', n_dec, n_l, nI_add, pk_mul, an0, an1, decide_eq_true_eq, if_true, if_false, ite_true, ite_false, and_true, true_and, and_false, false_and, not_true, not_false_iff, or_false, false_or, or_true, true_or, eq_self, va_some, Bool.false_eq_true, reduceIte, catS_n, catS_i, catS_r, catS_l, catS_d, Nat.zero_add, Nat.add_zero, decide_true, decide_false, Nat.reduceLeDiff, cat_r, cat_i, cat_l, nle_T, nle_F, nlt_T, nlt_F, neq_T, neq_F, C2_128, q128, run2_if, run2_v, run2_x, run2_n, run3_v, run3_x0, run3_x1, run3_x2, run3_if, run3_n, b2_hn (mi := 127) (pc := 2) (E := 0) (h := 9) rfl (show dec 127 9 = some (.astore_n 3, 1, []) from rfl)]
theorem e130_0 : dek 130 0 = some (.aload_n 0, 1, []) := rfl
theorem e130_1 : dek 130 1 = some (.iload_n 1, 1, []) := rfl
theorem e130_2 : dek 130 2 = some (.iload_n 2, 1, []) := rfl
theorem e130_3 : dek 130 3 = some (.iload_n 3, 1, []) := rfl
theorem e130_4 : dek 130 4 = some (.invokevirtual 70, 3, [2, 131, 2, 9, 0, 805, 0, 0, 0]) := rfl
theorem e130_7 : dek 130 7 = some (.istore 4, 2, []) := rfl
theorem e130_9 : dek 130 9 = some (.goto 8, 3, [17]) := rfl
theorem e130_12 : dek 130 12 = some (.astore 5, 2, []) := rfl
theorem e130_14 : dek 130 14 = some (.ldc 17, 2, [8, 4289967293, 582]) := rfl
theorem e130_16 : dek 130 16 = some (.ireturn, 1, [0]) := rfl
theorem e130_17 : dek 130 17 = some (.iload 4, 2, []) := rfl
theorem e130_19 : dek 130 19 = some (.ireturn, 1, [0]) := rfl
theorem C2_131 {z : SX} {d : Nat} {S : LW} {Z : ZT} {x1 x2 x3 : Int32} (hd : 30 ≤ d) : C2 z d 131 [.ref 1, .int x1, .int x2, .int x3] S Z = run2 (q131 x1 x2 x3 S) Z := C2_sp (by decide) hd (Nat.le_of_ble_eq_true rfl)
theorem v130 {z : SX} {d : Nat} {g : GS} {n k : Nat} {ps : Nat → GS} {Z : ZT} {x1 x2 x3 : Int32} (hd : 31 ≤ d) : C2 z d 130 [.ref 1, .int x1, .int x2, .int x3] (g, n, ps, k) Z = run3 (q131 x1 x2 x3 (g, n, ps, k)) Z := by
  rw [C2_e (mj := 130) (e := [.ref 1, .int x1, .int x2, .int x3, UN, UN]) rfl (by omega) rfl (Nat.le_of_ble_eq_true rfl)]
  unfold q131
  simp (disch := first | assumption | omega) only [Nat.reduceAdd, mP_1, mP_0, X2_go, g4_some, stp, ldI, ldA, ldL, stI, stA, stL, o1I, o2I, o2L, brI, brII, gl, s1, s2, k1, sl, g3_sN, g3_sR, g3_sC, g3_if, g3_no, pops, b2_v, e130_0, e130_1, e130_2, e130_3, e130_4, e130_7, e130_9, e130_12, e130_14, e130_16, e130_17, e130_19, n_lt, n_le, n_eq, n_lt0, n_ge0, n_gt0, n_le0, n_eq0, m_lt, m_le, m_gt, m_ge, m_eq, m_eq', m_lt0, m_ge0, m_gt0, m_le0, m_ltm, m_lem, n_in, m_in, n_cl, n_ti, n_div, n_rem', n_dec, n_l, nI_add, pk_mul, an0, an1, decide_eq_true_eq, if_true, if_false, ite_true, ite_false, and_true, true_and, and_false, false_and, not_true, not_false_iff, or_false, false_or, or_true, true_or, eq_self, va_some, Bool.false_eq_true, reduceIte, catS_n, catS_i, catS_r, catS_l, catS_d, Nat.zero_add, Nat.add_zero, decide_true, decide_false, Nat.reduceLeDiff, cat_r, cat_i, cat_l, nle_T, nle_F, nlt_T, nlt_F, neq_T, neq_F, C2_131, q131, run2_if, run2_v, run2_x, run2_n, run3_v, run3_x0, run3_x1, run3_x2, run3_if, run3_n, b2_h (mi := 130) (pc := 4) (E := 0) (h := 12) rfl (show dec 130 12 = some (.astore 5, 2, []) from rfl)]
theorem e133_0 : dek 133 0 = some (.aload_n 0, 1, []) := rfl
theorem e133_1 : dek 133 1 = some (.iload_n 1, 1, []) := rfl
theorem e133_2 : dek 133 2 = some (.iload_n 2, 1, []) := rfl
theorem e133_3 : dek 133 3 = some (.invokevirtual 74, 3, [2, 134, 2, 9, 0, 815, 0, 0]) := rfl
theorem e133_6 : dek 133 6 = some (.istore_n 3, 1, []) := rfl
theorem e133_7 : dek 133 7 = some (.goto 8, 3, [15]) := rfl
theorem e133_10 : dek 133 10 = some (.astore 4, 2, []) := rfl
theorem e133_12 : dek 133 12 = some (.ldc 17, 2, [8, 4289967293, 582]) := rfl
theorem e133_14 : dek 133 14 = some (.ireturn, 1, [0]) := rfl
theorem e133_15 : dek 133 15 = some (.iload_n 3, 1, []) := rfl
theorem e133_16 : dek 133 16 = some (.ireturn, 1, [0]) := rfl
theorem C2_134 {z : SX} {d : Nat} {S : LW} {Z : ZT} {x1 x2 : Int32} (hd : 30 ≤ d) : C2 z d 134 [.ref 1, .int x1, .int x2] S Z = run2 (q134 x1 x2 S) Z := C2_sp (by decide) hd (Nat.le_of_ble_eq_true rfl)
theorem v133 {z : SX} {d : Nat} {g : GS} {n k : Nat} {ps : Nat → GS} {Z : ZT} {x1 x2 : Int32} (hd : 31 ≤ d) : C2 z d 133 [.ref 1, .int x1, .int x2] (g, n, ps, k) Z = run3 (q134 x1 x2 (g, n, ps, k)) Z := by
  rw [C2_e (mj := 133) (e := [.ref 1, .int x1, .int x2, UN, UN]) rfl (by omega) rfl (Nat.le_of_ble_eq_true rfl)]
  unfold q134
  simp (disch := first | assumption | omega) only [Nat.reduceAdd, mP_1, mP_0, X2_go, g4_some, stp, ldI, ldA, ldL, stI, stA, stL, o1I, o2I, o2L, brI, brII, gl, s1, s2, k1, sl, g3_sN, g3_sR, g3_sC, g3_if, g3_no, pops, b2_v, e133_0, e133_1, e133_2, e133_3, e133_6, e133_7, e133_10, e133_12, e133_14, e133_15, e133_16, n_lt, n_le, n_eq, n_lt0, n_ge0, n_gt0, n_le0, n_eq0, m_lt, m_le, m_gt, m_ge, m_eq, m_eq', m_lt0, m_ge0, m_gt0, m_le0, m_ltm, m_lem, n_in, m_in, n_cl, n_ti, n_div, n_rem', n_dec, n_l, nI_add, pk_mul, an0, an1, decide_eq_true_eq, if_true, if_false, ite_true, ite_false, and_true, true_and, and_false, false_and, not_true, not_false_iff, or_false, false_or, or_true, true_or, eq_self, va_some, Bool.false_eq_true, reduceIte, catS_n, catS_i, catS_r, catS_l, catS_d, Nat.zero_add, Nat.add_zero, decide_true, decide_false, Nat.reduceLeDiff, cat_r, cat_i, cat_l, nle_T, nle_F, nlt_T, nlt_F, neq_T, neq_F, C2_134, q134, run2_if, run2_v, run2_x, run2_n, run3_v, run3_x0, run3_x1, run3_x2, run3_if, run3_n, b2_h (mi := 133) (pc := 3) (E := 0) (h := 10) rfl (show dec 133 10 = some (.astore 4, 2, []) from rfl)]
theorem e136_0 : dek 136 0 = some (.aload_n 0, 1, []) := rfl
theorem e136_1 : dek 136 1 = some (.iload_n 1, 1, []) := rfl
theorem e136_2 : dek 136 2 = some (.iload_n 2, 1, []) := rfl
theorem e136_3 : dek 136 3 = some (.invokevirtual 77, 3, [2, 137, 2, 9, 0, 861, 0, 0]) := rfl
theorem e136_6 : dek 136 6 = some (.istore_n 3, 1, []) := rfl
theorem e136_7 : dek 136 7 = some (.goto 13, 3, [20]) := rfl
theorem e136_10 : dek 136 10 = some (.astore 4, 2, []) := rfl
theorem e136_12 : dek 136 12 = some (.ldc 17, 2, [8, 4289967293, 582]) := rfl
theorem e136_14 : dek 136 14 = some (.ireturn, 1, [0]) := rfl
theorem e136_15 : dek 136 15 = some (.astore 4, 2, []) := rfl
theorem e136_17 : dek 136 17 = some (.ldc 20, 2, [8, 4289967295, 498]) := rfl
theorem e136_19 : dek 136 19 = some (.ireturn, 1, [0]) := rfl
theorem e136_20 : dek 136 20 = some (.iload_n 3, 1, []) := rfl
theorem e136_21 : dek 136 21 = some (.ireturn, 1, [0]) := rfl
theorem C2_137 {z : SX} {d : Nat} {S : LW} {Z : ZT} {x1 x2 : Int32} (hd : 30 ≤ d) : C2 z d 137 [.ref 1, .int x1, .int x2] S Z = run2 (q137 x1 x2 S) Z := C2_sp (by decide) hd (Nat.le_of_ble_eq_true rfl)
theorem v136 {z : SX} {d : Nat} {g : GS} {n k : Nat} {ps : Nat → GS} {Z : ZT} {x1 x2 : Int32} (hd : 31 ≤ d) : C2 z d 136 [.ref 1, .int x1, .int x2] (g, n, ps, k) Z = run3 (q137 x1 x2 (g, n, ps, k)) Z := by
  rw [C2_e (mj := 136) (e := [.ref 1, .int x1, .int x2, UN, UN]) rfl (by omega) rfl (Nat.le_of_ble_eq_true rfl)]
  unfold q137
  simp (disch := first | assumption | omega) only [Nat.reduceAdd, mP_1, mP_0, X2_go, g4_some, stp, ldI, ldA, ldL, stI, stA, stL, o1I, o2I, o2L, brI, brII, gl, s1, s2, k1, sl, g3_sN, g3_sR, g3_sC, g3_if, g3_no, pops, b2_v, e136_0, e136_1, e136_2, e136_3, e136_6, e136_7, e136_10, e136_12, e136_14, e136_15, e136_17, e136_19, e136_20, e136_21, n_lt, n_le, n_eq, n_lt0, n_ge0, n_gt0, n_le0, n_eq0, m_lt, m_le, m_gt, m_ge, m_eq, m_eq', m_lt0, m_ge0, m_gt0, m_le0, m_ltm, m_lem, n_in, m_in, n_cl, n_ti, n_div, n_rem', n_dec, n_l, nI_add, pk_mul, an0, an1, decide_eq_true_eq, if_true, if_false, ite_true, ite_false, and_true, true_and, and_false, false_and, not_true, not_false_iff, or_false, false_or, or_true, true_or, eq_self, va_some, Bool.false_eq_true, reduceIte, catS_n, catS_i, catS_r, catS_l, catS_d, Nat.zero_add, Nat.add_zero, decide_true, decide_false, Nat.reduceLeDiff, cat_r, cat_i, cat_l, nle_T, nle_F, nlt_T, nlt_F, neq_T, neq_F, C2_137, q137, run2_if, run2_v, run2_x, run2_n, run3_v, run3_x0, run3_x1, run3_x2, run3_if, run3_n, b2_h (mi := 136) (pc := 3) (E := 0) (h := 10) rfl (show dec 136 10 = some (.astore 4, 2, []) from rfl), b2_h (mi := 136) (pc := 3) (E := 1) (h := 15) rfl (show dec 136 15 = some (.astore 4, 2, []) from rfl)]
theorem e138_0 : dek 138 0 = some (.aload_n 0, 1, []) := rfl
theorem e138_1 : dek 138 1 = some (.iload_n 1, 1, []) := rfl
theorem e138_2 : dek 138 2 = some (.invokevirtual 80, 3, [2, 139, 2, 9, 0, 872, 0]) := rfl
theorem e138_5 : dek 138 5 = some (.lstore_n 2, 1, []) := rfl
theorem e138_6 : dek 138 6 = some (.goto 9, 3, [15]) := rfl
theorem e138_9 : dek 138 9 = some (.astore 4, 2, []) := rfl
theorem e138_11 : dek 138 11 = some (.ldc2_w 84, 3, [9, 18446744073704551613, 876]) := rfl
theorem e138_14 : dek 138 14 = some (.lreturn, 1, []) := rfl
theorem e138_15 : dek 138 15 = some (.lload_n 2, 1, []) := rfl
theorem e138_16 : dek 138 16 = some (.lreturn, 1, []) := rfl
theorem C2_139 {z : SX} {d : Nat} {S : LW} {Z : ZT} {x1 : Int32} (hd : 30 ≤ d) : C2 z d 139 [.ref 1, .int x1] S Z = run2 (q139 x1 S) Z := C2_sp (by decide) hd (Nat.le_of_ble_eq_true rfl)
theorem v138 {z : SX} {d : Nat} {g : GS} {n k : Nat} {ps : Nat → GS} {Z : ZT} {x1 : Int32} (hd : 31 ≤ d) : C2 z d 138 [.ref 1, .int x1] (g, n, ps, k) Z = runL (q139 x1 (g, n, ps, k)) Z := by
  rw [C2_e (mj := 138) (e := [.ref 1, .int x1, UN, UN, UN]) rfl (by omega) rfl (Nat.le_of_ble_eq_true rfl)]
  unfold q139
  simp (disch := first | assumption | omega) only [Nat.reduceAdd, mP_1, mP_0, X2_go, g4_some, stp, ldI, ldA, ldL, stI, stA, stL, o1I, o2I, o2L, brI, brII, gl, s1, s2, k1, sl, g3_sN, g3_sR, g3_sC, g3_if, g3_no, pops, b2_v, e138_0, e138_1, e138_2, e138_5, e138_6, e138_9, e138_11, e138_14, e138_15, e138_16, n_lt, n_le, n_eq, n_lt0, n_ge0, n_gt0, n_le0, n_eq0, m_lt, m_le, m_gt, m_ge, m_eq, m_eq', m_lt0, m_ge0, m_gt0, m_le0, m_ltm, m_lem, n_in, m_in, n_cl, n_ti, n_div, n_rem', n_dec, n_l, nI_add, pk_mul, an0, an1, decide_eq_true_eq, if_true, if_false, ite_true, ite_false, and_true, true_and, and_false, false_and, not_true, not_false_iff, or_false, false_or, or_true, true_or, eq_self, va_some, Bool.false_eq_true, reduceIte, catS_n, catS_i, catS_r, catS_l, catS_d, Nat.zero_add, Nat.add_zero, decide_true, decide_false, Nat.reduceLeDiff, cat_r, cat_i, cat_l, nle_T, nle_F, nlt_T, nlt_F, neq_T, neq_F, C2_139, q139, run2_if, run2_v, run2_x, run2_n, runL_v, runL_x, runL_if, b2_h (mi := 138) (pc := 2) (E := 0) (h := 9) rfl (show dec 138 9 = some (.astore 4, 2, []) from rfl)]
theorem e140_0 : dek 140 0 = some (.aload_n 0, 1, []) := rfl
theorem e140_1 : dek 140 1 = some (.iload_n 1, 1, []) := rfl
theorem e140_2 : dek 140 2 = some (.iload_n 2, 1, []) := rfl
theorem e140_3 : dek 140 3 = some (.invokevirtual 86, 3, [2, 141, 2, 9, 0, 880, 0, 0]) := rfl
theorem e140_6 : dek 140 6 = some (.istore_n 3, 1, []) := rfl
theorem e140_7 : dek 140 7 = some (.goto 8, 3, [15]) := rfl
theorem e140_10 : dek 140 10 = some (.astore 4, 2, []) := rfl
theorem e140_12 : dek 140 12 = some (.ldc 17, 2, [8, 4289967293, 582]) := rfl
theorem e140_14 : dek 140 14 = some (.ireturn, 1, [0]) := rfl
theorem e140_15 : dek 140 15 = some (.iload_n 3, 1, []) := rfl
theorem e140_16 : dek 140 16 = some (.ireturn, 1, [0]) := rfl
theorem C2_141 {z : SX} {d : Nat} {S : LW} {Z : ZT} {x1 x2 : Int32} (hd : 30 ≤ d) : C2 z d 141 [.ref 1, .int x1, .int x2] S Z = run2 (q141 x1 x2 S) Z := C2_sp (by decide) hd (Nat.le_of_ble_eq_true rfl)
theorem v140 {z : SX} {d : Nat} {g : GS} {n k : Nat} {ps : Nat → GS} {Z : ZT} {x1 x2 : Int32} (hd : 31 ≤ d) : C2 z d 140 [.ref 1, .int x1, .int x2] (g, n, ps, k) Z = run3 (q141 x1 x2 (g, n, ps, k)) Z := by
  rw [C2_e (mj := 140) (e := [.ref 1, .int x1, .int x2, UN, UN]) rfl (by omega) rfl (Nat.le_of_ble_eq_true rfl)]
  unfold q141
  simp (disch := first | assumption | omega) only [Nat.reduceAdd, mP_1, mP_0, X2_go, g4_some, stp, ldI, ldA, ldL, stI, stA, stL, o1I, o2I, o2L, brI, brII, gl, s1, s2, k1, sl, g3_sN, g3_sR, g3_sC, g3_if, g3_no, pops, b2_v, e140_0, e140_1, e140_2, e140_3, e140_6, e140_7, e140_10, e140_12, e140_14, e140_15, e140_16, n_lt, n_le, n_eq, n_lt0, n_ge0, n_gt0, n_le0, n_eq0, m_lt, m_le, m_gt, m_ge, m_eq, m_eq', m_lt0, m_ge0, m_gt0, m_le0, m_ltm, m_lem, n_in, m_in, n_cl, n_ti, n_div, n_rem', n_dec, n_l, nI_add, pk_mul, an0, an1, decide_eq_true_eq, if_true, if_false, ite_true, ite_false, and_true, true_and, and_false, false_and, not_true, not_false_iff, or_false, false_or, or_true, true_or, eq_self, va_some, Bool.false_eq_true, reduceIte, catS_n, catS_i, catS_r, catS_l, catS_d, Nat.zero_add, Nat.add_zero, decide_true, decide_false, Nat.reduceLeDiff, cat_r, cat_i, cat_l, nle_T, nle_F, nlt_T, nlt_F, neq_T, neq_F, C2_141, q141, run2_if, run2_v, run2_x, run2_n, run3_v, run3_x0, run3_x1, run3_x2, run3_if, run3_n, b2_h (mi := 140) (pc := 3) (E := 0) (h := 10) rfl (show dec 140 10 = some (.astore 4, 2, []) from rfl)]
theorem e142_0 : dek 142 0 = some (.aload_n 0, 1, []) := rfl
theorem e142_1 : dek 142 1 = some (.iload_n 1, 1, []) := rfl
theorem e142_2 : dek 142 2 = some (.iload_n 2, 1, []) := rfl
theorem e142_3 : dek 142 3 = some (.invokevirtual 89, 3, [2, 143, 2, 9, 0, 888, 0, 0]) := rfl
theorem e142_6 : dek 142 6 = some (.istore_n 3, 1, []) := rfl
theorem e142_7 : dek 142 7 = some (.goto 8, 3, [15]) := rfl
theorem e142_10 : dek 142 10 = some (.astore 4, 2, []) := rfl
theorem e142_12 : dek 142 12 = some (.ldc 17, 2, [8, 4289967293, 582]) := rfl
theorem e142_14 : dek 142 14 = some (.ireturn, 1, [0]) := rfl
theorem e142_15 : dek 142 15 = some (.iload_n 3, 1, []) := rfl
theorem e142_16 : dek 142 16 = some (.ireturn, 1, [0]) := rfl
theorem C2_143 {z : SX} {d : Nat} {S : LW} {Z : ZT} {x1 x2 : Int32} (hd : 30 ≤ d) : C2 z d 143 [.ref 1, .int x1, .int x2] S Z = run2 (q143 x1 x2 S) Z := C2_sp (by decide) hd (Nat.le_of_ble_eq_true rfl)
theorem v142 {z : SX} {d : Nat} {g : GS} {n k : Nat} {ps : Nat → GS} {Z : ZT} {x1 x2 : Int32} (hd : 31 ≤ d) : C2 z d 142 [.ref 1, .int x1, .int x2] (g, n, ps, k) Z = run3 (q143 x1 x2 (g, n, ps, k)) Z := by
  rw [C2_e (mj := 142) (e := [.ref 1, .int x1, .int x2, UN, UN]) rfl (by omega) rfl (Nat.le_of_ble_eq_true rfl)]
  unfold q143
  simp (disch := first | assumption | omega) only [Nat.reduceAdd, mP_1, mP_0, X2_go, g4_some, stp, ldI, ldA, ldL, stI, stA, stL, o1I, o2I, o2L, brI, brII, gl, s1, s2, k1, sl, g3_sN, g3_sR, g3_sC, g3_if, g3_no, pops, b2_v, e142_0, e142_1, e142_2, e142_3, e142_6, e142_7, e142_10, e142_12, e142_14, e142_15, e142_16, n_lt, n_le, n_eq, n_lt0, n_ge0, n_gt0, n_le0, n_eq0, m_lt, m_le, m_gt, m_ge, m_eq, m_eq', m_lt0, m_ge0, m_gt0, m_le0, m_ltm, m_lem, n_in, m_in, n_cl, n_ti, n_div, n_rem', n_dec, n_l, nI_add, pk_mul, an0, an1, decide_eq_true_eq, if_true, if_false, ite_true, ite_false, and_true, true_and, and_false, false_and, not_true, not_false_iff, or_false, false_or, or_true, true_or, eq_self, va_some, Bool.false_eq_true, reduceIte, catS_n, catS_i, catS_r, catS_l, catS_d, Nat.zero_add, Nat.add_zero, decide_true, decide_false, Nat.reduceLeDiff, cat_r, cat_i, cat_l, nle_T, nle_F, nlt_T, nlt_F, neq_T, neq_F, C2_143, q143, run2_if, run2_v, run2_x, run2_n, run3_v, run3_x0, run3_x1, run3_x2, run3_if, run3_n, b2_h (mi := 142) (pc := 3) (E := 0) (h := 10) rfl (show dec 142 10 = some (.astore 4, 2, []) from rfl)]
theorem e144_0 : dek 144 0 = some (.aload_n 0, 1, []) := rfl
theorem e144_1 : dek 144 1 = some (.iload_n 1, 1, []) := rfl
theorem e144_2 : dek 144 2 = some (.invokevirtual 92, 3, [2, 145, 2, 9, 0, 896, 0]) := rfl
theorem e144_5 : dek 144 5 = some (.istore_n 2, 1, []) := rfl
theorem e144_6 : dek 144 6 = some (.goto 11, 3, [17]) := rfl
theorem e144_9 : dek 144 9 = some (.astore_n 3, 1, []) := rfl
theorem e144_10 : dek 144 10 = some (.ldc 20, 2, [8, 4289967295, 498]) := rfl
theorem e144_12 : dek 144 12 = some (.ireturn, 1, [0]) := rfl
theorem e144_13 : dek 144 13 = some (.astore_n 3, 1, []) := rfl
theorem e144_14 : dek 144 14 = some (.ldc 27, 2, [8, 4289967294, 420]) := rfl
theorem e144_16 : dek 144 16 = some (.ireturn, 1, [0]) := rfl
theorem e144_17 : dek 144 17 = some (.iload_n 2, 1, []) := rfl
theorem e144_18 : dek 144 18 = some (.ireturn, 1, [0]) := rfl
theorem C2_145 {z : SX} {d : Nat} {S : LW} {Z : ZT} {x1 : Int32} (hd : 30 ≤ d) : C2 z d 145 [.ref 1, .int x1] S Z = run2 (q145 x1 S) Z := C2_sp (by decide) hd (Nat.le_of_ble_eq_true rfl)
theorem v144 {z : SX} {d : Nat} {g : GS} {n k : Nat} {ps : Nat → GS} {Z : ZT} {x1 : Int32} (hd : 31 ≤ d) : C2 z d 144 [.ref 1, .int x1] (g, n, ps, k) Z = run3 (q145 x1 (g, n, ps, k)) Z := by
  rw [C2_e (mj := 144) (e := [.ref 1, .int x1, UN, UN]) rfl (by omega) rfl (Nat.le_of_ble_eq_true rfl)]
  unfold q145
  simp (disch := first | assumption | omega) only [Nat.reduceAdd, mP_1, mP_0, X2_go, g4_some, stp, ldI, ldA, ldL, stI, stA, stL, o1I, o2I, o2L, brI, brII, gl, s1, s2, k1, sl, g3_sN, g3_sR, g3_sC, g3_if, g3_no, pops, b2_v, e144_0, e144_1, e144_2, e144_5, e144_6, e144_9, e144_10, e144_12, e144_13, e144_14, e144_16, e144_17, e144_18, n_lt, n_le, n_eq, n_lt0, n_ge0, n_gt0, n_le0, n_eq0, m_lt, m_le, m_gt, m_ge, m_eq, m_eq', m_lt0, m_ge0, m_gt0, m_le0, m_ltm, m_lem, n_in, m_in, n_cl, n_ti, n_div, n_rem', n_dec, n_l, nI_add, pk_mul, an0, an1, decide_eq_true_eq, if_true, if_false, ite_true, ite_false, and_true, true_and, and_false, false_and, not_true, not_false_iff, or_false, false_or, or_true, true_or, eq_self, va_some, Bool.false_eq_true, reduceIte, catS_n, catS_i, catS_r, catS_l, catS_d, Nat.zero_add, Nat.add_zero, decide_true, decide_false, Nat.reduceLeDiff, cat_r, cat_i, cat_l, nle_T, nle_F, nlt_T, nlt_F, neq_T, neq_F, C2_145, q145, run2_if, run2_v, run2_x, run2_n, run3_v, run3_x0, run3_x1, run3_x2, run3_if, run3_n, b2_hn (mi := 144) (pc := 2) (E := 1) (h := 9) rfl (show dec 144 9 = some (.astore_n 3, 1, []) from rfl), b2_hn (mi := 144) (pc := 2) (E := 2) (h := 13) rfl (show dec 144 13 = some (.astore_n 3, 1, []) from rfl)]
theorem e147_0 : dek 147 0 = some (.aload_n 0, 1, []) := rfl
theorem e147_1 : dek 147 1 = some (.invokevirtual 95, 3, [2, 148, 2, 9, 0, 307]) := rfl
theorem e147_4 : dek 147 4 = some (.istore_n 1, 1, []) := rfl
theorem e147_5 : dek 147 5 = some (.goto 7, 3, [12]) := rfl
theorem e147_8 : dek 147 8 = some (.astore_n 2, 1, []) := rfl
theorem e147_9 : dek 147 9 = some (.ldc 27, 2, [8, 4289967294, 420]) := rfl
theorem e147_11 : dek 147 11 = some (.ireturn, 1, [0]) := rfl
theorem e147_12 : dek 147 12 = some (.iload_n 1, 1, []) := rfl
theorem e147_13 : dek 147 13 = some (.ireturn, 1, [0]) := rfl
theorem C2_148 {z : SX} {d : Nat} {S : LW} {Z : ZT} (hd : 30 ≤ d) : C2 z d 148 [.ref 1] S Z = run2 (q148 S) Z := C2_sp (by decide) hd (Nat.le_of_ble_eq_true rfl)
theorem v147 {z : SX} {d : Nat} {g : GS} {n k : Nat} {ps : Nat → GS} {Z : ZT} (hd : 31 ≤ d) : C2 z d 147 [.ref 1] (g, n, ps, k) Z = run3 (q148 (g, n, ps, k)) Z := by
  rw [C2_e (mj := 147) (e := [.ref 1, UN, UN]) rfl (by omega) rfl (Nat.le_of_ble_eq_true rfl)]
  unfold q148
  simp (disch := first | assumption | omega) only [Nat.reduceAdd, mP_1, mP_0, X2_go, g4_some, stp, ldI, ldA, ldL, stI, stA, stL, o1I, o2I, o2L, brI, brII, gl, s1, s2, k1, sl, g3_sN, g3_sR, g3_sC, g3_if, g3_no, pops, b2_v, e147_0, e147_1, e147_4, e147_5, e147_8, e147_9, e147_11, e147_12, e147_13, n_lt, n_le, n_eq, n_lt0, n_ge0, n_gt0, n_le0, n_eq0, m_lt, m_le, m_gt, m_ge, m_eq, m_eq', m_lt0, m_ge0, m_gt0, m_le0, m_ltm, m_lem, n_in, m_in, n_cl, n_ti, n_div, n_rem', n_dec, n_l, nI_add, pk_mul, an0, an1, decide_eq_true_eq, if_true, if_false, ite_true, ite_false, and_true, true_and, and_false, false_and, not_true, not_false_iff, or_false, false_or, or_true, true_or, eq_self, va_some, Bool.false_eq_true, reduceIte, catS_n, catS_i, catS_r, catS_l, catS_d, Nat.zero_add, Nat.add_zero, decide_true, decide_false, Nat.reduceLeDiff, cat_r, cat_i, cat_l, nle_T, nle_F, nlt_T, nlt_F, neq_T, neq_F, C2_148, q148, run2_if, run2_v, run2_x, run2_n, run3_v, run3_x0, run3_x1, run3_x2, run3_if, run3_n, b2_hn (mi := 147) (pc := 1) (E := 2) (h := 8) rfl (show dec 147 8 = some (.astore_n 2, 1, []) from rfl)]
