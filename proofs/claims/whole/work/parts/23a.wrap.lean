/-! THE LAW: its wrappers -/
theorem bk_h {d mi pc : Nat} {ls st : List Value} {Q : QT} {E : Nat} {P : MP} {I : MI} {L : ML} {C : MC} {h k len : Nat} {rz : List Nat} (h1 : hfind (mG mi).2.2.2.2 pc E = some h) (h2 : dec mi h = some (.astore k, len, rz)) : bk d mi pc ls st Q (.inr E) P I L C = X d mi (h + 2) (s1 ls k UN) [] P I L C Q := by
  unfold bk
  dsimp only
  rw [h1]
  dsimp only
  unfold hgo
  rw [h2]
theorem bk_hn {d mi pc : Nat} {ls st : List Value} {Q : QT} {E : Nat} {P : MP} {I : MI} {L : ML} {C : MC} {h len : Nat} {k : Fin 4} {rz : List Nat} (h1 : hfind (mG mi).2.2.2.2 pc E = some h) (h2 : dec mi h = some (.astore_n k, len, rz)) : bk d mi pc ls st Q (.inr E) P I L C = X d mi (h + 1) (s1 ls ↑k UN) [] P I L C Q := by
  unfold bk
  dsimp only
  rw [h1]
  dsimp only
  unfold hgo
  rw [h2]
theorem d84_0 : dec 84 0 = some (.aload_n 3, 1, []) := rfl
theorem d84_1 : dec 84 1 = some (.iconst 0, 1, [0]) := rfl
theorem d84_2 : dec 84 2 = some (.aload_n 0, 1, []) := rfl
theorem d84_3 : dec 84 3 = some (.iload_n 1, 1, []) := rfl
theorem d84_4 : dec 84 4 = some (.iload_n 2, 1, []) := rfl
theorem d84_5 : dec 84 5 = some (.invokevirtual 7, 3, [2, 85, 2, 9, 0, 623, 0, 0]) := rfl
theorem d84_8 : dec 84 8 = some (.i2l, 1, []) := rfl
theorem d84_9 : dec 84 9 = some (.lastore, 1, []) := rfl
theorem d84_10 : dec 84 10 = some (.goto 11, 3, [21]) := rfl
theorem d84_13 : dec 84 13 = some (.astore 4, 2, []) := rfl
theorem d84_15 : dec 84 15 = some (.iconst 1, 1, [1]) := rfl
theorem d84_16 : dec 84 16 = some (.ireturn, 1, [0]) := rfl
theorem d84_17 : dec 84 17 = some (.astore 4, 2, []) := rfl
theorem d84_19 : dec 84 19 = some (.iconst 2, 1, [2]) := rfl
theorem d84_20 : dec 84 20 = some (.ireturn, 1, [0]) := rfl
theorem d84_21 : dec 84 21 = some (.iconst 0, 1, [0]) := rfl
theorem d84_22 : dec 84 22 = some (.ireturn, 1, [0]) := rfl
theorem l84 : mL 84 = 5 := rfl
theorem w84 {d : Nat} {P : MP} {I : MI} {L : ML} {C : MC} {Q : QT} {x1 x2 : Int32} {y : Int32} {I1 : MI} {L1 : ML} (h169 : P.1 169 = (21, 1)) (h1 : P.1 1 = (10, 0)) (h : ∀ Q, CT (d - 1) 85 [.ref 1, .int x1, .int x2] P I L C Q = Q (.inl (some (.int y))) P I1 L1 C) (hd : 1 ≤ d) : CT d 84 [.ref 1, .int x1, .int x2, .ref 169] P I L C Q = Q (.inl (some (.int (nI 0)))) P I1 (xu L1 169 0 y.toInt64) C := by
  rw [CT_e (mj := 84) (e := [.ref 1, .int x1, .int x2, .ref 169, UN]) (by omega) rfl (Nat.le_of_ble_eq_true rfl)]
  simp (disch := first | assumption | omega) only [Nat.reduceAdd, X_go, go2_some, stp, ldI, ldA, ldL, stI, stA, stL, o1I, o2I, o2L, brI, brII, gl, s1, s2, k1, sl, go_sN, go_sR, go_CT, go_sT, go_no, go_if, pops, bk_v, bk_0, d84_0, d84_1, d84_2, d84_3, d84_4, d84_5, d84_8, d84_9, d84_10, d84_13, d84_15, d84_16, d84_17, d84_19, d84_20, d84_21, d84_22, n_lt, n_le, n_eq, n_lt0, n_ge0, n_gt0, n_le0, n_eq0, m_lt, m_le, m_gt, m_ge, m_eq, m_eq', m_lt0, m_ge0, m_gt0, m_le0, m_ltm, m_lem, n_in, m_in, n_cl, n_ti, n_div, n_rem', n_dec, n_l, nI_add, pk_mul, an0, an1, decide_eq_true_eq, if_true, if_false, ite_true, ite_false, and_true, true_and, and_false, false_and, not_true, not_false_iff, or_false, false_or, or_true, true_or, eq_self, va_some, Bool.false_eq_true, reduceIte, catS_n, catS_i, catS_r, catS_l, catS_d, Nat.zero_add, Nat.add_zero, decide_true, decide_false, Nat.reduceLeDiff, cat_r, cat_i, cat_l, nle_T, nle_F, nlt_T, nlt_F, neq_T, neq_F, h169, h1, h]
  done
theorem w84_0 {d : Nat} {P : MP} {I : MI} {L : ML} {C : MC} {Q : QT} {x1 x2 : Int32} {C1 : MC} (h1 : P.1 1 = (10, 0)) (h : ∀ Q, CT (d - 1) 85 [.ref 1, .int x1, .int x2] P I L C Q = Q (.inr 0) P I L C1) (hd : 1 ≤ d) : CT d 84 [.ref 1, .int x1, .int x2, .ref 169] P I L C Q = Q (.inl (some (.int (nI 1)))) P I L C1 := by
  rw [CT_e (mj := 84) (e := [.ref 1, .int x1, .int x2, .ref 169, UN]) (by omega) rfl (Nat.le_of_ble_eq_true rfl)]
  simp (disch := first | assumption | omega) only [Nat.reduceAdd, X_go, go2_some, stp, ldI, ldA, ldL, stI, stA, stL, o1I, o2I, o2L, brI, brII, gl, s1, s2, k1, sl, go_sN, go_sR, go_CT, go_sT, go_no, go_if, pops, bk_v, bk_0, d84_0, d84_1, d84_2, d84_3, d84_4, d84_5, d84_8, d84_9, d84_10, d84_13, d84_15, d84_16, d84_17, d84_19, d84_20, d84_21, d84_22, n_lt, n_le, n_eq, n_lt0, n_ge0, n_gt0, n_le0, n_eq0, m_lt, m_le, m_gt, m_ge, m_eq, m_eq', m_lt0, m_ge0, m_gt0, m_le0, m_ltm, m_lem, n_in, m_in, n_cl, n_ti, n_div, n_rem', n_dec, n_l, nI_add, pk_mul, an0, an1, decide_eq_true_eq, if_true, if_false, ite_true, ite_false, and_true, true_and, and_false, false_and, not_true, not_false_iff, or_false, false_or, or_true, true_or, eq_self, va_some, Bool.false_eq_true, reduceIte, catS_n, catS_i, catS_r, catS_l, catS_d, Nat.zero_add, Nat.add_zero, decide_true, decide_false, Nat.reduceLeDiff, cat_r, cat_i, cat_l, nle_T, nle_F, nlt_T, nlt_F, neq_T, neq_F, h1, h, bk_h (mi := 84) (pc := 5) (E := 0) (h := 13) rfl d84_13]
  done
theorem w84_1 {d : Nat} {P : MP} {I : MI} {L : ML} {C : MC} {Q : QT} {x1 x2 : Int32} {C1 : MC} (h1 : P.1 1 = (10, 0)) (h : ∀ Q, CT (d - 1) 85 [.ref 1, .int x1, .int x2] P I L C Q = Q (.inr 1) P I L C1) (hd : 1 ≤ d) : CT d 84 [.ref 1, .int x1, .int x2, .ref 169] P I L C Q = Q (.inl (some (.int (nI 2)))) P I L C1 := by
  rw [CT_e (mj := 84) (e := [.ref 1, .int x1, .int x2, .ref 169, UN]) (by omega) rfl (Nat.le_of_ble_eq_true rfl)]
  simp (disch := first | assumption | omega) only [Nat.reduceAdd, X_go, go2_some, stp, ldI, ldA, ldL, stI, stA, stL, o1I, o2I, o2L, brI, brII, gl, s1, s2, k1, sl, go_sN, go_sR, go_CT, go_sT, go_no, go_if, pops, bk_v, bk_0, d84_0, d84_1, d84_2, d84_3, d84_4, d84_5, d84_8, d84_9, d84_10, d84_13, d84_15, d84_16, d84_17, d84_19, d84_20, d84_21, d84_22, n_lt, n_le, n_eq, n_lt0, n_ge0, n_gt0, n_le0, n_eq0, m_lt, m_le, m_gt, m_ge, m_eq, m_eq', m_lt0, m_ge0, m_gt0, m_le0, m_ltm, m_lem, n_in, m_in, n_cl, n_ti, n_div, n_rem', n_dec, n_l, nI_add, pk_mul, an0, an1, decide_eq_true_eq, if_true, if_false, ite_true, ite_false, and_true, true_and, and_false, false_and, not_true, not_false_iff, or_false, false_or, or_true, true_or, eq_self, va_some, Bool.false_eq_true, reduceIte, catS_n, catS_i, catS_r, catS_l, catS_d, Nat.zero_add, Nat.add_zero, decide_true, decide_false, Nat.reduceLeDiff, cat_r, cat_i, cat_l, nle_T, nle_F, nlt_T, nlt_F, neq_T, neq_F, h1, h, bk_h (mi := 84) (pc := 5) (E := 1) (h := 17) rfl d84_17]
  done
theorem d89_0 : dec 89 0 = some (.aload 7, 2, []) := rfl
theorem d89_2 : dec 89 2 = some (.iconst 0, 1, [0]) := rfl
theorem d89_3 : dec 89 3 = some (.aload_n 0, 1, []) := rfl
theorem d89_4 : dec 89 4 = some (.iload_n 1, 1, []) := rfl
theorem d89_5 : dec 89 5 = some (.iload_n 2, 1, []) := rfl
theorem d89_6 : dec 89 6 = some (.iload_n 3, 1, []) := rfl
theorem d89_7 : dec 89 7 = some (.iload 4, 2, []) := rfl
theorem d89_9 : dec 89 9 = some (.iload 5, 2, []) := rfl
theorem d89_11 : dec 89 11 = some (.iload 6, 2, []) := rfl
theorem d89_13 : dec 89 13 = some (.invokevirtual 17, 3, [2, 90, 2, 9, 0, 724, 0, 0, 0, 0, 0, 0]) := rfl
theorem d89_16 : dec 89 16 = some (.i2l, 1, []) := rfl
theorem d89_17 : dec 89 17 = some (.lastore, 1, []) := rfl
theorem d89_18 : dec 89 18 = some (.goto 15, 3, [33]) := rfl
theorem d89_21 : dec 89 21 = some (.astore 8, 2, []) := rfl
theorem d89_23 : dec 89 23 = some (.iconst 1, 1, [1]) := rfl
theorem d89_24 : dec 89 24 = some (.ireturn, 1, [0]) := rfl
theorem d89_25 : dec 89 25 = some (.astore 8, 2, []) := rfl
theorem d89_27 : dec 89 27 = some (.iconst 2, 1, [2]) := rfl
theorem d89_28 : dec 89 28 = some (.ireturn, 1, [0]) := rfl
theorem d89_29 : dec 89 29 = some (.astore 8, 2, []) := rfl
theorem d89_31 : dec 89 31 = some (.iconst 3, 1, [3]) := rfl
theorem d89_32 : dec 89 32 = some (.ireturn, 1, [0]) := rfl
theorem d89_33 : dec 89 33 = some (.iconst 0, 1, [0]) := rfl
theorem d89_34 : dec 89 34 = some (.ireturn, 1, [0]) := rfl
theorem l89 : mL 89 = 9 := rfl
theorem w89 {d : Nat} {P : MP} {I : MI} {L : ML} {C : MC} {Q : QT} {x1 x2 x3 x4 x5 x6 : Int32} {y : Int32} {I1 : MI} {L1 : ML} (h169 : P.1 169 = (21, 1)) (h1 : P.1 1 = (10, 0)) (h : ∀ Q, CT (d - 1) 90 [.ref 1, .int x1, .int x2, .int x3, .int x4, .int x5, .int x6] P I L C Q = Q (.inl (some (.int y))) P I1 L1 C) (hd : 1 ≤ d) : CT d 89 [.ref 1, .int x1, .int x2, .int x3, .int x4, .int x5, .int x6, .ref 169] P I L C Q = Q (.inl (some (.int (nI 0)))) P I1 (xu L1 169 0 y.toInt64) C := by
  rw [CT_e (mj := 89) (e := [.ref 1, .int x1, .int x2, .int x3, .int x4, .int x5, .int x6, .ref 169, UN]) (by omega) rfl (Nat.le_of_ble_eq_true rfl)]
  simp (disch := first | assumption | omega) only [Nat.reduceAdd, X_go, go2_some, stp, ldI, ldA, ldL, stI, stA, stL, o1I, o2I, o2L, brI, brII, gl, s1, s2, k1, sl, go_sN, go_sR, go_CT, go_sT, go_no, go_if, pops, bk_v, bk_0, d89_0, d89_2, d89_3, d89_4, d89_5, d89_6, d89_7, d89_9, d89_11, d89_13, d89_16, d89_17, d89_18, d89_21, d89_23, d89_24, d89_25, d89_27, d89_28, d89_29, d89_31, d89_32, d89_33, d89_34, n_lt, n_le, n_eq, n_lt0, n_ge0, n_gt0, n_le0, n_eq0, m_lt, m_le, m_gt, m_ge, m_eq, m_eq', m_lt0, m_ge0, m_gt0, m_le0, m_ltm, m_lem, n_in, m_in, n_cl, n_ti, n_div, n_rem', n_dec, n_l, nI_add, pk_mul, an0, an1, decide_eq_true_eq, if_true, if_false, ite_true, ite_false, and_true, true_and, and_false, false_and, not_true, not_false_iff, or_false, false_or, or_true, true_or, eq_self, va_some, Bool.false_eq_true, reduceIte, catS_n, catS_i, catS_r, catS_l, catS_d, Nat.zero_add, Nat.add_zero, decide_true, decide_false, Nat.reduceLeDiff, cat_r, cat_i, cat_l, nle_T, nle_F, nlt_T, nlt_F, neq_T, neq_F, h169, h1, h]
  done
theorem w89_0 {d : Nat} {P : MP} {I : MI} {L : ML} {C : MC} {Q : QT} {x1 x2 x3 x4 x5 x6 : Int32} {C1 : MC} (h1 : P.1 1 = (10, 0)) (h : ∀ Q, CT (d - 1) 90 [.ref 1, .int x1, .int x2, .int x3, .int x4, .int x5, .int x6] P I L C Q = Q (.inr 0) P I L C1) (hd : 1 ≤ d) : CT d 89 [.ref 1, .int x1, .int x2, .int x3, .int x4, .int x5, .int x6, .ref 169] P I L C Q = Q (.inl (some (.int (nI 1)))) P I L C1 := by
  rw [CT_e (mj := 89) (e := [.ref 1, .int x1, .int x2, .int x3, .int x4, .int x5, .int x6, .ref 169, UN]) (by omega) rfl (Nat.le_of_ble_eq_true rfl)]
  simp (disch := first | assumption | omega) only [Nat.reduceAdd, X_go, go2_some, stp, ldI, ldA, ldL, stI, stA, stL, o1I, o2I, o2L, brI, brII, gl, s1, s2, k1, sl, go_sN, go_sR, go_CT, go_sT, go_no, go_if, pops, bk_v, bk_0, d89_0, d89_2, d89_3, d89_4, d89_5, d89_6, d89_7, d89_9, d89_11, d89_13, d89_16, d89_17, d89_18, d89_21, d89_23, d89_24, d89_25, d89_27, d89_28, d89_29, d89_31, d89_32, d89_33, d89_34, n_lt, n_le, n_eq, n_lt0, n_ge0, n_gt0, n_le0, n_eq0, m_lt, m_le, m_gt, m_ge, m_eq, m_eq', m_lt0, m_ge0, m_gt0, m_le0, m_ltm, m_lem, n_in, m_in, n_cl, n_ti, n_div, n_rem', n_dec, n_l, nI_add, pk_mul, an0, an1, decide_eq_true_eq, if_true, if_false, ite_true, ite_false, and_true, true_and, and_false, false_and, not_true, not_false_iff, or_false, false_or, or_true, true_or, eq_self, va_some, Bool.false_eq_true, reduceIte, catS_n, catS_i, catS_r, catS_l, catS_d, Nat.zero_add, Nat.add_zero, decide_true, decide_false, Nat.reduceLeDiff, cat_r, cat_i, cat_l, nle_T, nle_F, nlt_T, nlt_F, neq_T, neq_F, h1, h, bk_h (mi := 89) (pc := 13) (E := 0) (h := 21) rfl d89_21]
  done
theorem w89_1 {d : Nat} {P : MP} {I : MI} {L : ML} {C : MC} {Q : QT} {x1 x2 x3 x4 x5 x6 : Int32} {C1 : MC} (h1 : P.1 1 = (10, 0)) (h : ∀ Q, CT (d - 1) 90 [.ref 1, .int x1, .int x2, .int x3, .int x4, .int x5, .int x6] P I L C Q = Q (.inr 1) P I L C1) (hd : 1 ≤ d) : CT d 89 [.ref 1, .int x1, .int x2, .int x3, .int x4, .int x5, .int x6, .ref 169] P I L C Q = Q (.inl (some (.int (nI 2)))) P I L C1 := by
  rw [CT_e (mj := 89) (e := [.ref 1, .int x1, .int x2, .int x3, .int x4, .int x5, .int x6, .ref 169, UN]) (by omega) rfl (Nat.le_of_ble_eq_true rfl)]
  simp (disch := first | assumption | omega) only [Nat.reduceAdd, X_go, go2_some, stp, ldI, ldA, ldL, stI, stA, stL, o1I, o2I, o2L, brI, brII, gl, s1, s2, k1, sl, go_sN, go_sR, go_CT, go_sT, go_no, go_if, pops, bk_v, bk_0, d89_0, d89_2, d89_3, d89_4, d89_5, d89_6, d89_7, d89_9, d89_11, d89_13, d89_16, d89_17, d89_18, d89_21, d89_23, d89_24, d89_25, d89_27, d89_28, d89_29, d89_31, d89_32, d89_33, d89_34, n_lt, n_le, n_eq, n_lt0, n_ge0, n_gt0, n_le0, n_eq0, m_lt, m_le, m_gt, m_ge, m_eq, m_eq', m_lt0, m_ge0, m_gt0, m_le0, m_ltm, m_lem, n_in, m_in, n_cl, n_ti, n_div, n_rem', n_dec, n_l, nI_add, pk_mul, an0, an1, decide_eq_true_eq, if_true, if_false, ite_true, ite_false, and_true, true_and, and_false, false_and, not_true, not_false_iff, or_false, false_or, or_true, true_or, eq_self, va_some, Bool.false_eq_true, reduceIte, catS_n, catS_i, catS_r, catS_l, catS_d, Nat.zero_add, Nat.add_zero, decide_true, decide_false, Nat.reduceLeDiff, cat_r, cat_i, cat_l, nle_T, nle_F, nlt_T, nlt_F, neq_T, neq_F, h1, h, bk_h (mi := 89) (pc := 13) (E := 1) (h := 25) rfl d89_25]
  done
theorem w89_2 {d : Nat} {P : MP} {I : MI} {L : ML} {C : MC} {Q : QT} {x1 x2 x3 x4 x5 x6 : Int32} {C1 : MC} (h1 : P.1 1 = (10, 0)) (h : ∀ Q, CT (d - 1) 90 [.ref 1, .int x1, .int x2, .int x3, .int x4, .int x5, .int x6] P I L C Q = Q (.inr 2) P I L C1) (hd : 1 ≤ d) : CT d 89 [.ref 1, .int x1, .int x2, .int x3, .int x4, .int x5, .int x6, .ref 169] P I L C Q = Q (.inl (some (.int (nI 3)))) P I L C1 := by
  rw [CT_e (mj := 89) (e := [.ref 1, .int x1, .int x2, .int x3, .int x4, .int x5, .int x6, .ref 169, UN]) (by omega) rfl (Nat.le_of_ble_eq_true rfl)]
  simp (disch := first | assumption | omega) only [Nat.reduceAdd, X_go, go2_some, stp, ldI, ldA, ldL, stI, stA, stL, o1I, o2I, o2L, brI, brII, gl, s1, s2, k1, sl, go_sN, go_sR, go_CT, go_sT, go_no, go_if, pops, bk_v, bk_0, d89_0, d89_2, d89_3, d89_4, d89_5, d89_6, d89_7, d89_9, d89_11, d89_13, d89_16, d89_17, d89_18, d89_21, d89_23, d89_24, d89_25, d89_27, d89_28, d89_29, d89_31, d89_32, d89_33, d89_34, n_lt, n_le, n_eq, n_lt0, n_ge0, n_gt0, n_le0, n_eq0, m_lt, m_le, m_gt, m_ge, m_eq, m_eq', m_lt0, m_ge0, m_gt0, m_le0, m_ltm, m_lem, n_in, m_in, n_cl, n_ti, n_div, n_rem', n_dec, n_l, nI_add, pk_mul, an0, an1, decide_eq_true_eq, if_true, if_false, ite_true, ite_false, and_true, true_and, and_false, false_and, not_true, not_false_iff, or_false, false_or, or_true, true_or, eq_self, va_some, Bool.false_eq_true, reduceIte, catS_n, catS_i, catS_r, catS_l, catS_d, Nat.zero_add, Nat.add_zero, decide_true, decide_false, Nat.reduceLeDiff, cat_r, cat_i, cat_l, nle_T, nle_F, nlt_T, nlt_F, neq_T, neq_F, h1, h, bk_h (mi := 89) (pc := 13) (E := 2) (h := 29) rfl d89_29]
  done
theorem d91_0 : dec 91 0 = some (.aload_n 3, 1, []) := rfl
theorem d91_1 : dec 91 1 = some (.iconst 0, 1, [0]) := rfl
theorem d91_2 : dec 91 2 = some (.aload_n 0, 1, []) := rfl
theorem d91_3 : dec 91 3 = some (.iload_n 1, 1, []) := rfl
theorem d91_4 : dec 91 4 = some (.iload_n 2, 1, []) := rfl
theorem d91_5 : dec 91 5 = some (.invokevirtual 23, 3, [2, 92, 2, 9, 0, 751, 0, 0]) := rfl
theorem d91_8 : dec 91 8 = some (.i2l, 1, []) := rfl
theorem d91_9 : dec 91 9 = some (.lastore, 1, []) := rfl
theorem d91_10 : dec 91 10 = some (.goto 7, 3, [17]) := rfl
theorem d91_13 : dec 91 13 = some (.astore 4, 2, []) := rfl
theorem d91_15 : dec 91 15 = some (.iconst 1, 1, [1]) := rfl
theorem d91_16 : dec 91 16 = some (.ireturn, 1, [0]) := rfl
theorem d91_17 : dec 91 17 = some (.iconst 0, 1, [0]) := rfl
theorem d91_18 : dec 91 18 = some (.ireturn, 1, [0]) := rfl
theorem l91 : mL 91 = 5 := rfl
theorem w91 {d : Nat} {P : MP} {I : MI} {L : ML} {C : MC} {Q : QT} {x1 x2 : Int32} {y : Int32} {I1 : MI} {L1 : ML} (h169 : P.1 169 = (21, 1)) (h1 : P.1 1 = (10, 0)) (h : ∀ Q, CT (d - 1) 92 [.ref 1, .int x1, .int x2] P I L C Q = Q (.inl (some (.int y))) P I1 L1 C) (hd : 1 ≤ d) : CT d 91 [.ref 1, .int x1, .int x2, .ref 169] P I L C Q = Q (.inl (some (.int (nI 0)))) P I1 (xu L1 169 0 y.toInt64) C := by
  rw [CT_e (mj := 91) (e := [.ref 1, .int x1, .int x2, .ref 169, UN]) (by omega) rfl (Nat.le_of_ble_eq_true rfl)]
  simp (disch := first | assumption | omega) only [Nat.reduceAdd, X_go, go2_some, stp, ldI, ldA, ldL, stI, stA, stL, o1I, o2I, o2L, brI, brII, gl, s1, s2, k1, sl, go_sN, go_sR, go_CT, go_sT, go_no, go_if, pops, bk_v, bk_0, d91_0, d91_1, d91_2, d91_3, d91_4, d91_5, d91_8, d91_9, d91_10, d91_13, d91_15, d91_16, d91_17, d91_18, n_lt, n_le, n_eq, n_lt0, n_ge0, n_gt0, n_le0, n_eq0, m_lt, m_le, m_gt, m_ge, m_eq, m_eq', m_lt0, m_ge0, m_gt0, m_le0, m_ltm, m_lem, n_in, m_in, n_cl, n_ti, n_div, n_rem', n_dec, n_l, nI_add, pk_mul, an0, an1, decide_eq_true_eq, if_true, if_false, ite_true, ite_false, and_true, true_and, and_false, false_and, not_true, not_false_iff, or_false, false_or, or_true, true_or, eq_self, va_some, Bool.false_eq_true, reduceIte, catS_n, catS_i, catS_r, catS_l, catS_d, Nat.zero_add, Nat.add_zero, decide_true, decide_false, Nat.reduceLeDiff, cat_r, cat_i, cat_l, nle_T, nle_F, nlt_T, nlt_F, neq_T, neq_F, h169, h1, h]
  done
theorem w91_0 {d : Nat} {P : MP} {I : MI} {L : ML} {C : MC} {Q : QT} {x1 x2 : Int32} {C1 : MC} (h1 : P.1 1 = (10, 0)) (h : ∀ Q, CT (d - 1) 92 [.ref 1, .int x1, .int x2] P I L C Q = Q (.inr 0) P I L C1) (hd : 1 ≤ d) : CT d 91 [.ref 1, .int x1, .int x2, .ref 169] P I L C Q = Q (.inl (some (.int (nI 1)))) P I L C1 := by
  rw [CT_e (mj := 91) (e := [.ref 1, .int x1, .int x2, .ref 169, UN]) (by omega) rfl (Nat.le_of_ble_eq_true rfl)]
  simp (disch := first | assumption | omega) only [Nat.reduceAdd, X_go, go2_some, stp, ldI, ldA, ldL, stI, stA, stL, o1I, o2I, o2L, brI, brII, gl, s1, s2, k1, sl, go_sN, go_sR, go_CT, go_sT, go_no, go_if, pops, bk_v, bk_0, d91_0, d91_1, d91_2, d91_3, d91_4, d91_5, d91_8, d91_9, d91_10, d91_13, d91_15, d91_16, d91_17, d91_18, n_lt, n_le, n_eq, n_lt0, n_ge0, n_gt0, n_le0, n_eq0, m_lt, m_le, m_gt, m_ge, m_eq, m_eq', m_lt0, m_ge0, m_gt0, m_le0, m_ltm, m_lem, n_in, m_in, n_cl, n_ti, n_div, n_rem', n_dec, n_l, nI_add, pk_mul, an0, an1, decide_eq_true_eq, if_true, if_false, ite_true, ite_false, and_true, true_and, and_false, false_and, not_true, not_false_iff, or_false, false_or, or_true, true_or, eq_self, va_some, Bool.false_eq_true, reduceIte, catS_n, catS_i, catS_r, catS_l, catS_d, Nat.zero_add, Nat.add_zero, decide_true, decide_false, Nat.reduceLeDiff, cat_r, cat_i, cat_l, nle_T, nle_F, nlt_T, nlt_F, neq_T, neq_F, h1, h, bk_h (mi := 91) (pc := 5) (E := 0) (h := 13) rfl d91_13]
  done
theorem d96_0 : dec 96 0 = some (.aload 4, 2, []) := rfl
theorem d96_2 : dec 96 2 = some (.iconst 0, 1, [0]) := rfl
theorem d96_3 : dec 96 3 = some (.aload_n 0, 1, []) := rfl
theorem d96_4 : dec 96 4 = some (.iload_n 1, 1, []) := rfl
theorem d96_5 : dec 96 5 = some (.iload_n 2, 1, []) := rfl
theorem d96_6 : dec 96 6 = some (.iload_n 3, 1, []) := rfl
theorem d96_7 : dec 96 7 = some (.invokevirtual 26, 3, [2, 97, 2, 9, 0, 771, 0, 0, 0]) := rfl
theorem d96_10 : dec 96 10 = some (.i2l, 1, []) := rfl
theorem d96_11 : dec 96 11 = some (.lastore, 1, []) := rfl
theorem d96_12 : dec 96 12 = some (.goto 11, 3, [23]) := rfl
theorem d96_15 : dec 96 15 = some (.astore 5, 2, []) := rfl
theorem d96_17 : dec 96 17 = some (.iconst 1, 1, [1]) := rfl
theorem d96_18 : dec 96 18 = some (.ireturn, 1, [0]) := rfl
theorem d96_19 : dec 96 19 = some (.astore 5, 2, []) := rfl
theorem d96_21 : dec 96 21 = some (.iconst 2, 1, [2]) := rfl
theorem d96_22 : dec 96 22 = some (.ireturn, 1, [0]) := rfl
theorem d96_23 : dec 96 23 = some (.iconst 0, 1, [0]) := rfl
theorem d96_24 : dec 96 24 = some (.ireturn, 1, [0]) := rfl
theorem l96 : mL 96 = 6 := rfl
theorem w96 {d : Nat} {P : MP} {I : MI} {L : ML} {C : MC} {Q : QT} {x1 x2 x3 : Int32} {y : Int32} {I1 : MI} {L1 : ML} (h169 : P.1 169 = (21, 1)) (h1 : P.1 1 = (10, 0)) (h : ∀ Q, CT (d - 1) 97 [.ref 1, .int x1, .int x2, .int x3] P I L C Q = Q (.inl (some (.int y))) P I1 L1 C) (hd : 1 ≤ d) : CT d 96 [.ref 1, .int x1, .int x2, .int x3, .ref 169] P I L C Q = Q (.inl (some (.int (nI 0)))) P I1 (xu L1 169 0 y.toInt64) C := by
  rw [CT_e (mj := 96) (e := [.ref 1, .int x1, .int x2, .int x3, .ref 169, UN]) (by omega) rfl (Nat.le_of_ble_eq_true rfl)]
  simp (disch := first | assumption | omega) only [Nat.reduceAdd, X_go, go2_some, stp, ldI, ldA, ldL, stI, stA, stL, o1I, o2I, o2L, brI, brII, gl, s1, s2, k1, sl, go_sN, go_sR, go_CT, go_sT, go_no, go_if, pops, bk_v, bk_0, d96_0, d96_2, d96_3, d96_4, d96_5, d96_6, d96_7, d96_10, d96_11, d96_12, d96_15, d96_17, d96_18, d96_19, d96_21, d96_22, d96_23, d96_24, n_lt, n_le, n_eq, n_lt0, n_ge0, n_gt0, n_le0, n_eq0, m_lt, m_le, m_gt, m_ge, m_eq, m_eq', m_lt0, m_ge0, m_gt0, m_le0, m_ltm, m_lem, n_in, m_in, n_cl, n_ti, n_div, n_rem', n_dec, n_l, nI_add, pk_mul, an0, an1, decide_eq_true_eq, if_true, if_false, ite_true, ite_false, and_true, true_and, and_false, false_and, not_true, not_false_iff, or_false, false_or, or_true, true_or, eq_self, va_some, Bool.false_eq_true, reduceIte, catS_n, catS_i, catS_r, catS_l, catS_d, Nat.zero_add, Nat.add_zero, decide_true, decide_false, Nat.reduceLeDiff, cat_r, cat_i, cat_l, nle_T, nle_F, nlt_T, nlt_F, neq_T, neq_F, h169, h1, h]
  done
theorem w96_0 {d : Nat} {P : MP} {I : MI} {L : ML} {C : MC} {Q : QT} {x1 x2 x3 : Int32} {C1 : MC} (h1 : P.1 1 = (10, 0)) (h : ∀ Q, CT (d - 1) 97 [.ref 1, .int x1, .int x2, .int x3] P I L C Q = Q (.inr 0) P I L C1) (hd : 1 ≤ d) : CT d 96 [.ref 1, .int x1, .int x2, .int x3, .ref 169] P I L C Q = Q (.inl (some (.int (nI 1)))) P I L C1 := by
  rw [CT_e (mj := 96) (e := [.ref 1, .int x1, .int x2, .int x3, .ref 169, UN]) (by omega) rfl (Nat.le_of_ble_eq_true rfl)]
  simp (disch := first | assumption | omega) only [Nat.reduceAdd, X_go, go2_some, stp, ldI, ldA, ldL, stI, stA, stL, o1I, o2I, o2L, brI, brII, gl, s1, s2, k1, sl, go_sN, go_sR, go_CT, go_sT, go_no, go_if, pops, bk_v, bk_0, d96_0, d96_2, d96_3, d96_4, d96_5, d96_6, d96_7, d96_10, d96_11, d96_12, d96_15, d96_17, d96_18, d96_19, d96_21, d96_22, d96_23, d96_24, n_lt, n_le, n_eq, n_lt0, n_ge0, n_gt0, n_le0, n_eq0, m_lt, m_le, m_gt, m_ge, m_eq, m_eq', m_lt0, m_ge0, m_gt0, m_le0, m_ltm, m_lem, n_in, m_in, n_cl, n_ti, n_div, n_rem', n_dec, n_l, nI_add, pk_mul, an0, an1, decide_eq_true_eq, if_true, if_false, ite_true, ite_false, and_true, true_and, and_false, false_and, not_true, not_false_iff, or_false, false_or, or_true, true_or, eq_self, va_some, Bool.false_eq_true, reduceIte, catS_n, catS_i, catS_r, catS_l, catS_d, Nat.zero_add, Nat.add_zero, decide_true, decide_false, Nat.reduceLeDiff, cat_r, cat_i, cat_l, nle_T, nle_F, nlt_T, nlt_F, neq_T, neq_F, h1, h, bk_h (mi := 96) (pc := 7) (E := 0) (h := 15) rfl d96_15]
  done
theorem w96_1 {d : Nat} {P : MP} {I : MI} {L : ML} {C : MC} {Q : QT} {x1 x2 x3 : Int32} {C1 : MC} (h1 : P.1 1 = (10, 0)) (h : ∀ Q, CT (d - 1) 97 [.ref 1, .int x1, .int x2, .int x3] P I L C Q = Q (.inr 1) P I L C1) (hd : 1 ≤ d) : CT d 96 [.ref 1, .int x1, .int x2, .int x3, .ref 169] P I L C Q = Q (.inl (some (.int (nI 2)))) P I L C1 := by
  rw [CT_e (mj := 96) (e := [.ref 1, .int x1, .int x2, .int x3, .ref 169, UN]) (by omega) rfl (Nat.le_of_ble_eq_true rfl)]
  simp (disch := first | assumption | omega) only [Nat.reduceAdd, X_go, go2_some, stp, ldI, ldA, ldL, stI, stA, stL, o1I, o2I, o2L, brI, brII, gl, s1, s2, k1, sl, go_sN, go_sR, go_CT, go_sT, go_no, go_if, pops, bk_v, bk_0, d96_0, d96_2, d96_3, d96_4, d96_5, d96_6, d96_7, d96_10, d96_11, d96_12, d96_15, d96_17, d96_18, d96_19, d96_21, d96_22, d96_23, d96_24, n_lt, n_le, n_eq, n_lt0, n_ge0, n_gt0, n_le0, n_eq0, m_lt, m_le, m_gt, m_ge, m_eq, m_eq', m_lt0, m_ge0, m_gt0, m_le0, m_ltm, m_lem, n_in, m_in, n_cl, n_ti, n_div, n_rem', n_dec, n_l, nI_add, pk_mul, an0, an1, decide_eq_true_eq, if_true, if_false, ite_true, ite_false, and_true, true_and, and_false, false_and, not_true, not_false_iff, or_false, false_or, or_true, true_or, eq_self, va_some, Bool.false_eq_true, reduceIte, catS_n, catS_i, catS_r, catS_l, catS_d, Nat.zero_add, Nat.add_zero, decide_true, decide_false, Nat.reduceLeDiff, cat_r, cat_i, cat_l, nle_T, nle_F, nlt_T, nlt_F, neq_T, neq_F, h1, h, bk_h (mi := 96) (pc := 7) (E := 1) (h := 19) rfl d96_19]
  done
theorem d98_0 : dec 98 0 = some (.aload 4, 2, []) := rfl
theorem d98_2 : dec 98 2 = some (.iconst 0, 1, [0]) := rfl
theorem d98_3 : dec 98 3 = some (.aload_n 0, 1, []) := rfl
theorem d98_4 : dec 98 4 = some (.iload_n 1, 1, []) := rfl
theorem d98_5 : dec 98 5 = some (.iload_n 2, 1, []) := rfl
theorem d98_6 : dec 98 6 = some (.iload_n 3, 1, []) := rfl
theorem d98_7 : dec 98 7 = some (.invokevirtual 30, 3, [2, 99, 2, 9, 0, 778, 0, 0, 0]) := rfl
theorem d98_10 : dec 98 10 = some (.i2l, 1, []) := rfl
theorem d98_11 : dec 98 11 = some (.lastore, 1, []) := rfl
theorem d98_12 : dec 98 12 = some (.goto 11, 3, [23]) := rfl
theorem d98_15 : dec 98 15 = some (.astore 5, 2, []) := rfl
theorem d98_17 : dec 98 17 = some (.iconst 1, 1, [1]) := rfl
theorem d98_18 : dec 98 18 = some (.ireturn, 1, [0]) := rfl
theorem d98_19 : dec 98 19 = some (.astore 5, 2, []) := rfl
theorem d98_21 : dec 98 21 = some (.iconst 2, 1, [2]) := rfl
theorem d98_22 : dec 98 22 = some (.ireturn, 1, [0]) := rfl
theorem d98_23 : dec 98 23 = some (.iconst 0, 1, [0]) := rfl
theorem d98_24 : dec 98 24 = some (.ireturn, 1, [0]) := rfl
theorem l98 : mL 98 = 6 := rfl
theorem w98 {d : Nat} {P : MP} {I : MI} {L : ML} {C : MC} {Q : QT} {x1 x2 x3 : Int32} {y : Int32} {I1 : MI} {L1 : ML} (h169 : P.1 169 = (21, 1)) (h1 : P.1 1 = (10, 0)) (h : ∀ Q, CT (d - 1) 99 [.ref 1, .int x1, .int x2, .int x3] P I L C Q = Q (.inl (some (.int y))) P I1 L1 C) (hd : 1 ≤ d) : CT d 98 [.ref 1, .int x1, .int x2, .int x3, .ref 169] P I L C Q = Q (.inl (some (.int (nI 0)))) P I1 (xu L1 169 0 y.toInt64) C := by
  rw [CT_e (mj := 98) (e := [.ref 1, .int x1, .int x2, .int x3, .ref 169, UN]) (by omega) rfl (Nat.le_of_ble_eq_true rfl)]
  simp (disch := first | assumption | omega) only [Nat.reduceAdd, X_go, go2_some, stp, ldI, ldA, ldL, stI, stA, stL, o1I, o2I, o2L, brI, brII, gl, s1, s2, k1, sl, go_sN, go_sR, go_CT, go_sT, go_no, go_if, pops, bk_v, bk_0, d98_0, d98_2, d98_3, d98_4, d98_5, d98_6, d98_7, d98_10, d98_11, d98_12, d98_15, d98_17, d98_18, d98_19, d98_21, d98_22, d98_23, d98_24, n_lt, n_le, n_eq, n_lt0, n_ge0, n_gt0, n_le0, n_eq0, m_lt, m_le, m_gt, m_ge, m_eq, m_eq', m_lt0, m_ge0, m_gt0, m_le0, m_ltm, m_lem, n_in, m_in, n_cl, n_ti, n_div, n_rem', n_dec, n_l, nI_add, pk_mul, an0, an1, decide_eq_true_eq, if_true, if_false, ite_true, ite_false, and_true, true_and, and_false, false_and, not_true, not_false_iff, or_false, false_or, or_true, true_or, eq_self, va_some, Bool.false_eq_true, reduceIte, catS_n, catS_i, catS_r, catS_l, catS_d, Nat.zero_add, Nat.add_zero, decide_true, decide_false, Nat.reduceLeDiff, cat_r, cat_i, cat_l, nle_T, nle_F, nlt_T, nlt_F, neq_T, neq_F, h169, h1, h]
  done
theorem w98_0 {d : Nat} {P : MP} {I : MI} {L : ML} {C : MC} {Q : QT} {x1 x2 x3 : Int32} {C1 : MC} (h1 : P.1 1 = (10, 0)) (h : ∀ Q, CT (d - 1) 99 [.ref 1, .int x1, .int x2, .int x3] P I L C Q = Q (.inr 0) P I L C1) (hd : 1 ≤ d) : CT d 98 [.ref 1, .int x1, .int x2, .int x3, .ref 169] P I L C Q = Q (.inl (some (.int (nI 1)))) P I L C1 := by
  rw [CT_e (mj := 98) (e := [.ref 1, .int x1, .int x2, .int x3, .ref 169, UN]) (by omega) rfl (Nat.le_of_ble_eq_true rfl)]
  simp (disch := first | assumption | omega) only [Nat.reduceAdd, X_go, go2_some, stp, ldI, ldA, ldL, stI, stA, stL, o1I, o2I, o2L, brI, brII, gl, s1, s2, k1, sl, go_sN, go_sR, go_CT, go_sT, go_no, go_if, pops, bk_v, bk_0, d98_0, d98_2, d98_3, d98_4, d98_5, d98_6, d98_7, d98_10, d98_11, d98_12, d98_15, d98_17, d98_18, d98_19, d98_21, d98_22, d98_23, d98_24, n_lt, n_le, n_eq, n_lt0, n_ge0, n_gt0, n_le0, n_eq0, m_lt, m_le, m_gt, m_ge, m_eq, m_eq', m_lt0, m_ge0, m_gt0, m_le0, m_ltm, m_lem, n_in, m_in, n_cl, n_ti, n_div, n_rem', n_dec, n_l, nI_add, pk_mul, an0, an1, decide_eq_true_eq, if_true, if_false, ite_true, ite_false, and_true, true_and, and_false, false_and, not_true, not_false_iff, or_false, false_or, or_true, true_or, eq_self, va_some, Bool.false_eq_true, reduceIte, catS_n, catS_i, catS_r, catS_l, catS_d, Nat.zero_add, Nat.add_zero, decide_true, decide_false, Nat.reduceLeDiff, cat_r, cat_i, cat_l, nle_T, nle_F, nlt_T, nlt_F, neq_T, neq_F, h1, h, bk_h (mi := 98) (pc := 7) (E := 0) (h := 15) rfl d98_15]
  done
theorem w98_1 {d : Nat} {P : MP} {I : MI} {L : ML} {C : MC} {Q : QT} {x1 x2 x3 : Int32} {C1 : MC} (h1 : P.1 1 = (10, 0)) (h : ∀ Q, CT (d - 1) 99 [.ref 1, .int x1, .int x2, .int x3] P I L C Q = Q (.inr 1) P I L C1) (hd : 1 ≤ d) : CT d 98 [.ref 1, .int x1, .int x2, .int x3, .ref 169] P I L C Q = Q (.inl (some (.int (nI 2)))) P I L C1 := by
  rw [CT_e (mj := 98) (e := [.ref 1, .int x1, .int x2, .int x3, .ref 169, UN]) (by omega) rfl (Nat.le_of_ble_eq_true rfl)]
  simp (disch := first | assumption | omega) only [Nat.reduceAdd, X_go, go2_some, stp, ldI, ldA, ldL, stI, stA, stL, o1I, o2I, o2L, brI, brII, gl, s1, s2, k1, sl, go_sN, go_sR, go_CT, go_sT, go_no, go_if, pops, bk_v, bk_0, d98_0, d98_2, d98_3, d98_4, d98_5, d98_6, d98_7, d98_10, d98_11, d98_12, d98_15, d98_17, d98_18, d98_19, d98_21, d98_22, d98_23, d98_24, n_lt, n_le, n_eq, n_lt0, n_ge0, n_gt0, n_le0, n_eq0, m_lt, m_le, m_gt, m_ge, m_eq, m_eq', m_lt0, m_ge0, m_gt0, m_le0, m_ltm, m_lem, n_in, m_in, n_cl, n_ti, n_div, n_rem', n_dec, n_l, nI_add, pk_mul, an0, an1, decide_eq_true_eq, if_true, if_false, ite_true, ite_false, and_true, true_and, and_false, false_and, not_true, not_false_iff, or_false, false_or, or_true, true_or, eq_self, va_some, Bool.false_eq_true, reduceIte, catS_n, catS_i, catS_r, catS_l, catS_d, Nat.zero_add, Nat.add_zero, decide_true, decide_false, Nat.reduceLeDiff, cat_r, cat_i, cat_l, nle_T, nle_F, nlt_T, nlt_F, neq_T, neq_F, h1, h, bk_h (mi := 98) (pc := 7) (E := 1) (h := 19) rfl d98_19]
  done
theorem d100_0 : dec 100 0 = some (.aload_n 3, 1, []) := rfl
theorem d100_1 : dec 100 1 = some (.iconst 0, 1, [0]) := rfl
theorem d100_2 : dec 100 2 = some (.aload_n 0, 1, []) := rfl
theorem d100_3 : dec 100 3 = some (.iload_n 1, 1, []) := rfl
theorem d100_4 : dec 100 4 = some (.iload_n 2, 1, []) := rfl
theorem d100_5 : dec 100 5 = some (.invokevirtual 33, 3, [2, 101, 2, 9, 0, 785, 0, 0]) := rfl
theorem d100_8 : dec 100 8 = some (.i2l, 1, []) := rfl
theorem d100_9 : dec 100 9 = some (.lastore, 1, []) := rfl
theorem d100_10 : dec 100 10 = some (.goto 11, 3, [21]) := rfl
theorem d100_13 : dec 100 13 = some (.astore 4, 2, []) := rfl
theorem d100_15 : dec 100 15 = some (.iconst 1, 1, [1]) := rfl
theorem d100_16 : dec 100 16 = some (.ireturn, 1, [0]) := rfl
theorem d100_17 : dec 100 17 = some (.astore 4, 2, []) := rfl
theorem d100_19 : dec 100 19 = some (.iconst 2, 1, [2]) := rfl
theorem d100_20 : dec 100 20 = some (.ireturn, 1, [0]) := rfl
theorem d100_21 : dec 100 21 = some (.iconst 0, 1, [0]) := rfl
theorem d100_22 : dec 100 22 = some (.ireturn, 1, [0]) := rfl
theorem l100 : mL 100 = 5 := rfl
theorem w100 {d : Nat} {P : MP} {I : MI} {L : ML} {C : MC} {Q : QT} {x1 x2 : Int32} {y : Int32} {I1 : MI} {L1 : ML} (h169 : P.1 169 = (21, 1)) (h1 : P.1 1 = (10, 0)) (h : ∀ Q, CT (d - 1) 101 [.ref 1, .int x1, .int x2] P I L C Q = Q (.inl (some (.int y))) P I1 L1 C) (hd : 1 ≤ d) : CT d 100 [.ref 1, .int x1, .int x2, .ref 169] P I L C Q = Q (.inl (some (.int (nI 0)))) P I1 (xu L1 169 0 y.toInt64) C := by
  rw [CT_e (mj := 100) (e := [.ref 1, .int x1, .int x2, .ref 169, UN]) (by omega) rfl (Nat.le_of_ble_eq_true rfl)]
  simp (disch := first | assumption | omega) only [Nat.reduceAdd, X_go, go2_some, stp, ldI, ldA, ldL, stI, stA, stL, o1I, o2I, o2L, brI, brII, gl, s1, s2, k1, sl, go_sN, go_sR, go_CT, go_sT, go_no, go_if, pops, bk_v, bk_0, d100_0, d100_1, d100_2, d100_3, d100_4, d100_5, d100_8, d100_9, d100_10, d100_13, d100_15, d100_16, d100_17, d100_19, d100_20, d100_21, d100_22, n_lt, n_le, n_eq, n_lt0, n_ge0, n_gt0, n_le0, n_eq0, m_lt, m_le, m_gt, m_ge, m_eq, m_eq', m_lt0, m_ge0, m_gt0, m_le0, m_ltm, m_lem, n_in, m_in, n_cl, n_ti, n_div, n_rem', n_dec, n_l, nI_add, pk_mul, an0, an1, decide_eq_true_eq, if_true, if_false, ite_true, ite_false, and_true, true_and, and_false, false_and, not_true, not_false_iff, or_false, false_or, or_true, true_or, eq_self, va_some, Bool.false_eq_true, reduceIte, catS_n, catS_i, catS_r, catS_l, catS_d, Nat.zero_add, Nat.add_zero, decide_true, decide_false, Nat.reduceLeDiff, cat_r, cat_i, cat_l, nle_T, nle_F, nlt_T, nlt_F, neq_T, neq_F, h169, h1, h]
  done
theorem w100_0 {d : Nat} {P : MP} {I : MI} {L : ML} {C : MC} {Q : QT} {x1 x2 : Int32} {C1 : MC} (h1 : P.1 1 = (10, 0)) (h : ∀ Q, CT (d - 1) 101 [.ref 1, .int x1, .int x2] P I L C Q = Q (.inr 0) P I L C1) (hd : 1 ≤ d) : CT d 100 [.ref 1, .int x1, .int x2, .ref 169] P I L C Q = Q (.inl (some (.int (nI 1)))) P I L C1 := by
  rw [CT_e (mj := 100) (e := [.ref 1, .int x1, .int x2, .ref 169, UN]) (by omega) rfl (Nat.le_of_ble_eq_true rfl)]
  simp (disch := first | assumption | omega) only [Nat.reduceAdd, X_go, go2_some, stp, ldI, ldA, ldL, stI, stA, stL, o1I, o2I, o2L, brI, brII, gl, s1, s2, k1, sl, go_sN, go_sR, go_CT, go_sT, go_no, go_if, pops, bk_v, bk_0, d100_0, d100_1, d100_2, d100_3, d100_4, d100_5, d100_8, d100_9, d100_10, d100_13, d100_15, d100_16, d100_17, d100_19, d100_20, d100_21, d100_22, n_lt, n_le, n_eq, n_lt0, n_ge0, n_gt0, n_le0, n_eq0, m_lt, m_le, m_gt, m_ge, m_eq, m_eq', m_lt0, m_ge0, m_gt0, m_le0, m_ltm, m_lem, n_in, m_in, n_cl, n_ti, n_div, n_rem', n_dec, n_l, nI_add, pk_mul, an0, an1, decide_eq_true_eq, if_true, if_false, ite_true, ite_false, and_true, true_and, and_false, false_and, not_true, not_false_iff, or_false, false_or, or_true, true_or, eq_self, va_some, Bool.false_eq_true, reduceIte, catS_n, catS_i, catS_r, catS_l, catS_d, Nat.zero_add, Nat.add_zero, decide_true, decide_false, Nat.reduceLeDiff, cat_r, cat_i, cat_l, nle_T, nle_F, nlt_T, nlt_F, neq_T, neq_F, h1, h, bk_h (mi := 100) (pc := 5) (E := 0) (h := 13) rfl d100_13]
  done
theorem w100_1 {d : Nat} {P : MP} {I : MI} {L : ML} {C : MC} {Q : QT} {x1 x2 : Int32} {C1 : MC} (h1 : P.1 1 = (10, 0)) (h : ∀ Q, CT (d - 1) 101 [.ref 1, .int x1, .int x2] P I L C Q = Q (.inr 1) P I L C1) (hd : 1 ≤ d) : CT d 100 [.ref 1, .int x1, .int x2, .ref 169] P I L C Q = Q (.inl (some (.int (nI 2)))) P I L C1 := by
  rw [CT_e (mj := 100) (e := [.ref 1, .int x1, .int x2, .ref 169, UN]) (by omega) rfl (Nat.le_of_ble_eq_true rfl)]
  simp (disch := first | assumption | omega) only [Nat.reduceAdd, X_go, go2_some, stp, ldI, ldA, ldL, stI, stA, stL, o1I, o2I, o2L, brI, brII, gl, s1, s2, k1, sl, go_sN, go_sR, go_CT, go_sT, go_no, go_if, pops, bk_v, bk_0, d100_0, d100_1, d100_2, d100_3, d100_4, d100_5, d100_8, d100_9, d100_10, d100_13, d100_15, d100_16, d100_17, d100_19, d100_20, d100_21, d100_22, n_lt, n_le, n_eq, n_lt0, n_ge0, n_gt0, n_le0, n_eq0, m_lt, m_le, m_gt, m_ge, m_eq, m_eq', m_lt0, m_ge0, m_gt0, m_le0, m_ltm, m_lem, n_in, m_in, n_cl, n_ti, n_div, n_rem', n_dec, n_l, nI_add, pk_mul, an0, an1, decide_eq_true_eq, if_true, if_false, ite_true, ite_false, and_true, true_and, and_false, false_and, not_true, not_false_iff, or_false, false_or, or_true, true_or, eq_self, va_some, Bool.false_eq_true, reduceIte, catS_n, catS_i, catS_r, catS_l, catS_d, Nat.zero_add, Nat.add_zero, decide_true, decide_false, Nat.reduceLeDiff, cat_r, cat_i, cat_l, nle_T, nle_F, nlt_T, nlt_F, neq_T, neq_F, h1, h, bk_h (mi := 100) (pc := 5) (E := 1) (h := 17) rfl d100_17]
  done
theorem d102_0 : dec 102 0 = some (.aload_n 3, 1, []) := rfl
theorem d102_1 : dec 102 1 = some (.iconst 0, 1, [0]) := rfl
theorem d102_2 : dec 102 2 = some (.aload_n 0, 1, []) := rfl
theorem d102_3 : dec 102 3 = some (.iload_n 1, 1, []) := rfl
theorem d102_4 : dec 102 4 = some (.iload_n 2, 1, []) := rfl
theorem d102_5 : dec 102 5 = some (.invokevirtual 36, 3, [2, 103, 2, 9, 0, 792, 0, 0]) := rfl
theorem d102_8 : dec 102 8 = some (.i2l, 1, []) := rfl
theorem d102_9 : dec 102 9 = some (.lastore, 1, []) := rfl
theorem d102_10 : dec 102 10 = some (.goto 11, 3, [21]) := rfl
theorem d102_13 : dec 102 13 = some (.astore 4, 2, []) := rfl
theorem d102_15 : dec 102 15 = some (.iconst 1, 1, [1]) := rfl
theorem d102_16 : dec 102 16 = some (.ireturn, 1, [0]) := rfl
theorem d102_17 : dec 102 17 = some (.astore 4, 2, []) := rfl
theorem d102_19 : dec 102 19 = some (.iconst 2, 1, [2]) := rfl
theorem d102_20 : dec 102 20 = some (.ireturn, 1, [0]) := rfl
theorem d102_21 : dec 102 21 = some (.iconst 0, 1, [0]) := rfl
theorem d102_22 : dec 102 22 = some (.ireturn, 1, [0]) := rfl
theorem l102 : mL 102 = 5 := rfl
theorem w102 {d : Nat} {P : MP} {I : MI} {L : ML} {C : MC} {Q : QT} {x1 x2 : Int32} {y : Int32} {I1 : MI} {L1 : ML} (h169 : P.1 169 = (21, 1)) (h1 : P.1 1 = (10, 0)) (h : ∀ Q, CT (d - 1) 103 [.ref 1, .int x1, .int x2] P I L C Q = Q (.inl (some (.int y))) P I1 L1 C) (hd : 1 ≤ d) : CT d 102 [.ref 1, .int x1, .int x2, .ref 169] P I L C Q = Q (.inl (some (.int (nI 0)))) P I1 (xu L1 169 0 y.toInt64) C := by
  rw [CT_e (mj := 102) (e := [.ref 1, .int x1, .int x2, .ref 169, UN]) (by omega) rfl (Nat.le_of_ble_eq_true rfl)]
  simp (disch := first | assumption | omega) only [Nat.reduceAdd, X_go, go2_some, stp, ldI, ldA, ldL, stI, stA, stL, o1I, o2I, o2L, brI, brII, gl, s1, s2, k1, sl, go_sN, go_sR, go_CT, go_sT, go_no, go_if, pops, bk_v, bk_0, d102_0, d102_1, d102_2, d102_3, d102_4, d102_5, d102_8, d102_9, d102_10, d102_13, d102_15, d102_16, d102_17, d102_19, d102_20, d102_21, d102_22, n_lt, n_le, n_eq, n_lt0, n_ge0, n_gt0, n_le0, n_eq0, m_lt, m_le, m_gt, m_ge, m_eq, m_eq', m_lt0, m_ge0, m_gt0, m_le0, m_ltm, m_lem, n_in, m_in, n_cl, n_ti, n_div, n_rem', n_dec, n_l, nI_add, pk_mul, an0, an1, decide_eq_true_eq, if_true, if_false, ite_true, ite_false, and_true, true_and, and_false, false_and, not_true, not_false_iff, or_false, false_or, or_true, true_or, eq_self, va_some, Bool.false_eq_true, reduceIte, catS_n, catS_i, catS_r, catS_l, catS_d, Nat.zero_add, Nat.add_zero, decide_true, decide_false, Nat.reduceLeDiff, cat_r, cat_i, cat_l, nle_T, nle_F, nlt_T, nlt_F, neq_T, neq_F, h169, h1, h]
  done
theorem w102_0 {d : Nat} {P : MP} {I : MI} {L : ML} {C : MC} {Q : QT} {x1 x2 : Int32} {C1 : MC} (h1 : P.1 1 = (10, 0)) (h : ∀ Q, CT (d - 1) 103 [.ref 1, .int x1, .int x2] P I L C Q = Q (.inr 0) P I L C1) (hd : 1 ≤ d) : CT d 102 [.ref 1, .int x1, .int x2, .ref 169] P I L C Q = Q (.inl (some (.int (nI 1)))) P I L C1 := by
  rw [CT_e (mj := 102) (e := [.ref 1, .int x1, .int x2, .ref 169, UN]) (by omega) rfl (Nat.le_of_ble_eq_true rfl)]
  simp (disch := first | assumption | omega) only [Nat.reduceAdd, X_go, go2_some, stp, ldI, ldA, ldL, stI, stA, stL, o1I, o2I, o2L, brI, brII, gl, s1, s2, k1, sl, go_sN, go_sR, go_CT, go_sT, go_no, go_if, pops, bk_v, bk_0, d102_0, d102_1, d102_2, d102_3, d102_4, d102_5, d102_8, d102_9, d102_10, d102_13, d102_15, d102_16, d102_17, d102_19, d102_20, d102_21, d102_22, n_lt, n_le, n_eq, n_lt0, n_ge0, n_gt0, n_le0, n_eq0, m_lt, m_le, m_gt, m_ge, m_eq, m_eq', m_lt0, m_ge0, m_gt0, m_le0, m_ltm, m_lem, n_in, m_in, n_cl, n_ti, n_div, n_rem', n_dec, n_l, nI_add, pk_mul, an0, an1, decide_eq_true_eq, if_true, if_false, ite_true, ite_false, and_true, true_and, and_false, false_and, not_true, not_false_iff, or_false, false_or, or_true, true_or, eq_self, va_some, Bool.false_eq_true, reduceIte, catS_n, catS_i, catS_r, catS_l, catS_d, Nat.zero_add, Nat.add_zero, decide_true, decide_false, Nat.reduceLeDiff, cat_r, cat_i, cat_l, nle_T, nle_F, nlt_T, nlt_F, neq_T, neq_F, h1, h, bk_h (mi := 102) (pc := 5) (E := 0) (h := 13) rfl d102_13]
  done
theorem w102_1 {d : Nat} {P : MP} {I : MI} {L : ML} {C : MC} {Q : QT} {x1 x2 : Int32} {C1 : MC} (h1 : P.1 1 = (10, 0)) (h : ∀ Q, CT (d - 1) 103 [.ref 1, .int x1, .int x2] P I L C Q = Q (.inr 1) P I L C1) (hd : 1 ≤ d) : CT d 102 [.ref 1, .int x1, .int x2, .ref 169] P I L C Q = Q (.inl (some (.int (nI 2)))) P I L C1 := by
  rw [CT_e (mj := 102) (e := [.ref 1, .int x1, .int x2, .ref 169, UN]) (by omega) rfl (Nat.le_of_ble_eq_true rfl)]
  simp (disch := first | assumption | omega) only [Nat.reduceAdd, X_go, go2_some, stp, ldI, ldA, ldL, stI, stA, stL, o1I, o2I, o2L, brI, brII, gl, s1, s2, k1, sl, go_sN, go_sR, go_CT, go_sT, go_no, go_if, pops, bk_v, bk_0, d102_0, d102_1, d102_2, d102_3, d102_4, d102_5, d102_8, d102_9, d102_10, d102_13, d102_15, d102_16, d102_17, d102_19, d102_20, d102_21, d102_22, n_lt, n_le, n_eq, n_lt0, n_ge0, n_gt0, n_le0, n_eq0, m_lt, m_le, m_gt, m_ge, m_eq, m_eq', m_lt0, m_ge0, m_gt0, m_le0, m_ltm, m_lem, n_in, m_in, n_cl, n_ti, n_div, n_rem', n_dec, n_l, nI_add, pk_mul, an0, an1, decide_eq_true_eq, if_true, if_false, ite_true, ite_false, and_true, true_and, and_false, false_and, not_true, not_false_iff, or_false, false_or, or_true, true_or, eq_self, va_some, Bool.false_eq_true, reduceIte, catS_n, catS_i, catS_r, catS_l, catS_d, Nat.zero_add, Nat.add_zero, decide_true, decide_false, Nat.reduceLeDiff, cat_r, cat_i, cat_l, nle_T, nle_F, nlt_T, nlt_F, neq_T, neq_F, h1, h, bk_h (mi := 102) (pc := 5) (E := 1) (h := 17) rfl d102_17]
  done
theorem d105_0 : dec 105 0 = some (.aload_n 3, 1, []) := rfl
theorem d105_1 : dec 105 1 = some (.iconst 0, 1, [0]) := rfl
theorem d105_2 : dec 105 2 = some (.aload_n 0, 1, []) := rfl
theorem d105_3 : dec 105 3 = some (.iload_n 1, 1, []) := rfl
theorem d105_4 : dec 105 4 = some (.iload_n 2, 1, []) := rfl
theorem d105_5 : dec 105 5 = some (.invokevirtual 39, 3, [2, 106, 2, 9, 0, 803, 0, 0]) := rfl
theorem d105_8 : dec 105 8 = some (.i2l, 1, []) := rfl
theorem d105_9 : dec 105 9 = some (.lastore, 1, []) := rfl
theorem d105_10 : dec 105 10 = some (.goto 11, 3, [21]) := rfl
theorem d105_13 : dec 105 13 = some (.astore 4, 2, []) := rfl
theorem d105_15 : dec 105 15 = some (.iconst 1, 1, [1]) := rfl
theorem d105_16 : dec 105 16 = some (.ireturn, 1, [0]) := rfl
theorem d105_17 : dec 105 17 = some (.astore 4, 2, []) := rfl
theorem d105_19 : dec 105 19 = some (.iconst 2, 1, [2]) := rfl
theorem d105_20 : dec 105 20 = some (.ireturn, 1, [0]) := rfl
theorem d105_21 : dec 105 21 = some (.iconst 0, 1, [0]) := rfl
theorem d105_22 : dec 105 22 = some (.ireturn, 1, [0]) := rfl
theorem l105 : mL 105 = 5 := rfl
theorem w105 {d : Nat} {P : MP} {I : MI} {L : ML} {C : MC} {Q : QT} {x1 x2 : Int32} {y : Int32} {I1 : MI} {L1 : ML} (h169 : P.1 169 = (21, 1)) (h1 : P.1 1 = (10, 0)) (h : ∀ Q, CT (d - 1) 106 [.ref 1, .int x1, .int x2] P I L C Q = Q (.inl (some (.int y))) P I1 L1 C) (hd : 1 ≤ d) : CT d 105 [.ref 1, .int x1, .int x2, .ref 169] P I L C Q = Q (.inl (some (.int (nI 0)))) P I1 (xu L1 169 0 y.toInt64) C := by
  rw [CT_e (mj := 105) (e := [.ref 1, .int x1, .int x2, .ref 169, UN]) (by omega) rfl (Nat.le_of_ble_eq_true rfl)]
  simp (disch := first | assumption | omega) only [Nat.reduceAdd, X_go, go2_some, stp, ldI, ldA, ldL, stI, stA, stL, o1I, o2I, o2L, brI, brII, gl, s1, s2, k1, sl, go_sN, go_sR, go_CT, go_sT, go_no, go_if, pops, bk_v, bk_0, d105_0, d105_1, d105_2, d105_3, d105_4, d105_5, d105_8, d105_9, d105_10, d105_13, d105_15, d105_16, d105_17, d105_19, d105_20, d105_21, d105_22, n_lt, n_le, n_eq, n_lt0, n_ge0, n_gt0, n_le0, n_eq0, m_lt, m_le, m_gt, m_ge, m_eq, m_eq', m_lt0, m_ge0, m_gt0, m_le0, m_ltm, m_lem, n_in, m_in, n_cl, n_ti, n_div, n_rem', n_dec, n_l, nI_add, pk_mul, an0, an1, decide_eq_true_eq, if_true, if_false, ite_true, ite_false, and_true, true_and, and_false, false_and, not_true, not_false_iff, or_false, false_or, or_true, true_or, eq_self, va_some, Bool.false_eq_true, reduceIte, catS_n, catS_i, catS_r, catS_l, catS_d, Nat.zero_add, Nat.add_zero, decide_true, decide_false, Nat.reduceLeDiff, cat_r, cat_i, cat_l, nle_T, nle_F, nlt_T, nlt_F, neq_T, neq_F, h169, h1, h]
  done
theorem w105_0 {d : Nat} {P : MP} {I : MI} {L : ML} {C : MC} {Q : QT} {x1 x2 : Int32} {C1 : MC} (h1 : P.1 1 = (10, 0)) (h : ∀ Q, CT (d - 1) 106 [.ref 1, .int x1, .int x2] P I L C Q = Q (.inr 0) P I L C1) (hd : 1 ≤ d) : CT d 105 [.ref 1, .int x1, .int x2, .ref 169] P I L C Q = Q (.inl (some (.int (nI 1)))) P I L C1 := by
  rw [CT_e (mj := 105) (e := [.ref 1, .int x1, .int x2, .ref 169, UN]) (by omega) rfl (Nat.le_of_ble_eq_true rfl)]
  simp (disch := first | assumption | omega) only [Nat.reduceAdd, X_go, go2_some, stp, ldI, ldA, ldL, stI, stA, stL, o1I, o2I, o2L, brI, brII, gl, s1, s2, k1, sl, go_sN, go_sR, go_CT, go_sT, go_no, go_if, pops, bk_v, bk_0, d105_0, d105_1, d105_2, d105_3, d105_4, d105_5, d105_8, d105_9, d105_10, d105_13, d105_15, d105_16, d105_17, d105_19, d105_20, d105_21, d105_22, n_lt, n_le, n_eq, n_lt0, n_ge0, n_gt0, n_le0, n_eq0, m_lt, m_le, m_gt, m_ge, m_eq, m_eq', m_lt0, m_ge0, m_gt0, m_le0, m_ltm, m_lem, n_in, m_in, n_cl, n_ti, n_div, n_rem', n_dec, n_l, nI_add, pk_mul, an0, an1, decide_eq_true_eq, if_true, if_false, ite_true, ite_false, and_true, true_and, and_false, false_and, not_true, not_false_iff, or_false, false_or, or_true, true_or, eq_self, va_some, Bool.false_eq_true, reduceIte, catS_n, catS_i, catS_r, catS_l, catS_d, Nat.zero_add, Nat.add_zero, decide_true, decide_false, Nat.reduceLeDiff, cat_r, cat_i, cat_l, nle_T, nle_F, nlt_T, nlt_F, neq_T, neq_F, h1, h, bk_h (mi := 105) (pc := 5) (E := 0) (h := 13) rfl d105_13]
  done
theorem w105_1 {d : Nat} {P : MP} {I : MI} {L : ML} {C : MC} {Q : QT} {x1 x2 : Int32} {C1 : MC} (h1 : P.1 1 = (10, 0)) (h : ∀ Q, CT (d - 1) 106 [.ref 1, .int x1, .int x2] P I L C Q = Q (.inr 1) P I L C1) (hd : 1 ≤ d) : CT d 105 [.ref 1, .int x1, .int x2, .ref 169] P I L C Q = Q (.inl (some (.int (nI 2)))) P I L C1 := by
  rw [CT_e (mj := 105) (e := [.ref 1, .int x1, .int x2, .ref 169, UN]) (by omega) rfl (Nat.le_of_ble_eq_true rfl)]
  simp (disch := first | assumption | omega) only [Nat.reduceAdd, X_go, go2_some, stp, ldI, ldA, ldL, stI, stA, stL, o1I, o2I, o2L, brI, brII, gl, s1, s2, k1, sl, go_sN, go_sR, go_CT, go_sT, go_no, go_if, pops, bk_v, bk_0, d105_0, d105_1, d105_2, d105_3, d105_4, d105_5, d105_8, d105_9, d105_10, d105_13, d105_15, d105_16, d105_17, d105_19, d105_20, d105_21, d105_22, n_lt, n_le, n_eq, n_lt0, n_ge0, n_gt0, n_le0, n_eq0, m_lt, m_le, m_gt, m_ge, m_eq, m_eq', m_lt0, m_ge0, m_gt0, m_le0, m_ltm, m_lem, n_in, m_in, n_cl, n_ti, n_div, n_rem', n_dec, n_l, nI_add, pk_mul, an0, an1, decide_eq_true_eq, if_true, if_false, ite_true, ite_false, and_true, true_and, and_false, false_and, not_true, not_false_iff, or_false, false_or, or_true, true_or, eq_self, va_some, Bool.false_eq_true, reduceIte, catS_n, catS_i, catS_r, catS_l, catS_d, Nat.zero_add, Nat.add_zero, decide_true, decide_false, Nat.reduceLeDiff, cat_r, cat_i, cat_l, nle_T, nle_F, nlt_T, nlt_F, neq_T, neq_F, h1, h, bk_h (mi := 105) (pc := 5) (E := 1) (h := 17) rfl d105_17]
  done
theorem d107_0 : dec 107 0 = some (.aload_n 3, 1, []) := rfl
theorem d107_1 : dec 107 1 = some (.iconst 0, 1, [0]) := rfl
theorem d107_2 : dec 107 2 = some (.aload_n 0, 1, []) := rfl
theorem d107_3 : dec 107 3 = some (.iload_n 1, 1, []) := rfl
theorem d107_4 : dec 107 4 = some (.iload_n 2, 1, []) := rfl
theorem d107_5 : dec 107 5 = some (.invokevirtual 42, 3, [2, 108, 2, 9, 0, 810, 0, 0]) := rfl
theorem d107_8 : dec 107 8 = some (.i2l, 1, []) := rfl
theorem d107_9 : dec 107 9 = some (.lastore, 1, []) := rfl
theorem d107_10 : dec 107 10 = some (.goto 7, 3, [17]) := rfl
theorem d107_13 : dec 107 13 = some (.astore 4, 2, []) := rfl
theorem d107_15 : dec 107 15 = some (.iconst 1, 1, [1]) := rfl
theorem d107_16 : dec 107 16 = some (.ireturn, 1, [0]) := rfl
theorem d107_17 : dec 107 17 = some (.iconst 0, 1, [0]) := rfl
theorem d107_18 : dec 107 18 = some (.ireturn, 1, [0]) := rfl
theorem l107 : mL 107 = 5 := rfl
theorem w107 {d : Nat} {P : MP} {I : MI} {L : ML} {C : MC} {Q : QT} {x1 x2 : Int32} {y : Int32} {I1 : MI} {L1 : ML} (h169 : P.1 169 = (21, 1)) (h1 : P.1 1 = (10, 0)) (h : ∀ Q, CT (d - 1) 108 [.ref 1, .int x1, .int x2] P I L C Q = Q (.inl (some (.int y))) P I1 L1 C) (hd : 1 ≤ d) : CT d 107 [.ref 1, .int x1, .int x2, .ref 169] P I L C Q = Q (.inl (some (.int (nI 0)))) P I1 (xu L1 169 0 y.toInt64) C := by
  rw [CT_e (mj := 107) (e := [.ref 1, .int x1, .int x2, .ref 169, UN]) (by omega) rfl (Nat.le_of_ble_eq_true rfl)]
  simp (disch := first | assumption | omega) only [Nat.reduceAdd, X_go, go2_some, stp, ldI, ldA, ldL, stI, stA, stL, o1I, o2I, o2L, brI, brII, gl, s1, s2, k1, sl, go_sN, go_sR, go_CT, go_sT, go_no, go_if, pops, bk_v, bk_0, d107_0, d107_1, d107_2, d107_3, d107_4, d107_5, d107_8, d107_9, d107_10, d107_13, d107_15, d107_16, d107_17, d107_18, n_lt, n_le, n_eq, n_lt0, n_ge0, n_gt0, n_le0, n_eq0, m_lt, m_le, m_gt, m_ge, m_eq, m_eq', m_lt0, m_ge0, m_gt0, m_le0, m_ltm, m_lem, n_in, m_in, n_cl, n_ti, n_div, n_rem', n_dec, n_l, nI_add, pk_mul, an0, an1, decide_eq_true_eq, if_true, if_false, ite_true, ite_false, and_true, true_and, and_false, false_and, not_true, not_false_iff, or_false, false_or, or_true, true_or, eq_self, va_some, Bool.false_eq_true, reduceIte, catS_n, catS_i, catS_r, catS_l, catS_d, Nat.zero_add, Nat.add_zero, decide_true, decide_false, Nat.reduceLeDiff, cat_r, cat_i, cat_l, nle_T, nle_F, nlt_T, nlt_F, neq_T, neq_F, h169, h1, h]
  done
theorem w107_1 {d : Nat} {P : MP} {I : MI} {L : ML} {C : MC} {Q : QT} {x1 x2 : Int32} {C1 : MC} (h1 : P.1 1 = (10, 0)) (h : ∀ Q, CT (d - 1) 108 [.ref 1, .int x1, .int x2] P I L C Q = Q (.inr 1) P I L C1) (hd : 1 ≤ d) : CT d 107 [.ref 1, .int x1, .int x2, .ref 169] P I L C Q = Q (.inl (some (.int (nI 1)))) P I L C1 := by
  rw [CT_e (mj := 107) (e := [.ref 1, .int x1, .int x2, .ref 169, UN]) (by omega) rfl (Nat.le_of_ble_eq_true rfl)]
  simp (disch := first | assumption | omega) only [Nat.reduceAdd, X_go, go2_some, stp, ldI, ldA, ldL, stI, stA, stL, o1I, o2I, o2L, brI, brII, gl, s1, s2, k1, sl, go_sN, go_sR, go_CT, go_sT, go_no, go_if, pops, bk_v, bk_0, d107_0, d107_1, d107_2, d107_3, d107_4, d107_5, d107_8, d107_9, d107_10, d107_13, d107_15, d107_16, d107_17, d107_18, n_lt, n_le, n_eq, n_lt0, n_ge0, n_gt0, n_le0, n_eq0, m_lt, m_le, m_gt, m_ge, m_eq, m_eq', m_lt0, m_ge0, m_gt0, m_le0, m_ltm, m_lem, n_in, m_in, n_cl, n_ti, n_div, n_rem', n_dec, n_l, nI_add, pk_mul, an0, an1, decide_eq_true_eq, if_true, if_false, ite_true, ite_false, and_true, true_and, and_false, false_and, not_true, not_false_iff, or_false, false_or, or_true, true_or, eq_self, va_some, Bool.false_eq_true, reduceIte, catS_n, catS_i, catS_r, catS_l, catS_d, Nat.zero_add, Nat.add_zero, decide_true, decide_false, Nat.reduceLeDiff, cat_r, cat_i, cat_l, nle_T, nle_F, nlt_T, nlt_F, neq_T, neq_F, h1, h, bk_h (mi := 107) (pc := 5) (E := 1) (h := 13) rfl d107_13]
  done
theorem d109_0 : dec 109 0 = some (.aload_n 3, 1, []) := rfl
theorem d109_1 : dec 109 1 = some (.iconst 0, 1, [0]) := rfl
theorem d109_2 : dec 109 2 = some (.aload_n 0, 1, []) := rfl
theorem d109_3 : dec 109 3 = some (.iload_n 1, 1, []) := rfl
theorem d109_4 : dec 109 4 = some (.iload_n 2, 1, []) := rfl
theorem d109_5 : dec 109 5 = some (.invokevirtual 45, 3, [2, 110, 2, 9, 0, 818, 0, 0]) := rfl
theorem d109_8 : dec 109 8 = some (.i2l, 1, []) := rfl
theorem d109_9 : dec 109 9 = some (.lastore, 1, []) := rfl
theorem d109_10 : dec 109 10 = some (.goto 7, 3, [17]) := rfl
theorem d109_13 : dec 109 13 = some (.astore 4, 2, []) := rfl
theorem d109_15 : dec 109 15 = some (.iconst 1, 1, [1]) := rfl
theorem d109_16 : dec 109 16 = some (.ireturn, 1, [0]) := rfl
theorem d109_17 : dec 109 17 = some (.iconst 0, 1, [0]) := rfl
theorem d109_18 : dec 109 18 = some (.ireturn, 1, [0]) := rfl
theorem l109 : mL 109 = 5 := rfl
theorem w109 {d : Nat} {P : MP} {I : MI} {L : ML} {C : MC} {Q : QT} {x1 x2 : Int32} {y : Int32} {I1 : MI} {L1 : ML} (h169 : P.1 169 = (21, 1)) (h1 : P.1 1 = (10, 0)) (h : ∀ Q, CT (d - 1) 110 [.ref 1, .int x1, .int x2] P I L C Q = Q (.inl (some (.int y))) P I1 L1 C) (hd : 1 ≤ d) : CT d 109 [.ref 1, .int x1, .int x2, .ref 169] P I L C Q = Q (.inl (some (.int (nI 0)))) P I1 (xu L1 169 0 y.toInt64) C := by
  rw [CT_e (mj := 109) (e := [.ref 1, .int x1, .int x2, .ref 169, UN]) (by omega) rfl (Nat.le_of_ble_eq_true rfl)]
  simp (disch := first | assumption | omega) only [Nat.reduceAdd, X_go, go2_some, stp, ldI, ldA, ldL, stI, stA, stL, o1I, o2I, o2L, brI, brII, gl, s1, s2, k1, sl, go_sN, go_sR, go_CT, go_sT, go_no, go_if, pops, bk_v, bk_0, d109_0, d109_1, d109_2, d109_3, d109_4, d109_5, d109_8, d109_9, d109_10, d109_13, d109_15, d109_16, d109_17, d109_18, n_lt, n_le, n_eq, n_lt0, n_ge0, n_gt0, n_le0, n_eq0, m_lt, m_le, m_gt, m_ge, m_eq, m_eq', m_lt0, m_ge0, m_gt0, m_le0, m_ltm, m_lem, n_in, m_in, n_cl, n_ti, n_div, n_rem', n_dec, n_l, nI_add, pk_mul, an0, an1, decide_eq_true_eq, if_true, if_false, ite_true, ite_false, and_true, true_and, and_false, false_and, not_true, not_false_iff, or_false, false_or, or_true, true_or, eq_self, va_some, Bool.false_eq_true, reduceIte, catS_n, catS_i, catS_r, catS_l, catS_d, Nat.zero_add, Nat.add_zero, decide_true, decide_false, Nat.reduceLeDiff, cat_r, cat_i, cat_l, nle_T, nle_F, nlt_T, nlt_F, neq_T, neq_F, h169, h1, h]
  done
theorem w109_0 {d : Nat} {P : MP} {I : MI} {L : ML} {C : MC} {Q : QT} {x1 x2 : Int32} {C1 : MC} (h1 : P.1 1 = (10, 0)) (h : ∀ Q, CT (d - 1) 110 [.ref 1, .int x1, .int x2] P I L C Q = Q (.inr 0) P I L C1) (hd : 1 ≤ d) : CT d 109 [.ref 1, .int x1, .int x2, .ref 169] P I L C Q = Q (.inl (some (.int (nI 1)))) P I L C1 := by
  rw [CT_e (mj := 109) (e := [.ref 1, .int x1, .int x2, .ref 169, UN]) (by omega) rfl (Nat.le_of_ble_eq_true rfl)]
  simp (disch := first | assumption | omega) only [Nat.reduceAdd, X_go, go2_some, stp, ldI, ldA, ldL, stI, stA, stL, o1I, o2I, o2L, brI, brII, gl, s1, s2, k1, sl, go_sN, go_sR, go_CT, go_sT, go_no, go_if, pops, bk_v, bk_0, d109_0, d109_1, d109_2, d109_3, d109_4, d109_5, d109_8, d109_9, d109_10, d109_13, d109_15, d109_16, d109_17, d109_18, n_lt, n_le, n_eq, n_lt0, n_ge0, n_gt0, n_le0, n_eq0, m_lt, m_le, m_gt, m_ge, m_eq, m_eq', m_lt0, m_ge0, m_gt0, m_le0, m_ltm, m_lem, n_in, m_in, n_cl, n_ti, n_div, n_rem', n_dec, n_l, nI_add, pk_mul, an0, an1, decide_eq_true_eq, if_true, if_false, ite_true, ite_false, and_true, true_and, and_false, false_and, not_true, not_false_iff, or_false, false_or, or_true, true_or, eq_self, va_some, Bool.false_eq_true, reduceIte, catS_n, catS_i, catS_r, catS_l, catS_d, Nat.zero_add, Nat.add_zero, decide_true, decide_false, Nat.reduceLeDiff, cat_r, cat_i, cat_l, nle_T, nle_F, nlt_T, nlt_F, neq_T, neq_F, h1, h, bk_h (mi := 109) (pc := 5) (E := 0) (h := 13) rfl d109_13]
  done
theorem d111_0 : dec 111 0 = some (.aload_n 2, 1, []) := rfl
theorem d111_1 : dec 111 1 = some (.iconst 0, 1, [0]) := rfl
theorem d111_2 : dec 111 2 = some (.aload_n 0, 1, []) := rfl
theorem d111_3 : dec 111 3 = some (.iload_n 1, 1, []) := rfl
theorem d111_4 : dec 111 4 = some (.invokevirtual 49, 3, [2, 112, 2, 9, 0, 825, 0]) := rfl
theorem d111_7 : dec 111 7 = some (.i2l, 1, []) := rfl
theorem d111_8 : dec 111 8 = some (.lastore, 1, []) := rfl
theorem d111_9 : dec 111 9 = some (.goto 6, 3, [15]) := rfl
theorem d111_12 : dec 111 12 = some (.astore_n 3, 1, []) := rfl
theorem d111_13 : dec 111 13 = some (.iconst 1, 1, [1]) := rfl
theorem d111_14 : dec 111 14 = some (.ireturn, 1, [0]) := rfl
theorem d111_15 : dec 111 15 = some (.iconst 0, 1, [0]) := rfl
theorem d111_16 : dec 111 16 = some (.ireturn, 1, [0]) := rfl
theorem l111 : mL 111 = 4 := rfl
theorem w111 {d : Nat} {P : MP} {I : MI} {L : ML} {C : MC} {Q : QT} {x1 : Int32} {y : Int32} {I1 : MI} {L1 : ML} (h169 : P.1 169 = (21, 1)) (h1 : P.1 1 = (10, 0)) (h : ∀ Q, CT (d - 1) 112 [.ref 1, .int x1] P I L C Q = Q (.inl (some (.int y))) P I1 L1 C) (hd : 1 ≤ d) : CT d 111 [.ref 1, .int x1, .ref 169] P I L C Q = Q (.inl (some (.int (nI 0)))) P I1 (xu L1 169 0 y.toInt64) C := by
  rw [CT_e (mj := 111) (e := [.ref 1, .int x1, .ref 169, UN]) (by omega) rfl (Nat.le_of_ble_eq_true rfl)]
  simp (disch := first | assumption | omega) only [Nat.reduceAdd, X_go, go2_some, stp, ldI, ldA, ldL, stI, stA, stL, o1I, o2I, o2L, brI, brII, gl, s1, s2, k1, sl, go_sN, go_sR, go_CT, go_sT, go_no, go_if, pops, bk_v, bk_0, d111_0, d111_1, d111_2, d111_3, d111_4, d111_7, d111_8, d111_9, d111_12, d111_13, d111_14, d111_15, d111_16, n_lt, n_le, n_eq, n_lt0, n_ge0, n_gt0, n_le0, n_eq0, m_lt, m_le, m_gt, m_ge, m_eq, m_eq', m_lt0, m_ge0, m_gt0, m_le0, m_ltm, m_lem, n_in, m_in, n_cl, n_ti, n_div, n_rem', n_dec, n_l, nI_add, pk_mul, an0, an1, decide_eq_true_eq, if_true, if_false, ite_true, ite_false, and_true, true_and, and_false, false_and, not_true, not_false_iff, or_false, false_or, or_true, true_or, eq_self, va_some, Bool.false_eq_true, reduceIte, catS_n, catS_i, catS_r, catS_l, catS_d, Nat.zero_add, Nat.add_zero, decide_true, decide_false, Nat.reduceLeDiff, cat_r, cat_i, cat_l, nle_T, nle_F, nlt_T, nlt_F, neq_T, neq_F, h169, h1, h]
  done
theorem w111_1 {d : Nat} {P : MP} {I : MI} {L : ML} {C : MC} {Q : QT} {x1 : Int32} {C1 : MC} (h1 : P.1 1 = (10, 0)) (h : ∀ Q, CT (d - 1) 112 [.ref 1, .int x1] P I L C Q = Q (.inr 1) P I L C1) (hd : 1 ≤ d) : CT d 111 [.ref 1, .int x1, .ref 169] P I L C Q = Q (.inl (some (.int (nI 1)))) P I L C1 := by
  rw [CT_e (mj := 111) (e := [.ref 1, .int x1, .ref 169, UN]) (by omega) rfl (Nat.le_of_ble_eq_true rfl)]
  simp (disch := first | assumption | omega) only [Nat.reduceAdd, X_go, go2_some, stp, ldI, ldA, ldL, stI, stA, stL, o1I, o2I, o2L, brI, brII, gl, s1, s2, k1, sl, go_sN, go_sR, go_CT, go_sT, go_no, go_if, pops, bk_v, bk_0, d111_0, d111_1, d111_2, d111_3, d111_4, d111_7, d111_8, d111_9, d111_12, d111_13, d111_14, d111_15, d111_16, n_lt, n_le, n_eq, n_lt0, n_ge0, n_gt0, n_le0, n_eq0, m_lt, m_le, m_gt, m_ge, m_eq, m_eq', m_lt0, m_ge0, m_gt0, m_le0, m_ltm, m_lem, n_in, m_in, n_cl, n_ti, n_div, n_rem', n_dec, n_l, nI_add, pk_mul, an0, an1, decide_eq_true_eq, if_true, if_false, ite_true, ite_false, and_true, true_and, and_false, false_and, not_true, not_false_iff, or_false, false_or, or_true, true_or, eq_self, va_some, Bool.false_eq_true, reduceIte, catS_n, catS_i, catS_r, catS_l, catS_d, Nat.zero_add, Nat.add_zero, decide_true, decide_false, Nat.reduceLeDiff, cat_r, cat_i, cat_l, nle_T, nle_F, nlt_T, nlt_F, neq_T, neq_F, h1, h, bk_hn (mi := 111) (pc := 4) (E := 1) (h := 12) rfl d111_12]
  done
theorem d113_0 : dec 113 0 = some (.aload_n 2, 1, []) := rfl
theorem d113_1 : dec 113 1 = some (.iconst 0, 1, [0]) := rfl
theorem d113_2 : dec 113 2 = some (.aload_n 0, 1, []) := rfl
theorem d113_3 : dec 113 3 = some (.iload_n 1, 1, []) := rfl
theorem d113_4 : dec 113 4 = some (.invokevirtual 53, 3, [2, 114, 2, 9, 0, 832, 0]) := rfl
theorem d113_7 : dec 113 7 = some (.i2l, 1, []) := rfl
theorem d113_8 : dec 113 8 = some (.lastore, 1, []) := rfl
theorem d113_9 : dec 113 9 = some (.goto 6, 3, [15]) := rfl
theorem d113_12 : dec 113 12 = some (.astore_n 3, 1, []) := rfl
theorem d113_13 : dec 113 13 = some (.iconst 1, 1, [1]) := rfl
theorem d113_14 : dec 113 14 = some (.ireturn, 1, [0]) := rfl
theorem d113_15 : dec 113 15 = some (.iconst 0, 1, [0]) := rfl
theorem d113_16 : dec 113 16 = some (.ireturn, 1, [0]) := rfl
theorem l113 : mL 113 = 4 := rfl
theorem w113 {d : Nat} {P : MP} {I : MI} {L : ML} {C : MC} {Q : QT} {x1 : Int32} {y : Int32} {I1 : MI} {L1 : ML} (h169 : P.1 169 = (21, 1)) (h1 : P.1 1 = (10, 0)) (h : ∀ Q, CT (d - 1) 114 [.ref 1, .int x1] P I L C Q = Q (.inl (some (.int y))) P I1 L1 C) (hd : 1 ≤ d) : CT d 113 [.ref 1, .int x1, .ref 169] P I L C Q = Q (.inl (some (.int (nI 0)))) P I1 (xu L1 169 0 y.toInt64) C := by
  rw [CT_e (mj := 113) (e := [.ref 1, .int x1, .ref 169, UN]) (by omega) rfl (Nat.le_of_ble_eq_true rfl)]
  simp (disch := first | assumption | omega) only [Nat.reduceAdd, X_go, go2_some, stp, ldI, ldA, ldL, stI, stA, stL, o1I, o2I, o2L, brI, brII, gl, s1, s2, k1, sl, go_sN, go_sR, go_CT, go_sT, go_no, go_if, pops, bk_v, bk_0, d113_0, d113_1, d113_2, d113_3, d113_4, d113_7, d113_8, d113_9, d113_12, d113_13, d113_14, d113_15, d113_16, n_lt, n_le, n_eq, n_lt0, n_ge0, n_gt0, n_le0, n_eq0, m_lt, m_le, m_gt, m_ge, m_eq, m_eq', m_lt0, m_ge0, m_gt0, m_le0, m_ltm, m_lem, n_in, m_in, n_cl, n_ti, n_div, n_rem', n_dec, n_l, nI_add, pk_mul, an0, an1, decide_eq_true_eq, if_true, if_false, ite_true, ite_false, and_true, true_and, and_false, false_and, not_true, not_false_iff, or_false, false_or, or_true, true_or, eq_self, va_some, Bool.false_eq_true, reduceIte, catS_n, catS_i, catS_r, catS_l, catS_d, Nat.zero_add, Nat.add_zero, decide_true, decide_false, Nat.reduceLeDiff, cat_r, cat_i, cat_l, nle_T, nle_F, nlt_T, nlt_F, neq_T, neq_F, h169, h1, h]
  done
theorem w113_0 {d : Nat} {P : MP} {I : MI} {L : ML} {C : MC} {Q : QT} {x1 : Int32} {C1 : MC} (h1 : P.1 1 = (10, 0)) (h : ∀ Q, CT (d - 1) 114 [.ref 1, .int x1] P I L C Q = Q (.inr 0) P I L C1) (hd : 1 ≤ d) : CT d 113 [.ref 1, .int x1, .ref 169] P I L C Q = Q (.inl (some (.int (nI 1)))) P I L C1 := by
  rw [CT_e (mj := 113) (e := [.ref 1, .int x1, .ref 169, UN]) (by omega) rfl (Nat.le_of_ble_eq_true rfl)]
  simp (disch := first | assumption | omega) only [Nat.reduceAdd, X_go, go2_some, stp, ldI, ldA, ldL, stI, stA, stL, o1I, o2I, o2L, brI, brII, gl, s1, s2, k1, sl, go_sN, go_sR, go_CT, go_sT, go_no, go_if, pops, bk_v, bk_0, d113_0, d113_1, d113_2, d113_3, d113_4, d113_7, d113_8, d113_9, d113_12, d113_13, d113_14, d113_15, d113_16, n_lt, n_le, n_eq, n_lt0, n_ge0, n_gt0, n_le0, n_eq0, m_lt, m_le, m_gt, m_ge, m_eq, m_eq', m_lt0, m_ge0, m_gt0, m_le0, m_ltm, m_lem, n_in, m_in, n_cl, n_ti, n_div, n_rem', n_dec, n_l, nI_add, pk_mul, an0, an1, decide_eq_true_eq, if_true, if_false, ite_true, ite_false, and_true, true_and, and_false, false_and, not_true, not_false_iff, or_false, false_or, or_true, true_or, eq_self, va_some, Bool.false_eq_true, reduceIte, catS_n, catS_i, catS_r, catS_l, catS_d, Nat.zero_add, Nat.add_zero, decide_true, decide_false, Nat.reduceLeDiff, cat_r, cat_i, cat_l, nle_T, nle_F, nlt_T, nlt_F, neq_T, neq_F, h1, h, bk_hn (mi := 113) (pc := 4) (E := 0) (h := 12) rfl d113_12]
  done
theorem d123_0 : dec 123 0 = some (.aload_n 3, 1, []) := rfl
theorem d123_1 : dec 123 1 = some (.iconst 0, 1, [0]) := rfl
theorem d123_2 : dec 123 2 = some (.aload_n 0, 1, []) := rfl
theorem d123_3 : dec 123 3 = some (.iload_n 1, 1, []) := rfl
theorem d123_4 : dec 123 4 = some (.iload_n 2, 1, []) := rfl
theorem d123_5 : dec 123 5 = some (.invokevirtual 56, 3, [2, 124, 2, 9, 0, 890, 0, 0]) := rfl
theorem d123_8 : dec 123 8 = some (.i2l, 1, []) := rfl
theorem d123_9 : dec 123 9 = some (.lastore, 1, []) := rfl
theorem d123_10 : dec 123 10 = some (.goto 11, 3, [21]) := rfl
theorem d123_13 : dec 123 13 = some (.astore 4, 2, []) := rfl
theorem d123_15 : dec 123 15 = some (.iconst 1, 1, [1]) := rfl
theorem d123_16 : dec 123 16 = some (.ireturn, 1, [0]) := rfl
theorem d123_17 : dec 123 17 = some (.astore 4, 2, []) := rfl
theorem d123_19 : dec 123 19 = some (.iconst 2, 1, [2]) := rfl
theorem d123_20 : dec 123 20 = some (.ireturn, 1, [0]) := rfl
theorem d123_21 : dec 123 21 = some (.iconst 0, 1, [0]) := rfl
theorem d123_22 : dec 123 22 = some (.ireturn, 1, [0]) := rfl
theorem l123 : mL 123 = 5 := rfl
theorem w123 {d : Nat} {P : MP} {I : MI} {L : ML} {C : MC} {Q : QT} {x1 x2 : Int32} {y : Int32} {I1 : MI} {L1 : ML} (h169 : P.1 169 = (21, 1)) (h1 : P.1 1 = (10, 0)) (h : ∀ Q, CT (d - 1) 124 [.ref 1, .int x1, .int x2] P I L C Q = Q (.inl (some (.int y))) P I1 L1 C) (hd : 1 ≤ d) : CT d 123 [.ref 1, .int x1, .int x2, .ref 169] P I L C Q = Q (.inl (some (.int (nI 0)))) P I1 (xu L1 169 0 y.toInt64) C := by
  rw [CT_e (mj := 123) (e := [.ref 1, .int x1, .int x2, .ref 169, UN]) (by omega) rfl (Nat.le_of_ble_eq_true rfl)]
  simp (disch := first | assumption | omega) only [Nat.reduceAdd, X_go, go2_some, stp, ldI, ldA, ldL, stI, stA, stL, o1I, o2I, o2L, brI, brII, gl, s1, s2, k1, sl, go_sN, go_sR, go_CT, go_sT, go_no, go_if, pops, bk_v, bk_0, d123_0, d123_1, d123_2, d123_3, d123_4, d123_5, d123_8, d123_9, d123_10, d123_13, d123_15, d123_16, d123_17, d123_19, d123_20, d123_21, d123_22, n_lt, n_le, n_eq, n_lt0, n_ge0, n_gt0, n_le0, n_eq0, m_lt, m_le, m_gt, m_ge, m_eq, m_eq', m_lt0, m_ge0, m_gt0, m_le0, m_ltm, m_lem, n_in, m_in, n_cl, n_ti, n_div, n_rem', n_dec, n_l, nI_add, pk_mul, an0, an1, decide_eq_true_eq, if_true, if_false, ite_true, ite_false, and_true, true_and, and_false, false_and, not_true, not_false_iff, or_false, false_or, or_true, true_or, eq_self, va_some, Bool.false_eq_true, reduceIte, catS_n, catS_i, catS_r, catS_l, catS_d, Nat.zero_add, Nat.add_zero, decide_true, decide_false, Nat.reduceLeDiff, cat_r, cat_i, cat_l, nle_T, nle_F, nlt_T, nlt_F, neq_T, neq_F, h169, h1, h]
  done
theorem w123_0 {d : Nat} {P : MP} {I : MI} {L : ML} {C : MC} {Q : QT} {x1 x2 : Int32} {C1 : MC} (h1 : P.1 1 = (10, 0)) (h : ∀ Q, CT (d - 1) 124 [.ref 1, .int x1, .int x2] P I L C Q = Q (.inr 0) P I L C1) (hd : 1 ≤ d) : CT d 123 [.ref 1, .int x1, .int x2, .ref 169] P I L C Q = Q (.inl (some (.int (nI 1)))) P I L C1 := by
  rw [CT_e (mj := 123) (e := [.ref 1, .int x1, .int x2, .ref 169, UN]) (by omega) rfl (Nat.le_of_ble_eq_true rfl)]
  simp (disch := first | assumption | omega) only [Nat.reduceAdd, X_go, go2_some, stp, ldI, ldA, ldL, stI, stA, stL, o1I, o2I, o2L, brI, brII, gl, s1, s2, k1, sl, go_sN, go_sR, go_CT, go_sT, go_no, go_if, pops, bk_v, bk_0, d123_0, d123_1, d123_2, d123_3, d123_4, d123_5, d123_8, d123_9, d123_10, d123_13, d123_15, d123_16, d123_17, d123_19, d123_20, d123_21, d123_22, n_lt, n_le, n_eq, n_lt0, n_ge0, n_gt0, n_le0, n_eq0, m_lt, m_le, m_gt, m_ge, m_eq, m_eq', m_lt0, m_ge0, m_gt0, m_le0, m_ltm, m_lem, n_in, m_in, n_cl, n_ti, n_div, n_rem', n_dec, n_l, nI_add, pk_mul, an0, an1, decide_eq_true_eq, if_true, if_false, ite_true, ite_false, and_true, true_and, and_false, false_and, not_true, not_false_iff, or_false, false_or, or_true, true_or, eq_self, va_some, Bool.false_eq_true, reduceIte, catS_n, catS_i, catS_r, catS_l, catS_d, Nat.zero_add, Nat.add_zero, decide_true, decide_false, Nat.reduceLeDiff, cat_r, cat_i, cat_l, nle_T, nle_F, nlt_T, nlt_F, neq_T, neq_F, h1, h, bk_h (mi := 123) (pc := 5) (E := 0) (h := 13) rfl d123_13]
  done
theorem w123_1 {d : Nat} {P : MP} {I : MI} {L : ML} {C : MC} {Q : QT} {x1 x2 : Int32} {C1 : MC} (h1 : P.1 1 = (10, 0)) (h : ∀ Q, CT (d - 1) 124 [.ref 1, .int x1, .int x2] P I L C Q = Q (.inr 1) P I L C1) (hd : 1 ≤ d) : CT d 123 [.ref 1, .int x1, .int x2, .ref 169] P I L C Q = Q (.inl (some (.int (nI 2)))) P I L C1 := by
  rw [CT_e (mj := 123) (e := [.ref 1, .int x1, .int x2, .ref 169, UN]) (by omega) rfl (Nat.le_of_ble_eq_true rfl)]
  simp (disch := first | assumption | omega) only [Nat.reduceAdd, X_go, go2_some, stp, ldI, ldA, ldL, stI, stA, stL, o1I, o2I, o2L, brI, brII, gl, s1, s2, k1, sl, go_sN, go_sR, go_CT, go_sT, go_no, go_if, pops, bk_v, bk_0, d123_0, d123_1, d123_2, d123_3, d123_4, d123_5, d123_8, d123_9, d123_10, d123_13, d123_15, d123_16, d123_17, d123_19, d123_20, d123_21, d123_22, n_lt, n_le, n_eq, n_lt0, n_ge0, n_gt0, n_le0, n_eq0, m_lt, m_le, m_gt, m_ge, m_eq, m_eq', m_lt0, m_ge0, m_gt0, m_le0, m_ltm, m_lem, n_in, m_in, n_cl, n_ti, n_div, n_rem', n_dec, n_l, nI_add, pk_mul, an0, an1, decide_eq_true_eq, if_true, if_false, ite_true, ite_false, and_true, true_and, and_false, false_and, not_true, not_false_iff, or_false, false_or, or_true, true_or, eq_self, va_some, Bool.false_eq_true, reduceIte, catS_n, catS_i, catS_r, catS_l, catS_d, Nat.zero_add, Nat.add_zero, decide_true, decide_false, Nat.reduceLeDiff, cat_r, cat_i, cat_l, nle_T, nle_F, nlt_T, nlt_F, neq_T, neq_F, h1, h, bk_h (mi := 123) (pc := 5) (E := 1) (h := 17) rfl d123_17]
  done
theorem d125_0 : dec 125 0 = some (.aload_n 3, 1, []) := rfl
theorem d125_1 : dec 125 1 = some (.iconst 0, 1, [0]) := rfl
theorem d125_2 : dec 125 2 = some (.aload_n 0, 1, []) := rfl
theorem d125_3 : dec 125 3 = some (.iload_n 1, 1, []) := rfl
theorem d125_4 : dec 125 4 = some (.iload_n 2, 1, []) := rfl
theorem d125_5 : dec 125 5 = some (.invokevirtual 59, 3, [2, 126, 2, 9, 0, 897, 0, 0]) := rfl
theorem d125_8 : dec 125 8 = some (.i2l, 1, []) := rfl
theorem d125_9 : dec 125 9 = some (.lastore, 1, []) := rfl
theorem d125_10 : dec 125 10 = some (.goto 7, 3, [17]) := rfl
theorem d125_13 : dec 125 13 = some (.astore 4, 2, []) := rfl
theorem d125_15 : dec 125 15 = some (.iconst 1, 1, [1]) := rfl
theorem d125_16 : dec 125 16 = some (.ireturn, 1, [0]) := rfl
theorem d125_17 : dec 125 17 = some (.iconst 0, 1, [0]) := rfl
theorem d125_18 : dec 125 18 = some (.ireturn, 1, [0]) := rfl
theorem l125 : mL 125 = 5 := rfl
theorem w125 {d : Nat} {P : MP} {I : MI} {L : ML} {C : MC} {Q : QT} {x1 x2 : Int32} {y : Int32} {I1 : MI} {L1 : ML} (h169 : P.1 169 = (21, 1)) (h1 : P.1 1 = (10, 0)) (h : ∀ Q, CT (d - 1) 126 [.ref 1, .int x1, .int x2] P I L C Q = Q (.inl (some (.int y))) P I1 L1 C) (hd : 1 ≤ d) : CT d 125 [.ref 1, .int x1, .int x2, .ref 169] P I L C Q = Q (.inl (some (.int (nI 0)))) P I1 (xu L1 169 0 y.toInt64) C := by
  rw [CT_e (mj := 125) (e := [.ref 1, .int x1, .int x2, .ref 169, UN]) (by omega) rfl (Nat.le_of_ble_eq_true rfl)]
  simp (disch := first | assumption | omega) only [Nat.reduceAdd, X_go, go2_some, stp, ldI, ldA, ldL, stI, stA, stL, o1I, o2I, o2L, brI, brII, gl, s1, s2, k1, sl, go_sN, go_sR, go_CT, go_sT, go_no, go_if, pops, bk_v, bk_0, d125_0, d125_1, d125_2, d125_3, d125_4, d125_5, d125_8, d125_9, d125_10, d125_13, d125_15, d125_16, d125_17, d125_18, n_lt, n_le, n_eq, n_lt0, n_ge0, n_gt0, n_le0, n_eq0, m_lt, m_le, m_gt, m_ge, m_eq, m_eq', m_lt0, m_ge0, m_gt0, m_le0, m_ltm, m_lem, n_in, m_in, n_cl, n_ti, n_div, n_rem', n_dec, n_l, nI_add, pk_mul, an0, an1, decide_eq_true_eq, if_true, if_false, ite_true, ite_false, and_true, true_and, and_false, false_and, not_true, not_false_iff, or_false, false_or, or_true, true_or, eq_self, va_some, Bool.false_eq_true, reduceIte, catS_n, catS_i, catS_r, catS_l, catS_d, Nat.zero_add, Nat.add_zero, decide_true, decide_false, Nat.reduceLeDiff, cat_r, cat_i, cat_l, nle_T, nle_F, nlt_T, nlt_F, neq_T, neq_F, h169, h1, h]
  done
theorem w125_1 {d : Nat} {P : MP} {I : MI} {L : ML} {C : MC} {Q : QT} {x1 x2 : Int32} {C1 : MC} (h1 : P.1 1 = (10, 0)) (h : ∀ Q, CT (d - 1) 126 [.ref 1, .int x1, .int x2] P I L C Q = Q (.inr 1) P I L C1) (hd : 1 ≤ d) : CT d 125 [.ref 1, .int x1, .int x2, .ref 169] P I L C Q = Q (.inl (some (.int (nI 1)))) P I L C1 := by
  rw [CT_e (mj := 125) (e := [.ref 1, .int x1, .int x2, .ref 169, UN]) (by omega) rfl (Nat.le_of_ble_eq_true rfl)]
  simp (disch := first | assumption | omega) only [Nat.reduceAdd, X_go, go2_some, stp, ldI, ldA, ldL, stI, stA, stL, o1I, o2I, o2L, brI, brII, gl, s1, s2, k1, sl, go_sN, go_sR, go_CT, go_sT, go_no, go_if, pops, bk_v, bk_0, d125_0, d125_1, d125_2, d125_3, d125_4, d125_5, d125_8, d125_9, d125_10, d125_13, d125_15, d125_16, d125_17, d125_18, n_lt, n_le, n_eq, n_lt0, n_ge0, n_gt0, n_le0, n_eq0, m_lt, m_le, m_gt, m_ge, m_eq, m_eq', m_lt0, m_ge0, m_gt0, m_le0, m_ltm, m_lem, n_in, m_in, n_cl, n_ti, n_div, n_rem', n_dec, n_l, nI_add, pk_mul, an0, an1, decide_eq_true_eq, if_true, if_false, ite_true, ite_false, and_true, true_and, and_false, false_and, not_true, not_false_iff, or_false, false_or, or_true, true_or, eq_self, va_some, Bool.false_eq_true, reduceIte, catS_n, catS_i, catS_r, catS_l, catS_d, Nat.zero_add, Nat.add_zero, decide_true, decide_false, Nat.reduceLeDiff, cat_r, cat_i, cat_l, nle_T, nle_F, nlt_T, nlt_F, neq_T, neq_F, h1, h, bk_h (mi := 125) (pc := 5) (E := 1) (h := 13) rfl d125_13]
  done
theorem d127_0 : dec 127 0 = some (.aload_n 2, 1, []) := rfl
theorem d127_1 : dec 127 1 = some (.iconst 0, 1, [0]) := rfl
theorem d127_2 : dec 127 2 = some (.aload_n 0, 1, []) := rfl
theorem d127_3 : dec 127 3 = some (.iload_n 1, 1, []) := rfl
theorem d127_4 : dec 127 4 = some (.invokevirtual 62, 3, [2, 128, 2, 9, 0, 905, 0]) := rfl
theorem d127_7 : dec 127 7 = some (.i2l, 1, []) := rfl
theorem d127_8 : dec 127 8 = some (.lastore, 1, []) := rfl
theorem d127_9 : dec 127 9 = some (.goto 6, 3, [15]) := rfl
theorem d127_12 : dec 127 12 = some (.astore_n 3, 1, []) := rfl
theorem d127_13 : dec 127 13 = some (.iconst 1, 1, [1]) := rfl
theorem d127_14 : dec 127 14 = some (.ireturn, 1, [0]) := rfl
theorem d127_15 : dec 127 15 = some (.iconst 0, 1, [0]) := rfl
theorem d127_16 : dec 127 16 = some (.ireturn, 1, [0]) := rfl
theorem l127 : mL 127 = 4 := rfl
theorem w127 {d : Nat} {P : MP} {I : MI} {L : ML} {C : MC} {Q : QT} {x1 : Int32} {y : Int32} {I1 : MI} {L1 : ML} (h169 : P.1 169 = (21, 1)) (h1 : P.1 1 = (10, 0)) (h : ∀ Q, CT (d - 1) 128 [.ref 1, .int x1] P I L C Q = Q (.inl (some (.int y))) P I1 L1 C) (hd : 1 ≤ d) : CT d 127 [.ref 1, .int x1, .ref 169] P I L C Q = Q (.inl (some (.int (nI 0)))) P I1 (xu L1 169 0 y.toInt64) C := by
  rw [CT_e (mj := 127) (e := [.ref 1, .int x1, .ref 169, UN]) (by omega) rfl (Nat.le_of_ble_eq_true rfl)]
  simp (disch := first | assumption | omega) only [Nat.reduceAdd, X_go, go2_some, stp, ldI, ldA, ldL, stI, stA, stL, o1I, o2I, o2L, brI, brII, gl, s1, s2, k1, sl, go_sN, go_sR, go_CT, go_sT, go_no, go_if, pops, bk_v, bk_0, d127_0, d127_1, d127_2, d127_3, d127_4, d127_7, d127_8, d127_9, d127_12, d127_13, d127_14, d127_15, d127_16, n_lt, n_le, n_eq, n_lt0, n_ge0, n_gt0, n_le0, n_eq0, m_lt, m_le, m_gt, m_ge, m_eq, m_eq', m_lt0, m_ge0, m_gt0, m_le0, m_ltm, m_lem, n_in, m_in, n_cl, n_ti, n_div, n_rem', n_dec, n_l, nI_add, pk_mul, an0, an1, decide_eq_true_eq, if_true, if_false, ite_true, ite_false, and_true, true_and, and_false, false_and, not_true, not_false_iff, or_false, false_or, or_true, true_or, eq_self, va_some, Bool.false_eq_true, reduceIte, catS_n, catS_i, catS_r, catS_l, catS_d, Nat.zero_add, Nat.add_zero, decide_true, decide_false, Nat.reduceLeDiff, cat_r, cat_i, cat_l, nle_T, nle_F, nlt_T, nlt_F, neq_T, neq_F, h169, h1, h]
  done
theorem w127_0 {d : Nat} {P : MP} {I : MI} {L : ML} {C : MC} {Q : QT} {x1 : Int32} {C1 : MC} (h1 : P.1 1 = (10, 0)) (h : ∀ Q, CT (d - 1) 128 [.ref 1, .int x1] P I L C Q = Q (.inr 0) P I L C1) (hd : 1 ≤ d) : CT d 127 [.ref 1, .int x1, .ref 169] P I L C Q = Q (.inl (some (.int (nI 1)))) P I L C1 := by
  rw [CT_e (mj := 127) (e := [.ref 1, .int x1, .ref 169, UN]) (by omega) rfl (Nat.le_of_ble_eq_true rfl)]
  simp (disch := first | assumption | omega) only [Nat.reduceAdd, X_go, go2_some, stp, ldI, ldA, ldL, stI, stA, stL, o1I, o2I, o2L, brI, brII, gl, s1, s2, k1, sl, go_sN, go_sR, go_CT, go_sT, go_no, go_if, pops, bk_v, bk_0, d127_0, d127_1, d127_2, d127_3, d127_4, d127_7, d127_8, d127_9, d127_12, d127_13, d127_14, d127_15, d127_16, n_lt, n_le, n_eq, n_lt0, n_ge0, n_gt0, n_le0, n_eq0, m_lt, m_le, m_gt, m_ge, m_eq, m_eq', m_lt0, m_ge0, m_gt0, m_le0, m_ltm, m_lem, n_in, m_in, n_cl, n_ti, n_div, n_rem', n_dec, n_l, nI_add, pk_mul, an0, an1, decide_eq_true_eq, if_true, if_false, ite_true, ite_false, and_true, true_and, and_false, false_and, not_true, not_false_iff, or_false, false_or, or_true, true_or, eq_self, va_some, Bool.false_eq_true, reduceIte, catS_n, catS_i, catS_r, catS_l, catS_d, Nat.zero_add, Nat.add_zero, decide_true, decide_false, Nat.reduceLeDiff, cat_r, cat_i, cat_l, nle_T, nle_F, nlt_T, nlt_F, neq_T, neq_F, h1, h, bk_hn (mi := 127) (pc := 4) (E := 0) (h := 12) rfl d127_12]
  done
theorem d130_0 : dec 130 0 = some (.aload 4, 2, []) := rfl
theorem d130_2 : dec 130 2 = some (.iconst 0, 1, [0]) := rfl
theorem d130_3 : dec 130 3 = some (.aload_n 0, 1, []) := rfl
theorem d130_4 : dec 130 4 = some (.iload_n 1, 1, []) := rfl
theorem d130_5 : dec 130 5 = some (.iload_n 2, 1, []) := rfl
theorem d130_6 : dec 130 6 = some (.iload_n 3, 1, []) := rfl
theorem d130_7 : dec 130 7 = some (.invokevirtual 65, 3, [2, 131, 2, 9, 0, 916, 0, 0, 0]) := rfl
theorem d130_10 : dec 130 10 = some (.i2l, 1, []) := rfl
theorem d130_11 : dec 130 11 = some (.lastore, 1, []) := rfl
theorem d130_12 : dec 130 12 = some (.goto 7, 3, [19]) := rfl
theorem d130_15 : dec 130 15 = some (.astore 5, 2, []) := rfl
theorem d130_17 : dec 130 17 = some (.iconst 1, 1, [1]) := rfl
theorem d130_18 : dec 130 18 = some (.ireturn, 1, [0]) := rfl
theorem d130_19 : dec 130 19 = some (.iconst 0, 1, [0]) := rfl
theorem d130_20 : dec 130 20 = some (.ireturn, 1, [0]) := rfl
theorem l130 : mL 130 = 6 := rfl
theorem w130 {d : Nat} {P : MP} {I : MI} {L : ML} {C : MC} {Q : QT} {x1 x2 x3 : Int32} {y : Int32} {I1 : MI} {L1 : ML} (h169 : P.1 169 = (21, 1)) (h1 : P.1 1 = (10, 0)) (h : ∀ Q, CT (d - 1) 131 [.ref 1, .int x1, .int x2, .int x3] P I L C Q = Q (.inl (some (.int y))) P I1 L1 C) (hd : 1 ≤ d) : CT d 130 [.ref 1, .int x1, .int x2, .int x3, .ref 169] P I L C Q = Q (.inl (some (.int (nI 0)))) P I1 (xu L1 169 0 y.toInt64) C := by
  rw [CT_e (mj := 130) (e := [.ref 1, .int x1, .int x2, .int x3, .ref 169, UN]) (by omega) rfl (Nat.le_of_ble_eq_true rfl)]
  simp (disch := first | assumption | omega) only [Nat.reduceAdd, X_go, go2_some, stp, ldI, ldA, ldL, stI, stA, stL, o1I, o2I, o2L, brI, brII, gl, s1, s2, k1, sl, go_sN, go_sR, go_CT, go_sT, go_no, go_if, pops, bk_v, bk_0, d130_0, d130_2, d130_3, d130_4, d130_5, d130_6, d130_7, d130_10, d130_11, d130_12, d130_15, d130_17, d130_18, d130_19, d130_20, n_lt, n_le, n_eq, n_lt0, n_ge0, n_gt0, n_le0, n_eq0, m_lt, m_le, m_gt, m_ge, m_eq, m_eq', m_lt0, m_ge0, m_gt0, m_le0, m_ltm, m_lem, n_in, m_in, n_cl, n_ti, n_div, n_rem', n_dec, n_l, nI_add, pk_mul, an0, an1, decide_eq_true_eq, if_true, if_false, ite_true, ite_false, and_true, true_and, and_false, false_and, not_true, not_false_iff, or_false, false_or, or_true, true_or, eq_self, va_some, Bool.false_eq_true, reduceIte, catS_n, catS_i, catS_r, catS_l, catS_d, Nat.zero_add, Nat.add_zero, decide_true, decide_false, Nat.reduceLeDiff, cat_r, cat_i, cat_l, nle_T, nle_F, nlt_T, nlt_F, neq_T, neq_F, h169, h1, h]
  done
theorem w130_0 {d : Nat} {P : MP} {I : MI} {L : ML} {C : MC} {Q : QT} {x1 x2 x3 : Int32} {C1 : MC} (h1 : P.1 1 = (10, 0)) (h : ∀ Q, CT (d - 1) 131 [.ref 1, .int x1, .int x2, .int x3] P I L C Q = Q (.inr 0) P I L C1) (hd : 1 ≤ d) : CT d 130 [.ref 1, .int x1, .int x2, .int x3, .ref 169] P I L C Q = Q (.inl (some (.int (nI 1)))) P I L C1 := by
  rw [CT_e (mj := 130) (e := [.ref 1, .int x1, .int x2, .int x3, .ref 169, UN]) (by omega) rfl (Nat.le_of_ble_eq_true rfl)]
  simp (disch := first | assumption | omega) only [Nat.reduceAdd, X_go, go2_some, stp, ldI, ldA, ldL, stI, stA, stL, o1I, o2I, o2L, brI, brII, gl, s1, s2, k1, sl, go_sN, go_sR, go_CT, go_sT, go_no, go_if, pops, bk_v, bk_0, d130_0, d130_2, d130_3, d130_4, d130_5, d130_6, d130_7, d130_10, d130_11, d130_12, d130_15, d130_17, d130_18, d130_19, d130_20, n_lt, n_le, n_eq, n_lt0, n_ge0, n_gt0, n_le0, n_eq0, m_lt, m_le, m_gt, m_ge, m_eq, m_eq', m_lt0, m_ge0, m_gt0, m_le0, m_ltm, m_lem, n_in, m_in, n_cl, n_ti, n_div, n_rem', n_dec, n_l, nI_add, pk_mul, an0, an1, decide_eq_true_eq, if_true, if_false, ite_true, ite_false, and_true, true_and, and_false, false_and, not_true, not_false_iff, or_false, false_or, or_true, true_or, eq_self, va_some, Bool.false_eq_true, reduceIte, catS_n, catS_i, catS_r, catS_l, catS_d, Nat.zero_add, Nat.add_zero, decide_true, decide_false, Nat.reduceLeDiff, cat_r, cat_i, cat_l, nle_T, nle_F, nlt_T, nlt_F, neq_T, neq_F, h1, h, bk_h (mi := 130) (pc := 7) (E := 0) (h := 15) rfl d130_15]
  done
theorem d133_0 : dec 133 0 = some (.aload_n 3, 1, []) := rfl
theorem d133_1 : dec 133 1 = some (.iconst 0, 1, [0]) := rfl
theorem d133_2 : dec 133 2 = some (.aload_n 0, 1, []) := rfl
theorem d133_3 : dec 133 3 = some (.iload_n 1, 1, []) := rfl
theorem d133_4 : dec 133 4 = some (.iload_n 2, 1, []) := rfl
theorem d133_5 : dec 133 5 = some (.invokevirtual 69, 3, [2, 134, 2, 9, 0, 926, 0, 0]) := rfl
theorem d133_8 : dec 133 8 = some (.i2l, 1, []) := rfl
theorem d133_9 : dec 133 9 = some (.lastore, 1, []) := rfl
theorem d133_10 : dec 133 10 = some (.goto 7, 3, [17]) := rfl
theorem d133_13 : dec 133 13 = some (.astore 4, 2, []) := rfl
theorem d133_15 : dec 133 15 = some (.iconst 1, 1, [1]) := rfl
theorem d133_16 : dec 133 16 = some (.ireturn, 1, [0]) := rfl
theorem d133_17 : dec 133 17 = some (.iconst 0, 1, [0]) := rfl
theorem d133_18 : dec 133 18 = some (.ireturn, 1, [0]) := rfl
theorem l133 : mL 133 = 5 := rfl
theorem w133 {d : Nat} {P : MP} {I : MI} {L : ML} {C : MC} {Q : QT} {x1 x2 : Int32} {y : Int32} {I1 : MI} {L1 : ML} (h169 : P.1 169 = (21, 1)) (h1 : P.1 1 = (10, 0)) (h : ∀ Q, CT (d - 1) 134 [.ref 1, .int x1, .int x2] P I L C Q = Q (.inl (some (.int y))) P I1 L1 C) (hd : 1 ≤ d) : CT d 133 [.ref 1, .int x1, .int x2, .ref 169] P I L C Q = Q (.inl (some (.int (nI 0)))) P I1 (xu L1 169 0 y.toInt64) C := by
  rw [CT_e (mj := 133) (e := [.ref 1, .int x1, .int x2, .ref 169, UN]) (by omega) rfl (Nat.le_of_ble_eq_true rfl)]
  simp (disch := first | assumption | omega) only [Nat.reduceAdd, X_go, go2_some, stp, ldI, ldA, ldL, stI, stA, stL, o1I, o2I, o2L, brI, brII, gl, s1, s2, k1, sl, go_sN, go_sR, go_CT, go_sT, go_no, go_if, pops, bk_v, bk_0, d133_0, d133_1, d133_2, d133_3, d133_4, d133_5, d133_8, d133_9, d133_10, d133_13, d133_15, d133_16, d133_17, d133_18, n_lt, n_le, n_eq, n_lt0, n_ge0, n_gt0, n_le0, n_eq0, m_lt, m_le, m_gt, m_ge, m_eq, m_eq', m_lt0, m_ge0, m_gt0, m_le0, m_ltm, m_lem, n_in, m_in, n_cl, n_ti, n_div, n_rem', n_dec, n_l, nI_add, pk_mul, an0, an1, decide_eq_true_eq, if_true, if_false, ite_true, ite_false, and_true, true_and, and_false, false_and, not_true, not_false_iff, or_false, false_or, or_true, true_or, eq_self, va_some, Bool.false_eq_true, reduceIte, catS_n, catS_i, catS_r, catS_l, catS_d, Nat.zero_add, Nat.add_zero, decide_true, decide_false, Nat.reduceLeDiff, cat_r, cat_i, cat_l, nle_T, nle_F, nlt_T, nlt_F, neq_T, neq_F, h169, h1, h]
  done
theorem w133_0 {d : Nat} {P : MP} {I : MI} {L : ML} {C : MC} {Q : QT} {x1 x2 : Int32} {C1 : MC} (h1 : P.1 1 = (10, 0)) (h : ∀ Q, CT (d - 1) 134 [.ref 1, .int x1, .int x2] P I L C Q = Q (.inr 0) P I L C1) (hd : 1 ≤ d) : CT d 133 [.ref 1, .int x1, .int x2, .ref 169] P I L C Q = Q (.inl (some (.int (nI 1)))) P I L C1 := by
  rw [CT_e (mj := 133) (e := [.ref 1, .int x1, .int x2, .ref 169, UN]) (by omega) rfl (Nat.le_of_ble_eq_true rfl)]
  simp (disch := first | assumption | omega) only [Nat.reduceAdd, X_go, go2_some, stp, ldI, ldA, ldL, stI, stA, stL, o1I, o2I, o2L, brI, brII, gl, s1, s2, k1, sl, go_sN, go_sR, go_CT, go_sT, go_no, go_if, pops, bk_v, bk_0, d133_0, d133_1, d133_2, d133_3, d133_4, d133_5, d133_8, d133_9, d133_10, d133_13, d133_15, d133_16, d133_17, d133_18, n_lt, n_le, n_eq, n_lt0, n_ge0, n_gt0, n_le0, n_eq0, m_lt, m_le, m_gt, m_ge, m_eq, m_eq', m_lt0, m_ge0, m_gt0, m_le0, m_ltm, m_lem, n_in, m_in, n_cl, n_ti, n_div, n_rem', n_dec, n_l, nI_add, pk_mul, an0, an1, decide_eq_true_eq, if_true, if_false, ite_true, ite_false, and_true, true_and, and_false, false_and, not_true, not_false_iff, or_false, false_or, or_true, true_or, eq_self, va_some, Bool.false_eq_true, reduceIte, catS_n, catS_i, catS_r, catS_l, catS_d, Nat.zero_add, Nat.add_zero, decide_true, decide_false, Nat.reduceLeDiff, cat_r, cat_i, cat_l, nle_T, nle_F, nlt_T, nlt_F, neq_T, neq_F, h1, h, bk_h (mi := 133) (pc := 5) (E := 0) (h := 13) rfl d133_13]
  done
theorem d136_0 : dec 136 0 = some (.aload_n 3, 1, []) := rfl
theorem d136_1 : dec 136 1 = some (.iconst 0, 1, [0]) := rfl
theorem d136_2 : dec 136 2 = some (.aload_n 0, 1, []) := rfl
theorem d136_3 : dec 136 3 = some (.iload_n 1, 1, []) := rfl
theorem d136_4 : dec 136 4 = some (.iload_n 2, 1, []) := rfl
theorem d136_5 : dec 136 5 = some (.invokevirtual 72, 3, [2, 137, 2, 9, 0, 937, 0, 0]) := rfl
theorem d136_8 : dec 136 8 = some (.i2l, 1, []) := rfl
theorem d136_9 : dec 136 9 = some (.lastore, 1, []) := rfl
theorem d136_10 : dec 136 10 = some (.goto 11, 3, [21]) := rfl
theorem d136_13 : dec 136 13 = some (.astore 4, 2, []) := rfl
theorem d136_15 : dec 136 15 = some (.iconst 1, 1, [1]) := rfl
theorem d136_16 : dec 136 16 = some (.ireturn, 1, [0]) := rfl
theorem d136_17 : dec 136 17 = some (.astore 4, 2, []) := rfl
theorem d136_19 : dec 136 19 = some (.iconst 2, 1, [2]) := rfl
theorem d136_20 : dec 136 20 = some (.ireturn, 1, [0]) := rfl
theorem d136_21 : dec 136 21 = some (.iconst 0, 1, [0]) := rfl
theorem d136_22 : dec 136 22 = some (.ireturn, 1, [0]) := rfl
theorem l136 : mL 136 = 5 := rfl
theorem w136 {d : Nat} {P : MP} {I : MI} {L : ML} {C : MC} {Q : QT} {x1 x2 : Int32} {y : Int32} {I1 : MI} {L1 : ML} (h169 : P.1 169 = (21, 1)) (h1 : P.1 1 = (10, 0)) (h : ∀ Q, CT (d - 1) 137 [.ref 1, .int x1, .int x2] P I L C Q = Q (.inl (some (.int y))) P I1 L1 C) (hd : 1 ≤ d) : CT d 136 [.ref 1, .int x1, .int x2, .ref 169] P I L C Q = Q (.inl (some (.int (nI 0)))) P I1 (xu L1 169 0 y.toInt64) C := by
  rw [CT_e (mj := 136) (e := [.ref 1, .int x1, .int x2, .ref 169, UN]) (by omega) rfl (Nat.le_of_ble_eq_true rfl)]
  simp (disch := first | assumption | omega) only [Nat.reduceAdd, X_go, go2_some, stp, ldI, ldA, ldL, stI, stA, stL, o1I, o2I, o2L, brI, brII, gl, s1, s2, k1, sl, go_sN, go_sR, go_CT, go_sT, go_no, go_if, pops, bk_v, bk_0, d136_0, d136_1, d136_2, d136_3, d136_4, d136_5, d136_8, d136_9, d136_10, d136_13, d136_15, d136_16, d136_17, d136_19, d136_20, d136_21, d136_22, n_lt, n_le, n_eq, n_lt0, n_ge0, n_gt0, n_le0, n_eq0, m_lt, m_le, m_gt, m_ge, m_eq, m_eq', m_lt0, m_ge0, m_gt0, m_le0, m_ltm, m_lem, n_in, m_in, n_cl, n_ti, n_div, n_rem', n_dec, n_l, nI_add, pk_mul, an0, an1, decide_eq_true_eq, if_true, if_false, ite_true, ite_false, and_true, true_and, and_false, false_and, not_true, not_false_iff, or_false, false_or, or_true, true_or, eq_self, va_some, Bool.false_eq_true, reduceIte, catS_n, catS_i, catS_r, catS_l, catS_d, Nat.zero_add, Nat.add_zero, decide_true, decide_false, Nat.reduceLeDiff, cat_r, cat_i, cat_l, nle_T, nle_F, nlt_T, nlt_F, neq_T, neq_F, h169, h1, h]
  done
theorem w136_0 {d : Nat} {P : MP} {I : MI} {L : ML} {C : MC} {Q : QT} {x1 x2 : Int32} {C1 : MC} (h1 : P.1 1 = (10, 0)) (h : ∀ Q, CT (d - 1) 137 [.ref 1, .int x1, .int x2] P I L C Q = Q (.inr 0) P I L C1) (hd : 1 ≤ d) : CT d 136 [.ref 1, .int x1, .int x2, .ref 169] P I L C Q = Q (.inl (some (.int (nI 1)))) P I L C1 := by
  rw [CT_e (mj := 136) (e := [.ref 1, .int x1, .int x2, .ref 169, UN]) (by omega) rfl (Nat.le_of_ble_eq_true rfl)]
  simp (disch := first | assumption | omega) only [Nat.reduceAdd, X_go, go2_some, stp, ldI, ldA, ldL, stI, stA, stL, o1I, o2I, o2L, brI, brII, gl, s1, s2, k1, sl, go_sN, go_sR, go_CT, go_sT, go_no, go_if, pops, bk_v, bk_0, d136_0, d136_1, d136_2, d136_3, d136_4, d136_5, d136_8, d136_9, d136_10, d136_13, d136_15, d136_16, d136_17, d136_19, d136_20, d136_21, d136_22, n_lt, n_le, n_eq, n_lt0, n_ge0, n_gt0, n_le0, n_eq0, m_lt, m_le, m_gt, m_ge, m_eq, m_eq', m_lt0, m_ge0, m_gt0, m_le0, m_ltm, m_lem, n_in, m_in, n_cl, n_ti, n_div, n_rem', n_dec, n_l, nI_add, pk_mul, an0, an1, decide_eq_true_eq, if_true, if_false, ite_true, ite_false, and_true, true_and, and_false, false_and, not_true, not_false_iff, or_false, false_or, or_true, true_or, eq_self, va_some, Bool.false_eq_true, reduceIte, catS_n, catS_i, catS_r, catS_l, catS_d, Nat.zero_add, Nat.add_zero, decide_true, decide_false, Nat.reduceLeDiff, cat_r, cat_i, cat_l, nle_T, nle_F, nlt_T, nlt_F, neq_T, neq_F, h1, h, bk_h (mi := 136) (pc := 5) (E := 0) (h := 13) rfl d136_13]
  done
theorem w136_1 {d : Nat} {P : MP} {I : MI} {L : ML} {C : MC} {Q : QT} {x1 x2 : Int32} {C1 : MC} (h1 : P.1 1 = (10, 0)) (h : ∀ Q, CT (d - 1) 137 [.ref 1, .int x1, .int x2] P I L C Q = Q (.inr 1) P I L C1) (hd : 1 ≤ d) : CT d 136 [.ref 1, .int x1, .int x2, .ref 169] P I L C Q = Q (.inl (some (.int (nI 2)))) P I L C1 := by
  rw [CT_e (mj := 136) (e := [.ref 1, .int x1, .int x2, .ref 169, UN]) (by omega) rfl (Nat.le_of_ble_eq_true rfl)]
  simp (disch := first | assumption | omega) only [Nat.reduceAdd, X_go, go2_some, stp, ldI, ldA, ldL, stI, stA, stL, o1I, o2I, o2L, brI, brII, gl, s1, s2, k1, sl, go_sN, go_sR, go_CT, go_sT, go_no, go_if, pops, bk_v, bk_0, d136_0, d136_1, d136_2, d136_3, d136_4, d136_5, d136_8, d136_9, d136_10, d136_13, d136_15, d136_16, d136_17, d136_19, d136_20, d136_21, d136_22, n_lt, n_le, n_eq, n_lt0, n_ge0, n_gt0, n_le0, n_eq0, m_lt, m_le, m_gt, m_ge, m_eq, m_eq', m_lt0, m_ge0, m_gt0, m_le0, m_ltm, m_lem, n_in, m_in, n_cl, n_ti, n_div, n_rem', n_dec, n_l, nI_add, pk_mul, an0, an1, decide_eq_true_eq, if_true, if_false, ite_true, ite_false, and_true, true_and, and_false, false_and, not_true, not_false_iff, or_false, false_or, or_true, true_or, eq_self, va_some, Bool.false_eq_true, reduceIte, catS_n, catS_i, catS_r, catS_l, catS_d, Nat.zero_add, Nat.add_zero, decide_true, decide_false, Nat.reduceLeDiff, cat_r, cat_i, cat_l, nle_T, nle_F, nlt_T, nlt_F, neq_T, neq_F, h1, h, bk_h (mi := 136) (pc := 5) (E := 1) (h := 17) rfl d136_17]
  done
theorem d138_0 : dec 138 0 = some (.aload_n 2, 1, []) := rfl
theorem d138_1 : dec 138 1 = some (.iconst 0, 1, [0]) := rfl
theorem d138_2 : dec 138 2 = some (.aload_n 0, 1, []) := rfl
theorem d138_3 : dec 138 3 = some (.iload_n 1, 1, []) := rfl
theorem d138_4 : dec 138 4 = some (.invokevirtual 75, 3, [2, 139, 2, 9, 0, 944, 0]) := rfl
theorem d138_7 : dec 138 7 = some (.lastore, 1, []) := rfl
theorem d138_8 : dec 138 8 = some (.goto 6, 3, [14]) := rfl
theorem d138_11 : dec 138 11 = some (.astore_n 3, 1, []) := rfl
theorem d138_12 : dec 138 12 = some (.iconst 1, 1, [1]) := rfl
theorem d138_13 : dec 138 13 = some (.ireturn, 1, [0]) := rfl
theorem d138_14 : dec 138 14 = some (.iconst 0, 1, [0]) := rfl
theorem d138_15 : dec 138 15 = some (.ireturn, 1, [0]) := rfl
theorem l138 : mL 138 = 4 := rfl
theorem w138 {d : Nat} {P : MP} {I : MI} {L : ML} {C : MC} {Q : QT} {x1 : Int32} {y : Int64} {I1 : MI} {L1 : ML} (h169 : P.1 169 = (21, 1)) (h1 : P.1 1 = (10, 0)) (h : ∀ Q, CT (d - 1) 139 [.ref 1, .int x1] P I L C Q = Q (.inl (some (.long y))) P I1 L1 C) (hd : 1 ≤ d) : CT d 138 [.ref 1, .int x1, .ref 169] P I L C Q = Q (.inl (some (.int (nI 0)))) P I1 (xu L1 169 0 y) C := by
  rw [CT_e (mj := 138) (e := [.ref 1, .int x1, .ref 169, UN]) (by omega) rfl (Nat.le_of_ble_eq_true rfl)]
  simp (disch := first | assumption | omega) only [Nat.reduceAdd, X_go, go2_some, stp, ldI, ldA, ldL, stI, stA, stL, o1I, o2I, o2L, brI, brII, gl, s1, s2, k1, sl, go_sN, go_sR, go_CT, go_sT, go_no, go_if, pops, bk_v, bk_0, d138_0, d138_1, d138_2, d138_3, d138_4, d138_7, d138_8, d138_11, d138_12, d138_13, d138_14, d138_15, n_lt, n_le, n_eq, n_lt0, n_ge0, n_gt0, n_le0, n_eq0, m_lt, m_le, m_gt, m_ge, m_eq, m_eq', m_lt0, m_ge0, m_gt0, m_le0, m_ltm, m_lem, n_in, m_in, n_cl, n_ti, n_div, n_rem', n_dec, n_l, nI_add, pk_mul, an0, an1, decide_eq_true_eq, if_true, if_false, ite_true, ite_false, and_true, true_and, and_false, false_and, not_true, not_false_iff, or_false, false_or, or_true, true_or, eq_self, va_some, Bool.false_eq_true, reduceIte, catS_n, catS_i, catS_r, catS_l, catS_d, Nat.zero_add, Nat.add_zero, decide_true, decide_false, Nat.reduceLeDiff, cat_r, cat_i, cat_l, nle_T, nle_F, nlt_T, nlt_F, neq_T, neq_F, h169, h1, h]
  done
theorem w138_0 {d : Nat} {P : MP} {I : MI} {L : ML} {C : MC} {Q : QT} {x1 : Int32} {C1 : MC} (h1 : P.1 1 = (10, 0)) (h : ∀ Q, CT (d - 1) 139 [.ref 1, .int x1] P I L C Q = Q (.inr 0) P I L C1) (hd : 1 ≤ d) : CT d 138 [.ref 1, .int x1, .ref 169] P I L C Q = Q (.inl (some (.int (nI 1)))) P I L C1 := by
  rw [CT_e (mj := 138) (e := [.ref 1, .int x1, .ref 169, UN]) (by omega) rfl (Nat.le_of_ble_eq_true rfl)]
  simp (disch := first | assumption | omega) only [Nat.reduceAdd, X_go, go2_some, stp, ldI, ldA, ldL, stI, stA, stL, o1I, o2I, o2L, brI, brII, gl, s1, s2, k1, sl, go_sN, go_sR, go_CT, go_sT, go_no, go_if, pops, bk_v, bk_0, d138_0, d138_1, d138_2, d138_3, d138_4, d138_7, d138_8, d138_11, d138_12, d138_13, d138_14, d138_15, n_lt, n_le, n_eq, n_lt0, n_ge0, n_gt0, n_le0, n_eq0, m_lt, m_le, m_gt, m_ge, m_eq, m_eq', m_lt0, m_ge0, m_gt0, m_le0, m_ltm, m_lem, n_in, m_in, n_cl, n_ti, n_div, n_rem', n_dec, n_l, nI_add, pk_mul, an0, an1, decide_eq_true_eq, if_true, if_false, ite_true, ite_false, and_true, true_and, and_false, false_and, not_true, not_false_iff, or_false, false_or, or_true, true_or, eq_self, va_some, Bool.false_eq_true, reduceIte, catS_n, catS_i, catS_r, catS_l, catS_d, Nat.zero_add, Nat.add_zero, decide_true, decide_false, Nat.reduceLeDiff, cat_r, cat_i, cat_l, nle_T, nle_F, nlt_T, nlt_F, neq_T, neq_F, h1, h, bk_hn (mi := 138) (pc := 4) (E := 0) (h := 11) rfl d138_11]
  done
theorem d140_0 : dec 140 0 = some (.aload_n 3, 1, []) := rfl
theorem d140_1 : dec 140 1 = some (.iconst 0, 1, [0]) := rfl
theorem d140_2 : dec 140 2 = some (.aload_n 0, 1, []) := rfl
theorem d140_3 : dec 140 3 = some (.iload_n 1, 1, []) := rfl
theorem d140_4 : dec 140 4 = some (.iload_n 2, 1, []) := rfl
theorem d140_5 : dec 140 5 = some (.invokevirtual 79, 3, [2, 141, 2, 9, 0, 951, 0, 0]) := rfl
theorem d140_8 : dec 140 8 = some (.i2l, 1, []) := rfl
theorem d140_9 : dec 140 9 = some (.lastore, 1, []) := rfl
theorem d140_10 : dec 140 10 = some (.goto 7, 3, [17]) := rfl
theorem d140_13 : dec 140 13 = some (.astore 4, 2, []) := rfl
theorem d140_15 : dec 140 15 = some (.iconst 1, 1, [1]) := rfl
theorem d140_16 : dec 140 16 = some (.ireturn, 1, [0]) := rfl
theorem d140_17 : dec 140 17 = some (.iconst 0, 1, [0]) := rfl
theorem d140_18 : dec 140 18 = some (.ireturn, 1, [0]) := rfl
theorem l140 : mL 140 = 5 := rfl
theorem w140 {d : Nat} {P : MP} {I : MI} {L : ML} {C : MC} {Q : QT} {x1 x2 : Int32} {y : Int32} {I1 : MI} {L1 : ML} (h169 : P.1 169 = (21, 1)) (h1 : P.1 1 = (10, 0)) (h : ∀ Q, CT (d - 1) 141 [.ref 1, .int x1, .int x2] P I L C Q = Q (.inl (some (.int y))) P I1 L1 C) (hd : 1 ≤ d) : CT d 140 [.ref 1, .int x1, .int x2, .ref 169] P I L C Q = Q (.inl (some (.int (nI 0)))) P I1 (xu L1 169 0 y.toInt64) C := by
  rw [CT_e (mj := 140) (e := [.ref 1, .int x1, .int x2, .ref 169, UN]) (by omega) rfl (Nat.le_of_ble_eq_true rfl)]
  simp (disch := first | assumption | omega) only [Nat.reduceAdd, X_go, go2_some, stp, ldI, ldA, ldL, stI, stA, stL, o1I, o2I, o2L, brI, brII, gl, s1, s2, k1, sl, go_sN, go_sR, go_CT, go_sT, go_no, go_if, pops, bk_v, bk_0, d140_0, d140_1, d140_2, d140_3, d140_4, d140_5, d140_8, d140_9, d140_10, d140_13, d140_15, d140_16, d140_17, d140_18, n_lt, n_le, n_eq, n_lt0, n_ge0, n_gt0, n_le0, n_eq0, m_lt, m_le, m_gt, m_ge, m_eq, m_eq', m_lt0, m_ge0, m_gt0, m_le0, m_ltm, m_lem, n_in, m_in, n_cl, n_ti, n_div, n_rem', n_dec, n_l, nI_add, pk_mul, an0, an1, decide_eq_true_eq, if_true, if_false, ite_true, ite_false, and_true, true_and, and_false, false_and, not_true, not_false_iff, or_false, false_or, or_true, true_or, eq_self, va_some, Bool.false_eq_true, reduceIte, catS_n, catS_i, catS_r, catS_l, catS_d, Nat.zero_add, Nat.add_zero, decide_true, decide_false, Nat.reduceLeDiff, cat_r, cat_i, cat_l, nle_T, nle_F, nlt_T, nlt_F, neq_T, neq_F, h169, h1, h]
  done
theorem w140_0 {d : Nat} {P : MP} {I : MI} {L : ML} {C : MC} {Q : QT} {x1 x2 : Int32} {C1 : MC} (h1 : P.1 1 = (10, 0)) (h : ∀ Q, CT (d - 1) 141 [.ref 1, .int x1, .int x2] P I L C Q = Q (.inr 0) P I L C1) (hd : 1 ≤ d) : CT d 140 [.ref 1, .int x1, .int x2, .ref 169] P I L C Q = Q (.inl (some (.int (nI 1)))) P I L C1 := by
  rw [CT_e (mj := 140) (e := [.ref 1, .int x1, .int x2, .ref 169, UN]) (by omega) rfl (Nat.le_of_ble_eq_true rfl)]
  simp (disch := first | assumption | omega) only [Nat.reduceAdd, X_go, go2_some, stp, ldI, ldA, ldL, stI, stA, stL, o1I, o2I, o2L, brI, brII, gl, s1, s2, k1, sl, go_sN, go_sR, go_CT, go_sT, go_no, go_if, pops, bk_v, bk_0, d140_0, d140_1, d140_2, d140_3, d140_4, d140_5, d140_8, d140_9, d140_10, d140_13, d140_15, d140_16, d140_17, d140_18, n_lt, n_le, n_eq, n_lt0, n_ge0, n_gt0, n_le0, n_eq0, m_lt, m_le, m_gt, m_ge, m_eq, m_eq', m_lt0, m_ge0, m_gt0, m_le0, m_ltm, m_lem, n_in, m_in, n_cl, n_ti, n_div, n_rem', n_dec, n_l, nI_add, pk_mul, an0, an1, decide_eq_true_eq, if_true, if_false, ite_true, ite_false, and_true, true_and, and_false, false_and, not_true, not_false_iff, or_false, false_or, or_true, true_or, eq_self, va_some, Bool.false_eq_true, reduceIte, catS_n, catS_i, catS_r, catS_l, catS_d, Nat.zero_add, Nat.add_zero, decide_true, decide_false, Nat.reduceLeDiff, cat_r, cat_i, cat_l, nle_T, nle_F, nlt_T, nlt_F, neq_T, neq_F, h1, h, bk_h (mi := 140) (pc := 5) (E := 0) (h := 13) rfl d140_13]
  done
theorem d142_0 : dec 142 0 = some (.aload_n 3, 1, []) := rfl
theorem d142_1 : dec 142 1 = some (.iconst 0, 1, [0]) := rfl
theorem d142_2 : dec 142 2 = some (.aload_n 0, 1, []) := rfl
theorem d142_3 : dec 142 3 = some (.iload_n 1, 1, []) := rfl
theorem d142_4 : dec 142 4 = some (.iload_n 2, 1, []) := rfl
theorem d142_5 : dec 142 5 = some (.invokevirtual 82, 3, [2, 143, 2, 9, 0, 959, 0, 0]) := rfl
theorem d142_8 : dec 142 8 = some (.i2l, 1, []) := rfl
theorem d142_9 : dec 142 9 = some (.lastore, 1, []) := rfl
theorem d142_10 : dec 142 10 = some (.goto 7, 3, [17]) := rfl
theorem d142_13 : dec 142 13 = some (.astore 4, 2, []) := rfl
theorem d142_15 : dec 142 15 = some (.iconst 1, 1, [1]) := rfl
theorem d142_16 : dec 142 16 = some (.ireturn, 1, [0]) := rfl
theorem d142_17 : dec 142 17 = some (.iconst 0, 1, [0]) := rfl
theorem d142_18 : dec 142 18 = some (.ireturn, 1, [0]) := rfl
theorem l142 : mL 142 = 5 := rfl
theorem w142 {d : Nat} {P : MP} {I : MI} {L : ML} {C : MC} {Q : QT} {x1 x2 : Int32} {y : Int32} {I1 : MI} {L1 : ML} (h169 : P.1 169 = (21, 1)) (h1 : P.1 1 = (10, 0)) (h : ∀ Q, CT (d - 1) 143 [.ref 1, .int x1, .int x2] P I L C Q = Q (.inl (some (.int y))) P I1 L1 C) (hd : 1 ≤ d) : CT d 142 [.ref 1, .int x1, .int x2, .ref 169] P I L C Q = Q (.inl (some (.int (nI 0)))) P I1 (xu L1 169 0 y.toInt64) C := by
  rw [CT_e (mj := 142) (e := [.ref 1, .int x1, .int x2, .ref 169, UN]) (by omega) rfl (Nat.le_of_ble_eq_true rfl)]
  simp (disch := first | assumption | omega) only [Nat.reduceAdd, X_go, go2_some, stp, ldI, ldA, ldL, stI, stA, stL, o1I, o2I, o2L, brI, brII, gl, s1, s2, k1, sl, go_sN, go_sR, go_CT, go_sT, go_no, go_if, pops, bk_v, bk_0, d142_0, d142_1, d142_2, d142_3, d142_4, d142_5, d142_8, d142_9, d142_10, d142_13, d142_15, d142_16, d142_17, d142_18, n_lt, n_le, n_eq, n_lt0, n_ge0, n_gt0, n_le0, n_eq0, m_lt, m_le, m_gt, m_ge, m_eq, m_eq', m_lt0, m_ge0, m_gt0, m_le0, m_ltm, m_lem, n_in, m_in, n_cl, n_ti, n_div, n_rem', n_dec, n_l, nI_add, pk_mul, an0, an1, decide_eq_true_eq, if_true, if_false, ite_true, ite_false, and_true, true_and, and_false, false_and, not_true, not_false_iff, or_false, false_or, or_true, true_or, eq_self, va_some, Bool.false_eq_true, reduceIte, catS_n, catS_i, catS_r, catS_l, catS_d, Nat.zero_add, Nat.add_zero, decide_true, decide_false, Nat.reduceLeDiff, cat_r, cat_i, cat_l, nle_T, nle_F, nlt_T, nlt_F, neq_T, neq_F, h169, h1, h]
  done
theorem w142_0 {d : Nat} {P : MP} {I : MI} {L : ML} {C : MC} {Q : QT} {x1 x2 : Int32} {C1 : MC} (h1 : P.1 1 = (10, 0)) (h : ∀ Q, CT (d - 1) 143 [.ref 1, .int x1, .int x2] P I L C Q = Q (.inr 0) P I L C1) (hd : 1 ≤ d) : CT d 142 [.ref 1, .int x1, .int x2, .ref 169] P I L C Q = Q (.inl (some (.int (nI 1)))) P I L C1 := by
  rw [CT_e (mj := 142) (e := [.ref 1, .int x1, .int x2, .ref 169, UN]) (by omega) rfl (Nat.le_of_ble_eq_true rfl)]
  simp (disch := first | assumption | omega) only [Nat.reduceAdd, X_go, go2_some, stp, ldI, ldA, ldL, stI, stA, stL, o1I, o2I, o2L, brI, brII, gl, s1, s2, k1, sl, go_sN, go_sR, go_CT, go_sT, go_no, go_if, pops, bk_v, bk_0, d142_0, d142_1, d142_2, d142_3, d142_4, d142_5, d142_8, d142_9, d142_10, d142_13, d142_15, d142_16, d142_17, d142_18, n_lt, n_le, n_eq, n_lt0, n_ge0, n_gt0, n_le0, n_eq0, m_lt, m_le, m_gt, m_ge, m_eq, m_eq', m_lt0, m_ge0, m_gt0, m_le0, m_ltm, m_lem, n_in, m_in, n_cl, n_ti, n_div, n_rem', n_dec, n_l, nI_add, pk_mul, an0, an1, decide_eq_true_eq, if_true, if_false, ite_true, ite_false, and_true, true_and, and_false, false_and, not_true, not_false_iff, or_false, false_or, or_true, true_or, eq_self, va_some, Bool.false_eq_true, reduceIte, catS_n, catS_i, catS_r, catS_l, catS_d, Nat.zero_add, Nat.add_zero, decide_true, decide_false, Nat.reduceLeDiff, cat_r, cat_i, cat_l, nle_T, nle_F, nlt_T, nlt_F, neq_T, neq_F, h1, h, bk_h (mi := 142) (pc := 5) (E := 0) (h := 13) rfl d142_13]
  done
theorem d144_0 : dec 144 0 = some (.aload_n 2, 1, []) := rfl
theorem d144_1 : dec 144 1 = some (.iconst 0, 1, [0]) := rfl
theorem d144_2 : dec 144 2 = some (.aload_n 0, 1, []) := rfl
theorem d144_3 : dec 144 3 = some (.iload_n 1, 1, []) := rfl
theorem d144_4 : dec 144 4 = some (.invokevirtual 85, 3, [2, 145, 2, 9, 0, 967, 0]) := rfl
theorem d144_7 : dec 144 7 = some (.i2l, 1, []) := rfl
theorem d144_8 : dec 144 8 = some (.lastore, 1, []) := rfl
theorem d144_9 : dec 144 9 = some (.goto 9, 3, [18]) := rfl
theorem d144_12 : dec 144 12 = some (.astore_n 3, 1, []) := rfl
theorem d144_13 : dec 144 13 = some (.iconst 1, 1, [1]) := rfl
theorem d144_14 : dec 144 14 = some (.ireturn, 1, [0]) := rfl
theorem d144_15 : dec 144 15 = some (.astore_n 3, 1, []) := rfl
theorem d144_16 : dec 144 16 = some (.iconst 2, 1, [2]) := rfl
theorem d144_17 : dec 144 17 = some (.ireturn, 1, [0]) := rfl
theorem d144_18 : dec 144 18 = some (.iconst 0, 1, [0]) := rfl
theorem d144_19 : dec 144 19 = some (.ireturn, 1, [0]) := rfl
theorem l144 : mL 144 = 4 := rfl
theorem w144 {d : Nat} {P : MP} {I : MI} {L : ML} {C : MC} {Q : QT} {x1 : Int32} {y : Int32} {I1 : MI} {L1 : ML} (h169 : P.1 169 = (21, 1)) (h1 : P.1 1 = (10, 0)) (h : ∀ Q, CT (d - 1) 145 [.ref 1, .int x1] P I L C Q = Q (.inl (some (.int y))) P I1 L1 C) (hd : 1 ≤ d) : CT d 144 [.ref 1, .int x1, .ref 169] P I L C Q = Q (.inl (some (.int (nI 0)))) P I1 (xu L1 169 0 y.toInt64) C := by
  rw [CT_e (mj := 144) (e := [.ref 1, .int x1, .ref 169, UN]) (by omega) rfl (Nat.le_of_ble_eq_true rfl)]
  simp (disch := first | assumption | omega) only [Nat.reduceAdd, X_go, go2_some, stp, ldI, ldA, ldL, stI, stA, stL, o1I, o2I, o2L, brI, brII, gl, s1, s2, k1, sl, go_sN, go_sR, go_CT, go_sT, go_no, go_if, pops, bk_v, bk_0, d144_0, d144_1, d144_2, d144_3, d144_4, d144_7, d144_8, d144_9, d144_12, d144_13, d144_14, d144_15, d144_16, d144_17, d144_18, d144_19, n_lt, n_le, n_eq, n_lt0, n_ge0, n_gt0, n_le0, n_eq0, m_lt, m_le, m_gt, m_ge, m_eq, m_eq', m_lt0, m_ge0, m_gt0, m_le0, m_ltm, m_lem, n_in, m_in, n_cl, n_ti, n_div, n_rem', n_dec, n_l, nI_add, pk_mul, an0, an1, decide_eq_true_eq, if_true, if_false, ite_true, ite_false, and_true, true_and, and_false, false_and, not_true, not_false_iff, or_false, false_or, or_true, true_or, eq_self, va_some, Bool.false_eq_true, reduceIte, catS_n, catS_i, catS_r, catS_l, catS_d, Nat.zero_add, Nat.add_zero, decide_true, decide_false, Nat.reduceLeDiff, cat_r, cat_i, cat_l, nle_T, nle_F, nlt_T, nlt_F, neq_T, neq_F, h169, h1, h]
  done
theorem w144_1 {d : Nat} {P : MP} {I : MI} {L : ML} {C : MC} {Q : QT} {x1 : Int32} {C1 : MC} (h1 : P.1 1 = (10, 0)) (h : ∀ Q, CT (d - 1) 145 [.ref 1, .int x1] P I L C Q = Q (.inr 1) P I L C1) (hd : 1 ≤ d) : CT d 144 [.ref 1, .int x1, .ref 169] P I L C Q = Q (.inl (some (.int (nI 1)))) P I L C1 := by
  rw [CT_e (mj := 144) (e := [.ref 1, .int x1, .ref 169, UN]) (by omega) rfl (Nat.le_of_ble_eq_true rfl)]
  simp (disch := first | assumption | omega) only [Nat.reduceAdd, X_go, go2_some, stp, ldI, ldA, ldL, stI, stA, stL, o1I, o2I, o2L, brI, brII, gl, s1, s2, k1, sl, go_sN, go_sR, go_CT, go_sT, go_no, go_if, pops, bk_v, bk_0, d144_0, d144_1, d144_2, d144_3, d144_4, d144_7, d144_8, d144_9, d144_12, d144_13, d144_14, d144_15, d144_16, d144_17, d144_18, d144_19, n_lt, n_le, n_eq, n_lt0, n_ge0, n_gt0, n_le0, n_eq0, m_lt, m_le, m_gt, m_ge, m_eq, m_eq', m_lt0, m_ge0, m_gt0, m_le0, m_ltm, m_lem, n_in, m_in, n_cl, n_ti, n_div, n_rem', n_dec, n_l, nI_add, pk_mul, an0, an1, decide_eq_true_eq, if_true, if_false, ite_true, ite_false, and_true, true_and, and_false, false_and, not_true, not_false_iff, or_false, false_or, or_true, true_or, eq_self, va_some, Bool.false_eq_true, reduceIte, catS_n, catS_i, catS_r, catS_l, catS_d, Nat.zero_add, Nat.add_zero, decide_true, decide_false, Nat.reduceLeDiff, cat_r, cat_i, cat_l, nle_T, nle_F, nlt_T, nlt_F, neq_T, neq_F, h1, h, bk_hn (mi := 144) (pc := 4) (E := 1) (h := 12) rfl d144_12]
  done
theorem w144_2 {d : Nat} {P : MP} {I : MI} {L : ML} {C : MC} {Q : QT} {x1 : Int32} {C1 : MC} (h1 : P.1 1 = (10, 0)) (h : ∀ Q, CT (d - 1) 145 [.ref 1, .int x1] P I L C Q = Q (.inr 2) P I L C1) (hd : 1 ≤ d) : CT d 144 [.ref 1, .int x1, .ref 169] P I L C Q = Q (.inl (some (.int (nI 2)))) P I L C1 := by
  rw [CT_e (mj := 144) (e := [.ref 1, .int x1, .ref 169, UN]) (by omega) rfl (Nat.le_of_ble_eq_true rfl)]
  simp (disch := first | assumption | omega) only [Nat.reduceAdd, X_go, go2_some, stp, ldI, ldA, ldL, stI, stA, stL, o1I, o2I, o2L, brI, brII, gl, s1, s2, k1, sl, go_sN, go_sR, go_CT, go_sT, go_no, go_if, pops, bk_v, bk_0, d144_0, d144_1, d144_2, d144_3, d144_4, d144_7, d144_8, d144_9, d144_12, d144_13, d144_14, d144_15, d144_16, d144_17, d144_18, d144_19, n_lt, n_le, n_eq, n_lt0, n_ge0, n_gt0, n_le0, n_eq0, m_lt, m_le, m_gt, m_ge, m_eq, m_eq', m_lt0, m_ge0, m_gt0, m_le0, m_ltm, m_lem, n_in, m_in, n_cl, n_ti, n_div, n_rem', n_dec, n_l, nI_add, pk_mul, an0, an1, decide_eq_true_eq, if_true, if_false, ite_true, ite_false, and_true, true_and, and_false, false_and, not_true, not_false_iff, or_false, false_or, or_true, true_or, eq_self, va_some, Bool.false_eq_true, reduceIte, catS_n, catS_i, catS_r, catS_l, catS_d, Nat.zero_add, Nat.add_zero, decide_true, decide_false, Nat.reduceLeDiff, cat_r, cat_i, cat_l, nle_T, nle_F, nlt_T, nlt_F, neq_T, neq_F, h1, h, bk_hn (mi := 144) (pc := 4) (E := 2) (h := 15) rfl d144_15]
  done
theorem d147_0 : dec 147 0 = some (.aload_n 1, 1, []) := rfl
theorem d147_1 : dec 147 1 = some (.iconst 0, 1, [0]) := rfl
theorem d147_2 : dec 147 2 = some (.aload_n 0, 1, []) := rfl
theorem d147_3 : dec 147 3 = some (.invokevirtual 88, 3, [2, 148, 2, 9, 0, 979]) := rfl
theorem d147_6 : dec 147 6 = some (.i2l, 1, []) := rfl
theorem d147_7 : dec 147 7 = some (.lastore, 1, []) := rfl
theorem d147_8 : dec 147 8 = some (.goto 6, 3, [14]) := rfl
theorem d147_11 : dec 147 11 = some (.astore_n 2, 1, []) := rfl
theorem d147_12 : dec 147 12 = some (.iconst 1, 1, [1]) := rfl
theorem d147_13 : dec 147 13 = some (.ireturn, 1, [0]) := rfl
theorem d147_14 : dec 147 14 = some (.iconst 0, 1, [0]) := rfl
theorem d147_15 : dec 147 15 = some (.ireturn, 1, [0]) := rfl
theorem l147 : mL 147 = 3 := rfl
theorem w147 {d : Nat} {P : MP} {I : MI} {L : ML} {C : MC} {Q : QT} {y : Int32} {I1 : MI} {L1 : ML} (h169 : P.1 169 = (21, 1)) (h1 : P.1 1 = (10, 0)) (h : ∀ Q, CT (d - 1) 148 [.ref 1] P I L C Q = Q (.inl (some (.int y))) P I1 L1 C) (hd : 1 ≤ d) : CT d 147 [.ref 1, .ref 169] P I L C Q = Q (.inl (some (.int (nI 0)))) P I1 (xu L1 169 0 y.toInt64) C := by
  rw [CT_e (mj := 147) (e := [.ref 1, .ref 169, UN]) (by omega) rfl (Nat.le_of_ble_eq_true rfl)]
  simp (disch := first | assumption | omega) only [Nat.reduceAdd, X_go, go2_some, stp, ldI, ldA, ldL, stI, stA, stL, o1I, o2I, o2L, brI, brII, gl, s1, s2, k1, sl, go_sN, go_sR, go_CT, go_sT, go_no, go_if, pops, bk_v, bk_0, d147_0, d147_1, d147_2, d147_3, d147_6, d147_7, d147_8, d147_11, d147_12, d147_13, d147_14, d147_15, n_lt, n_le, n_eq, n_lt0, n_ge0, n_gt0, n_le0, n_eq0, m_lt, m_le, m_gt, m_ge, m_eq, m_eq', m_lt0, m_ge0, m_gt0, m_le0, m_ltm, m_lem, n_in, m_in, n_cl, n_ti, n_div, n_rem', n_dec, n_l, nI_add, pk_mul, an0, an1, decide_eq_true_eq, if_true, if_false, ite_true, ite_false, and_true, true_and, and_false, false_and, not_true, not_false_iff, or_false, false_or, or_true, true_or, eq_self, va_some, Bool.false_eq_true, reduceIte, catS_n, catS_i, catS_r, catS_l, catS_d, Nat.zero_add, Nat.add_zero, decide_true, decide_false, Nat.reduceLeDiff, cat_r, cat_i, cat_l, nle_T, nle_F, nlt_T, nlt_F, neq_T, neq_F, h169, h1, h]
  done
theorem w147_2 {d : Nat} {P : MP} {I : MI} {L : ML} {C : MC} {Q : QT} {C1 : MC} (h1 : P.1 1 = (10, 0)) (h : ∀ Q, CT (d - 1) 148 [.ref 1] P I L C Q = Q (.inr 2) P I L C1) (hd : 1 ≤ d) : CT d 147 [.ref 1, .ref 169] P I L C Q = Q (.inl (some (.int (nI 1)))) P I L C1 := by
  rw [CT_e (mj := 147) (e := [.ref 1, .ref 169, UN]) (by omega) rfl (Nat.le_of_ble_eq_true rfl)]
  simp (disch := first | assumption | omega) only [Nat.reduceAdd, X_go, go2_some, stp, ldI, ldA, ldL, stI, stA, stL, o1I, o2I, o2L, brI, brII, gl, s1, s2, k1, sl, go_sN, go_sR, go_CT, go_sT, go_no, go_if, pops, bk_v, bk_0, d147_0, d147_1, d147_2, d147_3, d147_6, d147_7, d147_8, d147_11, d147_12, d147_13, d147_14, d147_15, n_lt, n_le, n_eq, n_lt0, n_ge0, n_gt0, n_le0, n_eq0, m_lt, m_le, m_gt, m_ge, m_eq, m_eq', m_lt0, m_ge0, m_gt0, m_le0, m_ltm, m_lem, n_in, m_in, n_cl, n_ti, n_div, n_rem', n_dec, n_l, nI_add, pk_mul, an0, an1, decide_eq_true_eq, if_true, if_false, ite_true, ite_false, and_true, true_and, and_false, false_and, not_true, not_false_iff, or_false, false_or, or_true, true_or, eq_self, va_some, Bool.false_eq_true, reduceIte, catS_n, catS_i, catS_r, catS_l, catS_d, Nat.zero_add, Nat.add_zero, decide_true, decide_false, Nat.reduceLeDiff, cat_r, cat_i, cat_l, nle_T, nle_F, nlt_T, nlt_F, neq_T, neq_F, h1, h, bk_hn (mi := 147) (pc := 3) (E := 2) (h := 11) rfl d147_11]
  done
