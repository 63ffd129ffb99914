/-! LEAVES: the smallest methods of the class -/
theorem d26_0 : dec 26 0 = some (.iload_n 1, 1, []) := rfl
theorem d26_1 : dec 26 1 = some (.ifCond .lt 15, 3, [16]) := rfl
theorem d26_4 : dec 26 4 = some (.iload_n 1, 1, []) := rfl
theorem d26_5 : dec 26 5 = some (.aload_n 0, 1, []) := rfl
theorem d26_6 : dec 26 6 = some (.arraylength, 1, []) := rfl
theorem d26_7 : dec 26 7 = some (.if_icmp .ge 9, 3, [16]) := rfl
theorem d26_10 : dec 26 10 = some (.aload_n 0, 1, []) := rfl
theorem d26_11 : dec 26 11 = some (.iload_n 1, 1, []) := rfl
theorem d26_12 : dec 26 12 = some (.iaload, 1, []) := rfl
theorem d26_13 : dec 26 13 = some (.goto 4, 3, [17]) := rfl
theorem d26_16 : dec 26 16 = some (.iconst 0, 1, [0]) := rfl
theorem d26_17 : dec 26 17 = some (.ireturn, 1, [0]) := rfl
theorem l26 : mL 26 = 2 := rfl
theorem c26 {d : Nat} {P : MP} {I : MI} {L : ML} {C : MC} {Q : QT} {k j n : Nat} (h1 : P.1 k = (20, n)) (hd : 1 ≤ d) (hj : j < n) (hn : n < 1000) : CT d 26 [.ref k, .int (nI j)] P I L C Q = Q (.inl (some (.int (I k j)))) P I L C := by
  rw [CT_e (mj := 26) (e := [.ref k, .int (nI j)]) (by omega) rfl (Nat.le_of_ble_eq_true rfl)]
  simp (disch := first | assumption | omega) only [Nat.reduceAdd, X_go, go2_some, stp, ldI, ldA, ldL, stI, stA, stL, o1I, o2I, o2L, brI, brII, gl, s1, s2, k1, sl, go_sN, go_sR, go_CT, go_sT, go_no, go_if, pops, bk_v, bk_0, d26_0, d26_1, d26_4, d26_5, d26_6, d26_7, d26_10, d26_11, d26_12, d26_13, d26_16, d26_17, n_lt, n_le, n_eq, n_lt0, n_ge0, n_gt0, n_le0, n_eq0, m_lt, m_le, m_gt, m_ge, m_eq, m_eq', m_lt0, m_ge0, m_gt0, m_le0, m_ltm, m_lem, n_in, m_in, n_cl, n_ti, n_div, n_rem', n_dec, n_l, nI_add, pk_mul, an0, an1, decide_eq_true_eq, if_true, if_false, ite_true, ite_false, and_true, true_and, and_false, false_and, not_true, not_false_iff, or_false, false_or, or_true, true_or, eq_self, va_some, Bool.false_eq_true, reduceIte, catS_n, catS_i, catS_r, catS_l, catS_d, Nat.zero_add, Nat.add_zero, decide_true, decide_false, Nat.reduceLeDiff, cat_r, cat_i, cat_l, nle_T, nle_F, nlt_T, nlt_F, neq_T, neq_F, h1, hj]
  done
theorem d44_0 : dec 44 0 = some (.iload_n 1, 1, []) := rfl
theorem d44_1 : dec 44 1 = some (.ifCond .lt 13, 3, [14]) := rfl
theorem d44_4 : dec 44 4 = some (.iload_n 1, 1, []) := rfl
theorem d44_5 : dec 44 5 = some (.aload_n 0, 1, []) := rfl
theorem d44_6 : dec 44 6 = some (.arraylength, 1, []) := rfl
theorem d44_7 : dec 44 7 = some (.if_icmp .ge 7, 3, [14]) := rfl
theorem d44_10 : dec 44 10 = some (.aload_n 0, 1, []) := rfl
theorem d44_11 : dec 44 11 = some (.iload_n 1, 1, []) := rfl
theorem d44_12 : dec 44 12 = some (.iload_n 2, 1, []) := rfl
theorem d44_13 : dec 44 13 = some (.iastore, 1, []) := rfl
theorem d44_14 : dec 44 14 = some (.return_, 1, []) := rfl
theorem l44 : mL 44 = 3 := rfl
theorem c44 {d : Nat} {P : MP} {I : MI} {L : ML} {C : MC} {Q : QT} {k j n : Nat} {v : Int32} (h1 : P.1 k = (20, n)) (hd : 1 ≤ d) (hj : j < n) (hn : n < 1000) : CT d 44 [.ref k, .int (nI j), .int v] P I L C Q = Q (.inl none) P (xu I k j v) L C := by
  rw [CT_e (mj := 44) (e := [.ref k, .int (nI j), .int v]) (by omega) rfl (Nat.le_of_ble_eq_true rfl)]
  simp (disch := first | assumption | omega) only [Nat.reduceAdd, X_go, go2_some, stp, ldI, ldA, ldL, stI, stA, stL, o1I, o2I, o2L, brI, brII, gl, s1, s2, k1, sl, go_sN, go_sR, go_CT, go_sT, go_no, go_if, pops, bk_v, bk_0, d44_0, d44_1, d44_4, d44_5, d44_6, d44_7, d44_10, d44_11, d44_12, d44_13, d44_14, n_lt, n_le, n_eq, n_lt0, n_ge0, n_gt0, n_le0, n_eq0, m_lt, m_le, m_gt, m_ge, m_eq, m_eq', m_lt0, m_ge0, m_gt0, m_le0, m_ltm, m_lem, n_in, m_in, n_cl, n_ti, n_div, n_rem', n_dec, n_l, nI_add, pk_mul, an0, an1, decide_eq_true_eq, if_true, if_false, ite_true, ite_false, and_true, true_and, and_false, false_and, not_true, not_false_iff, or_false, false_or, or_true, true_or, eq_self, va_some, Bool.false_eq_true, reduceIte, catS_n, catS_i, catS_r, catS_l, catS_d, Nat.zero_add, Nat.add_zero, decide_true, decide_false, Nat.reduceLeDiff, cat_r, cat_i, cat_l, nle_T, nle_F, nlt_T, nlt_F, neq_T, neq_F, h1, hj]
  done
theorem d83_0 : dec 83 0 = some (.iload_n 1, 1, []) := rfl
theorem d83_1 : dec 83 1 = some (.ifCond .lt 15, 3, [16]) := rfl
theorem d83_4 : dec 83 4 = some (.iload_n 1, 1, []) := rfl
theorem d83_5 : dec 83 5 = some (.aload_n 0, 1, []) := rfl
theorem d83_6 : dec 83 6 = some (.arraylength, 1, []) := rfl
theorem d83_7 : dec 83 7 = some (.if_icmp .ge 9, 3, [16]) := rfl
theorem d83_10 : dec 83 10 = some (.aload_n 0, 1, []) := rfl
theorem d83_11 : dec 83 11 = some (.iload_n 1, 1, []) := rfl
theorem d83_12 : dec 83 12 = some (.laload, 1, []) := rfl
theorem d83_13 : dec 83 13 = some (.goto 4, 3, [17]) := rfl
theorem d83_16 : dec 83 16 = some (.lconst 0, 1, [0]) := rfl
theorem d83_17 : dec 83 17 = some (.lreturn, 1, []) := rfl
theorem l83 : mL 83 = 2 := rfl
theorem c83 {d : Nat} {P : MP} {I : MI} {L : ML} {C : MC} {Q : QT} {k j n : Nat} (h1 : P.1 k = (21, n)) (hd : 1 ≤ d) (hj : j < n) (hn : n < 1000) : CT d 83 [.ref k, .int (nI j)] P I L C Q = Q (.inl (some (.long (L k j)))) P I L C := by
  rw [CT_e (mj := 83) (e := [.ref k, .int (nI j)]) (by omega) rfl (Nat.le_of_ble_eq_true rfl)]
  simp (disch := first | assumption | omega) only [Nat.reduceAdd, X_go, go2_some, stp, ldI, ldA, ldL, stI, stA, stL, o1I, o2I, o2L, brI, brII, gl, s1, s2, k1, sl, go_sN, go_sR, go_CT, go_sT, go_no, go_if, pops, bk_v, bk_0, d83_0, d83_1, d83_4, d83_5, d83_6, d83_7, d83_10, d83_11, d83_12, d83_13, d83_16, d83_17, n_lt, n_le, n_eq, n_lt0, n_ge0, n_gt0, n_le0, n_eq0, m_lt, m_le, m_gt, m_ge, m_eq, m_eq', m_lt0, m_ge0, m_gt0, m_le0, m_ltm, m_lem, n_in, m_in, n_cl, n_ti, n_div, n_rem', n_dec, n_l, nI_add, pk_mul, an0, an1, decide_eq_true_eq, if_true, if_false, ite_true, ite_false, and_true, true_and, and_false, false_and, not_true, not_false_iff, or_false, false_or, or_true, true_or, eq_self, va_some, Bool.false_eq_true, reduceIte, catS_n, catS_i, catS_r, catS_l, catS_d, Nat.zero_add, Nat.add_zero, decide_true, decide_false, Nat.reduceLeDiff, cat_r, cat_i, cat_l, nle_T, nle_F, nlt_T, nlt_F, neq_T, neq_F, h1, hj]
  done
theorem d27_0 : dec 27 0 = some (.iload_n 0, 1, []) := rfl
theorem d27_1 : dec 27 1 = some (.bipush 6, 2, [6]) := rfl
theorem d27_3 : dec 27 3 = some (.imul, 1, []) := rfl
theorem d27_4 : dec 27 4 = some (.iload_n 1, 1, []) := rfl
theorem d27_5 : dec 27 5 = some (.iadd, 1, []) := rfl
theorem d27_6 : dec 27 6 = some (.ireturn, 1, [0]) := rfl
theorem l27 : mL 27 = 2 := rfl
theorem c27 {d : Nat} {P : MP} {I : MI} {L : ML} {C : MC} {Q : QT} {t e : Nat} (hd : 1 ≤ d) : CT d 27 [.int (nI t), .int (nI e)] P I L C Q = Q (.inl (some (.int (nI (6 * t + e))))) P I L C := by
  rw [CT_e (mj := 27) (e := [.int (nI t), .int (nI e)]) (by omega) rfl (Nat.le_of_ble_eq_true rfl)]
  simp (disch := first | assumption | omega) only [Nat.reduceAdd, X_go, go2_some, stp, ldI, ldA, ldL, stI, stA, stL, o1I, o2I, o2L, brI, brII, gl, s1, s2, k1, sl, go_sN, go_sR, go_CT, go_sT, go_no, go_if, pops, bk_v, bk_0, d27_0, d27_1, d27_3, d27_4, d27_5, d27_6, n_lt, n_le, n_eq, n_lt0, n_ge0, n_gt0, n_le0, n_eq0, m_lt, m_le, m_gt, m_ge, m_eq, m_eq', m_lt0, m_ge0, m_gt0, m_le0, m_ltm, m_lem, n_in, m_in, n_cl, n_ti, n_div, n_rem', n_dec, n_l, nI_add, pk_mul, an0, an1, decide_eq_true_eq, if_true, if_false, ite_true, ite_false, and_true, true_and, and_false, false_and, not_true, not_false_iff, or_false, false_or, or_true, true_or, eq_self, va_some, Bool.false_eq_true, reduceIte, catS_n, catS_i, catS_r, catS_l, catS_d, Nat.zero_add, Nat.add_zero, decide_true, decide_false, Nat.reduceLeDiff, cat_r, cat_i, cat_l, nle_T, nle_F, nlt_T, nlt_F, neq_T, neq_F]
  rw [Nat.mul_comm]
theorem d28_0 : dec 28 0 = some (.iconst 1, 1, [1]) := rfl
theorem d28_1 : dec 28 1 = some (.iload_n 0, 1, []) := rfl
theorem d28_2 : dec 28 2 = some (.ishl, 1, []) := rfl
theorem d28_3 : dec 28 3 = some (.ireturn, 1, [0]) := rfl
theorem l28 : mL 28 = 1 := rfl
theorem c28 {d : Nat} {P : MP} {I : MI} {L : ML} {C : MC} {Q : QT} {p : Nat} (hd : 1 ≤ d) : CT d 28 [.int (nI p)] P I L C Q = Q (.inl (some (.int (nI 1 <<< (nI p &&& 31))))) P I L C := by
  rw [CT_e (mj := 28) (e := [.int (nI p)]) (by omega) rfl (Nat.le_of_ble_eq_true rfl)]
  simp (disch := first | assumption | omega) only [Nat.reduceAdd, X_go, go2_some, stp, ldI, ldA, ldL, stI, stA, stL, o1I, o2I, o2L, brI, brII, gl, s1, s2, k1, sl, go_sN, go_sR, go_CT, go_sT, go_no, go_if, pops, bk_v, bk_0, d28_0, d28_1, d28_2, d28_3, n_lt, n_le, n_eq, n_lt0, n_ge0, n_gt0, n_le0, n_eq0, m_lt, m_le, m_gt, m_ge, m_eq, m_eq', m_lt0, m_ge0, m_gt0, m_le0, m_ltm, m_lem, n_in, m_in, n_cl, n_ti, n_div, n_rem', n_dec, n_l, nI_add, pk_mul, an0, an1, decide_eq_true_eq, if_true, if_false, ite_true, ite_false, and_true, true_and, and_false, false_and, not_true, not_false_iff, or_false, false_or, or_true, true_or, eq_self, va_some, Bool.false_eq_true, reduceIte, catS_n, catS_i, catS_r, catS_l, catS_d, Nat.zero_add, Nat.add_zero, decide_true, decide_false, Nat.reduceLeDiff, cat_r, cat_i, cat_l, nle_T, nle_F, nlt_T, nlt_F, neq_T, neq_F]
  done
theorem d68_0 : dec 68 0 = some (.iload_n 1, 1, []) := rfl
theorem d68_1 : dec 68 1 = some (.ifCond .le 16, 3, [17]) := rfl
theorem d68_4 : dec 68 4 = some (.iconst 1, 1, [1]) := rfl
theorem d68_5 : dec 68 5 = some (.bipush 18, 2, [18]) := rfl
theorem d68_7 : dec 68 7 = some (.iload_n 0, 1, []) := rfl
theorem d68_8 : dec 68 8 = some (.iconst 4, 1, [4]) := rfl
theorem d68_9 : dec 68 9 = some (.imul, 1, []) := rfl
theorem d68_10 : dec 68 10 = some (.iadd, 1, []) := rfl
theorem d68_11 : dec 68 11 = some (.iload_n 1, 1, []) := rfl
theorem d68_12 : dec 68 12 = some (.iadd, 1, []) := rfl
theorem d68_13 : dec 68 13 = some (.ishl, 1, []) := rfl
theorem d68_14 : dec 68 14 = some (.goto 4, 3, [18]) := rfl
theorem d68_17 : dec 68 17 = some (.iconst 0, 1, [0]) := rfl
theorem d68_18 : dec 68 18 = some (.ireturn, 1, [0]) := rfl
theorem l68 : mL 68 = 2 := rfl
theorem c68 {d : Nat} {P : MP} {I : MI} {L : ML} {C : MC} {Q : QT} {t g : Nat} (hd : 1 ≤ d) (hg : g ≤ 3) : CT d 68 [.int (nI t), .int (nI g)] P I L C Q = Q (.inl (some (.int (if g = 0 then nI 0 else nI 1 <<< (nI (18 + 4 * t + g) &&& 31))))) P I L C := by
  rw [CT_e (mj := 68) (e := [.int (nI t), .int (nI g)]) (by omega) rfl (Nat.le_of_ble_eq_true rfl)]
  simp (disch := first | assumption | omega) only [Nat.reduceAdd, X_go, go2_some, stp, ldI, ldA, ldL, stI, stA, stL, o1I, o2I, o2L, brI, brII, gl, s1, s2, k1, sl, go_sN, go_sR, go_CT, go_sT, go_no, go_if, pops, bk_v, bk_0, d68_0, d68_1, d68_4, d68_5, d68_7, d68_8, d68_9, d68_10, d68_11, d68_12, d68_13, d68_14, d68_17, d68_18, n_lt, n_le, n_eq, n_lt0, n_ge0, n_gt0, n_le0, n_eq0, m_lt, m_le, m_gt, m_ge, m_eq, m_eq', m_lt0, m_ge0, m_gt0, m_le0, m_ltm, m_lem, n_in, m_in, n_cl, n_ti, n_div, n_rem', n_dec, n_l, nI_add, pk_mul, an0, an1, decide_eq_true_eq, if_true, if_false, ite_true, ite_false, and_true, true_and, and_false, false_and, not_true, not_false_iff, or_false, false_or, or_true, true_or, eq_self, va_some, Bool.false_eq_true, reduceIte, catS_n, catS_i, catS_r, catS_l, catS_d, Nat.zero_add, Nat.add_zero, decide_true, decide_false, Nat.reduceLeDiff, cat_r, cat_i, cat_l, nle_T, nle_F, nlt_T, nlt_F, neq_T, neq_F]
  rw [Nat.mul_comm t 4]
  split <;> rfl
theorem d51_0 : dec 51 0 = some (.iload_n 0, 1, []) := rfl
theorem d51_1 : dec 51 1 = some (.bipush 16, 2, [16]) := rfl
theorem d51_3 : dec 51 3 = some (.if_icmp .lt 7, 3, [10]) := rfl
theorem d51_6 : dec 51 6 = some (.iconst 1, 1, [1]) := rfl
theorem d51_7 : dec 51 7 = some (.goto 4, 3, [11]) := rfl
theorem d51_10 : dec 51 10 = some (.iconst 0, 1, [0]) := rfl
theorem d51_11 : dec 51 11 = some (.ireturn, 1, [1]) := rfl
theorem l51 : mL 51 = 1 := rfl
theorem c51 {d : Nat} {P : MP} {I : MI} {L : ML} {C : MC} {Q : QT} {w : Nat} (hd : 1 ≤ d) (hw : w < 2147483648) : CT d 51 [.int (nI w)] P I L C Q = Q (.inl (some (.int (nI (if w < 16 then 0 else 1))))) P I L C := by
  rw [CT_e (mj := 51) (e := [.int (nI w)]) (by omega) rfl (Nat.le_of_ble_eq_true rfl)]
  simp (disch := first | assumption | omega) only [Nat.reduceAdd, X_go, go2_some, stp, ldI, ldA, ldL, stI, stA, stL, o1I, o2I, o2L, brI, brII, gl, s1, s2, k1, sl, go_sN, go_sR, go_CT, go_sT, go_no, go_if, pops, bk_v, bk_0, d51_0, d51_1, d51_3, d51_6, d51_7, d51_10, d51_11, n_lt, n_le, n_eq, n_lt0, n_ge0, n_gt0, n_le0, n_eq0, m_lt, m_le, m_gt, m_ge, m_eq, m_eq', m_lt0, m_ge0, m_gt0, m_le0, m_ltm, m_lem, n_in, m_in, n_cl, n_ti, n_div, n_rem', n_dec, n_l, nI_add, pk_mul, an0, an1, decide_eq_true_eq, if_true, if_false, ite_true, ite_false, and_true, true_and, and_false, false_and, not_true, not_false_iff, or_false, false_or, or_true, true_or, eq_self, va_some, Bool.false_eq_true, reduceIte, catS_n, catS_i, catS_r, catS_l, catS_d, Nat.zero_add, Nat.add_zero, decide_true, decide_false, Nat.reduceLeDiff, cat_r, cat_i, cat_l, nle_T, nle_F, nlt_T, nlt_F, neq_T, neq_F]
  split <;> rfl
theorem d52_0 : dec 52 0 = some (.iload_n 0, 1, []) := rfl
theorem d52_1 : dec 52 1 = some (.bipush 16, 2, [16]) := rfl
theorem d52_3 : dec 52 3 = some (.isub, 1, []) := rfl
theorem d52_4 : dec 52 4 = some (.ireturn, 1, [0]) := rfl
theorem l52 : mL 52 = 1 := rfl
theorem c52 {d : Nat} {P : MP} {I : MI} {L : ML} {C : MC} {Q : QT} {w : Nat} (hd : 1 ≤ d) (hw : 16 ≤ w) : CT d 52 [.int (nI w)] P I L C Q = Q (.inl (some (.int (nI (w - 16))))) P I L C := by
  rw [CT_e (mj := 52) (e := [.int (nI w)]) (by omega) rfl (Nat.le_of_ble_eq_true rfl)]
  simp (disch := first | assumption | omega) only [Nat.reduceAdd, X_go, go2_some, stp, ldI, ldA, ldL, stI, stA, stL, o1I, o2I, o2L, brI, brII, gl, s1, s2, k1, sl, go_sN, go_sR, go_CT, go_sT, go_no, go_if, pops, bk_v, bk_0, d52_0, d52_1, d52_3, d52_4, n_lt, n_le, n_eq, n_lt0, n_ge0, n_gt0, n_le0, n_eq0, m_lt, m_le, m_gt, m_ge, m_eq, m_eq', m_lt0, m_ge0, m_gt0, m_le0, m_ltm, m_lem, n_in, m_in, n_cl, n_ti, n_div, n_rem', n_dec, n_l, nI_add, pk_mul, an0, an1, decide_eq_true_eq, if_true, if_false, ite_true, ite_false, and_true, true_and, and_false, false_and, not_true, not_false_iff, or_false, false_or, or_true, true_or, eq_self, va_some, Bool.false_eq_true, reduceIte, catS_n, catS_i, catS_r, catS_l, catS_d, Nat.zero_add, Nat.add_zero, decide_true, decide_false, Nat.reduceLeDiff, cat_r, cat_i, cat_l, nle_T, nle_F, nlt_T, nlt_F, neq_T, neq_F, n_sub]
  done
theorem d50_0 : dec 50 0 = some (.iload_n 1, 1, []) := rfl
theorem d50_1 : dec 50 1 = some (.invokestatic 334, 3, [2, 51, 0, 9, 0, 665, 0]) := rfl
theorem d50_4 : dec 50 4 = some (.ifCond .eq 15, 3, [19]) := rfl
theorem d50_7 : dec 50 7 = some (.iload_n 1, 1, []) := rfl
theorem d50_8 : dec 50 8 = some (.invokestatic 338, 3, [2, 52, 0, 9, 0, 666, 0]) := rfl
theorem d50_11 : dec 50 11 = some (.iload_n 0, 1, []) := rfl
theorem d50_12 : dec 50 12 = some (.if_icmp .gt 7, 3, [19]) := rfl
theorem d50_15 : dec 50 15 = some (.iconst 1, 1, [1]) := rfl
theorem d50_16 : dec 50 16 = some (.goto 4, 3, [20]) := rfl
theorem d50_19 : dec 50 19 = some (.iconst 0, 1, [0]) := rfl
theorem d50_20 : dec 50 20 = some (.ireturn, 1, [1]) := rfl
theorem l50 : mL 50 = 2 := rfl
theorem c50 {d : Nat} {P : MP} {I : MI} {L : ML} {C : MC} {Q : QT} {t w : Nat} (hd : 2 ≤ d) (hw : w < 100) (ht : t < 100) : CT d 50 [.int (nI t), .int (nI w)] P I L C Q = Q (.inl (some (.int (nI (if 16 ≤ w ∧ w ≤ t + 16 then 1 else 0))))) P I L C := by
  rw [CT_e (mj := 50) (e := [.int (nI t), .int (nI w)]) (by omega) rfl (Nat.le_of_ble_eq_true rfl)]
  by_cases h : w < 16
  · simp (disch := first | assumption | omega) only [Nat.reduceAdd, X_go, go2_some, stp, ldI, ldA, ldL, stI, stA, stL, o1I, o2I, o2L, brI, brII, gl, s1, s2, k1, sl, go_sN, go_sR, go_CT, go_sT, go_no, go_if, pops, bk_v, bk_0, d50_0, d50_1, d50_4, d50_7, d50_8, d50_11, d50_12, d50_15, d50_16, d50_19, d50_20, n_lt, n_le, n_eq, n_lt0, n_ge0, n_gt0, n_le0, n_eq0, m_lt, m_le, m_gt, m_ge, m_eq, m_eq', m_lt0, m_ge0, m_gt0, m_le0, m_ltm, m_lem, n_in, m_in, n_cl, n_ti, n_div, n_rem', n_dec, n_l, nI_add, pk_mul, an0, an1, decide_eq_true_eq, if_true, if_false, ite_true, ite_false, and_true, true_and, and_false, false_and, not_true, not_false_iff, or_false, false_or, or_true, true_or, eq_self, va_some, Bool.false_eq_true, reduceIte, catS_n, catS_i, catS_r, catS_l, catS_d, Nat.zero_add, Nat.add_zero, decide_true, decide_false, Nat.reduceLeDiff, cat_r, cat_i, cat_l, nle_T, nle_F, nlt_T, nlt_F, neq_T, neq_F, c51, h, show ¬ 16 ≤ w by omega]
  · by_cases h3 : w ≤ t + 16
    · simp (disch := first | assumption | omega) only [Nat.reduceAdd, X_go, go2_some, stp, ldI, ldA, ldL, stI, stA, stL, o1I, o2I, o2L, brI, brII, gl, s1, s2, k1, sl, go_sN, go_sR, go_CT, go_sT, go_no, go_if, pops, bk_v, bk_0, d50_0, d50_1, d50_4, d50_7, d50_8, d50_11, d50_12, d50_15, d50_16, d50_19, d50_20, n_lt, n_le, n_eq, n_lt0, n_ge0, n_gt0, n_le0, n_eq0, m_lt, m_le, m_gt, m_ge, m_eq, m_eq', m_lt0, m_ge0, m_gt0, m_le0, m_ltm, m_lem, n_in, m_in, n_cl, n_ti, n_div, n_rem', n_dec, n_l, nI_add, pk_mul, an0, an1, decide_eq_true_eq, if_true, if_false, ite_true, ite_false, and_true, true_and, and_false, false_and, not_true, not_false_iff, or_false, false_or, or_true, true_or, eq_self, va_some, Bool.false_eq_true, reduceIte, catS_n, catS_i, catS_r, catS_l, catS_d, Nat.zero_add, Nat.add_zero, decide_true, decide_false, Nat.reduceLeDiff, cat_r, cat_i, cat_l, nle_T, nle_F, nlt_T, nlt_F, neq_T, neq_F, c51, c52, h, show 16 ≤ w by omega]
    · simp (disch := first | assumption | omega) only [Nat.reduceAdd, X_go, go2_some, stp, ldI, ldA, ldL, stI, stA, stL, o1I, o2I, o2L, brI, brII, gl, s1, s2, k1, sl, go_sN, go_sR, go_CT, go_sT, go_no, go_if, pops, bk_v, bk_0, d50_0, d50_1, d50_4, d50_7, d50_8, d50_11, d50_12, d50_15, d50_16, d50_19, d50_20, n_lt, n_le, n_eq, n_lt0, n_ge0, n_gt0, n_le0, n_eq0, m_lt, m_le, m_gt, m_ge, m_eq, m_eq', m_lt0, m_ge0, m_gt0, m_le0, m_ltm, m_lem, n_in, m_in, n_cl, n_ti, n_div, n_rem', n_dec, n_l, nI_add, pk_mul, an0, an1, decide_eq_true_eq, if_true, if_false, ite_true, ite_false, and_true, true_and, and_false, false_and, not_true, not_false_iff, or_false, false_or, or_true, true_or, eq_self, va_some, Bool.false_eq_true, reduceIte, catS_n, catS_i, catS_r, catS_l, catS_d, Nat.zero_add, Nat.add_zero, decide_true, decide_false, Nat.reduceLeDiff, cat_r, cat_i, cat_l, nle_T, nle_F, nlt_T, nlt_F, neq_T, neq_F, c51, c52, h, show 16 ≤ w by omega]
theorem d53_0 : dec 53 0 = some (.iload_n 0, 1, []) := rfl
theorem d53_1 : dec 53 1 = some (.invokestatic 334, 3, [2, 51, 0, 9, 0, 665, 0]) := rfl
theorem d53_4 : dec 53 4 = some (.ifCond .eq 7, 3, [11]) := rfl
theorem d53_7 : dec 53 7 = some (.iconst 0, 1, [0]) := rfl
theorem d53_8 : dec 53 8 = some (.goto 4, 3, [12]) := rfl
theorem d53_11 : dec 53 11 = some (.iconst 3, 1, [3]) := rfl
theorem d53_12 : dec 53 12 = some (.ireturn, 1, [0]) := rfl
theorem l53 : mL 53 = 1 := rfl
theorem c53 {d : Nat} {P : MP} {I : MI} {L : ML} {C : MC} {Q : QT} {w : Nat} (hd : 2 ≤ d) (hw : w < 100) : CT d 53 [.int (nI w)] P I L C Q = Q (.inl (some (.int (nI (if w < 16 then 3 else 0))))) P I L C := by
  rw [CT_e (mj := 53) (e := [.int (nI w)]) (by omega) rfl (Nat.le_of_ble_eq_true rfl)]
  by_cases h : w < 16
  · simp (disch := first | assumption | omega) only [Nat.reduceAdd, X_go, go2_some, stp, ldI, ldA, ldL, stI, stA, stL, o1I, o2I, o2L, brI, brII, gl, s1, s2, k1, sl, go_sN, go_sR, go_CT, go_sT, go_no, go_if, pops, bk_v, bk_0, d53_0, d53_1, d53_4, d53_7, d53_8, d53_11, d53_12, n_lt, n_le, n_eq, n_lt0, n_ge0, n_gt0, n_le0, n_eq0, m_lt, m_le, m_gt, m_ge, m_eq, m_eq', m_lt0, m_ge0, m_gt0, m_le0, m_ltm, m_lem, n_in, m_in, n_cl, n_ti, n_div, n_rem', n_dec, n_l, nI_add, pk_mul, an0, an1, decide_eq_true_eq, if_true, if_false, ite_true, ite_false, and_true, true_and, and_false, false_and, not_true, not_false_iff, or_false, false_or, or_true, true_or, eq_self, va_some, Bool.false_eq_true, reduceIte, catS_n, catS_i, catS_r, catS_l, catS_d, Nat.zero_add, Nat.add_zero, decide_true, decide_false, Nat.reduceLeDiff, cat_r, cat_i, cat_l, nle_T, nle_F, nlt_T, nlt_F, neq_T, neq_F, c51, h]
  · simp (disch := first | assumption | omega) only [Nat.reduceAdd, X_go, go2_some, stp, ldI, ldA, ldL, stI, stA, stL, o1I, o2I, o2L, brI, brII, gl, s1, s2, k1, sl, go_sN, go_sR, go_CT, go_sT, go_no, go_if, pops, bk_v, bk_0, d53_0, d53_1, d53_4, d53_7, d53_8, d53_11, d53_12, n_lt, n_le, n_eq, n_lt0, n_ge0, n_gt0, n_le0, n_eq0, m_lt, m_le, m_gt, m_ge, m_eq, m_eq', m_lt0, m_ge0, m_gt0, m_le0, m_ltm, m_lem, n_in, m_in, n_cl, n_ti, n_div, n_rem', n_dec, n_l, nI_add, pk_mul, an0, an1, decide_eq_true_eq, if_true, if_false, ite_true, ite_false, and_true, true_and, and_false, false_and, not_true, not_false_iff, or_false, false_or, or_true, true_or, eq_self, va_some, Bool.false_eq_true, reduceIte, catS_n, catS_i, catS_r, catS_l, catS_d, Nat.zero_add, Nat.add_zero, decide_true, decide_false, Nat.reduceLeDiff, cat_r, cat_i, cat_l, nle_T, nle_F, nlt_T, nlt_F, neq_T, neq_F, c51, h]
theorem d88_0 : dec 88 0 = some (.aload_n 0, 1, []) := rfl
theorem d88_1 : dec 88 1 = some (.iload_n 1, 1, []) := rfl
theorem d88_2 : dec 88 2 = some (.invokestatic 161, 3, [2, 26, 0, 9, 0, 530, 0, 2]) := rfl
theorem d88_5 : dec 88 5 = some (.istore_n 3, 1, []) := rfl
theorem d88_6 : dec 88 6 = some (.aload_n 0, 1, []) := rfl
theorem d88_7 : dec 88 7 = some (.iload_n 1, 1, []) := rfl
theorem d88_8 : dec 88 8 = some (.iload_n 2, 1, []) := rfl
theorem d88_9 : dec 88 9 = some (.invokestatic 233, 3, [2, 44, 0, 9, 0, 652, 0, 0, 2]) := rfl
theorem d88_12 : dec 88 12 = some (.iload_n 3, 1, []) := rfl
theorem d88_13 : dec 88 13 = some (.ireturn, 1, [0]) := rfl
theorem l88 : mL 88 = 4 := rfl
theorem c88 {d : Nat} {P : MP} {I : MI} {L : ML} {C : MC} {Q : QT} {k j n : Nat} {v : Int32} (h1 : P.1 k = (20, n)) (hd : 2 ≤ d) (hj : j < n) (hn : n < 1000) : CT d 88 [.ref k, .int (nI j), .int v] P I L C Q = Q (.inl (some (.int (I k j)))) P (xu I k j v) L C := by
  rw [CT_e (mj := 88) (e := [.ref k, .int (nI j), .int v, UN]) (by omega) rfl (Nat.le_of_ble_eq_true rfl)]
  simp (disch := first | assumption | omega) only [Nat.reduceAdd, X_go, go2_some, stp, ldI, ldA, ldL, stI, stA, stL, o1I, o2I, o2L, brI, brII, gl, s1, s2, k1, sl, go_sN, go_sR, go_CT, go_sT, go_no, go_if, pops, bk_v, bk_0, d88_0, d88_1, d88_2, d88_5, d88_6, d88_7, d88_8, d88_9, d88_12, d88_13, n_lt, n_le, n_eq, n_lt0, n_ge0, n_gt0, n_le0, n_eq0, m_lt, m_le, m_gt, m_ge, m_eq, m_eq', m_lt0, m_ge0, m_gt0, m_le0, m_ltm, m_lem, n_in, m_in, n_cl, n_ti, n_div, n_rem', n_dec, n_l, nI_add, pk_mul, an0, an1, decide_eq_true_eq, if_true, if_false, ite_true, ite_false, and_true, true_and, and_false, false_and, not_true, not_false_iff, or_false, false_or, or_true, true_or, eq_self, va_some, Bool.false_eq_true, reduceIte, catS_n, catS_i, catS_r, catS_l, catS_d, Nat.zero_add, Nat.add_zero, decide_true, decide_false, Nat.reduceLeDiff, cat_r, cat_i, cat_l, nle_T, nle_F, nlt_T, nlt_F, neq_T, neq_F, c26 h1, c44 h1]
  done
theorem d17_0 : dec 17 0 = some (.aload_n 0, 1, []) := rfl
theorem d17_1 : dec 17 1 = some (.iconst 0, 1, [0]) := rfl
theorem d17_2 : dec 17 2 = some (.aload_n 1, 1, []) := rfl
theorem d17_3 : dec 17 3 = some (.iconst 0, 1, [0]) := rfl
theorem d17_4 : dec 17 4 = some (.aload_n 0, 1, []) := rfl
theorem d17_5 : dec 17 5 = some (.arraylength, 1, []) := rfl
theorem d17_6 : dec 17 6 = some (.aload_n 1, 1, []) := rfl
theorem d17_7 : dec 17 7 = some (.arraylength, 1, []) := rfl
theorem d17_8 : dec 17 8 = some (.invokestatic 228, 3, [10, 400]) := rfl
theorem d17_11 : dec 17 11 = some (.invokestatic 341, 3, [3, 403]) := rfl
theorem d17_14 : dec 17 14 = some (.return_, 1, []) := rfl
theorem l17 : mL 17 = 2 := rfl
theorem c17 {d : Nat} {P : MP} {I : MI} {L : ML} {C : MC} {Q : QT} {a b n : Nat} (h1 : P.1 a = (20, n)) (h2 : P.1 b = (20, n)) (hd : 1 ≤ d) (hn : n < 1000) : CT d 17 [.ref a, .ref b] P I L C Q = Q (.inl none) P (xr I b (va_cpy (I a) (I b) 0 0 n)) L C := by
  rw [CT_e (mj := 17) (e := [.ref a, .ref b]) (by omega) rfl (Nat.le_of_ble_eq_true rfl)]
  simp (disch := first | assumption | omega) only [Nat.reduceAdd, X_go, go2_some, stp, ldI, ldA, ldL, stI, stA, stL, o1I, o2I, o2L, brI, brII, gl, s1, s2, k1, sl, go_sN, go_sR, go_CT, go_sT, go_no, go_if, pops, bk_v, bk_0, d17_0, d17_1, d17_2, d17_3, d17_4, d17_5, d17_6, d17_7, d17_8, d17_11, d17_14, n_lt, n_le, n_eq, n_lt0, n_ge0, n_gt0, n_le0, n_eq0, m_lt, m_le, m_gt, m_ge, m_eq, m_eq', m_lt0, m_ge0, m_gt0, m_le0, m_ltm, m_lem, n_in, m_in, n_cl, n_ti, n_div, n_rem', n_dec, n_l, nI_add, pk_mul, an0, an1, decide_eq_true_eq, if_true, if_false, ite_true, ite_false, and_true, true_and, and_false, false_and, not_true, not_false_iff, or_false, false_or, or_true, true_or, eq_self, va_some, Bool.false_eq_true, reduceIte, catS_n, catS_i, catS_r, catS_l, catS_d, Nat.zero_add, Nat.add_zero, decide_true, decide_false, Nat.reduceLeDiff, cat_r, cat_i, cat_l, nle_T, nle_F, nlt_T, nlt_F, neq_T, neq_F, h1, h2]
  done
