/-! THE LAW: what is refused -/
theorem mn0 : (nI 0 ≤ nI 4294967295) = False := eq_false (by decide)
theorem mn1 : (nI 1 ≤ nI 4294967295) = False := eq_false (by decide)
theorem lg_self {x : Int64} : (lg_cmp x x = 0) = True := eq_true ((lg_cmp_eq x x).mpr rfl)
theorem rf0 {z : SX} {d : Nat} {g : GS} {n k : Nat} {ps : Nat → GS} {Z : ZT} (hd : 31 ≤ d) : C2 z d 84 [.ref 1, .int (nI 4294967295), .int (nI 1)] (g, n, ps, k) Z = Z (.inl (some (.int (nI 4289967293)))) (g, n, ps, k + 1) := by
  simp (disch := first | assumption | omega) only [v84, q85, n_lt, n_le, n_eq, n_lt0, n_ge0, n_gt0, n_le0, n_eq0, m_lt, m_le, m_gt, m_ge, m_eq, m_eq', m_lt0, m_ge0, m_gt0, m_le0, m_ltm, m_lem, n_in, m_in, n_cl, n_ti, n_div, n_rem', n_dec, n_l, nI_add, pk_mul, an0, an1, decide_eq_true_eq, if_true, if_false, ite_true, ite_false, and_true, true_and, and_false, false_and, not_true, not_false_iff, or_false, false_or, or_true, true_or, eq_self, va_some, Bool.false_eq_true, reduceIte, catS_n, catS_i, catS_r, catS_l, catS_d, Nat.zero_add, Nat.add_zero, decide_true, decide_false, Nat.reduceLeDiff, cat_r, cat_i, cat_l, nle_T, nle_F, nlt_T, nlt_F, neq_T, neq_F, Nat.reduceAdd, mn0, mn1, run3_if, run3_n, run3_x0, run3_x1, run3_x2, ite_self]
theorem rf1 {z : SX} {d : Nat} {g : GS} {n k : Nat} {ps : Nat → GS} {Z : ZT} (hd : 31 ≤ d) : C2 z d 84 [.ref 1, .int (nI 0), .int (nI 3)] (g, n, ps, k) Z = Z (.inl (some (.int (nI 4289967295)))) (g, n, ps, k + 1) := by
  simp (disch := first | assumption | omega) only [v84, q85, n_lt, n_le, n_eq, n_lt0, n_ge0, n_gt0, n_le0, n_eq0, m_lt, m_le, m_gt, m_ge, m_eq, m_eq', m_lt0, m_ge0, m_gt0, m_le0, m_ltm, m_lem, n_in, m_in, n_cl, n_ti, n_div, n_rem', n_dec, n_l, nI_add, pk_mul, an0, an1, decide_eq_true_eq, if_true, if_false, ite_true, ite_false, and_true, true_and, and_false, false_and, not_true, not_false_iff, or_false, false_or, or_true, true_or, eq_self, va_some, Bool.false_eq_true, reduceIte, catS_n, catS_i, catS_r, catS_l, catS_d, Nat.zero_add, Nat.add_zero, decide_true, decide_false, Nat.reduceLeDiff, cat_r, cat_i, cat_l, nle_T, nle_F, nlt_T, nlt_F, neq_T, neq_F, Nat.reduceAdd, mn0, mn1, run3_if, run3_n, run3_x0, run3_x1, run3_x2, ite_self]
theorem rf2 {z : SX} {d : Nat} {g : GS} {n k : Nat} {ps : Nat → GS} {Z : ZT} (hd : 31 ≤ d) : C2 z d 89 [.ref 1, .int (nI 5), .int (nI 0), .int (nI 1), .int (nI 0), .int (nI 0), .int (nI 0)] (g, n, ps, k) Z = Z (.inl (some (.int (nI 4289967293)))) (g, n, ps, k + 1) := by
  simp (disch := first | assumption | omega) only [v89, q90, n_lt, n_le, n_eq, n_lt0, n_ge0, n_gt0, n_le0, n_eq0, m_lt, m_le, m_gt, m_ge, m_eq, m_eq', m_lt0, m_ge0, m_gt0, m_le0, m_ltm, m_lem, n_in, m_in, n_cl, n_ti, n_div, n_rem', n_dec, n_l, nI_add, pk_mul, an0, an1, decide_eq_true_eq, if_true, if_false, ite_true, ite_false, and_true, true_and, and_false, false_and, not_true, not_false_iff, or_false, false_or, or_true, true_or, eq_self, va_some, Bool.false_eq_true, reduceIte, catS_n, catS_i, catS_r, catS_l, catS_d, Nat.zero_add, Nat.add_zero, decide_true, decide_false, Nat.reduceLeDiff, cat_r, cat_i, cat_l, nle_T, nle_F, nlt_T, nlt_F, neq_T, neq_F, Nat.reduceAdd, mn0, mn1, run3_if, run3_n, run3_x0, run3_x1, run3_x2, ite_self]
theorem rf3 {z : SX} {d : Nat} {g : GS} {n k : Nat} {ps : Nat → GS} {Z : ZT} (hd : 31 ≤ d) : C2 z d 89 [.ref 1, .int (nI 1), .int (nI 17), .int (nI 1), .int (nI 0), .int (nI 0), .int (nI 1)] (g, n, ps, k) Z = Z (.inl (some (.int (nI 4289967295)))) (g, n, ps, k + 1) := by
  simp (disch := first | assumption | omega) only [v89, q90, n_lt, n_le, n_eq, n_lt0, n_ge0, n_gt0, n_le0, n_eq0, m_lt, m_le, m_gt, m_ge, m_eq, m_eq', m_lt0, m_ge0, m_gt0, m_le0, m_ltm, m_lem, n_in, m_in, n_cl, n_ti, n_div, n_rem', n_dec, n_l, nI_add, pk_mul, an0, an1, decide_eq_true_eq, if_true, if_false, ite_true, ite_false, and_true, true_and, and_false, false_and, not_true, not_false_iff, or_false, false_or, or_true, true_or, eq_self, va_some, Bool.false_eq_true, reduceIte, catS_n, catS_i, catS_r, catS_l, catS_d, Nat.zero_add, Nat.add_zero, decide_true, decide_false, Nat.reduceLeDiff, cat_r, cat_i, cat_l, nle_T, nle_F, nlt_T, nlt_F, neq_T, neq_F, Nat.reduceAdd, mn0, mn1, run3_if, run3_n, run3_x0, run3_x1, run3_x2, ite_self]
theorem rf4 {z : SX} {d : Nat} {g : GS} {n k : Nat} {ps : Nat → GS} {Z : ZT} (hd : 31 ≤ d) : C2 z d 89 [.ref 1, .int (nI 0), .int (nI 0), .int (nI 1), .int (nI 4294967295), .int (nI 0), .int (nI 1)] (g, n, ps, k) Z = Z (.inl (some (.int (nI 4289967295)))) (g, n, ps, k + 1) := by
  simp (disch := first | assumption | omega) only [v89, q90, n_lt, n_le, n_eq, n_lt0, n_ge0, n_gt0, n_le0, n_eq0, m_lt, m_le, m_gt, m_ge, m_eq, m_eq', m_lt0, m_ge0, m_gt0, m_le0, m_ltm, m_lem, n_in, m_in, n_cl, n_ti, n_div, n_rem', n_dec, n_l, nI_add, pk_mul, an0, an1, decide_eq_true_eq, if_true, if_false, ite_true, ite_false, and_true, true_and, and_false, false_and, not_true, not_false_iff, or_false, false_or, or_true, true_or, eq_self, va_some, Bool.false_eq_true, reduceIte, catS_n, catS_i, catS_r, catS_l, catS_d, Nat.zero_add, Nat.add_zero, decide_true, decide_false, Nat.reduceLeDiff, cat_r, cat_i, cat_l, nle_T, nle_F, nlt_T, nlt_F, neq_T, neq_F, Nat.reduceAdd, mn0, mn1, run3_if, run3_n, run3_x0, run3_x1, run3_x2, ite_self]
theorem rf5 {z : SX} {d : Nat} {g : GS} {n k : Nat} {ps : Nat → GS} {Z : ZT} (hd : 31 ≤ d) (h6 : g 3 ≤ 6) : C2 z d 91 [.ref 1, .int (nI 0), .int (nI 6)] (g, n, ps, k) Z = Z (.inl (some (.int (nI 4289967293)))) (g, n, ps, k + 1) := by
  simp (disch := first | assumption | omega) only [v91, q92, n_lt, n_le, n_eq, n_lt0, n_ge0, n_gt0, n_le0, n_eq0, m_lt, m_le, m_gt, m_ge, m_eq, m_eq', m_lt0, m_ge0, m_gt0, m_le0, m_ltm, m_lem, n_in, m_in, n_cl, n_ti, n_div, n_rem', n_dec, n_l, nI_add, pk_mul, an0, an1, decide_eq_true_eq, if_true, if_false, ite_true, ite_false, and_true, true_and, and_false, false_and, not_true, not_false_iff, or_false, false_or, or_true, true_or, eq_self, va_some, Bool.false_eq_true, reduceIte, catS_n, catS_i, catS_r, catS_l, catS_d, Nat.zero_add, Nat.add_zero, decide_true, decide_false, Nat.reduceLeDiff, cat_r, cat_i, cat_l, nle_T, nle_F, nlt_T, nlt_F, neq_T, neq_F, Nat.reduceAdd, mn0, mn1, run3_if, run3_n, run3_x0, run3_x1, run3_x2, ite_self]
theorem rf6 {z : SX} {d : Nat} {g : GS} {n k : Nat} {ps : Nat → GS} {Z : ZT} (hd : 31 ≤ d) : C2 z d 91 [.ref 1, .int (nI 3), .int (nI 0)] (g, n, ps, k) Z = Z (.inl (some (.int (nI 4289967293)))) (g, n, ps, k + 1) := by
  simp (disch := first | assumption | omega) only [v91, q92, n_lt, n_le, n_eq, n_lt0, n_ge0, n_gt0, n_le0, n_eq0, m_lt, m_le, m_gt, m_ge, m_eq, m_eq', m_lt0, m_ge0, m_gt0, m_le0, m_ltm, m_lem, n_in, m_in, n_cl, n_ti, n_div, n_rem', n_dec, n_l, nI_add, pk_mul, an0, an1, decide_eq_true_eq, if_true, if_false, ite_true, ite_false, and_true, true_and, and_false, false_and, not_true, not_false_iff, or_false, false_or, or_true, true_or, eq_self, va_some, Bool.false_eq_true, reduceIte, catS_n, catS_i, catS_r, catS_l, catS_d, Nat.zero_add, Nat.add_zero, decide_true, decide_false, Nat.reduceLeDiff, cat_r, cat_i, cat_l, nle_T, nle_F, nlt_T, nlt_F, neq_T, neq_F, Nat.reduceAdd, mn0, mn1, run3_if, run3_n, run3_x0, run3_x1, run3_x2, ite_self]
theorem rf7 {z : SX} {d : Nat} {g : GS} {n k : Nat} {ps : Nat → GS} {Z : ZT} (hd : 31 ≤ d) : C2 z d 96 [.ref 1, .int (nI 1), .int (nI 4294967295), .int (nI 1)] (g, n, ps, k) Z = Z (.inl (some (.int (nI 4289967293)))) (g, n, ps, k + 1) := by
  simp (disch := first | assumption | omega) only [v96, q97, n_lt, n_le, n_eq, n_lt0, n_ge0, n_gt0, n_le0, n_eq0, m_lt, m_le, m_gt, m_ge, m_eq, m_eq', m_lt0, m_ge0, m_gt0, m_le0, m_ltm, m_lem, n_in, m_in, n_cl, n_ti, n_div, n_rem', n_dec, n_l, nI_add, pk_mul, an0, an1, decide_eq_true_eq, if_true, if_false, ite_true, ite_false, and_true, true_and, and_false, false_and, not_true, not_false_iff, or_false, false_or, or_true, true_or, eq_self, va_some, Bool.false_eq_true, reduceIte, catS_n, catS_i, catS_r, catS_l, catS_d, Nat.zero_add, Nat.add_zero, decide_true, decide_false, Nat.reduceLeDiff, cat_r, cat_i, cat_l, nle_T, nle_F, nlt_T, nlt_F, neq_T, neq_F, Nat.reduceAdd, mn0, mn1, run3_if, run3_n, run3_x0, run3_x1, run3_x2, ite_self]
theorem rf8 {z : SX} {d : Nat} {g : GS} {n k : Nat} {ps : Nat → GS} {Z : ZT} (hd : 31 ≤ d) (h6 : g 3 ≤ 6) : C2 z d 98 [.ref 1, .int (nI 0), .int (nI 6), .int (nI 0)] (g, n, ps, k) Z = Z (.inl (some (.int (nI 4289967293)))) (g, n, ps, k + 1) := by
  simp (disch := first | assumption | omega) only [v98, q99, n_lt, n_le, n_eq, n_lt0, n_ge0, n_gt0, n_le0, n_eq0, m_lt, m_le, m_gt, m_ge, m_eq, m_eq', m_lt0, m_ge0, m_gt0, m_le0, m_ltm, m_lem, n_in, m_in, n_cl, n_ti, n_div, n_rem', n_dec, n_l, nI_add, pk_mul, an0, an1, decide_eq_true_eq, if_true, if_false, ite_true, ite_false, and_true, true_and, and_false, false_and, not_true, not_false_iff, or_false, false_or, or_true, true_or, eq_self, va_some, Bool.false_eq_true, reduceIte, catS_n, catS_i, catS_r, catS_l, catS_d, Nat.zero_add, Nat.add_zero, decide_true, decide_false, Nat.reduceLeDiff, cat_r, cat_i, cat_l, nle_T, nle_F, nlt_T, nlt_F, neq_T, neq_F, Nat.reduceAdd, mn0, mn1, run3_if, run3_n, run3_x0, run3_x1, run3_x2, ite_self]
theorem rf9 {z : SX} {d : Nat} {g : GS} {n k : Nat} {ps : Nat → GS} {Z : ZT} (hd : 31 ≤ d) : C2 z d 100 [.ref 1, .int (nI 0), .int (nI 4294967295)] (g, n, ps, k) Z = Z (.inl (some (.int (nI 4289967295)))) (g, n, ps, k + 1) := by
  simp (disch := first | assumption | omega) only [v100, q101, n_lt, n_le, n_eq, n_lt0, n_ge0, n_gt0, n_le0, n_eq0, m_lt, m_le, m_gt, m_ge, m_eq, m_eq', m_lt0, m_ge0, m_gt0, m_le0, m_ltm, m_lem, n_in, m_in, n_cl, n_ti, n_div, n_rem', n_dec, n_l, nI_add, pk_mul, an0, an1, decide_eq_true_eq, if_true, if_false, ite_true, ite_false, and_true, true_and, and_false, false_and, not_true, not_false_iff, or_false, false_or, or_true, true_or, eq_self, va_some, Bool.false_eq_true, reduceIte, catS_n, catS_i, catS_r, catS_l, catS_d, Nat.zero_add, Nat.add_zero, decide_true, decide_false, Nat.reduceLeDiff, cat_r, cat_i, cat_l, nle_T, nle_F, nlt_T, nlt_F, neq_T, neq_F, Nat.reduceAdd, mn0, mn1, run3_if, run3_n, run3_x0, run3_x1, run3_x2, ite_self]
theorem rf10 {z : SX} {d : Nat} {g : GS} {n k : Nat} {ps : Nat → GS} {Z : ZT} (hd : 31 ≤ d) : C2 z d 102 [.ref 1, .int (nI 0), .int (nI 0)] (g, n, ps, k) Z = Z (.inl (some (.int (nI 4289967293)))) (g, n, ps, k + 1) := by
  simp (disch := first | assumption | omega) only [v102, q103, n_lt, n_le, n_eq, n_lt0, n_ge0, n_gt0, n_le0, n_eq0, m_lt, m_le, m_gt, m_ge, m_eq, m_eq', m_lt0, m_ge0, m_gt0, m_le0, m_ltm, m_lem, n_in, m_in, n_cl, n_ti, n_div, n_rem', n_dec, n_l, nI_add, pk_mul, an0, an1, decide_eq_true_eq, if_true, if_false, ite_true, ite_false, and_true, true_and, and_false, false_and, not_true, not_false_iff, or_false, false_or, or_true, true_or, eq_self, va_some, Bool.false_eq_true, reduceIte, catS_n, catS_i, catS_r, catS_l, catS_d, Nat.zero_add, Nat.add_zero, decide_true, decide_false, Nat.reduceLeDiff, cat_r, cat_i, cat_l, nle_T, nle_F, nlt_T, nlt_F, neq_T, neq_F, Nat.reduceAdd, mn0, mn1, run3_if, run3_n, run3_x0, run3_x1, run3_x2, ite_self]
theorem rf11 {z : SX} {d : Nat} {g : GS} {n k : Nat} {ps : Nat → GS} {Z : ZT} (hd : 31 ≤ d) : C2 z d 102 [.ref 1, .int (nI 2), .int (nI 201)] (g, n, ps, k) Z = Z (.inl (some (.int (nI 4289967295)))) (g, n, ps, k + 1) := by
  simp (disch := first | assumption | omega) only [v102, q103, n_lt, n_le, n_eq, n_lt0, n_ge0, n_gt0, n_le0, n_eq0, m_lt, m_le, m_gt, m_ge, m_eq, m_eq', m_lt0, m_ge0, m_gt0, m_le0, m_ltm, m_lem, n_in, m_in, n_cl, n_ti, n_div, n_rem', n_dec, n_l, nI_add, pk_mul, an0, an1, decide_eq_true_eq, if_true, if_false, ite_true, ite_false, and_true, true_and, and_false, false_and, not_true, not_false_iff, or_false, false_or, or_true, true_or, eq_self, va_some, Bool.false_eq_true, reduceIte, catS_n, catS_i, catS_r, catS_l, catS_d, Nat.zero_add, Nat.add_zero, decide_true, decide_false, Nat.reduceLeDiff, cat_r, cat_i, cat_l, nle_T, nle_F, nlt_T, nlt_F, neq_T, neq_F, Nat.reduceAdd, mn0, mn1, run3_if, run3_n, run3_x0, run3_x1, run3_x2, ite_self]
theorem rf12 {z : SX} {d : Nat} {g : GS} {n k : Nat} {ps : Nat → GS} {Z : ZT} (hd : 31 ≤ d) : C2 z d 105 [.ref 1, .int (nI 4), .int (nI 0)] (g, n, ps, k) Z = Z (.inl (some (.int (nI 4289967293)))) (g, n, ps, k + 1) := by
  simp (disch := first | assumption | omega) only [v105, q106, n_lt, n_le, n_eq, n_lt0, n_ge0, n_gt0, n_le0, n_eq0, m_lt, m_le, m_gt, m_ge, m_eq, m_eq', m_lt0, m_ge0, m_gt0, m_le0, m_ltm, m_lem, n_in, m_in, n_cl, n_ti, n_div, n_rem', n_dec, n_l, nI_add, pk_mul, an0, an1, decide_eq_true_eq, if_true, if_false, ite_true, ite_false, and_true, true_and, and_false, false_and, not_true, not_false_iff, or_false, false_or, or_true, true_or, eq_self, va_some, Bool.false_eq_true, reduceIte, catS_n, catS_i, catS_r, catS_l, catS_d, Nat.zero_add, Nat.add_zero, decide_true, decide_false, Nat.reduceLeDiff, cat_r, cat_i, cat_l, nle_T, nle_F, nlt_T, nlt_F, neq_T, neq_F, Nat.reduceAdd, mn0, mn1, run3_if, run3_n, run3_x0, run3_x1, run3_x2, ite_self]
theorem rf13 {z : SX} {d : Nat} {g : GS} {n k : Nat} {ps : Nat → GS} {Z : ZT} (hd : 31 ≤ d) : C2 z d 105 [.ref 1, .int (nI 1), .int (nI 4294967295)] (g, n, ps, k) Z = Z (.inl (some (.int (nI 4289967295)))) (g, n, ps, k + 1) := by
  simp (disch := first | assumption | omega) only [v105, q106, n_lt, n_le, n_eq, n_lt0, n_ge0, n_gt0, n_le0, n_eq0, m_lt, m_le, m_gt, m_ge, m_eq, m_eq', m_lt0, m_ge0, m_gt0, m_le0, m_ltm, m_lem, n_in, m_in, n_cl, n_ti, n_div, n_rem', n_dec, n_l, nI_add, pk_mul, an0, an1, decide_eq_true_eq, if_true, if_false, ite_true, ite_false, and_true, true_and, and_false, false_and, not_true, not_false_iff, or_false, false_or, or_true, true_or, eq_self, va_some, Bool.false_eq_true, reduceIte, catS_n, catS_i, catS_r, catS_l, catS_d, Nat.zero_add, Nat.add_zero, decide_true, decide_false, Nat.reduceLeDiff, cat_r, cat_i, cat_l, nle_T, nle_F, nlt_T, nlt_F, neq_T, neq_F, Nat.reduceAdd, mn0, mn1, run3_if, run3_n, run3_x0, run3_x1, run3_x2, ite_self]
theorem rf14 {z : SX} {d : Nat} {g : GS} {n k : Nat} {ps : Nat → GS} {Z : ZT} (hd : 31 ≤ d) : C2 z d 107 [.ref 1, .int (nI 51), .int (nI 0)] (g, n, ps, k) Z = Z (.inl (some (.int (nI 4289967295)))) (g, n, ps, k + 1) := by
  simp (disch := first | assumption | omega) only [v107, q108, n_lt, n_le, n_eq, n_lt0, n_ge0, n_gt0, n_le0, n_eq0, m_lt, m_le, m_gt, m_ge, m_eq, m_eq', m_lt0, m_ge0, m_gt0, m_le0, m_ltm, m_lem, n_in, m_in, n_cl, n_ti, n_div, n_rem', n_dec, n_l, nI_add, pk_mul, an0, an1, decide_eq_true_eq, if_true, if_false, ite_true, ite_false, and_true, true_and, and_false, false_and, not_true, not_false_iff, or_false, false_or, or_true, true_or, eq_self, va_some, Bool.false_eq_true, reduceIte, catS_n, catS_i, catS_r, catS_l, catS_d, Nat.zero_add, Nat.add_zero, decide_true, decide_false, Nat.reduceLeDiff, cat_r, cat_i, cat_l, nle_T, nle_F, nlt_T, nlt_F, neq_T, neq_F, Nat.reduceAdd, mn0, mn1, run3_if, run3_n, run3_x0, run3_x1, run3_x2, ite_self]
theorem rf15 {z : SX} {d : Nat} {g : GS} {n k : Nat} {ps : Nat → GS} {Z : ZT} (hd : 31 ≤ d) : C2 z d 109 [.ref 1, .int (nI 4294967295), .int (nI 1)] (g, n, ps, k) Z = Z (.inl (some (.int (nI 4289967293)))) (g, n, ps, k + 1) := by
  simp (disch := first | assumption | omega) only [v109, q110, n_lt, n_le, n_eq, n_lt0, n_ge0, n_gt0, n_le0, n_eq0, m_lt, m_le, m_gt, m_ge, m_eq, m_eq', m_lt0, m_ge0, m_gt0, m_le0, m_ltm, m_lem, n_in, m_in, n_cl, n_ti, n_div, n_rem', n_dec, n_l, nI_add, pk_mul, an0, an1, decide_eq_true_eq, if_true, if_false, ite_true, ite_false, and_true, true_and, and_false, false_and, not_true, not_false_iff, or_false, false_or, or_true, true_or, eq_self, va_some, Bool.false_eq_true, reduceIte, catS_n, catS_i, catS_r, catS_l, catS_d, Nat.zero_add, Nat.add_zero, decide_true, decide_false, Nat.reduceLeDiff, cat_r, cat_i, cat_l, nle_T, nle_F, nlt_T, nlt_F, neq_T, neq_F, Nat.reduceAdd, mn0, mn1, run3_if, run3_n, run3_x0, run3_x1, run3_x2, ite_self]
theorem rf16 {z : SX} {d : Nat} {g : GS} {n k : Nat} {ps : Nat → GS} {Z : ZT} (hd : 31 ≤ d) : C2 z d 111 [.ref 1, .int (nI 8)] (g, n, ps, k) Z = Z (.inl (some (.int (nI 4289967295)))) (g, n, ps, k + 1) := by
  simp (disch := first | assumption | omega) only [v111, q112, n_lt, n_le, n_eq, n_lt0, n_ge0, n_gt0, n_le0, n_eq0, m_lt, m_le, m_gt, m_ge, m_eq, m_eq', m_lt0, m_ge0, m_gt0, m_le0, m_ltm, m_lem, n_in, m_in, n_cl, n_ti, n_div, n_rem', n_dec, n_l, nI_add, pk_mul, an0, an1, decide_eq_true_eq, if_true, if_false, ite_true, ite_false, and_true, true_and, and_false, false_and, not_true, not_false_iff, or_false, false_or, or_true, true_or, eq_self, va_some, Bool.false_eq_true, reduceIte, catS_n, catS_i, catS_r, catS_l, catS_d, Nat.zero_add, Nat.add_zero, decide_true, decide_false, Nat.reduceLeDiff, cat_r, cat_i, cat_l, nle_T, nle_F, nlt_T, nlt_F, neq_T, neq_F, Nat.reduceAdd, mn0, mn1, run3_if, run3_n, run3_x0, run3_x1, run3_x2, ite_self]
theorem rf17 {z : SX} {d : Nat} {g : GS} {n k : Nat} {ps : Nat → GS} {Z : ZT} (hd : 31 ≤ d) : C2 z d 113 [.ref 1, .int (nI 4294967295)] (g, n, ps, k) Z = Z (.inl (some (.int (nI 4289967293)))) (g, n, ps, k + 1) := by
  simp (disch := first | assumption | omega) only [v113, q114, n_lt, n_le, n_eq, n_lt0, n_ge0, n_gt0, n_le0, n_eq0, m_lt, m_le, m_gt, m_ge, m_eq, m_eq', m_lt0, m_ge0, m_gt0, m_le0, m_ltm, m_lem, n_in, m_in, n_cl, n_ti, n_div, n_rem', n_dec, n_l, nI_add, pk_mul, an0, an1, decide_eq_true_eq, if_true, if_false, ite_true, ite_false, and_true, true_and, and_false, false_and, not_true, not_false_iff, or_false, false_or, or_true, true_or, eq_self, va_some, Bool.false_eq_true, reduceIte, catS_n, catS_i, catS_r, catS_l, catS_d, Nat.zero_add, Nat.add_zero, decide_true, decide_false, Nat.reduceLeDiff, cat_r, cat_i, cat_l, nle_T, nle_F, nlt_T, nlt_F, neq_T, neq_F, Nat.reduceAdd, mn0, mn1, run3_if, run3_n, run3_x0, run3_x1, run3_x2, ite_self]
theorem rf18 {z : SX} {d : Nat} {g : GS} {n k : Nat} {ps : Nat → GS} {Z : ZT} (hd : 31 ≤ d) : C2 z d 123 [.ref 1, .int (nI 0), .int (nI 4294967295)] (g, n, ps, k) Z = Z (.inl (some (.int (nI 4289967295)))) (g, n, ps, k + 1) := by
  simp (disch := first | assumption | omega) only [v123, q124, n_lt, n_le, n_eq, n_lt0, n_ge0, n_gt0, n_le0, n_eq0, m_lt, m_le, m_gt, m_ge, m_eq, m_eq', m_lt0, m_ge0, m_gt0, m_le0, m_ltm, m_lem, n_in, m_in, n_cl, n_ti, n_div, n_rem', n_dec, n_l, nI_add, pk_mul, an0, an1, decide_eq_true_eq, if_true, if_false, ite_true, ite_false, and_true, true_and, and_false, false_and, not_true, not_false_iff, or_false, false_or, or_true, true_or, eq_self, va_some, Bool.false_eq_true, reduceIte, catS_n, catS_i, catS_r, catS_l, catS_d, Nat.zero_add, Nat.add_zero, decide_true, decide_false, Nat.reduceLeDiff, cat_r, cat_i, cat_l, nle_T, nle_F, nlt_T, nlt_F, neq_T, neq_F, Nat.reduceAdd, mn0, mn1, run3_if, run3_n, run3_x0, run3_x1, run3_x2, ite_self]
theorem rf19 {z : SX} {d : Nat} {g : GS} {n k : Nat} {ps : Nat → GS} {Z : ZT} (hd : 31 ≤ d) : C2 z d 125 [.ref 1, .int (nI 4294967295), .int (nI 0)] (g, n, ps, k) Z = Z (.inl (some (.int (nI 4289967295)))) (g, n, ps, k + 1) := by
  simp (disch := first | assumption | omega) only [v125, q126, n_lt, n_le, n_eq, n_lt0, n_ge0, n_gt0, n_le0, n_eq0, m_lt, m_le, m_gt, m_ge, m_eq, m_eq', m_lt0, m_ge0, m_gt0, m_le0, m_ltm, m_lem, n_in, m_in, n_cl, n_ti, n_div, n_rem', n_dec, n_l, nI_add, pk_mul, an0, an1, decide_eq_true_eq, if_true, if_false, ite_true, ite_false, and_true, true_and, and_false, false_and, not_true, not_false_iff, or_false, false_or, or_true, true_or, eq_self, va_some, Bool.false_eq_true, reduceIte, catS_n, catS_i, catS_r, catS_l, catS_d, Nat.zero_add, Nat.add_zero, decide_true, decide_false, Nat.reduceLeDiff, cat_r, cat_i, cat_l, nle_T, nle_F, nlt_T, nlt_F, neq_T, neq_F, Nat.reduceAdd, mn0, mn1, run3_if, run3_n, run3_x0, run3_x1, run3_x2, ite_self]
theorem rf20 {z : SX} {d : Nat} {g : GS} {n k : Nat} {ps : Nat → GS} {Z : ZT} (hd : 31 ≤ d) : C2 z d 125 [.ref 1, .int (nI 0), .int (nI 4294967295)] (g, n, ps, k) Z = Z (.inl (some (.int (nI 4289967295)))) (g, n, ps, k + 1) := by
  simp (disch := first | assumption | omega) only [v125, q126, n_lt, n_le, n_eq, n_lt0, n_ge0, n_gt0, n_le0, n_eq0, m_lt, m_le, m_gt, m_ge, m_eq, m_eq', m_lt0, m_ge0, m_gt0, m_le0, m_ltm, m_lem, n_in, m_in, n_cl, n_ti, n_div, n_rem', n_dec, n_l, nI_add, pk_mul, an0, an1, decide_eq_true_eq, if_true, if_false, ite_true, ite_false, and_true, true_and, and_false, false_and, not_true, not_false_iff, or_false, false_or, or_true, true_or, eq_self, va_some, Bool.false_eq_true, reduceIte, catS_n, catS_i, catS_r, catS_l, catS_d, Nat.zero_add, Nat.add_zero, decide_true, decide_false, Nat.reduceLeDiff, cat_r, cat_i, cat_l, nle_T, nle_F, nlt_T, nlt_F, neq_T, neq_F, Nat.reduceAdd, mn0, mn1, run3_if, run3_n, run3_x0, run3_x1, run3_x2, ite_self]
theorem rf21 {z : SX} {d : Nat} {g : GS} {n k : Nat} {ps : Nat → GS} {Z : ZT} (hd : 31 ≤ d) : C2 z d 127 [.ref 1, .int (nI 4294967295)] (g, n, ps, k) Z = Z (.inl (some (.int (nI 4289967293)))) (g, n, ps, k + 1) := by
  simp (disch := first | assumption | omega) only [v127, q128, n_lt, n_le, n_eq, n_lt0, n_ge0, n_gt0, n_le0, n_eq0, m_lt, m_le, m_gt, m_ge, m_eq, m_eq', m_lt0, m_ge0, m_gt0, m_le0, m_ltm, m_lem, n_in, m_in, n_cl, n_ti, n_div, n_rem', n_dec, n_l, nI_add, pk_mul, an0, an1, decide_eq_true_eq, if_true, if_false, ite_true, ite_false, and_true, true_and, and_false, false_and, not_true, not_false_iff, or_false, false_or, or_true, true_or, eq_self, va_some, Bool.false_eq_true, reduceIte, catS_n, catS_i, catS_r, catS_l, catS_d, Nat.zero_add, Nat.add_zero, decide_true, decide_false, Nat.reduceLeDiff, cat_r, cat_i, cat_l, nle_T, nle_F, nlt_T, nlt_F, neq_T, neq_F, Nat.reduceAdd, mn0, mn1, run3_if, run3_n, run3_x0, run3_x1, run3_x2, ite_self]
theorem rf22 {z : SX} {d : Nat} {g : GS} {n k : Nat} {ps : Nat → GS} {Z : ZT} (hd : 31 ≤ d) (h6 : g 3 ≤ 6) : C2 z d 130 [.ref 1, .int (nI 0), .int (nI 6), .int (nI 0)] (g, n, ps, k) Z = Z (.inl (some (.int (nI 4289967293)))) (g, n, ps, k + 1) := by
  simp (disch := first | assumption | omega) only [v130, q131, n_lt, n_le, n_eq, n_lt0, n_ge0, n_gt0, n_le0, n_eq0, m_lt, m_le, m_gt, m_ge, m_eq, m_eq', m_lt0, m_ge0, m_gt0, m_le0, m_ltm, m_lem, n_in, m_in, n_cl, n_ti, n_div, n_rem', n_dec, n_l, nI_add, pk_mul, an0, an1, decide_eq_true_eq, if_true, if_false, ite_true, ite_false, and_true, true_and, and_false, false_and, not_true, not_false_iff, or_false, false_or, or_true, true_or, eq_self, va_some, Bool.false_eq_true, reduceIte, catS_n, catS_i, catS_r, catS_l, catS_d, Nat.zero_add, Nat.add_zero, decide_true, decide_false, Nat.reduceLeDiff, cat_r, cat_i, cat_l, nle_T, nle_F, nlt_T, nlt_F, neq_T, neq_F, Nat.reduceAdd, mn0, mn1, run3_if, run3_n, run3_x0, run3_x1, run3_x2, ite_self]
theorem rf23 {z : SX} {d : Nat} {g : GS} {n k : Nat} {ps : Nat → GS} {Z : ZT} (hd : 31 ≤ d) : C2 z d 133 [.ref 1, .int (nI 3), .int (nI 0)] (g, n, ps, k) Z = Z (.inl (some (.int (nI 4289967293)))) (g, n, ps, k + 1) := by
  simp (disch := first | assumption | omega) only [v133, q134, n_lt, n_le, n_eq, n_lt0, n_ge0, n_gt0, n_le0, n_eq0, m_lt, m_le, m_gt, m_ge, m_eq, m_eq', m_lt0, m_ge0, m_gt0, m_le0, m_ltm, m_lem, n_in, m_in, n_cl, n_ti, n_div, n_rem', n_dec, n_l, nI_add, pk_mul, an0, an1, decide_eq_true_eq, if_true, if_false, ite_true, ite_false, and_true, true_and, and_false, false_and, not_true, not_false_iff, or_false, false_or, or_true, true_or, eq_self, va_some, Bool.false_eq_true, reduceIte, catS_n, catS_i, catS_r, catS_l, catS_d, Nat.zero_add, Nat.add_zero, decide_true, decide_false, Nat.reduceLeDiff, cat_r, cat_i, cat_l, nle_T, nle_F, nlt_T, nlt_F, neq_T, neq_F, Nat.reduceAdd, mn0, mn1, run3_if, run3_n, run3_x0, run3_x1, run3_x2, ite_self]
theorem rf24 {z : SX} {d : Nat} {g : GS} {n k : Nat} {ps : Nat → GS} {Z : ZT} (hd : 31 ≤ d) : C2 z d 136 [.ref 1, .int (nI 0), .int (nI 4)] (g, n, ps, k) Z = Z (.inl (some (.int (nI 4289967295)))) (g, n, ps, k + 1) := by
  simp (disch := first | assumption | omega) only [v136, q137, n_lt, n_le, n_eq, n_lt0, n_ge0, n_gt0, n_le0, n_eq0, m_lt, m_le, m_gt, m_ge, m_eq, m_eq', m_lt0, m_ge0, m_gt0, m_le0, m_ltm, m_lem, n_in, m_in, n_cl, n_ti, n_div, n_rem', n_dec, n_l, nI_add, pk_mul, an0, an1, decide_eq_true_eq, if_true, if_false, ite_true, ite_false, and_true, true_and, and_false, false_and, not_true, not_false_iff, or_false, false_or, or_true, true_or, eq_self, va_some, Bool.false_eq_true, reduceIte, catS_n, catS_i, catS_r, catS_l, catS_d, Nat.zero_add, Nat.add_zero, decide_true, decide_false, Nat.reduceLeDiff, cat_r, cat_i, cat_l, nle_T, nle_F, nlt_T, nlt_F, neq_T, neq_F, Nat.reduceAdd, mn0, mn1, run3_if, run3_n, run3_x0, run3_x1, run3_x2, ite_self]
theorem rf25 {z : SX} {d : Nat} {g : GS} {n k : Nat} {ps : Nat → GS} {Z : ZT} (hd : 31 ≤ d) : C2 z d 138 [.ref 1, .int (nI 3)] (g, n, ps, k) Z = Z (.inl (some (.long (lN 18446744073704551613)))) (g, n, ps, k + 1) := by
  simp (disch := first | assumption | omega) only [v138, q139, n_lt, n_le, n_eq, n_lt0, n_ge0, n_gt0, n_le0, n_eq0, m_lt, m_le, m_gt, m_ge, m_eq, m_eq', m_lt0, m_ge0, m_gt0, m_le0, m_ltm, m_lem, n_in, m_in, n_cl, n_ti, n_div, n_rem', n_dec, n_l, nI_add, pk_mul, an0, an1, decide_eq_true_eq, if_true, if_false, ite_true, ite_false, and_true, true_and, and_false, false_and, not_true, not_false_iff, or_false, false_or, or_true, true_or, eq_self, va_some, Bool.false_eq_true, reduceIte, catS_n, catS_i, catS_r, catS_l, catS_d, Nat.zero_add, Nat.add_zero, decide_true, decide_false, Nat.reduceLeDiff, cat_r, cat_i, cat_l, nle_T, nle_F, nlt_T, nlt_F, neq_T, neq_F, Nat.reduceAdd, mn0, mn1, runL_if, runL_x, ite_self]
theorem rf26 {z : SX} {d : Nat} {g : GS} {n k : Nat} {ps : Nat → GS} {Z : ZT} (hd : 31 ≤ d) : C2 z d 140 [.ref 1, .int (nI 0), .int (nI 16)] (g, n, ps, k) Z = Z (.inl (some (.int (nI 4289967293)))) (g, n, ps, k + 1) := by
  simp (disch := first | assumption | omega) only [v140, q141, n_lt, n_le, n_eq, n_lt0, n_ge0, n_gt0, n_le0, n_eq0, m_lt, m_le, m_gt, m_ge, m_eq, m_eq', m_lt0, m_ge0, m_gt0, m_le0, m_ltm, m_lem, n_in, m_in, n_cl, n_ti, n_div, n_rem', n_dec, n_l, nI_add, pk_mul, an0, an1, decide_eq_true_eq, if_true, if_false, ite_true, ite_false, and_true, true_and, and_false, false_and, not_true, not_false_iff, or_false, false_or, or_true, true_or, eq_self, va_some, Bool.false_eq_true, reduceIte, catS_n, catS_i, catS_r, catS_l, catS_d, Nat.zero_add, Nat.add_zero, decide_true, decide_false, Nat.reduceLeDiff, cat_r, cat_i, cat_l, nle_T, nle_F, nlt_T, nlt_F, neq_T, neq_F, Nat.reduceAdd, mn0, mn1, run3_if, run3_n, run3_x0, run3_x1, run3_x2, ite_self]
theorem rf27 {z : SX} {d : Nat} {g : GS} {n k : Nat} {ps : Nat → GS} {Z : ZT} (hd : 31 ≤ d) : C2 z d 142 [.ref 1, .int (nI 3), .int (nI 0)] (g, n, ps, k) Z = Z (.inl (some (.int (nI 4289967293)))) (g, n, ps, k + 1) := by
  simp (disch := first | assumption | omega) only [v142, q143, n_lt, n_le, n_eq, n_lt0, n_ge0, n_gt0, n_le0, n_eq0, m_lt, m_le, m_gt, m_ge, m_eq, m_eq', m_lt0, m_ge0, m_gt0, m_le0, m_ltm, m_lem, n_in, m_in, n_cl, n_ti, n_div, n_rem', n_dec, n_l, nI_add, pk_mul, an0, an1, decide_eq_true_eq, if_true, if_false, ite_true, ite_false, and_true, true_and, and_false, false_and, not_true, not_false_iff, or_false, false_or, or_true, true_or, eq_self, va_some, Bool.false_eq_true, reduceIte, catS_n, catS_i, catS_r, catS_l, catS_d, Nat.zero_add, Nat.add_zero, decide_true, decide_false, Nat.reduceLeDiff, cat_r, cat_i, cat_l, nle_T, nle_F, nlt_T, nlt_F, neq_T, neq_F, Nat.reduceAdd, mn0, mn1, run3_if, run3_n, run3_x0, run3_x1, run3_x2, ite_self]
theorem rf28 {z : SX} {d : Nat} {g : GS} {n k : Nat} {ps : Nat → GS} {Z : ZT} (hd : 31 ≤ d) : C2 z d 144 [.ref 1, .int (nI 130)] (g, n, ps, k) Z = Z (.inl (some (.int (nI 4289967295)))) (g, n, ps, k + 1) := by
  simp (disch := first | assumption | omega) only [v144, q145, n_lt, n_le, n_eq, n_lt0, n_ge0, n_gt0, n_le0, n_eq0, m_lt, m_le, m_gt, m_ge, m_eq, m_eq', m_lt0, m_ge0, m_gt0, m_le0, m_ltm, m_lem, n_in, m_in, n_cl, n_ti, n_div, n_rem', n_dec, n_l, nI_add, pk_mul, an0, an1, decide_eq_true_eq, if_true, if_false, ite_true, ite_false, and_true, true_and, and_false, false_and, not_true, not_false_iff, or_false, false_or, or_true, true_or, eq_self, va_some, Bool.false_eq_true, reduceIte, catS_n, catS_i, catS_r, catS_l, catS_d, Nat.zero_add, Nat.add_zero, decide_true, decide_false, Nat.reduceLeDiff, cat_r, cat_i, cat_l, nle_T, nle_F, nlt_T, nlt_F, neq_T, neq_F, Nat.reduceAdd, mn0, mn1, run3_if, run3_n, run3_x0, run3_x1, run3_x2, ite_self]
theorem rf29 {z : SX} {d : Nat} {g : GS} {n k : Nat} {ps : Nat → GS} {Z : ZT} (hd : 31 ≤ d) (h6 : g 3 = 6) : C2 z d 89 [.ref 1, .int (nI 0), .int (nI 0), .int (nI 1), .int (nI 0), .int (nI 0), .int (nI 0)] (g, n, ps, k) Z = Z (.inl (some (.int (nI 4289967294)))) (g, n, ps, k + 1) := by
  simp (disch := first | assumption | omega) only [v89, q90, n_lt, n_le, n_eq, n_lt0, n_ge0, n_gt0, n_le0, n_eq0, m_lt, m_le, m_gt, m_ge, m_eq, m_eq', m_lt0, m_ge0, m_gt0, m_le0, m_ltm, m_lem, n_in, m_in, n_cl, n_ti, n_div, n_rem', n_dec, n_l, nI_add, pk_mul, an0, an1, decide_eq_true_eq, if_true, if_false, ite_true, ite_false, and_true, true_and, and_false, false_and, not_true, not_false_iff, or_false, false_or, or_true, true_or, eq_self, va_some, Bool.false_eq_true, reduceIte, catS_n, catS_i, catS_r, catS_l, catS_d, Nat.zero_add, Nat.add_zero, decide_true, decide_false, Nat.reduceLeDiff, cat_r, cat_i, cat_l, nle_T, nle_F, nlt_T, nlt_F, neq_T, neq_F, Nat.reduceAdd, mn0, mn1, run3_if, run3_n, run3_x0, run3_x1, run3_x2, ite_self]
theorem rf30 {z : SX} {d : Nat} {g : GS} {n k : Nat} {ps : Nat → GS} {Z : ZT} (hd : 31 ≤ d) : C2 z d 89 [.ref 1, .int (nI 0), .int (nI 0), .int (nI 0), .int (nI 0), .int (nI 0), .int (nI 0)] (g, n, ps, k) Z = Z (.inl (some (.int (nI 4289967295)))) (g, n, ps, k + 1) := by
  simp (disch := first | assumption | omega) only [v89, q90, n_lt, n_le, n_eq, n_lt0, n_ge0, n_gt0, n_le0, n_eq0, m_lt, m_le, m_gt, m_ge, m_eq, m_eq', m_lt0, m_ge0, m_gt0, m_le0, m_ltm, m_lem, n_in, m_in, n_cl, n_ti, n_div, n_rem', n_dec, n_l, nI_add, pk_mul, an0, an1, decide_eq_true_eq, if_true, if_false, ite_true, ite_false, and_true, true_and, and_false, false_and, not_true, not_false_iff, or_false, false_or, or_true, true_or, eq_self, va_some, Bool.false_eq_true, reduceIte, catS_n, catS_i, catS_r, catS_l, catS_d, Nat.zero_add, Nat.add_zero, decide_true, decide_false, Nat.reduceLeDiff, cat_r, cat_i, cat_l, nle_T, nle_F, nlt_T, nlt_F, neq_T, neq_F, Nat.reduceAdd, mn0, mn1, run3_if, run3_n, run3_x0, run3_x1, run3_x2, ite_self]
theorem e153_0 : dek 153 0 = some (.aload_n 0, 1, []) := rfl
theorem e153_1 : dek 153 1 = some (.invokestatic 119, 3, [2, 152, 0, 14, 0, 421, 2]) := rfl
theorem e153_4 : dek 153 4 = some (.lstore_n 1, 1, []) := rfl
theorem e153_5 : dek 153 5 = some (.aload_n 0, 1, []) := rfl
theorem e153_6 : dek 153 6 = some (.iconst (-1), 1, [4294967295]) := rfl
theorem e153_7 : dek 153 7 = some (.iconst 1, 1, [1]) := rfl
theorem e153_8 : dek 153 8 = some (.invokestatic 123, 3, [2, 84, 0, 14, 0, 634, 0, 0, 2]) := rfl
theorem e153_11 : dek 153 11 = some (.ldc 17, 2, [8, 4289967293, 582]) := rfl
theorem e153_13 : dek 153 13 = some (.if_icmp .ne 192, 3, [205]) := rfl
theorem e153_16 : dek 153 16 = some (.aload_n 0, 1, []) := rfl
theorem e153_17 : dek 153 17 = some (.iconst 0, 1, [0]) := rfl
theorem e153_18 : dek 153 18 = some (.iconst 3, 1, [3]) := rfl
theorem e153_19 : dek 153 19 = some (.invokestatic 123, 3, [2, 84, 0, 14, 0, 634, 0, 0, 2]) := rfl
theorem e153_22 : dek 153 22 = some (.ldc 20, 2, [8, 4289967295, 498]) := rfl
theorem e153_24 : dek 153 24 = some (.if_icmp .ne 181, 3, [205]) := rfl
theorem e153_27 : dek 153 27 = some (.aload_n 0, 1, []) := rfl
theorem e153_28 : dek 153 28 = some (.iconst 5, 1, [5]) := rfl
theorem e153_29 : dek 153 29 = some (.iconst 0, 1, [0]) := rfl
theorem e153_30 : dek 153 30 = some (.iconst 1, 1, [1]) := rfl
theorem e153_31 : dek 153 31 = some (.iconst 0, 1, [0]) := rfl
theorem e153_32 : dek 153 32 = some (.iconst 0, 1, [0]) := rfl
theorem e153_33 : dek 153 33 = some (.iconst 0, 1, [0]) := rfl
theorem e153_34 : dek 153 34 = some (.invokestatic 125, 3, [2, 89, 0, 14, 0, 655, 0, 0, 0, 0, 0, 0, 2]) := rfl
theorem e153_37 : dek 153 37 = some (.ldc 17, 2, [8, 4289967293, 582]) := rfl
theorem e153_39 : dek 153 39 = some (.if_icmp .ne 166, 3, [205]) := rfl
theorem e153_42 : dek 153 42 = some (.aload_n 0, 1, []) := rfl
theorem e153_43 : dek 153 43 = some (.iconst 1, 1, [1]) := rfl
theorem e153_44 : dek 153 44 = some (.bipush 17, 2, [17]) := rfl
theorem e153_46 : dek 153 46 = some (.iconst 1, 1, [1]) := rfl
theorem e153_47 : dek 153 47 = some (.iconst 0, 1, [0]) := rfl
theorem e153_48 : dek 153 48 = some (.iconst 0, 1, [0]) := rfl
theorem e153_49 : dek 153 49 = some (.iconst 1, 1, [1]) := rfl
theorem e153_50 : dek 153 50 = some (.invokestatic 125, 3, [2, 89, 0, 14, 0, 655, 0, 0, 0, 0, 0, 0, 2]) := rfl
theorem e153_53 : dek 153 53 = some (.ldc 20, 2, [8, 4289967295, 498]) := rfl
theorem e153_55 : dek 153 55 = some (.if_icmp .ne 150, 3, [205]) := rfl
theorem e153_58 : dek 153 58 = some (.aload_n 0, 1, []) := rfl
theorem e153_59 : dek 153 59 = some (.iconst 0, 1, [0]) := rfl
theorem e153_60 : dek 153 60 = some (.iconst 0, 1, [0]) := rfl
theorem e153_61 : dek 153 61 = some (.iconst 1, 1, [1]) := rfl
theorem e153_62 : dek 153 62 = some (.iconst (-1), 1, [4294967295]) := rfl
theorem e153_63 : dek 153 63 = some (.iconst 0, 1, [0]) := rfl
theorem e153_64 : dek 153 64 = some (.iconst 1, 1, [1]) := rfl
theorem e153_65 : dek 153 65 = some (.invokestatic 125, 3, [2, 89, 0, 14, 0, 655, 0, 0, 0, 0, 0, 0, 2]) := rfl
theorem e153_68 : dek 153 68 = some (.ldc 20, 2, [8, 4289967295, 498]) := rfl
theorem e153_70 : dek 153 70 = some (.if_icmp .ne 135, 3, [205]) := rfl
theorem e153_73 : dek 153 73 = some (.aload_n 0, 1, []) := rfl
theorem e153_74 : dek 153 74 = some (.iconst 0, 1, [0]) := rfl
theorem e153_75 : dek 153 75 = some (.bipush 6, 2, [6]) := rfl
theorem e153_77 : dek 153 77 = some (.invokestatic 128, 3, [2, 91, 0, 14, 0, 677, 0, 0, 2]) := rfl
theorem e153_80 : dek 153 80 = some (.ldc 17, 2, [8, 4289967293, 582]) := rfl
theorem e153_82 : dek 153 82 = some (.if_icmp .ne 123, 3, [205]) := rfl
theorem e153_85 : dek 153 85 = some (.aload_n 0, 1, []) := rfl
theorem e153_86 : dek 153 86 = some (.iconst 3, 1, [3]) := rfl
theorem e153_87 : dek 153 87 = some (.iconst 0, 1, [0]) := rfl
theorem e153_88 : dek 153 88 = some (.invokestatic 128, 3, [2, 91, 0, 14, 0, 677, 0, 0, 2]) := rfl
theorem e153_91 : dek 153 91 = some (.ldc 17, 2, [8, 4289967293, 582]) := rfl
theorem e153_93 : dek 153 93 = some (.if_icmp .ne 112, 3, [205]) := rfl
theorem e153_96 : dek 153 96 = some (.aload_n 0, 1, []) := rfl
theorem e153_97 : dek 153 97 = some (.iconst 1, 1, [1]) := rfl
theorem e153_98 : dek 153 98 = some (.iconst (-1), 1, [4294967295]) := rfl
theorem e153_99 : dek 153 99 = some (.iconst 1, 1, [1]) := rfl
theorem e153_100 : dek 153 100 = some (.invokestatic 130, 3, [2, 96, 0, 14, 0, 692, 0, 0, 0, 2]) := rfl
theorem e153_103 : dek 153 103 = some (.ldc 17, 2, [8, 4289967293, 582]) := rfl
theorem e153_105 : dek 153 105 = some (.if_icmp .ne 100, 3, [205]) := rfl
theorem e153_108 : dek 153 108 = some (.aload_n 0, 1, []) := rfl
theorem e153_109 : dek 153 109 = some (.iconst 0, 1, [0]) := rfl
theorem e153_110 : dek 153 110 = some (.bipush 6, 2, [6]) := rfl
theorem e153_112 : dek 153 112 = some (.iconst 0, 1, [0]) := rfl
theorem e153_113 : dek 153 113 = some (.invokestatic 111, 3, [2, 98, 0, 14, 0, 583, 0, 0, 0, 2]) := rfl
theorem e153_116 : dek 153 116 = some (.ldc 17, 2, [8, 4289967293, 582]) := rfl
theorem e153_118 : dek 153 118 = some (.if_icmp .ne 87, 3, [205]) := rfl
theorem e153_121 : dek 153 121 = some (.aload_n 0, 1, []) := rfl
theorem e153_122 : dek 153 122 = some (.iconst 0, 1, [0]) := rfl
theorem e153_123 : dek 153 123 = some (.iconst (-1), 1, [4294967295]) := rfl
theorem e153_124 : dek 153 124 = some (.invokestatic 108, 3, [2, 100, 0, 14, 0, 499, 0, 0, 2]) := rfl
theorem e153_127 : dek 153 127 = some (.ldc 20, 2, [8, 4289967295, 498]) := rfl
theorem e153_129 : dek 153 129 = some (.if_icmp .ne 76, 3, [205]) := rfl
theorem e153_132 : dek 153 132 = some (.aload_n 0, 1, []) := rfl
theorem e153_133 : dek 153 133 = some (.iconst 0, 1, [0]) := rfl
theorem e153_134 : dek 153 134 = some (.iconst 0, 1, [0]) := rfl
theorem e153_135 : dek 153 135 = some (.invokestatic 132, 3, [2, 102, 0, 14, 0, 699, 0, 0, 2]) := rfl
theorem e153_138 : dek 153 138 = some (.ldc 17, 2, [8, 4289967293, 582]) := rfl
theorem e153_140 : dek 153 140 = some (.if_icmp .ne 65, 3, [205]) := rfl
theorem e153_143 : dek 153 143 = some (.aload_n 0, 1, []) := rfl
theorem e153_144 : dek 153 144 = some (.iconst 2, 1, [2]) := rfl
theorem e153_145 : dek 153 145 = some (.sipush 201, 3, [201]) := rfl
theorem e153_148 : dek 153 148 = some (.invokestatic 132, 3, [2, 102, 0, 14, 0, 699, 0, 0, 2]) := rfl
theorem e153_151 : dek 153 151 = some (.ldc 20, 2, [8, 4289967295, 498]) := rfl
theorem e153_153 : dek 153 153 = some (.if_icmp .ne 52, 3, [205]) := rfl
theorem e153_156 : dek 153 156 = some (.aload_n 0, 1, []) := rfl
theorem e153_157 : dek 153 157 = some (.iconst 4, 1, [4]) := rfl
theorem e153_158 : dek 153 158 = some (.iconst 0, 1, [0]) := rfl
theorem e153_159 : dek 153 159 = some (.invokestatic 134, 3, [2, 105, 0, 14, 0, 706, 0, 0, 2]) := rfl
theorem e153_162 : dek 153 162 = some (.ldc 17, 2, [8, 4289967293, 582]) := rfl
theorem e153_164 : dek 153 164 = some (.if_icmp .ne 41, 3, [205]) := rfl
theorem e153_167 : dek 153 167 = some (.aload_n 0, 1, []) := rfl
theorem e153_168 : dek 153 168 = some (.iconst 1, 1, [1]) := rfl
theorem e153_169 : dek 153 169 = some (.iconst (-1), 1, [4294967295]) := rfl
theorem e153_170 : dek 153 170 = some (.invokestatic 134, 3, [2, 105, 0, 14, 0, 706, 0, 0, 2]) := rfl
theorem e153_173 : dek 153 173 = some (.ldc 20, 2, [8, 4289967295, 498]) := rfl
theorem e153_175 : dek 153 175 = some (.if_icmp .ne 30, 3, [205]) := rfl
theorem e153_178 : dek 153 178 = some (.aload_n 0, 1, []) := rfl
theorem e153_179 : dek 153 179 = some (.bipush 51, 2, [51]) := rfl
theorem e153_181 : dek 153 181 = some (.iconst 0, 1, [0]) := rfl
theorem e153_182 : dek 153 182 = some (.invokestatic 136, 3, [2, 107, 0, 14, 0, 713, 0, 0, 2]) := rfl
theorem e153_185 : dek 153 185 = some (.ldc 20, 2, [8, 4289967295, 498]) := rfl
theorem e153_187 : dek 153 187 = some (.if_icmp .ne 18, 3, [205]) := rfl
theorem e153_190 : dek 153 190 = some (.aload_n 0, 1, []) := rfl
theorem e153_191 : dek 153 191 = some (.iconst (-1), 1, [4294967295]) := rfl
theorem e153_192 : dek 153 192 = some (.iconst 1, 1, [1]) := rfl
theorem e153_193 : dek 153 193 = some (.invokestatic 114, 3, [2, 109, 0, 14, 0, 606, 0, 0, 2]) := rfl
theorem e153_196 : dek 153 196 = some (.ldc 17, 2, [8, 4289967293, 582]) := rfl
theorem e153_198 : dek 153 198 = some (.if_icmp .ne 7, 3, [205]) := rfl
theorem e153_201 : dek 153 201 = some (.iconst 1, 1, [1]) := rfl
theorem e153_202 : dek 153 202 = some (.goto 4, 3, [206]) := rfl
theorem e153_205 : dek 153 205 = some (.iconst 0, 1, [0]) := rfl
theorem e153_206 : dek 153 206 = some (.istore_n 3, 1, []) := rfl
theorem e153_207 : dek 153 207 = some (.iload_n 3, 1, []) := rfl
theorem e153_208 : dek 153 208 = some (.ifCond .eq 203, 3, [411]) := rfl
theorem e153_211 : dek 153 211 = some (.aload_n 0, 1, []) := rfl
theorem e153_212 : dek 153 212 = some (.bipush 8, 2, [8]) := rfl
theorem e153_214 : dek 153 214 = some (.invokestatic 103, 3, [2, 111, 0, 14, 0, 426, 0, 2]) := rfl
theorem e153_217 : dek 153 217 = some (.ldc 20, 2, [8, 4289967295, 498]) := rfl
theorem e153_219 : dek 153 219 = some (.if_icmp .ne 192, 3, [411]) := rfl
theorem e153_222 : dek 153 222 = some (.aload_n 0, 1, []) := rfl
theorem e153_223 : dek 153 223 = some (.iconst (-1), 1, [4294967295]) := rfl
theorem e153_224 : dek 153 224 = some (.invokestatic 138, 3, [2, 113, 0, 14, 0, 721, 0, 2]) := rfl
theorem e153_227 : dek 153 227 = some (.ldc 17, 2, [8, 4289967293, 582]) := rfl
theorem e153_229 : dek 153 229 = some (.if_icmp .ne 182, 3, [411]) := rfl
theorem e153_232 : dek 153 232 = some (.aload_n 0, 1, []) := rfl
theorem e153_233 : dek 153 233 = some (.iconst 0, 1, [0]) := rfl
theorem e153_234 : dek 153 234 = some (.iconst (-1), 1, [4294967295]) := rfl
theorem e153_235 : dek 153 235 = some (.invokestatic 140, 3, [2, 123, 0, 14, 0, 784, 0, 0, 2]) := rfl
theorem e153_238 : dek 153 238 = some (.ldc 20, 2, [8, 4289967295, 498]) := rfl
theorem e153_240 : dek 153 240 = some (.if_icmp .ne 171, 3, [411]) := rfl
theorem e153_243 : dek 153 243 = some (.aload_n 0, 1, []) := rfl
theorem e153_244 : dek 153 244 = some (.iconst (-1), 1, [4294967295]) := rfl
theorem e153_245 : dek 153 245 = some (.iconst 0, 1, [0]) := rfl
theorem e153_246 : dek 153 246 = some (.invokestatic 117, 3, [2, 125, 0, 14, 0, 617, 0, 0, 2]) := rfl
theorem e153_249 : dek 153 249 = some (.ldc 20, 2, [8, 4289967295, 498]) := rfl
theorem e153_251 : dek 153 251 = some (.if_icmp .ne 160, 3, [411]) := rfl
theorem e153_254 : dek 153 254 = some (.aload_n 0, 1, []) := rfl
theorem e153_255 : dek 153 255 = some (.iconst 0, 1, [0]) := rfl
theorem e153_256 : dek 153 256 = some (.iconst (-1), 1, [4294967295]) := rfl
theorem e153_257 : dek 153 257 = some (.invokestatic 117, 3, [2, 125, 0, 14, 0, 617, 0, 0, 2]) := rfl
theorem e153_260 : dek 153 260 = some (.ldc 20, 2, [8, 4289967295, 498]) := rfl
theorem e153_262 : dek 153 262 = some (.if_icmp .ne 149, 3, [411]) := rfl
theorem e153_265 : dek 153 265 = some (.aload_n 0, 1, []) := rfl
theorem e153_266 : dek 153 266 = some (.iconst (-1), 1, [4294967295]) := rfl
theorem e153_267 : dek 153 267 = some (.invokestatic 142, 3, [2, 127, 0, 14, 0, 791, 0, 2]) := rfl
theorem e153_270 : dek 153 270 = some (.ldc 17, 2, [8, 4289967293, 582]) := rfl
theorem e153_272 : dek 153 272 = some (.if_icmp .ne 139, 3, [411]) := rfl
theorem e153_275 : dek 153 275 = some (.aload_n 0, 1, []) := rfl
theorem e153_276 : dek 153 276 = some (.iconst 0, 1, [0]) := rfl
theorem e153_277 : dek 153 277 = some (.bipush 6, 2, [6]) := rfl
theorem e153_279 : dek 153 279 = some (.iconst 0, 1, [0]) := rfl
theorem e153_280 : dek 153 280 = some (.invokestatic 144, 3, [2, 130, 0, 14, 0, 802, 0, 0, 0, 2]) := rfl
theorem e153_283 : dek 153 283 = some (.ldc 17, 2, [8, 4289967293, 582]) := rfl
theorem e153_285 : dek 153 285 = some (.if_icmp .ne 126, 3, [411]) := rfl
theorem e153_288 : dek 153 288 = some (.aload_n 0, 1, []) := rfl
theorem e153_289 : dek 153 289 = some (.iconst 3, 1, [3]) := rfl
theorem e153_290 : dek 153 290 = some (.iconst 0, 1, [0]) := rfl
theorem e153_291 : dek 153 291 = some (.invokestatic 147, 3, [2, 133, 0, 14, 0, 812, 0, 0, 2]) := rfl
theorem e153_294 : dek 153 294 = some (.ldc 17, 2, [8, 4289967293, 582]) := rfl
theorem e153_296 : dek 153 296 = some (.if_icmp .ne 115, 3, [411]) := rfl
theorem e153_299 : dek 153 299 = some (.aload_n 0, 1, []) := rfl
theorem e153_300 : dek 153 300 = some (.iconst 0, 1, [0]) := rfl
theorem e153_301 : dek 153 301 = some (.iconst 4, 1, [4]) := rfl
theorem e153_302 : dek 153 302 = some (.invokestatic 149, 3, [2, 136, 0, 14, 0, 858, 0, 0, 2]) := rfl
theorem e153_305 : dek 153 305 = some (.ldc 20, 2, [8, 4289967295, 498]) := rfl
theorem e153_307 : dek 153 307 = some (.if_icmp .ne 104, 3, [411]) := rfl
theorem e153_310 : dek 153 310 = some (.aload_n 0, 1, []) := rfl
theorem e153_311 : dek 153 311 = some (.iconst 3, 1, [3]) := rfl
theorem e153_312 : dek 153 312 = some (.invokestatic 151, 3, [2, 138, 0, 14, 0, 869, 0, 2]) := rfl
theorem e153_315 : dek 153 315 = some (.ldc2_w 84, 3, [9, 18446744073704551613, 876]) := rfl
theorem e153_318 : dek 153 318 = some (.lcmp, 1, []) := rfl
theorem e153_319 : dek 153 319 = some (.ifCond .ne 92, 3, [411]) := rfl
theorem e153_322 : dek 153 322 = some (.aload_n 0, 1, []) := rfl
theorem e153_323 : dek 153 323 = some (.iconst 0, 1, [0]) := rfl
theorem e153_324 : dek 153 324 = some (.bipush 16, 2, [16]) := rfl
theorem e153_326 : dek 153 326 = some (.invokestatic 154, 3, [2, 140, 0, 14, 0, 877, 0, 0, 2]) := rfl
theorem e153_329 : dek 153 329 = some (.ldc 17, 2, [8, 4289967293, 582]) := rfl
theorem e153_331 : dek 153 331 = some (.if_icmp .ne 80, 3, [411]) := rfl
theorem e153_334 : dek 153 334 = some (.aload_n 0, 1, []) := rfl
theorem e153_335 : dek 153 335 = some (.iconst 3, 1, [3]) := rfl
theorem e153_336 : dek 153 336 = some (.iconst 0, 1, [0]) := rfl
theorem e153_337 : dek 153 337 = some (.invokestatic 156, 3, [2, 142, 0, 14, 0, 885, 0, 0, 2]) := rfl
theorem e153_340 : dek 153 340 = some (.ldc 17, 2, [8, 4289967293, 582]) := rfl
theorem e153_342 : dek 153 342 = some (.if_icmp .ne 69, 3, [411]) := rfl
theorem e153_345 : dek 153 345 = some (.aload_n 0, 1, []) := rfl
theorem e153_346 : dek 153 346 = some (.sipush 130, 3, [130]) := rfl
theorem e153_349 : dek 153 349 = some (.invokestatic 158, 3, [2, 144, 0, 14, 0, 893, 0, 2]) := rfl
theorem e153_352 : dek 153 352 = some (.ldc 20, 2, [8, 4289967295, 498]) := rfl
theorem e153_354 : dek 153 354 = some (.if_icmp .ne 57, 3, [411]) := rfl
theorem e153_357 : dek 153 357 = some (.aload_n 0, 1, []) := rfl
theorem e153_358 : dek 153 358 = some (.iconst 0, 1, [0]) := rfl
theorem e153_359 : dek 153 359 = some (.iconst 1, 1, [1]) := rfl
theorem e153_360 : dek 153 360 = some (.invokestatic 108, 3, [2, 100, 0, 14, 0, 499, 0, 0, 2]) := rfl
theorem e153_363 : dek 153 363 = some (.bipush 6, 2, [6]) := rfl
theorem e153_365 : dek 153 365 = some (.if_icmp .lt 33, 3, [398]) := rfl
theorem e153_368 : dek 153 368 = some (.aload_n 0, 1, []) := rfl
theorem e153_369 : dek 153 369 = some (.iconst 0, 1, [0]) := rfl
theorem e153_370 : dek 153 370 = some (.iconst 0, 1, [0]) := rfl
theorem e153_371 : dek 153 371 = some (.iconst 1, 1, [1]) := rfl
theorem e153_372 : dek 153 372 = some (.iconst 0, 1, [0]) := rfl
theorem e153_373 : dek 153 373 = some (.iconst 0, 1, [0]) := rfl
theorem e153_374 : dek 153 374 = some (.iconst 0, 1, [0]) := rfl
theorem e153_375 : dek 153 375 = some (.invokestatic 125, 3, [2, 89, 0, 14, 0, 655, 0, 0, 0, 0, 0, 0, 2]) := rfl
theorem e153_378 : dek 153 378 = some (.ldc 27, 2, [8, 4289967294, 420]) := rfl
theorem e153_380 : dek 153 380 = some (.if_icmp .ne 31, 3, [411]) := rfl
theorem e153_383 : dek 153 383 = some (.aload_n 0, 1, []) := rfl
theorem e153_384 : dek 153 384 = some (.iconst 0, 1, [0]) := rfl
theorem e153_385 : dek 153 385 = some (.iconst 0, 1, [0]) := rfl
theorem e153_386 : dek 153 386 = some (.iconst 0, 1, [0]) := rfl
theorem e153_387 : dek 153 387 = some (.iconst 0, 1, [0]) := rfl
theorem e153_388 : dek 153 388 = some (.iconst 0, 1, [0]) := rfl
theorem e153_389 : dek 153 389 = some (.iconst 0, 1, [0]) := rfl
theorem e153_390 : dek 153 390 = some (.invokestatic 125, 3, [2, 89, 0, 14, 0, 655, 0, 0, 0, 0, 0, 0, 2]) := rfl
theorem e153_393 : dek 153 393 = some (.ldc 20, 2, [8, 4289967295, 498]) := rfl
theorem e153_395 : dek 153 395 = some (.if_icmp .ne 16, 3, [411]) := rfl
theorem e153_398 : dek 153 398 = some (.aload_n 0, 1, []) := rfl
theorem e153_399 : dek 153 399 = some (.invokestatic 119, 3, [2, 152, 0, 14, 0, 421, 2]) := rfl
theorem e153_402 : dek 153 402 = some (.lload_n 1, 1, []) := rfl
theorem e153_403 : dek 153 403 = some (.lcmp, 1, []) := rfl
theorem e153_404 : dek 153 404 = some (.ifCond .ne 7, 3, [411]) := rfl
theorem e153_407 : dek 153 407 = some (.iconst 1, 1, [1]) := rfl
theorem e153_408 : dek 153 408 = some (.goto 4, 3, [412]) := rfl
theorem e153_411 : dek 153 411 = some (.iconst 0, 1, [0]) := rfl
theorem e153_412 : dek 153 412 = some (.ireturn, 1, [1]) := rfl
set_option maxRecDepth 50000 in
set_option maxHeartbeats 4000000 in
theorem e153 {z : SX} {d : Nat} {g : GS} {n k : Nat} {ps : Nat → GS} {Z : ZT} (hv : TV g) (hd : 33 ≤ d) : ∃ kk, kk ≤ 400 ∧ ∀ Z, C2 z d 153 [.ref 1] (g, n, ps, k) Z = Z (.inl (some (.int (nI 1)))) (g, n, ps, k + kk) := by
  have h6 : g 3 ≤ 6 := hv.2.1 0 (by omega)
  have hp := prK_b hv
  have h100 : ∀ Z k, C2 z (d - 1) 100 [.ref 1, .int (nI 0), .int (nI 1)] (g, n, ps, k) Z = Z (.inl (some (.int (nI (g 3))))) (g, n, ps, k) := fun Z k => e100 (by omega) (by omega) (by omega)
  by_cases hc : g 3 < 6
  · refine ⟨prK g + 29 + prK g, by omega, fun Z => ?_⟩
    rw [C2_e (mj := 153) (e := [.ref 1, UN, UN, UN]) rfl (by omega) rfl (Nat.le_of_ble_eq_true rfl)]
    simp (disch := first | assumption | omega) only [Nat.reduceAdd, mP_1, mP_0, X2_go, g4_some, stp, ldI, ldA, ldL, stI, stA, stL, o1I, o2I, o2L, brI, brII, gl, s1, s2, k1, sl, g3_sN, g3_sR, g3_sC, g3_if, g3_no, pops, b2_v, e153_0, e153_1, e153_4, e153_5, e153_6, e153_7, e153_8, e153_11, e153_13, e153_16, e153_17, e153_18, e153_19, e153_22, e153_24, e153_27, e153_28, e153_29, e153_30, e153_31, e153_32, e153_33, e153_34, e153_37, e153_39, e153_42, e153_43, e153_44, e153_46, e153_47, e153_48, e153_49, e153_50, e153_53, e153_55, e153_58, e153_59, e153_60, e153_61, e153_62, e153_63, e153_64, e153_65, e153_68, e153_70, e153_73, e153_74, e153_75, e153_77, e153_80, e153_82, e153_85, e153_86, e153_87, e153_88, e153_91, e153_93, e153_96, e153_97, e153_98, e153_99, e153_100, e153_103, e153_105, e153_108, e153_109, e153_110, e153_112, e153_113, e153_116, e153_118, e153_121, e153_122, e153_123, e153_124, e153_127, e153_129, e153_132, e153_133, e153_134, e153_135, e153_138, e153_140, e153_143, e153_144, e153_145, e153_148, e153_151, e153_153, e153_156, e153_157, e153_158, e153_159, e153_162, e153_164, e153_167, e153_168, e153_169, e153_170, e153_173, e153_175, e153_178, e153_179, e153_181, e153_182, e153_185, e153_187, e153_190, e153_191, e153_192, e153_193, e153_196, e153_198, e153_201, e153_202, e153_205, e153_206, e153_207, e153_208, e153_211, e153_212, e153_214, e153_217, e153_219, e153_222, e153_223, e153_224, e153_227, e153_229, e153_232, e153_233, e153_234, e153_235, e153_238, e153_240, e153_243, e153_244, e153_245, e153_246, e153_249, e153_251, e153_254, e153_255, e153_256, e153_257, e153_260, e153_262, e153_265, e153_266, e153_267, e153_270, e153_272, e153_275, e153_276, e153_277, e153_279, e153_280, e153_283, e153_285, e153_288, e153_289, e153_290, e153_291, e153_294, e153_296, e153_299, e153_300, e153_301, e153_302, e153_305, e153_307, e153_310, e153_311, e153_312, e153_315, e153_318, e153_319, e153_322, e153_323, e153_324, e153_326, e153_329, e153_331, e153_334, e153_335, e153_336, e153_337, e153_340, e153_342, e153_345, e153_346, e153_349, e153_352, e153_354, e153_357, e153_358, e153_359, e153_360, e153_363, e153_365, e153_368, e153_369, e153_370, e153_371, e153_372, e153_373, e153_374, e153_375, e153_378, e153_380, e153_383, e153_384, e153_385, e153_386, e153_387, e153_388, e153_389, e153_390, e153_393, e153_395, e153_398, e153_399, e153_402, e153_403, e153_404, e153_407, e153_408, e153_411, e153_412, n_lt, n_le, n_eq, n_lt0, n_ge0, n_gt0, n_le0, n_eq0, m_lt, m_le, m_gt, m_ge, m_eq, m_eq', m_lt0, m_ge0, m_gt0, m_le0, m_ltm, m_lem, n_in, m_in, n_cl, n_ti, n_div, n_rem', n_dec, n_l, nI_add, pk_mul, an0, an1, decide_eq_true_eq, if_true, if_false, ite_true, ite_false, and_true, true_and, and_false, false_and, not_true, not_false_iff, or_false, false_or, or_true, true_or, eq_self, va_some, Bool.false_eq_true, reduceIte, catS_n, catS_i, catS_r, catS_l, catS_d, Nat.zero_add, Nat.add_zero, decide_true, decide_false, Nat.reduceLeDiff, cat_r, cat_i, cat_l, nle_T, nle_F, nlt_T, nlt_F, neq_T, neq_F, e152, h100, lg_self, rf0, rf1, rf2, rf3, rf4, rf5, rf6, rf7, rf8, rf9, rf10, rf11, rf12, rf13, rf14, rf15, rf16, rf17, rf18, rf19, rf20, rf21, rf22, rf23, rf24, rf25, rf26, rf27, rf28]
    refine congrArg (fun q => Z _ (g, n, ps, q)) ?_
    omega
  · have h66 : g 3 = 6 := by omega
    refine ⟨prK g + 31 + prK g, by omega, fun Z => ?_⟩
    rw [C2_e (mj := 153) (e := [.ref 1, UN, UN, UN]) rfl (by omega) rfl (Nat.le_of_ble_eq_true rfl)]
    simp (disch := first | assumption | omega) only [Nat.reduceAdd, mP_1, mP_0, X2_go, g4_some, stp, ldI, ldA, ldL, stI, stA, stL, o1I, o2I, o2L, brI, brII, gl, s1, s2, k1, sl, g3_sN, g3_sR, g3_sC, g3_if, g3_no, pops, b2_v, e153_0, e153_1, e153_4, e153_5, e153_6, e153_7, e153_8, e153_11, e153_13, e153_16, e153_17, e153_18, e153_19, e153_22, e153_24, e153_27, e153_28, e153_29, e153_30, e153_31, e153_32, e153_33, e153_34, e153_37, e153_39, e153_42, e153_43, e153_44, e153_46, e153_47, e153_48, e153_49, e153_50, e153_53, e153_55, e153_58, e153_59, e153_60, e153_61, e153_62, e153_63, e153_64, e153_65, e153_68, e153_70, e153_73, e153_74, e153_75, e153_77, e153_80, e153_82, e153_85, e153_86, e153_87, e153_88, e153_91, e153_93, e153_96, e153_97, e153_98, e153_99, e153_100, e153_103, e153_105, e153_108, e153_109, e153_110, e153_112, e153_113, e153_116, e153_118, e153_121, e153_122, e153_123, e153_124, e153_127, e153_129, e153_132, e153_133, e153_134, e153_135, e153_138, e153_140, e153_143, e153_144, e153_145, e153_148, e153_151, e153_153, e153_156, e153_157, e153_158, e153_159, e153_162, e153_164, e153_167, e153_168, e153_169, e153_170, e153_173, e153_175, e153_178, e153_179, e153_181, e153_182, e153_185, e153_187, e153_190, e153_191, e153_192, e153_193, e153_196, e153_198, e153_201, e153_202, e153_205, e153_206, e153_207, e153_208, e153_211, e153_212, e153_214, e153_217, e153_219, e153_222, e153_223, e153_224, e153_227, e153_229, e153_232, e153_233, e153_234, e153_235, e153_238, e153_240, e153_243, e153_244, e153_245, e153_246, e153_249, e153_251, e153_254, e153_255, e153_256, e153_257, e153_260, e153_262, e153_265, e153_266, e153_267, e153_270, e153_272, e153_275, e153_276, e153_277, e153_279, e153_280, e153_283, e153_285, e153_288, e153_289, e153_290, e153_291, e153_294, e153_296, e153_299, e153_300, e153_301, e153_302, e153_305, e153_307, e153_310, e153_311, e153_312, e153_315, e153_318, e153_319, e153_322, e153_323, e153_324, e153_326, e153_329, e153_331, e153_334, e153_335, e153_336, e153_337, e153_340, e153_342, e153_345, e153_346, e153_349, e153_352, e153_354, e153_357, e153_358, e153_359, e153_360, e153_363, e153_365, e153_368, e153_369, e153_370, e153_371, e153_372, e153_373, e153_374, e153_375, e153_378, e153_380, e153_383, e153_384, e153_385, e153_386, e153_387, e153_388, e153_389, e153_390, e153_393, e153_395, e153_398, e153_399, e153_402, e153_403, e153_404, e153_407, e153_408, e153_411, e153_412, n_lt, n_le, n_eq, n_lt0, n_ge0, n_gt0, n_le0, n_eq0, m_lt, m_le, m_gt, m_ge, m_eq, m_eq', m_lt0, m_ge0, m_gt0, m_le0, m_ltm, m_lem, n_in, m_in, n_cl, n_ti, n_div, n_rem', n_dec, n_l, nI_add, pk_mul, an0, an1, decide_eq_true_eq, if_true, if_false, ite_true, ite_false, and_true, true_and, and_false, false_and, not_true, not_false_iff, or_false, false_or, or_true, true_or, eq_self, va_some, Bool.false_eq_true, reduceIte, catS_n, catS_i, catS_r, catS_l, catS_d, Nat.zero_add, Nat.add_zero, decide_true, decide_false, Nat.reduceLeDiff, cat_r, cat_i, cat_l, nle_T, nle_F, nlt_T, nlt_F, neq_T, neq_F, e152, h100, lg_self, rf0, rf1, rf2, rf3, rf4, rf5, rf6, rf7, rf8, rf9, rf10, rf11, rf12, rf13, rf14, rf15, rf16, rf17, rf18, rf19, rf20, rf21, rf22, rf23, rf24, rf25, rf26, rf27, rf28, rf29, rf30]
    refine congrArg (fun q => Z _ (g, n, ps, q)) ?_
    omega
