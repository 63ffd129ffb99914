/-! THE LAW: calls within their ranges -/
theorem e98 {z : SX} {d : Nat} {g : GS} {n k : Nat} {ps : Nat → GS} {Z : ZT} {t e w : Nat} (hd : 31 ≤ d) (ht : t < 3) (he : e < g (3 + t)) (h6 : g (3 + t) ≤ 6) (hw : w < 8) : C2 z d 98 [.ref 1, .int (nI t), .int (nI e), .int (nI w)] (g, n, ps, k) Z = Z (.inl (some (.int (nI (eV g t e w))))) (g, n, ps, k) := by
  simp (disch := first | assumption | omega) only [v98, q99, n_lt, n_le, n_eq, n_lt0, n_ge0, n_gt0, n_le0, n_eq0, m_lt, m_le, m_gt, m_ge, m_eq, m_eq', m_lt0, m_ge0, m_gt0, m_le0, m_ltm, m_lem, n_in, m_in, n_cl, n_ti, n_div, n_rem', n_dec, n_l, nI_add, pk_mul, an0, an1, decide_eq_true_eq, if_true, if_false, ite_true, ite_false, and_true, true_and, and_false, false_and, not_true, not_false_iff, or_false, false_or, or_true, true_or, eq_self, va_some, Bool.false_eq_true, reduceIte, catS_n, catS_i, catS_r, catS_l, catS_d, Nat.zero_add, Nat.add_zero, decide_true, decide_false, Nat.reduceLeDiff, cat_r, cat_i, cat_l, nle_T, nle_F, nlt_T, nlt_F, neq_T, neq_F, run3_if, run3_v]
theorem e98n {z : SX} {d : Nat} {g : GS} {n k : Nat} {ps : Nat → GS} {Z : ZT} {t e w : Nat} (hd : 31 ≤ d) (ht : t < 3) (he : g (3 + t) ≤ e) (h6 : g (3 + t) ≤ 6) (he2 : e < 1000) : C2 z d 98 [.ref 1, .int (nI t), .int (nI e), .int (nI w)] (g, n, ps, k) Z = Z (.inl (some (.int (nI 4289967293)))) (g, n, ps, k + 1) := by
  simp (disch := first | assumption | omega) only [v98, q99, n_lt, n_le, n_eq, n_lt0, n_ge0, n_gt0, n_le0, n_eq0, m_lt, m_le, m_gt, m_ge, m_eq, m_eq', m_lt0, m_ge0, m_gt0, m_le0, m_ltm, m_lem, n_in, m_in, n_cl, n_ti, n_div, n_rem', n_dec, n_l, nI_add, pk_mul, an0, an1, decide_eq_true_eq, if_true, if_false, ite_true, ite_false, and_true, true_and, and_false, false_and, not_true, not_false_iff, or_false, false_or, or_true, true_or, eq_self, va_some, Bool.false_eq_true, reduceIte, catS_n, catS_i, catS_r, catS_l, catS_d, Nat.zero_add, Nat.add_zero, decide_true, decide_false, Nat.reduceLeDiff, cat_r, cat_i, cat_l, nle_T, nle_F, nlt_T, nlt_F, neq_T, neq_F, run3_if, run3_x0]
theorem eV_0 {g : GS} {t e : Nat} : eV g t e 0 = g (cl t e 0) := rfl
theorem eV_1 {g : GS} {t e : Nat} : eV g t e 1 = g (cl t e 1) := rfl
theorem eV_2 {g : GS} {t e : Nat} : eV g t e 2 = g (cl t e 2) := rfl
theorem eV_4 {g : GS} {t e : Nat} : eV g t e 4 = g (cl t e 4) := rfl
theorem eV_5 {g : GS} {t e : Nat} : eV g t e 5 = g (cl t e 5) := rfl
theorem eV_6 {g : GS} {t e : Nat} : eV g t e 6 = pw g t e := rfl
theorem eV_7 {g : GS} {t e : Nat} : eV g t e 7 = if 0 < fw g t e then 1 else 0 := rfl
theorem e100 {z : SX} {d : Nat} {g : GS} {n k : Nat} {ps : Nat → GS} {Z : ZT} {t w : Nat} (hd : 31 ≤ d) (ht : t < 3) (hw : w < 4) : C2 z d 100 [.ref 1, .int (nI t), .int (nI w)] (g, n, ps, k) Z = Z (.inl (some (.int (nI (tV g t w))))) (g, n, ps, k) := by
  simp (disch := first | assumption | omega) only [v100, q101, n_lt, n_le, n_eq, n_lt0, n_ge0, n_gt0, n_le0, n_eq0, m_lt, m_le, m_gt, m_ge, m_eq, m_eq', m_lt0, m_ge0, m_gt0, m_le0, m_ltm, m_lem, n_in, m_in, n_cl, n_ti, n_div, n_rem', n_dec, n_l, nI_add, pk_mul, an0, an1, decide_eq_true_eq, if_true, if_false, ite_true, ite_false, and_true, true_and, and_false, false_and, not_true, not_false_iff, or_false, false_or, or_true, true_or, eq_self, va_some, Bool.false_eq_true, reduceIte, catS_n, catS_i, catS_r, catS_l, catS_d, Nat.zero_add, Nat.add_zero, decide_true, decide_false, Nat.reduceLeDiff, cat_r, cat_i, cat_l, nle_T, nle_F, nlt_T, nlt_F, neq_T, neq_F, run3_if, run3_v]
theorem tV_0 {g : GS} {t : Nat} : tV g t 0 = g t := rfl
theorem tV_1 {g : GS} {t : Nat} : tV g t 1 = g (3 + t) := rfl
theorem tV_2 {g : GS} {t : Nat} : tV g t 2 = fq g t := rfl
theorem tV_3 {g : GS} {t : Nat} : tV g t 3 = fs g t := rfl
theorem e109c {z : SX} {d : Nat} {g : GS} {n k : Nat} {ps : Nat → GS} {Z : ZT} {r : Nat} (hd : 31 ≤ d) (h1 : 1 ≤ r) (h3 : r ≤ 3) : C2 z d 109 [.ref 1, .int (nI r), .int (nI 0)] (g, n, ps, k) Z = Z (.inl (some (.int (nI (g (113 + r)))))) (g, n, ps, k) := by
  simp (disch := first | assumption | omega) only [v109, q110, n_lt, n_le, n_eq, n_lt0, n_ge0, n_gt0, n_le0, n_eq0, m_lt, m_le, m_gt, m_ge, m_eq, m_eq', m_lt0, m_ge0, m_gt0, m_le0, m_ltm, m_lem, n_in, m_in, n_cl, n_ti, n_div, n_rem', n_dec, n_l, nI_add, pk_mul, an0, an1, decide_eq_true_eq, if_true, if_false, ite_true, ite_false, and_true, true_and, and_false, false_and, not_true, not_false_iff, or_false, false_or, or_true, true_or, eq_self, va_some, Bool.false_eq_true, reduceIte, catS_n, catS_i, catS_r, catS_l, catS_d, Nat.zero_add, Nat.add_zero, decide_true, decide_false, Nat.reduceLeDiff, cat_r, cat_i, cat_l, nle_T, nle_F, nlt_T, nlt_F, neq_T, neq_F, run3_if, run3_v]
theorem e109l {z : SX} {d : Nat} {g : GS} {n k : Nat} {ps : Nat → GS} {Z : ZT} {r : Nat} (hd : 31 ≤ d) (h1 : 1 ≤ r) (h3 : r ≤ 3) : C2 z d 109 [.ref 1, .int (nI r), .int (nI 1)] (g, n, ps, k) Z = Z (.inl (some (.int (nI (g (116 + r)))))) (g, n, ps, k) := by
  simp (disch := first | assumption | omega) only [v109, q110, n_lt, n_le, n_eq, n_lt0, n_ge0, n_gt0, n_le0, n_eq0, m_lt, m_le, m_gt, m_ge, m_eq, m_eq', m_lt0, m_ge0, m_gt0, m_le0, m_ltm, m_lem, n_in, m_in, n_cl, n_ti, n_div, n_rem', n_dec, n_l, nI_add, pk_mul, an0, an1, decide_eq_true_eq, if_true, if_false, ite_true, ite_false, and_true, true_and, and_false, false_and, not_true, not_false_iff, or_false, false_or, or_true, true_or, eq_self, va_some, Bool.false_eq_true, reduceIte, catS_n, catS_i, catS_r, catS_l, catS_d, Nat.zero_add, Nat.add_zero, decide_true, decide_false, Nat.reduceLeDiff, cat_r, cat_i, cat_l, nle_T, nle_F, nlt_T, nlt_F, neq_T, neq_F, run3_if, run3_v]
theorem e111v {z : SX} {d : Nat} {g : GS} {n k : Nat} {ps : Nat → GS} {Z : ZT} {w : Nat} (hd : 31 ≤ d) (hw : w < 8) : C2 z d 111 [.ref 1, .int (nI w)] (g, n, ps, k) Z = Z (.inl (some (.int (nI (vV g w))))) (g, n, ps, k) := by
  simp (disch := first | assumption | omega) only [v111, q112, n_lt, n_le, n_eq, n_lt0, n_ge0, n_gt0, n_le0, n_eq0, m_lt, m_le, m_gt, m_ge, m_eq, m_eq', m_lt0, m_ge0, m_gt0, m_le0, m_ltm, m_lem, n_in, m_in, n_cl, n_ti, n_div, n_rem', n_dec, n_l, nI_add, pk_mul, an0, an1, decide_eq_true_eq, if_true, if_false, ite_true, ite_false, and_true, true_and, and_false, false_and, not_true, not_false_iff, or_false, false_or, or_true, true_or, eq_self, va_some, Bool.false_eq_true, reduceIte, catS_n, catS_i, catS_r, catS_l, catS_d, Nat.zero_add, Nat.add_zero, decide_true, decide_false, Nat.reduceLeDiff, cat_r, cat_i, cat_l, nle_T, nle_F, nlt_T, nlt_F, neq_T, neq_F, run3_if, run3_v]
theorem vV_0 {g : GS} : vV g 0 = g 120 := rfl
theorem vV_2 {g : GS} : vV g 2 = g 122 := rfl
theorem vV_3 {g : GS} : vV g 3 = g 123 := rfl
theorem vV_4 {g : GS} : vV g 4 = g 140 := rfl
theorem vV_5 {g : GS} : vV g 5 = g 3 + g 4 + g 5 := rfl
theorem vV_6 {g : GS} : vV g 6 = spc g := rfl
theorem vV_7 {g : GS} : vV g 7 = dif g 16 := rfl
theorem e125 {z : SX} {d : Nat} {g : GS} {n k : Nat} {ps : Nat → GS} {Z : ZT} {i w : Nat} (hd : 31 ≤ d) (hi : i < 2147483648) (hw : w < 3) : C2 z d 125 [.ref 1, .int (nI i), .int (nI w)] (g, n, ps, k) Z = Z (.inl (some (.int (tellG g i w)))) (g, n, ps, k) := by
  simp (disch := first | assumption | omega) only [v125, q126, n_lt, n_le, n_eq, n_lt0, n_ge0, n_gt0, n_le0, n_eq0, m_lt, m_le, m_gt, m_ge, m_eq, m_eq', m_lt0, m_ge0, m_gt0, m_le0, m_ltm, m_lem, n_in, m_in, n_cl, n_ti, n_div, n_rem', n_dec, n_l, nI_add, pk_mul, an0, an1, decide_eq_true_eq, if_true, if_false, ite_true, ite_false, and_true, true_and, and_false, false_and, not_true, not_false_iff, or_false, false_or, or_true, true_or, eq_self, va_some, Bool.false_eq_true, reduceIte, catS_n, catS_i, catS_r, catS_l, catS_d, Nat.zero_add, Nat.add_zero, decide_true, decide_false, Nat.reduceLeDiff, cat_r, cat_i, cat_l, nle_T, nle_F, nlt_T, nlt_F, neq_T, neq_F, run3_if, run3_v]
theorem e125k {z : SX} {d : Nat} {g : GS} {n k : Nat} {ps : Nat → GS} {Z : ZT} {i w : Nat} (hd : 31 ≤ d) (hi : i < g 140) (hc : g 140 ≤ 20) (hw : w < 3) : C2 z d 125 [.ref 1, .int (nI i), .int (nI w)] (g, n, ps, k) Z = Z (.inl (some (.int (nI (g (141 + 3 * i + w)))))) (g, n, ps, k) := by
  rw [e125 hd (by omega) hw]
  unfold tellG
  rw [if_pos hi]
theorem e125n {z : SX} {d : Nat} {g : GS} {n k : Nat} {ps : Nat → GS} {Z : ZT} {i w : Nat} (hd : 31 ≤ d) (hi : g 140 ≤ i) (hi2 : i < 2147483648) (hw : w < 3) : C2 z d 125 [.ref 1, .int (nI i), .int (nI w)] (g, n, ps, k) Z = Z (.inl (some (.int (nI 4294967295)))) (g, n, ps, k) := by
  rw [e125 hd hi2 hw]
  unfold tellG
  rw [if_neg (by omega)]
theorem e127o {z : SX} {d : Nat} {g : GS} {n k : Nat} {ps : Nat → GS} {Z : ZT} {i : Nat} (hd : 31 ≤ d) (hi : i < 16) : C2 z d 127 [.ref 1, .int (nI i)] (g, n, ps, k) Z = Z (.inl (some (.int (nI (g (124 + i)))))) (g, n, ps, k) := by
  simp (disch := first | assumption | omega) only [v127, q128, n_lt, n_le, n_eq, n_lt0, n_ge0, n_gt0, n_le0, n_eq0, m_lt, m_le, m_gt, m_ge, m_eq, m_eq', m_lt0, m_ge0, m_gt0, m_le0, m_ltm, m_lem, n_in, m_in, n_cl, n_ti, n_div, n_rem', n_dec, n_l, nI_add, pk_mul, an0, an1, decide_eq_true_eq, if_true, if_false, ite_true, ite_false, and_true, true_and, and_false, false_and, not_true, not_false_iff, or_false, false_or, or_true, true_or, eq_self, va_some, Bool.false_eq_true, reduceIte, catS_n, catS_i, catS_r, catS_l, catS_d, Nat.zero_add, Nat.add_zero, decide_true, decide_false, Nat.reduceLeDiff, cat_r, cat_i, cat_l, nle_T, nle_F, nlt_T, nlt_F, neq_T, neq_F, run3_if, run3_v]
theorem e130a {z : SX} {d : Nat} {g : GS} {n k : Nat} {ps : Nat → GS} {Z : ZT} {t e : Nat} (hd : 31 ≤ d) (ht : t < 3) (he : e < g (3 + t)) (h6 : g (3 + t) ≤ 6) : C2 z d 130 [.ref 1, .int (nI t), .int (nI e), .int (nI 0)] (g, n, ps, k) Z = Z (.inl (some (.int (nI (frV (fw g t e) (fs g t) 0))))) (g, n, ps, k) := by
  simp (disch := first | assumption | omega) only [v130, q131, n_lt, n_le, n_eq, n_lt0, n_ge0, n_gt0, n_le0, n_eq0, m_lt, m_le, m_gt, m_ge, m_eq, m_eq', m_lt0, m_ge0, m_gt0, m_le0, m_ltm, m_lem, n_in, m_in, n_cl, n_ti, n_div, n_rem', n_dec, n_l, nI_add, pk_mul, an0, an1, decide_eq_true_eq, if_true, if_false, ite_true, ite_false, and_true, true_and, and_false, false_and, not_true, not_false_iff, or_false, false_or, or_true, true_or, eq_self, va_some, Bool.false_eq_true, reduceIte, catS_n, catS_i, catS_r, catS_l, catS_d, Nat.zero_add, Nat.add_zero, decide_true, decide_false, Nat.reduceLeDiff, cat_r, cat_i, cat_l, nle_T, nle_F, nlt_T, nlt_F, neq_T, neq_F, run3_if, run3_v]
theorem e130b {z : SX} {d : Nat} {g : GS} {n k : Nat} {ps : Nat → GS} {Z : ZT} {t e : Nat} (hd : 31 ≤ d) (ht : t < 3) (he : e < g (3 + t)) (h6 : g (3 + t) ≤ 6) : C2 z d 130 [.ref 1, .int (nI t), .int (nI e), .int (nI 1)] (g, n, ps, k) Z = Z (.inl (some (.int (nI (frV (fw g t e) (fs g t) 1))))) (g, n, ps, k) := by
  simp (disch := first | assumption | omega) only [v130, q131, n_lt, n_le, n_eq, n_lt0, n_ge0, n_gt0, n_le0, n_eq0, m_lt, m_le, m_gt, m_ge, m_eq, m_eq', m_lt0, m_ge0, m_gt0, m_le0, m_ltm, m_lem, n_in, m_in, n_cl, n_ti, n_div, n_rem', n_dec, n_l, nI_add, pk_mul, an0, an1, decide_eq_true_eq, if_true, if_false, ite_true, ite_false, and_true, true_and, and_false, false_and, not_true, not_false_iff, or_false, false_or, or_true, true_or, eq_self, va_some, Bool.false_eq_true, reduceIte, catS_n, catS_i, catS_r, catS_l, catS_d, Nat.zero_add, Nat.add_zero, decide_true, decide_false, Nat.reduceLeDiff, cat_r, cat_i, cat_l, nle_T, nle_F, nlt_T, nlt_F, neq_T, neq_F, run3_if, run3_v]
theorem e133 {z : SX} {d : Nat} {g : GS} {n k : Nat} {ps : Nat → GS} {Z : ZT} {t i : Nat} (hd : 31 ≤ d) (ht : t < 3) (hi : i < 16) : C2 z d 133 [.ref 1, .int (nI t), .int (nI i)] (g, n, ps, k) Z = Z (.inl (some (.int (nI (chN g t i))))) (g, n, ps, k) := by
  simp (disch := first | assumption | omega) only [v133, q134, n_lt, n_le, n_eq, n_lt0, n_ge0, n_gt0, n_le0, n_eq0, m_lt, m_le, m_gt, m_ge, m_eq, m_eq', m_lt0, m_ge0, m_gt0, m_le0, m_ltm, m_lem, n_in, m_in, n_cl, n_ti, n_div, n_rem', n_dec, n_l, nI_add, pk_mul, an0, an1, decide_eq_true_eq, if_true, if_false, ite_true, ite_false, and_true, true_and, and_false, false_and, not_true, not_false_iff, or_false, false_or, or_true, true_or, eq_self, va_some, Bool.false_eq_true, reduceIte, catS_n, catS_i, catS_r, catS_l, catS_d, Nat.zero_add, Nat.add_zero, decide_true, decide_false, Nat.reduceLeDiff, cat_r, cat_i, cat_l, nle_T, nle_F, nlt_T, nlt_F, neq_T, neq_F, run3_if, run3_v, ch_N, lN_i]
theorem e136 {z : SX} {d : Nat} {g : GS} {n k : Nat} {ps : Nat → GS} {Z : ZT} {t r : Nat} (hd : 31 ≤ d) (ht : t < 3) (hr : r ≤ 3) : C2 z d 136 [.ref 1, .int (nI t), .int (nI r)] (g, n, ps, k) Z = Z (.inl (some (.int (nI (raN (chN g t) r))))) (g, n, ps, k) := by
  simp (disch := first | assumption | omega) only [v136, q137, n_lt, n_le, n_eq, n_lt0, n_ge0, n_gt0, n_le0, n_eq0, m_lt, m_le, m_gt, m_ge, m_eq, m_eq', m_lt0, m_ge0, m_gt0, m_le0, m_ltm, m_lem, n_in, m_in, n_cl, n_ti, n_div, n_rem', n_dec, n_l, nI_add, pk_mul, an0, an1, decide_eq_true_eq, if_true, if_false, ite_true, ite_false, and_true, true_and, and_false, false_and, not_true, not_false_iff, or_false, false_or, or_true, true_or, eq_self, va_some, Bool.false_eq_true, reduceIte, catS_n, catS_i, catS_r, catS_l, catS_d, Nat.zero_add, Nat.add_zero, decide_true, decide_false, Nat.reduceLeDiff, cat_r, cat_i, cat_l, nle_T, nle_F, nlt_T, nlt_F, neq_T, neq_F, run3_if, run3_v, ra_N, lN_i]
theorem e138 {z : SX} {d : Nat} {g : GS} {n k : Nat} {ps : Nat → GS} {Z : ZT} {t : Nat} (hd : 31 ≤ d) (ht : t < 3) : C2 z d 138 [.ref 1, .int (nI t)] (g, n, ps, k) Z = Z (.inl (some (.long (lN (chN g t 20))))) (g, n, ps, k) := by
  simp (disch := first | assumption | omega) only [v138, q139, n_lt, n_le, n_eq, n_lt0, n_ge0, n_gt0, n_le0, n_eq0, m_lt, m_le, m_gt, m_ge, m_eq, m_eq', m_lt0, m_ge0, m_gt0, m_le0, m_ltm, m_lem, n_in, m_in, n_cl, n_ti, n_div, n_rem', n_dec, n_l, nI_add, pk_mul, an0, an1, decide_eq_true_eq, if_true, if_false, ite_true, ite_false, and_true, true_and, and_false, false_and, not_true, not_false_iff, or_false, false_or, or_true, true_or, eq_self, va_some, Bool.false_eq_true, reduceIte, catS_n, catS_i, catS_r, catS_l, catS_d, Nat.zero_add, Nat.add_zero, decide_true, decide_false, Nat.reduceLeDiff, cat_r, cat_i, cat_l, nle_T, nle_F, nlt_T, nlt_F, neq_T, neq_F, runL_if, runL_v, ch_N]
theorem e140 {z : SX} {d : Nat} {g : GS} {n k : Nat} {ps : Nat → GS} {Z : ZT} {t i : Nat} (hd : 31 ≤ d) (ht : t < 3) (hi : i < 16) : C2 z d 140 [.ref 1, .int (nI t), .int (nI i)] (g, n, ps, k) Z = Z (.inl (some (.int (soV t i (g (124 + i)) 300 0 g)))) (g, n, ps, k) := by
  simp (disch := first | assumption | omega) only [v140, q141, n_lt, n_le, n_eq, n_lt0, n_ge0, n_gt0, n_le0, n_eq0, m_lt, m_le, m_gt, m_ge, m_eq, m_eq', m_lt0, m_ge0, m_gt0, m_le0, m_ltm, m_lem, n_in, m_in, n_cl, n_ti, n_div, n_rem', n_dec, n_l, nI_add, pk_mul, an0, an1, decide_eq_true_eq, if_true, if_false, ite_true, ite_false, and_true, true_and, and_false, false_and, not_true, not_false_iff, or_false, false_or, or_true, true_or, eq_self, va_some, Bool.false_eq_true, reduceIte, catS_n, catS_i, catS_r, catS_l, catS_d, Nat.zero_add, Nat.add_zero, decide_true, decide_false, Nat.reduceLeDiff, cat_r, cat_i, cat_l, nle_T, nle_F, nlt_T, nlt_F, neq_T, neq_F, run3_if, run3_v]
theorem e142 {z : SX} {d : Nat} {g : GS} {n k : Nat} {ps : Nat → GS} {Z : ZT} {t i : Nat} (hd : 31 ≤ d) (ht : t < 3) (hi : i < 16) : C2 z d 142 [.ref 1, .int (nI t), .int (nI i)] (g, n, ps, k) Z = Z (.inl (some (.int (bdV g t i (g (3 + t)) 0 (nI 4294967295) (lN 18446744073709551615))))) (g, n, ps, k) := by
  simp (disch := first | assumption | omega) only [v142, q143, n_lt, n_le, n_eq, n_lt0, n_ge0, n_gt0, n_le0, n_eq0, m_lt, m_le, m_gt, m_ge, m_eq, m_eq', m_lt0, m_ge0, m_gt0, m_le0, m_ltm, m_lem, n_in, m_in, n_cl, n_ti, n_div, n_rem', n_dec, n_l, nI_add, pk_mul, an0, an1, decide_eq_true_eq, if_true, if_false, ite_true, ite_false, and_true, true_and, and_false, false_and, not_true, not_false_iff, or_false, false_or, or_true, true_or, eq_self, va_some, Bool.false_eq_true, reduceIte, catS_n, catS_i, catS_r, catS_l, catS_d, Nat.zero_add, Nat.add_zero, decide_true, decide_false, Nat.reduceLeDiff, cat_r, cat_i, cat_l, nle_T, nle_F, nlt_T, nlt_F, neq_T, neq_F, run3_if, run3_v]
/-! those that change the state -/
theorem sav_e {g g' : GS} {n k w : Nat} {ps : Nat → GS} : sav g' (g, n, ps, k) w = (g', puN n, puS n ps g, k + w) := rfl
theorem e96 {z : SX} {d : Nat} {g : GS} {n k : Nat} {ps : Nat → GS} {Z : ZT} {t e v : Nat} (hd : 31 ≤ d) (ht : t < 3) (he : e < g (3 + t)) (h6 : g (3 + t) ≤ 6) (h1 : 1 ≤ v) (h2 : v ≤ 1000) : C2 z d 96 [.ref 1, .int (nI t), .int (nI e), .int (nI v)] (g, n, ps, k) Z = Z (.inl (some (.int (nI (g (cl t e 1)))))) (ud g (cl t e 1) v, puN n, puS n ps g, k) := by
  simp (disch := first | assumption | omega) only [v96, q97, n_lt, n_le, n_eq, n_lt0, n_ge0, n_gt0, n_le0, n_eq0, m_lt, m_le, m_gt, m_ge, m_eq, m_eq', m_lt0, m_ge0, m_gt0, m_le0, m_ltm, m_lem, n_in, m_in, n_cl, n_ti, n_div, n_rem', n_dec, n_l, nI_add, pk_mul, an0, an1, decide_eq_true_eq, if_true, if_false, ite_true, ite_false, and_true, true_and, and_false, false_and, not_true, not_false_iff, or_false, false_or, or_true, true_or, eq_self, va_some, Bool.false_eq_true, reduceIte, catS_n, catS_i, catS_r, catS_l, catS_d, Nat.zero_add, Nat.add_zero, decide_true, decide_false, Nat.reduceLeDiff, cat_r, cat_i, cat_l, nle_T, nle_F, nlt_T, nlt_F, neq_T, neq_F, run3_if, run3_v, sav_e]
theorem e113 {z : SX} {d : Nat} {g : GS} {n k : Nat} {ps : Nat → GS} {Z : ZT} {t : Nat} (hd : 31 ≤ d) (ht : t < 3) : C2 z d 113 [.ref 1, .int (nI t)] (g, n, ps, k) Z = Z (.inl (some (.int (nI (opN t g))))) (opn t g, puN n, puS n ps g, k + 1) := by
  simp (disch := first | assumption | omega) only [v113, q114, n_lt, n_le, n_eq, n_lt0, n_ge0, n_gt0, n_le0, n_eq0, m_lt, m_le, m_gt, m_ge, m_eq, m_eq', m_lt0, m_ge0, m_gt0, m_le0, m_ltm, m_lem, n_in, m_in, n_cl, n_ti, n_div, n_rem', n_dec, n_l, nI_add, pk_mul, an0, an1, decide_eq_true_eq, if_true, if_false, ite_true, ite_false, and_true, true_and, and_false, false_and, not_true, not_false_iff, or_false, false_or, or_true, true_or, eq_self, va_some, Bool.false_eq_true, reduceIte, catS_n, catS_i, catS_r, catS_l, catS_d, Nat.zero_add, Nat.add_zero, decide_true, decide_false, Nat.reduceLeDiff, cat_r, cat_i, cat_l, nle_T, nle_F, nlt_T, nlt_F, neq_T, neq_F, run3_if, run3_v, sav_e]
theorem e123 {z : SX} {d : Nat} {g : GS} {n k : Nat} {ps : Nat → GS} {Z : ZT} {t m : Nat} (hd : 31 ≤ d) (ht : t < 3) (h1 : 1 ≤ m) (h2 : m ≤ 200) : C2 z d 123 [.ref 1, .int (nI t), .int (nI m)] (g, n, ps, k) Z = Z (.inl (some (.int (nI (opT t m g))))) (opI t m g, puN n, puS n ps g, k + m) := by
  simp (disch := first | assumption | omega) only [v123, q124, n_lt, n_le, n_eq, n_lt0, n_ge0, n_gt0, n_le0, n_eq0, m_lt, m_le, m_gt, m_ge, m_eq, m_eq', m_lt0, m_ge0, m_gt0, m_le0, m_ltm, m_lem, n_in, m_in, n_cl, n_ti, n_div, n_rem', n_dec, n_l, nI_add, pk_mul, an0, an1, decide_eq_true_eq, if_true, if_false, ite_true, ite_false, and_true, true_and, and_false, false_and, not_true, not_false_iff, or_false, false_or, or_true, true_or, eq_self, va_some, Bool.false_eq_true, reduceIte, catS_n, catS_i, catS_r, catS_l, catS_d, Nat.zero_add, Nat.add_zero, decide_true, decide_false, Nat.reduceLeDiff, cat_r, cat_i, cat_l, nle_T, nle_F, nlt_T, nlt_F, neq_T, neq_F, run3_if, run3_v, sav_e]
theorem e147 {z : SX} {d : Nat} {g : GS} {n k : Nat} {ps : Nat → GS} {Z : ZT} (hd : 31 ≤ d) (h1 : 1 ≤ n) : C2 z d 147 [.ref 1] (g, n, ps, k) Z = Z (.inl (some (.int (nI (n - 1))))) (ps (n - 1), n - 1, ps, k) := by
  rw [v147 hd]
  unfold q148
  rw [if_neg (show ¬ (n = 0) by omega)]
  rfl
theorem e147z {z : SX} {d : Nat} {g : GS} {n k : Nat} {ps : Nat → GS} {Z : ZT} (hd : 31 ≤ d) (h1 : n = 0) : C2 z d 147 [.ref 1] (g, n, ps, k) Z = Z (.inl (some (.int (nI 4289967294)))) (g, n, ps, k + 1) := by
  rw [v147 hd]
  unfold q148
  rw [if_pos h1]
  rfl
theorem puN_1 {n : Nat} : 1 ≤ puN n := by unfold puN; split <;> omega
theorem puN_4 {n : Nat} : puN n ≤ 4 := by unfold puN; split <;> omega
theorem puS_t {n : Nat} {ps : Nat → GS} {g : GS} : puS n ps g (puN n - 1) = g := by
  unfold puS puN
  by_cases h : n < 4
  · rw [if_pos h, if_pos h]
    exact ud_s
  · rw [if_neg h, if_neg h]
    rfl
/-- undone, right behind a call that is undoable -/
theorem e147u {z : SX} {d : Nat} {g : GS} {n k : Nat} {ps : Nat → GS} {Z : ZT} {g' : GS} (hd : 31 ≤ d) : C2 z d 147 [.ref 1] (g', puN n, puS n ps g, k) Z = Z (.inl (some (.int (nI (puN n - 1))))) (g, puN n - 1, puS n ps g, k) := by
  rw [e147 hd puN_1, puS_t]
/-! two small ones -/
theorem e151_0 : dek 151 0 = some (.iload_n 0, 1, []) := rfl
theorem e151_1 : dek 151 1 = some (.ldc 8, 2, [8, 2147483647, 302]) := rfl
theorem e151_3 : dek 151 3 = some (.iand, 1, []) := rfl
theorem e151_4 : dek 151 4 = some (.iload_n 1, 1, []) := rfl
theorem e151_5 : dek 151 5 = some (.irem, 1, []) := rfl
theorem e151_6 : dek 151 6 = some (.ireturn, 1, [0]) := rfl
theorem l151 {v : Int32} : ∃ a, a < 2147483648 ∧ v &&& nI 2147483647 = nI a := by
  have h : ¬ (v &&& nI 2147483647 < 0) := by
    intro h
    rw [Int32.lt_iff_toInt_lt] at h
    have e : (v &&& nI 2147483647).toInt = (v.toBitVec &&& 2147483647#32).toInt := rfl
    have hm : (v.toBitVec &&& 2147483647#32).msb = false := by
      rw [BitVec.msb_and]
      have : (2147483647#32).msb = false := by decide
      rw [this, Bool.and_false]
    have := BitVec.toInt_nonneg_of_msb_false hm
    have e0 : (0 : Int32).toInt = 0 := by decide
    omega
  rcases n_ix (v &&& nI 2147483647) 2147483647 (by omega) with q | q | ⟨j, q1, q2⟩
  · exact absurd q h
  · refine ⟨2147483647, by omega, ?_⟩
    apply Int32.toInt_inj.1
    have := Int32.toInt_lt (v &&& nI 2147483647)
    rw [Int32.le_iff_toInt_le, n_ti (by omega)] at q
    rw [n_ti (by omega)]
    omega
  · exact ⟨j, by omega, q2⟩
/-- the low digit of a number -/
theorem e151 (v : Int32) (m : Nat) (hm : 0 < m) (hm2 : m < 2147483648) : ∃ a, a < m ∧ ∀ {z : SX} {d : Nat} {S : LW} {Z : ZT}, 1 ≤ d → C2 z d 151 [.int v, .int (nI m)] S Z = Z (.inl (some (.int (nI a)))) S := by
  obtain ⟨b, hb, e⟩ := l151 (v := v)
  refine ⟨b % m, Nat.mod_lt _ hm, fun {z d S Z} hd => ?_⟩
  rw [C2_e (mj := 151) (e := [.int v, .int (nI m)]) rfl (by omega) rfl (Nat.le_of_ble_eq_true rfl)]
  simp (disch := first | assumption | omega) only [Nat.reduceAdd, mP_1, mP_0, X2_go, g4_some, stp, ldI, ldA, ldL, stI, stA, stL, o1I, o2I, o2L, brI, brII, gl, s1, s2, k1, sl, g3_sN, g3_sR, g3_sC, g3_if, g3_no, pops, b2_v, e151_0, e151_1, e151_3, e151_4, e151_5, e151_6, n_lt, n_le, n_eq, n_lt0, n_ge0, n_gt0, n_le0, n_eq0, m_lt, m_le, m_gt, m_ge, m_eq, m_eq', m_lt0, m_ge0, m_gt0, m_le0, m_ltm, m_lem, n_in, m_in, n_cl, n_ti, n_div, n_rem', n_dec, n_l, nI_add, pk_mul, an0, an1, decide_eq_true_eq, if_true, if_false, ite_true, ite_false, and_true, true_and, and_false, false_and, not_true, not_false_iff, or_false, false_or, or_true, true_or, eq_self, va_some, Bool.false_eq_true, reduceIte, catS_n, catS_i, catS_r, catS_l, catS_d, Nat.zero_add, Nat.add_zero, decide_true, decide_false, Nat.reduceLeDiff, cat_r, cat_i, cat_l, nle_T, nle_F, nlt_T, nlt_F, neq_T, neq_F, e]
  done
theorem e150_0 : dek 150 0 = some (.iload_n 1, 1, []) := rfl
theorem e150_1 : dek 150 1 = some (.aload_n 0, 1, []) := rfl
theorem e150_2 : dek 150 2 = some (.arraylength, 1, []) := rfl
theorem e150_3 : dek 150 3 = some (.if_icmp .ge 9, 3, [12]) := rfl
theorem e150_6 : dek 150 6 = some (.aload_n 0, 1, []) := rfl
theorem e150_7 : dek 150 7 = some (.iload_n 1, 1, []) := rfl
theorem e150_8 : dek 150 8 = some (.iaload, 1, []) := rfl
theorem e150_9 : dek 150 9 = some (.goto 9, 3, [18]) := rfl
theorem e150_12 : dek 150 12 = some (.ldc 7, 2, [8, 916318735, 298]) := rfl
theorem e150_14 : dek 150 14 = some (.iload_n 1, 1, []) := rfl
theorem e150_15 : dek 150 15 = some (.iconst 3, 1, [3]) := rfl
theorem e150_16 : dek 150 16 = some (.iadd, 1, []) := rfl
theorem e150_17 : dek 150 17 = some (.imul, 1, []) := rfl
theorem e150_18 : dek 150 18 = some (.istore_n 2, 1, []) := rfl
theorem e150_19 : dek 150 19 = some (.iload_n 2, 1, []) := rfl
theorem e150_20 : dek 150 20 = some (.iload_n 2, 1, []) := rfl
theorem e150_21 : dek 150 21 = some (.bipush 15, 2, [15]) := rfl
theorem e150_23 : dek 150 23 = some (.iushr, 1, []) := rfl
theorem e150_24 : dek 150 24 = some (.ixor, 1, []) := rfl
theorem e150_25 : dek 150 25 = some (.ireturn, 1, [0]) := rfl
def xsh (x : Int32) : Int32 := x ^^^ (x.toUInt32 >>> ((nI 15).toUInt32 &&& Int32.toUInt32 31)).toInt32
def celV (N : Nat) (xs : Nat → Int32) (i : Nat) : Int32 := xsh (if i < N then xs i else nI (916318735 * (i + 3)))
theorem e150 {xs : Nat → Int32} {N i d : Nat} {S : LW} {Z : ZT} (hi : i < 1000) (hN : N < 1000000) (hd : 1 ≤ d) : C2 (N, xs) d 150 [.ref 0, .int (nI i)] S Z = Z (.inl (some (.int (celV N xs i)))) S := by
  unfold celV
  by_cases h : i < N
  · rw [C2_e (mj := 150) (e := [.ref 0, .int (nI i), UN]) rfl (by omega) rfl (Nat.le_of_ble_eq_true rfl)]
    rw [if_pos h]
    simp (disch := first | assumption | omega) only [Nat.reduceAdd, mP_1, mP_0, X2_go, g4_some, stp, ldI, ldA, ldL, stI, stA, stL, o1I, o2I, o2L, brI, brII, gl, s1, s2, k1, sl, g3_sN, g3_sR, g3_sC, g3_if, g3_no, pops, b2_v, e150_0, e150_1, e150_2, e150_3, e150_6, e150_7, e150_8, e150_9, e150_12, e150_14, e150_15, e150_16, e150_17, e150_18, e150_19, e150_20, e150_21, e150_23, e150_24, e150_25, n_lt, n_le, n_eq, n_lt0, n_ge0, n_gt0, n_le0, n_eq0, m_lt, m_le, m_gt, m_ge, m_eq, m_eq', m_lt0, m_ge0, m_gt0, m_le0, m_ltm, m_lem, n_in, m_in, n_cl, n_ti, n_div, n_rem', n_dec, n_l, nI_add, pk_mul, an0, an1, decide_eq_true_eq, if_true, if_false, ite_true, ite_false, and_true, true_and, and_false, false_and, not_true, not_false_iff, or_false, false_or, or_true, true_or, eq_self, va_some, Bool.false_eq_true, reduceIte, catS_n, catS_i, catS_r, catS_l, catS_d, Nat.zero_add, Nat.add_zero, decide_true, decide_false, Nat.reduceLeDiff, cat_r, cat_i, cat_l, nle_T, nle_F, nlt_T, nlt_F, neq_T, neq_F, h]
    rfl
  · rw [C2_e (mj := 150) (e := [.ref 0, .int (nI i), UN]) rfl (by omega) rfl (Nat.le_of_ble_eq_true rfl)]
    rw [if_neg h]
    simp (disch := first | assumption | omega) only [Nat.reduceAdd, mP_1, mP_0, X2_go, g4_some, stp, ldI, ldA, ldL, stI, stA, stL, o1I, o2I, o2L, brI, brII, gl, s1, s2, k1, sl, g3_sN, g3_sR, g3_sC, g3_if, g3_no, pops, b2_v, e150_0, e150_1, e150_2, e150_3, e150_6, e150_7, e150_8, e150_9, e150_12, e150_14, e150_15, e150_16, e150_17, e150_18, e150_19, e150_20, e150_21, e150_23, e150_24, e150_25, n_lt, n_le, n_eq, n_lt0, n_ge0, n_gt0, n_le0, n_eq0, m_lt, m_le, m_gt, m_ge, m_eq, m_eq', m_lt0, m_ge0, m_gt0, m_le0, m_ltm, m_lem, n_in, m_in, n_cl, n_ti, n_div, n_rem', n_dec, n_l, nI_add, pk_mul, an0, an1, decide_eq_true_eq, if_true, if_false, ite_true, ite_false, and_true, true_and, and_false, false_and, not_true, not_false_iff, or_false, false_or, or_true, true_or, eq_self, va_some, Bool.false_eq_true, reduceIte, catS_n, catS_i, catS_r, catS_l, catS_d, Nat.zero_add, Nat.add_zero, decide_true, decide_false, Nat.reduceLeDiff, cat_r, cat_i, cat_l, nle_T, nle_F, nlt_T, nlt_F, neq_T, neq_F, h]
    rfl
