/-! THE MODEL: entries -/
theorem pos_ix {x : Int32} {m : Nat} (hm : m + 1 < 2147483648) (h : ¬ (x < 0 ∨ nI m < x)) : ∃ j, j ≤ m ∧ x = nI j := by
  rcases n_ix x (m + 1) hm with q | q | ⟨j, q1, q2⟩
  · exact absurd (Or.inl q) h
  · exact absurd (Or.inr (le_s hm q)) h
  · exact ⟨j, by omega, q2⟩
theorem d159_0 : dec 159 0 = some (.iload_n 1, 1, []) := rfl
theorem d159_1 : dec 159 1 = some (.invokestatic 90, 3, [2, 160, 0, 10, 0, 1106, 0]) := rfl
theorem d159_4 : dec 159 4 = some (.ifCond .eq 12, 3, [16]) := rfl
theorem d159_7 : dec 159 7 = some (.iload_n 2, 1, []) := rfl
theorem d159_8 : dec 159 8 = some (.iconst 0, 1, [0]) := rfl
theorem d159_9 : dec 159 9 = some (.iconst 3, 1, [3]) := rfl
theorem d159_10 : dec 159 10 = some (.invokestatic 76, 3, [2, 156, 0, 10, 0, 1092, 0, 0, 0]) := rfl
theorem d159_13 : dec 159 13 = some (.ifCond .ne 21, 3, [34]) := rfl
theorem d159_16 : dec 159 16 = some (.iload_n 1, 1, []) := rfl
theorem d159_17 : dec 159 17 = some (.bipush 16, 2, [16]) := rfl
theorem d159_19 : dec 159 19 = some (.isub, 1, []) := rfl
theorem d159_20 : dec 159 20 = some (.iload_n 0, 1, []) := rfl
theorem d159_21 : dec 159 21 = some (.if_icmp .le 17, 3, [38]) := rfl
theorem d159_24 : dec 159 24 = some (.iload_n 1, 1, []) := rfl
theorem d159_25 : dec 159 25 = some (.bipush 19, 2, [19]) := rfl
theorem d159_27 : dec 159 27 = some (.if_icmp .ge 11, 3, [38]) := rfl
theorem d159_30 : dec 159 30 = some (.iload_n 2, 1, []) := rfl
theorem d159_31 : dec 159 31 = some (.ifCond .ne 7, 3, [38]) := rfl
theorem d159_34 : dec 159 34 = some (.iconst 1, 1, [1]) := rfl
theorem d159_35 : dec 159 35 = some (.goto 4, 3, [39]) := rfl
theorem d159_38 : dec 159 38 = some (.iconst 0, 1, [0]) := rfl
theorem d159_39 : dec 159 39 = some (.ireturn, 1, [1]) := rfl
theorem l159 : mL 159 = 3 := rfl
theorem c159 {d : Nat} {P : MP} {I : MI} {L : ML} {C : MC} {Q : QT} {t w ra : Nat} (hd : 3 ≤ d) (ht : t < 3) (hw : w ≤ 18) (hlo : w < 16 ∨ t + 16 < w) (hra : ra ≤ 3) (hra2 : 16 ≤ w → ra = 0) : CT d 159 [.int (nI t), .int (nI w), .int (nI ra)] P I L C Q = Q (.inl (some (.int (nI 1)))) P I L C := by
  rw [CT_e (mj := 159) (e := [.int (nI t), .int (nI w), .int (nI ra)]) (by omega) rfl (Nat.le_of_ble_eq_true rfl)]
  by_cases z : w < 16
  · simp (disch := first | assumption | omega) only [Nat.reduceAdd, X_go, go2_some, stp, ldI, ldA, ldL, stI, stA, stL, o1I, o2I, o2L, brI, brII, gl, s1, s2, k1, sl, go_sN, go_sR, go_CT, go_sT, go_no, go_if, pops, bk_v, bk_0, d159_0, d159_1, d159_4, d159_7, d159_8, d159_9, d159_10, d159_13, d159_16, d159_17, d159_19, d159_20, d159_21, d159_24, d159_25, d159_27, d159_30, d159_31, d159_34, d159_35, d159_38, d159_39, n_lt, n_le, n_eq, n_lt0, n_ge0, n_gt0, n_le0, n_eq0, m_lt, m_le, m_gt, m_ge, m_eq, m_eq', m_lt0, m_ge0, m_gt0, m_le0, m_ltm, m_lem, n_in, m_in, n_cl, n_ti, n_div, n_rem', n_dec, n_l, nI_add, pk_mul, an0, an1, decide_eq_true_eq, if_true, if_false, ite_true, ite_false, and_true, true_and, and_false, false_and, not_true, not_false_iff, or_false, false_or, or_true, true_or, eq_self, va_some, Bool.false_eq_true, reduceIte, catS_n, catS_i, catS_r, catS_l, catS_d, Nat.zero_add, Nat.add_zero, decide_true, decide_false, Nat.reduceLeDiff, cat_r, cat_i, cat_l, nle_T, nle_F, nlt_T, nlt_F, neq_T, neq_F, c160, c156, z]
  · have h0 := hra2 (by omega)
    have h1 : ¬ (w - 16 ≤ t) := by omega
    simp (disch := first | assumption | omega) only [Nat.reduceAdd, X_go, go2_some, stp, ldI, ldA, ldL, stI, stA, stL, o1I, o2I, o2L, brI, brII, gl, s1, s2, k1, sl, go_sN, go_sR, go_CT, go_sT, go_no, go_if, pops, bk_v, bk_0, d159_0, d159_1, d159_4, d159_7, d159_8, d159_9, d159_10, d159_13, d159_16, d159_17, d159_19, d159_20, d159_21, d159_24, d159_25, d159_27, d159_30, d159_31, d159_34, d159_35, d159_38, d159_39, n_lt, n_le, n_eq, n_lt0, n_ge0, n_gt0, n_le0, n_eq0, m_lt, m_le, m_gt, m_ge, m_eq, m_eq', m_lt0, m_ge0, m_gt0, m_le0, m_ltm, m_lem, n_in, m_in, n_cl, n_ti, n_div, n_rem', n_dec, n_l, nI_add, pk_mul, an0, an1, decide_eq_true_eq, if_true, if_false, ite_true, ite_false, and_true, true_and, and_false, false_and, not_true, not_false_iff, or_false, false_or, or_true, true_or, eq_self, va_some, Bool.false_eq_true, reduceIte, catS_n, catS_i, catS_r, catS_l, catS_d, Nat.zero_add, Nat.add_zero, decide_true, decide_false, Nat.reduceLeDiff, cat_r, cat_i, cat_l, nle_T, nle_F, nlt_T, nlt_F, neq_T, neq_F, c160, c156, z, n_sub, h0, h1]
theorem c159l {d : Nat} {P : MP} {I : MI} {L : ML} {C : MC} {Q : QT} {t w : Nat} {x : Int32} (hd : 3 ≤ d) (ht : t < 3) (hw : w ≤ 18) (hlo : 16 ≤ w ∧ w ≤ t + 16) : CT d 159 [.int (nI t), .int (nI w), .int x] P I L C Q = Q (.inl (some (.int (nI 0)))) P I L C := by
  rw [CT_e (mj := 159) (e := [.int (nI t), .int (nI w), .int x]) (by omega) rfl (Nat.le_of_ble_eq_true rfl)]
  have h1 : w - 16 ≤ t := by omega
  have z : ¬ w < 16 := by omega
  simp (disch := first | assumption | omega) only [Nat.reduceAdd, X_go, go2_some, stp, ldI, ldA, ldL, stI, stA, stL, o1I, o2I, o2L, brI, brII, gl, s1, s2, k1, sl, go_sN, go_sR, go_CT, go_sT, go_no, go_if, pops, bk_v, bk_0, d159_0, d159_1, d159_4, d159_7, d159_8, d159_9, d159_10, d159_13, d159_16, d159_17, d159_19, d159_20, d159_21, d159_24, d159_25, d159_27, d159_30, d159_31, d159_34, d159_35, d159_38, d159_39, n_lt, n_le, n_eq, n_lt0, n_ge0, n_gt0, n_le0, n_eq0, m_lt, m_le, m_gt, m_ge, m_eq, m_eq', m_lt0, m_ge0, m_gt0, m_le0, m_ltm, m_lem, n_in, m_in, n_cl, n_ti, n_div, n_rem', n_dec, n_l, nI_add, pk_mul, an0, an1, decide_eq_true_eq, if_true, if_false, ite_true, ite_false, and_true, true_and, and_false, false_and, not_true, not_false_iff, or_false, false_or, or_true, true_or, eq_self, va_some, Bool.false_eq_true, reduceIte, catS_n, catS_i, catS_r, catS_l, catS_d, Nat.zero_add, Nat.add_zero, decide_true, decide_false, Nat.reduceLeDiff, cat_r, cat_i, cat_l, nle_T, nle_F, nlt_T, nlt_F, neq_T, neq_F, c160, z, n_sub, h1]
  done
theorem c159r {d : Nat} {P : MP} {I : MI} {L : ML} {C : MC} {Q : QT} {t w : Nat} {x : Int32} (hd : 3 ≤ d) (ht : t < 3) (hw : w ≤ 18) (hlo : w < 16 ∨ t + 16 < w) (hx : x < 0 ∨ nI (if w < 16 then 3 else 0) < x) : CT d 159 [.int (nI t), .int (nI w), .int x] P I L C Q = Q (.inl (some (.int (nI 0)))) P I L C := by
  rw [CT_e (mj := 159) (e := [.int (nI t), .int (nI w), .int x]) (by omega) rfl (Nat.le_of_ble_eq_true rfl)]
  by_cases z : w < 16
  · rw [if_pos z] at hx
    have h1 : w - 16 = 0 := by omega
    have hs : nI w - nI 16 ≤ nI t := by
      have e : ∀ w, w < 16 → ∀ t, t < 3 → nI w - nI 16 ≤ nI t := by decide +kernel
      exact e w z t ht
    simp (disch := first | assumption | omega) only [Nat.reduceAdd, X_go, go2_some, stp, ldI, ldA, ldL, stI, stA, stL, o1I, o2I, o2L, brI, brII, gl, s1, s2, k1, sl, go_sN, go_sR, go_CT, go_sT, go_no, go_if, pops, bk_v, bk_0, d159_0, d159_1, d159_4, d159_7, d159_8, d159_9, d159_10, d159_13, d159_16, d159_17, d159_19, d159_20, d159_21, d159_24, d159_25, d159_27, d159_30, d159_31, d159_34, d159_35, d159_38, d159_39, n_lt, n_le, n_eq, n_lt0, n_ge0, n_gt0, n_le0, n_eq0, m_lt, m_le, m_gt, m_ge, m_eq, m_eq', m_lt0, m_ge0, m_gt0, m_le0, m_ltm, m_lem, n_in, m_in, n_cl, n_ti, n_div, n_rem', n_dec, n_l, nI_add, pk_mul, an0, an1, decide_eq_true_eq, if_true, if_false, ite_true, ite_false, and_true, true_and, and_false, false_and, not_true, not_false_iff, or_false, false_or, or_true, true_or, eq_self, va_some, Bool.false_eq_true, reduceIte, catS_n, catS_i, catS_r, catS_l, catS_d, Nat.zero_add, Nat.add_zero, decide_true, decide_false, Nat.reduceLeDiff, cat_r, cat_i, cat_l, nle_T, nle_F, nlt_T, nlt_F, neq_T, neq_F, c160, c156b (y := nI 0) (hx := hx), z, hs]
  · rw [if_neg z] at hx
    have h1 : ¬ (w - 16 ≤ t) := by omega
    have hx0 : ¬ x = 0 := fun q => by
      rw [q] at hx
      exact hx.elim (by decide) (by decide)
    simp (disch := first | assumption | omega) only [Nat.reduceAdd, X_go, go2_some, stp, ldI, ldA, ldL, stI, stA, stL, o1I, o2I, o2L, brI, brII, gl, s1, s2, k1, sl, go_sN, go_sR, go_CT, go_sT, go_no, go_if, pops, bk_v, bk_0, d159_0, d159_1, d159_4, d159_7, d159_8, d159_9, d159_10, d159_13, d159_16, d159_17, d159_19, d159_20, d159_21, d159_24, d159_25, d159_27, d159_30, d159_31, d159_34, d159_35, d159_38, d159_39, n_lt, n_le, n_eq, n_lt0, n_ge0, n_gt0, n_le0, n_eq0, m_lt, m_le, m_gt, m_ge, m_eq, m_eq', m_lt0, m_ge0, m_gt0, m_le0, m_ltm, m_lem, n_in, m_in, n_cl, n_ti, n_div, n_rem', n_dec, n_l, nI_add, pk_mul, an0, an1, decide_eq_true_eq, if_true, if_false, ite_true, ite_false, and_true, true_and, and_false, false_and, not_true, not_false_iff, or_false, false_or, or_true, true_or, eq_self, va_some, Bool.false_eq_true, reduceIte, catS_n, catS_i, catS_r, catS_l, catS_d, Nat.zero_add, Nat.add_zero, decide_true, decide_false, Nat.reduceLeDiff, cat_r, cat_i, cat_l, nle_T, nle_F, nlt_T, nlt_F, neq_T, neq_F, c160, z, n_sub, h1, hx0]
theorem d162_0 : dec 162 0 = some (.iload_n 1, 1, []) := rfl
theorem d162_1 : dec 162 1 = some (.aload_n 0, 1, []) := rfl
theorem d162_2 : dec 162 2 = some (.getfield 7, 3, [1, 10, 0, 2, 0, 994]) := rfl
theorem d162_5 : dec 162 5 = some (.iconst 3, 1, [3]) := rfl
theorem d162_6 : dec 162 6 = some (.iload_n 1, 1, []) := rfl
theorem d162_7 : dec 162 7 = some (.iadd, 1, []) := rfl
theorem d162_8 : dec 162 8 = some (.iaload, 1, []) := rfl
theorem d162_9 : dec 162 9 = some (.invokestatic 80, 3, [2, 163, 0, 10, 0, 1116, 0, 0]) := rfl
theorem d162_12 : dec 162 12 = some (.istore 7, 2, []) := rfl
theorem d162_14 : dec 162 14 = some (.aload_n 0, 1, []) := rfl
theorem d162_15 : dec 162 15 = some (.getfield 7, 3, [1, 10, 0, 2, 0, 994]) := rfl
theorem d162_18 : dec 162 18 = some (.iload 7, 2, []) := rfl
theorem d162_20 : dec 162 20 = some (.iconst 0, 1, [0]) := rfl
theorem d162_21 : dec 162 21 = some (.iadd, 1, []) := rfl
theorem d162_22 : dec 162 22 = some (.iload_n 2, 1, []) := rfl
theorem d162_23 : dec 162 23 = some (.iastore, 1, []) := rfl
theorem d162_24 : dec 162 24 = some (.aload_n 0, 1, []) := rfl
theorem d162_25 : dec 162 25 = some (.getfield 7, 3, [1, 10, 0, 2, 0, 994]) := rfl
theorem d162_28 : dec 162 28 = some (.iload 7, 2, []) := rfl
theorem d162_30 : dec 162 30 = some (.iconst 1, 1, [1]) := rfl
theorem d162_31 : dec 162 31 = some (.iadd, 1, []) := rfl
theorem d162_32 : dec 162 32 = some (.iload_n 3, 1, []) := rfl
theorem d162_33 : dec 162 33 = some (.iastore, 1, []) := rfl
theorem d162_34 : dec 162 34 = some (.aload_n 0, 1, []) := rfl
theorem d162_35 : dec 162 35 = some (.getfield 7, 3, [1, 10, 0, 2, 0, 994]) := rfl
theorem d162_38 : dec 162 38 = some (.iload 7, 2, []) := rfl
theorem d162_40 : dec 162 40 = some (.iconst 2, 1, [2]) := rfl
theorem d162_41 : dec 162 41 = some (.iadd, 1, []) := rfl
theorem d162_42 : dec 162 42 = some (.iload 4, 2, []) := rfl
theorem d162_44 : dec 162 44 = some (.iastore, 1, []) := rfl
theorem d162_45 : dec 162 45 = some (.aload_n 0, 1, []) := rfl
theorem d162_46 : dec 162 46 = some (.getfield 7, 3, [1, 10, 0, 2, 0, 994]) := rfl
theorem d162_49 : dec 162 49 = some (.iload 7, 2, []) := rfl
theorem d162_51 : dec 162 51 = some (.iconst 3, 1, [3]) := rfl
theorem d162_52 : dec 162 52 = some (.iadd, 1, []) := rfl
theorem d162_53 : dec 162 53 = some (.iload 5, 2, []) := rfl
theorem d162_55 : dec 162 55 = some (.iastore, 1, []) := rfl
theorem d162_56 : dec 162 56 = some (.aload_n 0, 1, []) := rfl
theorem d162_57 : dec 162 57 = some (.getfield 7, 3, [1, 10, 0, 2, 0, 994]) := rfl
theorem d162_60 : dec 162 60 = some (.iload 7, 2, []) := rfl
theorem d162_62 : dec 162 62 = some (.iconst 4, 1, [4]) := rfl
theorem d162_63 : dec 162 63 = some (.iadd, 1, []) := rfl
theorem d162_64 : dec 162 64 = some (.iload 6, 2, []) := rfl
theorem d162_66 : dec 162 66 = some (.ifCond .eq 7, 3, [73]) := rfl
theorem d162_69 : dec 162 69 = some (.iconst 1, 1, [1]) := rfl
theorem d162_70 : dec 162 70 = some (.goto 4, 3, [74]) := rfl
theorem d162_73 : dec 162 73 = some (.iconst 0, 1, [0]) := rfl
theorem d162_74 : dec 162 74 = some (.iastore, 1, []) := rfl
theorem d162_75 : dec 162 75 = some (.aload_n 0, 1, []) := rfl
theorem d162_76 : dec 162 76 = some (.getfield 7, 3, [1, 10, 0, 2, 0, 994]) := rfl
theorem d162_79 : dec 162 79 = some (.iload 7, 2, []) := rfl
theorem d162_81 : dec 162 81 = some (.iconst 5, 1, [5]) := rfl
theorem d162_82 : dec 162 82 = some (.iadd, 1, []) := rfl
theorem d162_83 : dec 162 83 = some (.iconst 0, 1, [0]) := rfl
theorem d162_84 : dec 162 84 = some (.iastore, 1, []) := rfl
theorem d162_85 : dec 162 85 = some (.aload_n 0, 1, []) := rfl
theorem d162_86 : dec 162 86 = some (.getfield 7, 3, [1, 10, 0, 2, 0, 994]) := rfl
theorem d162_89 : dec 162 89 = some (.iconst 3, 1, [3]) := rfl
theorem d162_90 : dec 162 90 = some (.iload_n 1, 1, []) := rfl
theorem d162_91 : dec 162 91 = some (.iadd, 1, []) := rfl
theorem d162_92 : dec 162 92 = some (.dup2, 1, []) := rfl
theorem d162_93 : dec 162 93 = some (.iaload, 1, []) := rfl
theorem d162_94 : dec 162 94 = some (.iconst 1, 1, [1]) := rfl
theorem d162_95 : dec 162 95 = some (.iadd, 1, []) := rfl
theorem d162_96 : dec 162 96 = some (.iastore, 1, []) := rfl
theorem d162_97 : dec 162 97 = some (.aload_n 0, 1, []) := rfl
theorem d162_98 : dec 162 98 = some (.getfield 7, 3, [1, 10, 0, 2, 0, 994]) := rfl
theorem d162_101 : dec 162 101 = some (.iconst 3, 1, [3]) := rfl
theorem d162_102 : dec 162 102 = some (.iload_n 1, 1, []) := rfl
theorem d162_103 : dec 162 103 = some (.iadd, 1, []) := rfl
theorem d162_104 : dec 162 104 = some (.iaload, 1, []) := rfl
theorem d162_105 : dec 162 105 = some (.iconst 1, 1, [1]) := rfl
theorem d162_106 : dec 162 106 = some (.isub, 1, []) := rfl
theorem d162_107 : dec 162 107 = some (.ireturn, 1, [0]) := rfl
theorem l162 : mL 162 = 8 := rfl
theorem c162 {d : Nat} {P : MP} {I : MI} {L : ML} {C : MC} {t w we ra gr on : Nat} {g : GS} (hM : MB P) (hN : NR I g) (hd : 3 ≤ d) (ht : t < 3) (hc : g (3 + t) < 6) (ho : on ≤ 1) : ∃ I', NR I' (addG g t w we ra gr on) ∧ (∀ k j, k ≠ 151 → I' k j = I k j) ∧ ∀ Q, CT d 162 [.ref 150, .int (nI t), .int (nI w), .int (nI we), .int (nI ra), .int (nI gr), .int (nI on)] P I L C Q = Q (.inl (some (.int (nI (g (3 + t)))))) P I' L C := by
  obtain ⟨⟨k0, p0, p1, p2, p5, y1, y2, y3, y4⟩, _⟩ := hM
  have hnc := hN (3 + t) (by omega)
  have b0 := cl_lt (f := 0) ht hc (by omega)
  have b1 := cl_lt (f := 1) ht hc (by omega)
  have b2 := cl_lt (f := 2) ht hc (by omega)
  have b3 := cl_lt (f := 3) ht hc (by omega)
  have b4 := cl_lt (f := 4) ht hc (by omega)
  have b5 := cl_lt (f := 5) ht hc (by omega)
  refine ⟨_, NR_ud (c := 3 + t) (v := g (3 + t) + 1) (NR_ud (c := cl t (g (3 + t)) 5) (v := 0) (NR_ud (c := cl t (g (3 + t)) 4) (v := on) (NR_ud (c := cl t (g (3 + t)) 3) (v := gr) (NR_ud (c := cl t (g (3 + t)) 2) (v := ra) (NR_ud (c := cl t (g (3 + t)) 1) (v := we) (NR_ud (c := cl t (g (3 + t)) 0) (v := w) hN)))))), fun k j h => ?_, fun Q => ?_⟩
  · simp (disch := omega) only [xu_n]
  · rw [CT_e (mj := 162) (e := [.ref 150, .int (nI t), .int (nI w), .int (nI we), .int (nI ra), .int (nI gr), .int (nI on), UN]) (by omega) rfl (Nat.le_of_ble_eq_true rfl)]
    by_cases z : on = 0
    · simp (disch := first | assumption | omega) only [Nat.reduceAdd, X_go, go2_some, stp, ldI, ldA, ldL, stI, stA, stL, o1I, o2I, o2L, brI, brII, gl, s1, s2, k1, sl, go_sN, go_sR, go_CT, go_sT, go_no, go_if, pops, bk_v, bk_0, d162_0, d162_1, d162_2, d162_5, d162_6, d162_7, d162_8, d162_9, d162_12, d162_14, d162_15, d162_18, d162_20, d162_21, d162_22, d162_23, d162_24, d162_25, d162_28, d162_30, d162_31, d162_32, d162_33, d162_34, d162_35, d162_38, d162_40, d162_41, d162_42, d162_44, d162_45, d162_46, d162_49, d162_51, d162_52, d162_53, d162_55, d162_56, d162_57, d162_60, d162_62, d162_63, d162_64, d162_66, d162_69, d162_70, d162_73, d162_74, d162_75, d162_76, d162_79, d162_81, d162_82, d162_83, d162_84, d162_85, d162_86, d162_89, d162_90, d162_91, d162_92, d162_93, d162_94, d162_95, d162_96, d162_97, d162_98, d162_101, d162_102, d162_103, d162_104, d162_105, d162_106, d162_107, n_lt, n_le, n_eq, n_lt0, n_ge0, n_gt0, n_le0, n_eq0, m_lt, m_le, m_gt, m_ge, m_eq, m_eq', m_lt0, m_ge0, m_gt0, m_le0, m_ltm, m_lem, n_in, m_in, n_cl, n_ti, n_div, n_rem', n_dec, n_l, nI_add, pk_mul, an0, an1, decide_eq_true_eq, if_true, if_false, ite_true, ite_false, and_true, true_and, and_false, false_and, not_true, not_false_iff, or_false, false_or, or_true, true_or, eq_self, va_some, Bool.false_eq_true, reduceIte, catS_n, catS_i, catS_r, catS_l, catS_d, Nat.zero_add, Nat.add_zero, decide_true, decide_false, Nat.reduceLeDiff, cat_r, cat_i, cat_l, nle_T, nle_F, nlt_T, nlt_F, neq_T, neq_F, k0, p0, y1, hnc, c163, cl_f, xu_n, xu_s, z, n_sub, Nat.add_sub_cancel]
      done
    · have z1 : on = 1 := by omega
      simp (disch := first | assumption | omega) only [Nat.reduceAdd, X_go, go2_some, stp, ldI, ldA, ldL, stI, stA, stL, o1I, o2I, o2L, brI, brII, gl, s1, s2, k1, sl, go_sN, go_sR, go_CT, go_sT, go_no, go_if, pops, bk_v, bk_0, d162_0, d162_1, d162_2, d162_5, d162_6, d162_7, d162_8, d162_9, d162_12, d162_14, d162_15, d162_18, d162_20, d162_21, d162_22, d162_23, d162_24, d162_25, d162_28, d162_30, d162_31, d162_32, d162_33, d162_34, d162_35, d162_38, d162_40, d162_41, d162_42, d162_44, d162_45, d162_46, d162_49, d162_51, d162_52, d162_53, d162_55, d162_56, d162_57, d162_60, d162_62, d162_63, d162_64, d162_66, d162_69, d162_70, d162_73, d162_74, d162_75, d162_76, d162_79, d162_81, d162_82, d162_83, d162_84, d162_85, d162_86, d162_89, d162_90, d162_91, d162_92, d162_93, d162_94, d162_95, d162_96, d162_97, d162_98, d162_101, d162_102, d162_103, d162_104, d162_105, d162_106, d162_107, n_lt, n_le, n_eq, n_lt0, n_ge0, n_gt0, n_le0, n_eq0, m_lt, m_le, m_gt, m_ge, m_eq, m_eq', m_lt0, m_ge0, m_gt0, m_le0, m_ltm, m_lem, n_in, m_in, n_cl, n_ti, n_div, n_rem', n_dec, n_l, nI_add, pk_mul, an0, an1, decide_eq_true_eq, if_true, if_false, ite_true, ite_false, and_true, true_and, and_false, false_and, not_true, not_false_iff, or_false, false_or, or_true, true_or, eq_self, va_some, Bool.false_eq_true, reduceIte, catS_n, catS_i, catS_r, catS_l, catS_d, Nat.zero_add, Nat.add_zero, decide_true, decide_false, Nat.reduceLeDiff, cat_r, cat_i, cat_l, nle_T, nle_F, nlt_T, nlt_F, neq_T, neq_F, k0, p0, y1, hnc, c163, cl_f, xu_n, xu_s, z1, n_sub, Nat.add_sub_cancel]
      done
theorem d158_0 : dec 158 0 = some (.aload_n 0, 1, []) := rfl
theorem d158_1 : dec 158 1 = some (.iload_n 1, 1, []) := rfl
theorem d158_2 : dec 158 2 = some (.invokestatic 84, 3, [2, 155, 0, 10, 0, 1089, 0]) := rfl
theorem d158_5 : dec 158 5 = some (.ifCond .ne 7, 3, [12]) := rfl
theorem d158_8 : dec 158 8 = some (.iconst 1, 1, [1]) := rfl
theorem d158_9 : dec 158 9 = some (.goto 62, 3, [71]) := rfl
theorem d158_12 : dec 158 12 = some (.iload_n 2, 1, []) := rfl
theorem d158_13 : dec 158 13 = some (.iconst 0, 1, [0]) := rfl
theorem d158_14 : dec 158 14 = some (.bipush 18, 2, [18]) := rfl
theorem d158_16 : dec 158 16 = some (.invokestatic 76, 3, [2, 156, 0, 10, 0, 1092, 0, 0, 0]) := rfl
theorem d158_19 : dec 158 19 = some (.ifCond .eq 30, 3, [49]) := rfl
theorem d158_22 : dec 158 22 = some (.iload_n 1, 1, []) := rfl
theorem d158_23 : dec 158 23 = some (.iload_n 2, 1, []) := rfl
theorem d158_24 : dec 158 24 = some (.iload 4, 2, []) := rfl
theorem d158_26 : dec 158 26 = some (.invokestatic 93, 3, [2, 159, 0, 10, 0, 1103, 0, 0, 0]) := rfl
theorem d158_29 : dec 158 29 = some (.ifCond .eq 20, 3, [49]) := rfl
theorem d158_32 : dec 158 32 = some (.iload_n 3, 1, []) := rfl
theorem d158_33 : dec 158 33 = some (.invokestatic 96, 3, [2, 161, 0, 10, 0, 1109, 0]) := rfl
theorem d158_36 : dec 158 36 = some (.ifCond .eq 13, 3, [49]) := rfl
theorem d158_39 : dec 158 39 = some (.iload 5, 2, []) := rfl
theorem d158_41 : dec 158 41 = some (.iconst 0, 1, [0]) := rfl
theorem d158_42 : dec 158 42 = some (.iconst 3, 1, [3]) := rfl
theorem d158_43 : dec 158 43 = some (.invokestatic 76, 3, [2, 156, 0, 10, 0, 1092, 0, 0, 0]) := rfl
theorem d158_46 : dec 158 46 = some (.ifCond .ne 7, 3, [53]) := rfl
theorem d158_49 : dec 158 49 = some (.iconst 2, 1, [2]) := rfl
theorem d158_50 : dec 158 50 = some (.goto 21, 3, [71]) := rfl
theorem d158_53 : dec 158 53 = some (.aload_n 0, 1, []) := rfl
theorem d158_54 : dec 158 54 = some (.getfield 7, 3, [1, 10, 0, 2, 0, 994]) := rfl
theorem d158_57 : dec 158 57 = some (.iconst 3, 1, [3]) := rfl
theorem d158_58 : dec 158 58 = some (.iload_n 1, 1, []) := rfl
theorem d158_59 : dec 158 59 = some (.iadd, 1, []) := rfl
theorem d158_60 : dec 158 60 = some (.iaload, 1, []) := rfl
theorem d158_61 : dec 158 61 = some (.bipush 6, 2, [6]) := rfl
theorem d158_63 : dec 158 63 = some (.if_icmp .ne 7, 3, [70]) := rfl
theorem d158_66 : dec 158 66 = some (.iconst 3, 1, [3]) := rfl
theorem d158_67 : dec 158 67 = some (.goto 4, 3, [71]) := rfl
theorem d158_70 : dec 158 70 = some (.iconst 0, 1, [0]) := rfl
theorem d158_71 : dec 158 71 = some (.invokevirtual 72, 3, [2, 153, 2, 10, 0, 1081, 0]) := rfl
theorem d158_74 : dec 158 74 = some (.ifCond .eq 5, 3, [79]) := rfl
theorem d158_77 : dec 158 77 = some (.iconst 0, 1, [0]) := rfl
theorem d158_78 : dec 158 78 = some (.ireturn, 1, [0]) := rfl
theorem d158_79 : dec 158 79 = some (.aload_n 0, 1, []) := rfl
theorem d158_80 : dec 158 80 = some (.invokevirtual 87, 3, [2, 157, 2, 10, 0, 1095]) := rfl
theorem d158_83 : dec 158 83 = some (.aload_n 0, 1, []) := rfl
theorem d158_84 : dec 158 84 = some (.iload_n 1, 1, []) := rfl
theorem d158_85 : dec 158 85 = some (.iload_n 2, 1, []) := rfl
theorem d158_86 : dec 158 86 = some (.iload_n 3, 1, []) := rfl
theorem d158_87 : dec 158 87 = some (.iload 4, 2, []) := rfl
theorem d158_89 : dec 158 89 = some (.iload 5, 2, []) := rfl
theorem d158_91 : dec 158 91 = some (.iload 6, 2, []) := rfl
theorem d158_93 : dec 158 93 = some (.invokevirtual 99, 3, [2, 162, 2, 10, 0, 1112, 0, 0, 0, 0, 0, 0]) := rfl
theorem d158_96 : dec 158 96 = some (.ireturn, 1, [0]) := rfl
theorem l158 : mL 158 = 7 := rfl
theorem c158 {d : Nat} {P : MP} {I : MI} {L : ML} {C : MC} {t w we ra gr on : Nat} {B n len : Nat} {g : GS} {ps : Nat → GS} {tx : Nat → Nat} (hM : MB P) (hR : ZR I g n ps len tx) (hA : AV B g n ps len tx) (hd : 6 ≤ d) (ht : t < 3) (hw : w ≤ 18) (hlo : w < 16 ∨ t + 16 < w) (h1 : 1 ≤ we) (h2 : we ≤ 1000) (hra : ra ≤ 3) (hra2 : 16 ≤ w → ra = 0) (hgr : gr ≤ 3) (ho : on ≤ 1) (hc : g (3 + t) < 6) : ∃ I', ZR I' (addG g t w we ra gr on) (puN n) (puS n ps g) len tx ∧ I' 150 4 = nI 0 ∧ fm I I' ∧ ∀ Q, CT d 158 [.ref 150, .int (nI t), .int (nI w), .int (nI we), .int (nI ra), .int (nI gr), .int (nI on)] P I L C Q = Q (.inl (some (.int (nI (g (3 + t)))))) P I' L C := by
  have hM' := hM
  obtain ⟨⟨k0, p0, p1, p2, p5, y1, y2, y3, y4⟩, _⟩ := hM'
  have hR' := hR
  obtain ⟨hN, h3, hps', h6, htx'⟩ := hR'
  have hA' := hA
  obtain ⟨hGV, hps, hn4, hlen, htx⟩ := hA'
  have h140 := GV_140 hGV
  have hv := hGV.1
  have hl := hGV.2.1
  have hFv := hGV.2.2
  have hR0 : ZR (xu I 150 4 (nI 0)) g n ps len tx := ZR_4 hR
  have hN0 := hR0.1
  obtain ⟨J, j1, j2, j3⟩ := c157 (d := d - 1) (L := L) (C := C) hM hR0 hn4 (by omega)
  have hNJ := j1.1
  have j4 : J 150 4 = nI 0 := by rw [j2 _ _ (by omega) (by omega), xu_s]
  have j5 : ∀ k j, k < 150 ∨ 168 < k → J k j = I k j := fun k j h => by rw [j2 _ _ (by omega) (by omega), xu_n _ _ (by omega)]
  have hnc := hN (3 + t) (by omega)
  have h159 := fun Q => c159 (d := d - 1) (P := P) (I := I) (L := L) (C := C) (Q := Q) (by omega) ht hw hlo hra hra2
  obtain ⟨I', i1, i2, i3⟩ := c162 (d := d - 1) (L := L) (C := C) (w := w) (we := we) (ra := ra) (gr := gr) hM hNJ (by omega) ht hc ho
  refine ⟨I', ZR_now j1 i1 i2, by rw [i2 _ _ (by omega)]; exact j4, fun k j h => by rw [i2 _ _ (by omega), j5 k j h], fun Q => ?_⟩
  rw [CT_e (mj := 158) (e := [.ref 150, .int (nI t), .int (nI w), .int (nI we), .int (nI ra), .int (nI gr), .int (nI on)]) (by omega) rfl (Nat.le_of_ble_eq_true rfl)]
  simp (disch := first | assumption | omega) only [Nat.reduceAdd, X_go, go2_some, stp, ldI, ldA, ldL, stI, stA, stL, o1I, o2I, o2L, brI, brII, gl, s1, s2, k1, sl, go_sN, go_sR, go_CT, go_sT, go_no, go_if, pops, bk_v, bk_0, d158_0, d158_1, d158_2, d158_5, d158_8, d158_9, d158_12, d158_13, d158_14, d158_16, d158_19, d158_22, d158_23, d158_24, d158_26, d158_29, d158_32, d158_33, d158_36, d158_39, d158_41, d158_42, d158_43, d158_46, d158_49, d158_50, d158_53, d158_54, d158_57, d158_58, d158_59, d158_60, d158_61, d158_63, d158_66, d158_67, d158_70, d158_71, d158_74, d158_77, d158_78, d158_79, d158_80, d158_83, d158_84, d158_85, d158_86, d158_87, d158_89, d158_91, d158_93, d158_96, n_lt, n_le, n_eq, n_lt0, n_ge0, n_gt0, n_le0, n_eq0, m_lt, m_le, m_gt, m_ge, m_eq, m_eq', m_lt0, m_ge0, m_gt0, m_le0, m_ltm, m_lem, n_in, m_in, n_cl, n_ti, n_div, n_rem', n_dec, n_l, nI_add, pk_mul, an0, an1, decide_eq_true_eq, if_true, if_false, ite_true, ite_false, and_true, true_and, and_false, false_and, not_true, not_false_iff, or_false, false_or, or_true, true_or, eq_self, va_some, Bool.false_eq_true, reduceIte, catS_n, catS_i, catS_r, catS_l, catS_d, Nat.zero_add, Nat.add_zero, decide_true, decide_false, Nat.reduceLeDiff, cat_r, cat_i, cat_l, nle_T, nle_F, nlt_T, nlt_F, neq_T, neq_F, k0, p0, y1, c155, c156, h159, c161, hnc, c153 hM, j3, i3]
  done
theorem c158t {d : Nat} {P : MP} {I : MI} {L : ML} {C : MC} {Q : QT} {x x2 x3 x4 x5 x6 : Int32} (hM : MB P) (hd : 6 ≤ d) (hx : x < 0 ∨ nI 3 ≤ x) : CT d 158 [.ref 150, .int x, .int x2, .int x3, .int x4, .int x5, .int x6] P I L C Q = Q (.inl (some (.int (nI 0)))) P (xu I 150 4 (nI 1)) L C := by
  have k0 := hM.1.1
  rw [CT_e (mj := 158) (e := [.ref 150, .int x, .int x2, .int x3, .int x4, .int x5, .int x6]) (by omega) rfl (Nat.le_of_ble_eq_true rfl)]
  simp (disch := first | assumption | omega) only [Nat.reduceAdd, X_go, go2_some, stp, ldI, ldA, ldL, stI, stA, stL, o1I, o2I, o2L, brI, brII, gl, s1, s2, k1, sl, go_sN, go_sR, go_CT, go_sT, go_no, go_if, pops, bk_v, bk_0, d158_0, d158_1, d158_2, d158_5, d158_8, d158_9, d158_12, d158_13, d158_14, d158_16, d158_19, d158_22, d158_23, d158_24, d158_26, d158_29, d158_32, d158_33, d158_36, d158_39, d158_41, d158_42, d158_43, d158_46, d158_49, d158_50, d158_53, d158_54, d158_57, d158_58, d158_59, d158_60, d158_61, d158_63, d158_66, d158_67, d158_70, d158_71, d158_74, d158_77, d158_78, d158_79, d158_80, d158_83, d158_84, d158_85, d158_86, d158_87, d158_89, d158_91, d158_93, d158_96, n_lt, n_le, n_eq, n_lt0, n_ge0, n_gt0, n_le0, n_eq0, m_lt, m_le, m_gt, m_ge, m_eq, m_eq', m_lt0, m_ge0, m_gt0, m_le0, m_ltm, m_lem, n_in, m_in, n_cl, n_ti, n_div, n_rem', n_dec, n_l, nI_add, pk_mul, an0, an1, decide_eq_true_eq, if_true, if_false, ite_true, ite_false, and_true, true_and, and_false, false_and, not_true, not_false_iff, or_false, false_or, or_true, true_or, eq_self, va_some, Bool.false_eq_true, reduceIte, catS_n, catS_i, catS_r, catS_l, catS_d, Nat.zero_add, Nat.add_zero, decide_true, decide_false, Nat.reduceLeDiff, cat_r, cat_i, cat_l, nle_T, nle_F, nlt_T, nlt_F, neq_T, neq_F, k0, c155b, c153 hM]
  done
theorem c158w {d : Nat} {P : MP} {I : MI} {L : ML} {C : MC} {Q : QT} {t : Nat} {x2 x3 x4 x5 x6 : Int32} (hM : MB P) (hd : 6 ≤ d) (ht : t < 3) (hx : x2 < 0 ∨ nI 18 < x2) : CT d 158 [.ref 150, .int (nI t), .int x2, .int x3, .int x4, .int x5, .int x6] P I L C Q = Q (.inl (some (.int (nI 0)))) P (xu I 150 4 (nI 2)) L C := by
  have k0 := hM.1.1
  rw [CT_e (mj := 158) (e := [.ref 150, .int (nI t), .int x2, .int x3, .int x4, .int x5, .int x6]) (by omega) rfl (Nat.le_of_ble_eq_true rfl)]
  simp (disch := first | assumption | omega) only [Nat.reduceAdd, X_go, go2_some, stp, ldI, ldA, ldL, stI, stA, stL, o1I, o2I, o2L, brI, brII, gl, s1, s2, k1, sl, go_sN, go_sR, go_CT, go_sT, go_no, go_if, pops, bk_v, bk_0, d158_0, d158_1, d158_2, d158_5, d158_8, d158_9, d158_12, d158_13, d158_14, d158_16, d158_19, d158_22, d158_23, d158_24, d158_26, d158_29, d158_32, d158_33, d158_36, d158_39, d158_41, d158_42, d158_43, d158_46, d158_49, d158_50, d158_53, d158_54, d158_57, d158_58, d158_59, d158_60, d158_61, d158_63, d158_66, d158_67, d158_70, d158_71, d158_74, d158_77, d158_78, d158_79, d158_80, d158_83, d158_84, d158_85, d158_86, d158_87, d158_89, d158_91, d158_93, d158_96, n_lt, n_le, n_eq, n_lt0, n_ge0, n_gt0, n_le0, n_eq0, m_lt, m_le, m_gt, m_ge, m_eq, m_eq', m_lt0, m_ge0, m_gt0, m_le0, m_ltm, m_lem, n_in, m_in, n_cl, n_ti, n_div, n_rem', n_dec, n_l, nI_add, pk_mul, an0, an1, decide_eq_true_eq, if_true, if_false, ite_true, ite_false, and_true, true_and, and_false, false_and, not_true, not_false_iff, or_false, false_or, or_true, true_or, eq_self, va_some, Bool.false_eq_true, reduceIte, catS_n, catS_i, catS_r, catS_l, catS_d, Nat.zero_add, Nat.add_zero, decide_true, decide_false, Nat.reduceLeDiff, cat_r, cat_i, cat_l, nle_T, nle_F, nlt_T, nlt_F, neq_T, neq_F, k0, c155, c156b (y := nI 0) (hx := hx), c153 hM]
  done
theorem c158l {d : Nat} {P : MP} {I : MI} {L : ML} {C : MC} {Q : QT} {t w : Nat} {x3 x4 x5 x6 : Int32} (hM : MB P) (hd : 6 ≤ d) (ht : t < 3) (hw : w ≤ 18) (hx : 16 ≤ w ∧ w ≤ t + 16) : CT d 158 [.ref 150, .int (nI t), .int (nI w), .int x3, .int x4, .int x5, .int x6] P I L C Q = Q (.inl (some (.int (nI 0)))) P (xu I 150 4 (nI 2)) L C := by
  have k0 := hM.1.1
  have h159 := fun Q => c159l (d := d - 1) (P := P) (I := I) (L := L) (C := C) (Q := Q) (x := x4) (by omega) ht hw hx
  rw [CT_e (mj := 158) (e := [.ref 150, .int (nI t), .int (nI w), .int x3, .int x4, .int x5, .int x6]) (by omega) rfl (Nat.le_of_ble_eq_true rfl)]
  simp (disch := first | assumption | omega) only [Nat.reduceAdd, X_go, go2_some, stp, ldI, ldA, ldL, stI, stA, stL, o1I, o2I, o2L, brI, brII, gl, s1, s2, k1, sl, go_sN, go_sR, go_CT, go_sT, go_no, go_if, pops, bk_v, bk_0, d158_0, d158_1, d158_2, d158_5, d158_8, d158_9, d158_12, d158_13, d158_14, d158_16, d158_19, d158_22, d158_23, d158_24, d158_26, d158_29, d158_32, d158_33, d158_36, d158_39, d158_41, d158_42, d158_43, d158_46, d158_49, d158_50, d158_53, d158_54, d158_57, d158_58, d158_59, d158_60, d158_61, d158_63, d158_66, d158_67, d158_70, d158_71, d158_74, d158_77, d158_78, d158_79, d158_80, d158_83, d158_84, d158_85, d158_86, d158_87, d158_89, d158_91, d158_93, d158_96, n_lt, n_le, n_eq, n_lt0, n_ge0, n_gt0, n_le0, n_eq0, m_lt, m_le, m_gt, m_ge, m_eq, m_eq', m_lt0, m_ge0, m_gt0, m_le0, m_ltm, m_lem, n_in, m_in, n_cl, n_ti, n_div, n_rem', n_dec, n_l, nI_add, pk_mul, an0, an1, decide_eq_true_eq, if_true, if_false, ite_true, ite_false, and_true, true_and, and_false, false_and, not_true, not_false_iff, or_false, false_or, or_true, true_or, eq_self, va_some, Bool.false_eq_true, reduceIte, catS_n, catS_i, catS_r, catS_l, catS_d, Nat.zero_add, Nat.add_zero, decide_true, decide_false, Nat.reduceLeDiff, cat_r, cat_i, cat_l, nle_T, nle_F, nlt_T, nlt_F, neq_T, neq_F, k0, c155, c156, h159, c153 hM]
  done
theorem c158r {d : Nat} {P : MP} {I : MI} {L : ML} {C : MC} {Q : QT} {t w : Nat} {x3 x4 x5 x6 : Int32} (hM : MB P) (hd : 6 ≤ d) (ht : t < 3) (hw : w ≤ 18) (hlo : w < 16 ∨ t + 16 < w) (hx : x4 < 0 ∨ nI (if w < 16 then 3 else 0) < x4) : CT d 158 [.ref 150, .int (nI t), .int (nI w), .int x3, .int x4, .int x5, .int x6] P I L C Q = Q (.inl (some (.int (nI 0)))) P (xu I 150 4 (nI 2)) L C := by
  have k0 := hM.1.1
  have h159 := fun Q => c159r (d := d - 1) (P := P) (I := I) (L := L) (C := C) (Q := Q) (x := x4) (by omega) ht hw hlo hx
  rw [CT_e (mj := 158) (e := [.ref 150, .int (nI t), .int (nI w), .int x3, .int x4, .int x5, .int x6]) (by omega) rfl (Nat.le_of_ble_eq_true rfl)]
  simp (disch := first | assumption | omega) only [Nat.reduceAdd, X_go, go2_some, stp, ldI, ldA, ldL, stI, stA, stL, o1I, o2I, o2L, brI, brII, gl, s1, s2, k1, sl, go_sN, go_sR, go_CT, go_sT, go_no, go_if, pops, bk_v, bk_0, d158_0, d158_1, d158_2, d158_5, d158_8, d158_9, d158_12, d158_13, d158_14, d158_16, d158_19, d158_22, d158_23, d158_24, d158_26, d158_29, d158_32, d158_33, d158_36, d158_39, d158_41, d158_42, d158_43, d158_46, d158_49, d158_50, d158_53, d158_54, d158_57, d158_58, d158_59, d158_60, d158_61, d158_63, d158_66, d158_67, d158_70, d158_71, d158_74, d158_77, d158_78, d158_79, d158_80, d158_83, d158_84, d158_85, d158_86, d158_87, d158_89, d158_91, d158_93, d158_96, n_lt, n_le, n_eq, n_lt0, n_ge0, n_gt0, n_le0, n_eq0, m_lt, m_le, m_gt, m_ge, m_eq, m_eq', m_lt0, m_ge0, m_gt0, m_le0, m_ltm, m_lem, n_in, m_in, n_cl, n_ti, n_div, n_rem', n_dec, n_l, nI_add, pk_mul, an0, an1, decide_eq_true_eq, if_true, if_false, ite_true, ite_false, and_true, true_and, and_false, false_and, not_true, not_false_iff, or_false, false_or, or_true, true_or, eq_self, va_some, Bool.false_eq_true, reduceIte, catS_n, catS_i, catS_r, catS_l, catS_d, Nat.zero_add, Nat.add_zero, decide_true, decide_false, Nat.reduceLeDiff, cat_r, cat_i, cat_l, nle_T, nle_F, nlt_T, nlt_F, neq_T, neq_F, k0, c155, c156, h159, c153 hM]
  done
theorem c158g {d : Nat} {P : MP} {I : MI} {L : ML} {C : MC} {Q : QT} {t w : Nat} {x3 x4 x5 x6 : Int32} (hM : MB P) (hd : 6 ≤ d) (ht : t < 3) (hw : w ≤ 18) (hlo : w < 16 ∨ t + 16 < w) (hx : x3 < nI 1 ∨ nI 1000 < x3) : CT d 158 [.ref 150, .int (nI t), .int (nI w), .int x3, .int x4, .int x5, .int x6] P I L C Q = Q (.inl (some (.int (nI 0)))) P (xu I 150 4 (nI 2)) L C := by
  by_cases hb : x4 < 0 ∨ nI (if w < 16 then 3 else 0) < x4
  · exact c158r hM hd ht hw hlo hb
  · obtain ⟨ra, r1, rfl⟩ := pos_ix (by split <;> omega) hb
    have k0 := hM.1.1
    have h159 := fun Q => c159 (d := d - 1) (P := P) (I := I) (L := L) (C := C) (Q := Q) (ra := ra) (by omega) ht hw hlo (by split at r1 <;> omega) (fun q => by rw [if_neg (by omega)] at r1; omega)
    rw [CT_e (mj := 158) (e := [.ref 150, .int (nI t), .int (nI w), .int x3, .int (nI ra), .int x5, .int x6]) (by omega) rfl (Nat.le_of_ble_eq_true rfl)]
    simp (disch := first | assumption | omega) only [Nat.reduceAdd, X_go, go2_some, stp, ldI, ldA, ldL, stI, stA, stL, o1I, o2I, o2L, brI, brII, gl, s1, s2, k1, sl, go_sN, go_sR, go_CT, go_sT, go_no, go_if, pops, bk_v, bk_0, d158_0, d158_1, d158_2, d158_5, d158_8, d158_9, d158_12, d158_13, d158_14, d158_16, d158_19, d158_22, d158_23, d158_24, d158_26, d158_29, d158_32, d158_33, d158_36, d158_39, d158_41, d158_42, d158_43, d158_46, d158_49, d158_50, d158_53, d158_54, d158_57, d158_58, d158_59, d158_60, d158_61, d158_63, d158_66, d158_67, d158_70, d158_71, d158_74, d158_77, d158_78, d158_79, d158_80, d158_83, d158_84, d158_85, d158_86, d158_87, d158_89, d158_91, d158_93, d158_96, n_lt, n_le, n_eq, n_lt0, n_ge0, n_gt0, n_le0, n_eq0, m_lt, m_le, m_gt, m_ge, m_eq, m_eq', m_lt0, m_ge0, m_gt0, m_le0, m_ltm, m_lem, n_in, m_in, n_cl, n_ti, n_div, n_rem', n_dec, n_l, nI_add, pk_mul, an0, an1, decide_eq_true_eq, if_true, if_false, ite_true, ite_false, and_true, true_and, and_false, false_and, not_true, not_false_iff, or_false, false_or, or_true, true_or, eq_self, va_some, Bool.false_eq_true, reduceIte, catS_n, catS_i, catS_r, catS_l, catS_d, Nat.zero_add, Nat.add_zero, decide_true, decide_false, Nat.reduceLeDiff, cat_r, cat_i, cat_l, nle_T, nle_F, nlt_T, nlt_F, neq_T, neq_F, k0, c155, c156, h159, c161b, c153 hM]
    done
theorem c158u {d : Nat} {P : MP} {I : MI} {L : ML} {C : MC} {Q : QT} {t w we ra : Nat} {x5 x6 : Int32} (hM : MB P) (hd : 6 ≤ d) (ht : t < 3) (hw : w ≤ 18) (hlo : w < 16 ∨ t + 16 < w) (h1 : 1 ≤ we) (h2 : we ≤ 1000) (hra : ra ≤ 3) (hra2 : 16 ≤ w → ra = 0) (hx : x5 < 0 ∨ nI 3 < x5) : CT d 158 [.ref 150, .int (nI t), .int (nI w), .int (nI we), .int (nI ra), .int x5, .int x6] P I L C Q = Q (.inl (some (.int (nI 0)))) P (xu I 150 4 (nI 2)) L C := by
  have k0 := hM.1.1
  have h159 := fun Q => c159 (d := d - 1) (P := P) (I := I) (L := L) (C := C) (Q := Q) (by omega) ht hw hlo hra hra2
  rw [CT_e (mj := 158) (e := [.ref 150, .int (nI t), .int (nI w), .int (nI we), .int (nI ra), .int x5, .int x6]) (by omega) rfl (Nat.le_of_ble_eq_true rfl)]
  simp (disch := first | assumption | omega) only [Nat.reduceAdd, X_go, go2_some, stp, ldI, ldA, ldL, stI, stA, stL, o1I, o2I, o2L, brI, brII, gl, s1, s2, k1, sl, go_sN, go_sR, go_CT, go_sT, go_no, go_if, pops, bk_v, bk_0, d158_0, d158_1, d158_2, d158_5, d158_8, d158_9, d158_12, d158_13, d158_14, d158_16, d158_19, d158_22, d158_23, d158_24, d158_26, d158_29, d158_32, d158_33, d158_36, d158_39, d158_41, d158_42, d158_43, d158_46, d158_49, d158_50, d158_53, d158_54, d158_57, d158_58, d158_59, d158_60, d158_61, d158_63, d158_66, d158_67, d158_70, d158_71, d158_74, d158_77, d158_78, d158_79, d158_80, d158_83, d158_84, d158_85, d158_86, d158_87, d158_89, d158_91, d158_93, d158_96, n_lt, n_le, n_eq, n_lt0, n_ge0, n_gt0, n_le0, n_eq0, m_lt, m_le, m_gt, m_ge, m_eq, m_eq', m_lt0, m_ge0, m_gt0, m_le0, m_ltm, m_lem, n_in, m_in, n_cl, n_ti, n_div, n_rem', n_dec, n_l, nI_add, pk_mul, an0, an1, decide_eq_true_eq, if_true, if_false, ite_true, ite_false, and_true, true_and, and_false, false_and, not_true, not_false_iff, or_false, false_or, or_true, true_or, eq_self, va_some, Bool.false_eq_true, reduceIte, catS_n, catS_i, catS_r, catS_l, catS_d, Nat.zero_add, Nat.add_zero, decide_true, decide_false, Nat.reduceLeDiff, cat_r, cat_i, cat_l, nle_T, nle_F, nlt_T, nlt_F, neq_T, neq_F, k0, c155, c156, h159, c161, c156b (y := nI 0) (hx := hx), c153 hM]
  done
theorem c158f {d : Nat} {P : MP} {I : MI} {L : ML} {C : MC} {Q : QT} {t w we ra gr : Nat} {x6 : Int32} {B n len : Nat} {g : GS} {ps : Nat → GS} {tx : Nat → Nat} (hM : MB P) (hR : ZR I g n ps len tx) (hA : AV B g n ps len tx) (hd : 6 ≤ d) (ht : t < 3) (hw : w ≤ 18) (hlo : w < 16 ∨ t + 16 < w) (h1 : 1 ≤ we) (h2 : we ≤ 1000) (hra : ra ≤ 3) (hra2 : 16 ≤ w → ra = 0) (hgr : gr ≤ 3) (hc : g (3 + t) = 6) : CT d 158 [.ref 150, .int (nI t), .int (nI w), .int (nI we), .int (nI ra), .int (nI gr), .int x6] P I L C Q = Q (.inl (some (.int (nI 0)))) P (xu I 150 4 (nI 3)) L C := by
  have hM' := hM
  obtain ⟨⟨k0, p0, p1, p2, p5, y1, y2, y3, y4⟩, _⟩ := hM'
  have hR' := hR
  obtain ⟨hN, h3, hps', h6, htx'⟩ := hR'
  have hA' := hA
  obtain ⟨hGV, hps, hn4, hlen, htx⟩ := hA'
  have h140 := GV_140 hGV
  have hv := hGV.1
  have hl := hGV.2.1
  have hFv := hGV.2.2
  have hR0 : ZR (xu I 150 4 (nI 0)) g n ps len tx := ZR_4 hR
  have hN0 := hR0.1
  have hnc := hN (3 + t) (by omega)
  have h159 := fun Q => c159 (d := d - 1) (P := P) (I := I) (L := L) (C := C) (Q := Q) (by omega) ht hw hlo hra hra2
  rw [CT_e (mj := 158) (e := [.ref 150, .int (nI t), .int (nI w), .int (nI we), .int (nI ra), .int (nI gr), .int x6]) (by omega) rfl (Nat.le_of_ble_eq_true rfl)]
  simp (disch := first | assumption | omega) only [Nat.reduceAdd, X_go, go2_some, stp, ldI, ldA, ldL, stI, stA, stL, o1I, o2I, o2L, brI, brII, gl, s1, s2, k1, sl, go_sN, go_sR, go_CT, go_sT, go_no, go_if, pops, bk_v, bk_0, d158_0, d158_1, d158_2, d158_5, d158_8, d158_9, d158_12, d158_13, d158_14, d158_16, d158_19, d158_22, d158_23, d158_24, d158_26, d158_29, d158_32, d158_33, d158_36, d158_39, d158_41, d158_42, d158_43, d158_46, d158_49, d158_50, d158_53, d158_54, d158_57, d158_58, d158_59, d158_60, d158_61, d158_63, d158_66, d158_67, d158_70, d158_71, d158_74, d158_77, d158_78, d158_79, d158_80, d158_83, d158_84, d158_85, d158_86, d158_87, d158_89, d158_91, d158_93, d158_96, n_lt, n_le, n_eq, n_lt0, n_ge0, n_gt0, n_le0, n_eq0, m_lt, m_le, m_gt, m_ge, m_eq, m_eq', m_lt0, m_ge0, m_gt0, m_le0, m_ltm, m_lem, n_in, m_in, n_cl, n_ti, n_div, n_rem', n_dec, n_l, nI_add, pk_mul, an0, an1, decide_eq_true_eq, if_true, if_false, ite_true, ite_false, and_true, true_and, and_false, false_and, not_true, not_false_iff, or_false, false_or, or_true, true_or, eq_self, va_some, Bool.false_eq_true, reduceIte, catS_n, catS_i, catS_r, catS_l, catS_d, Nat.zero_add, Nat.add_zero, decide_true, decide_false, Nat.reduceLeDiff, cat_r, cat_i, cat_l, nle_T, nle_F, nlt_T, nlt_F, neq_T, neq_F, k0, p0, y1, c155, c156, h159, c161, hnc, hc, c153 hM]
  done
def shU (k m : Nat) (g : GS) : GS := fun j => if k ≤ j ∧ j < k + m then g (j + 6) else g j
theorem shU_s {k m : Nat} {g : GS} : shU (k + 1) m (ud g k (g (k + 6))) = shU k (m + 1) g := by
  funext j
  unfold shU ud
  by_cases h : k + 1 ≤ j ∧ j < k + 1 + m
  · rw [if_pos h, if_neg (by omega), if_pos (by omega)]
  · rw [if_neg h]
    by_cases z : j = k
    · subst z; rw [if_pos rfl, if_pos (by omega)]
    · rw [if_neg z, if_neg (by omega)]
theorem d164_0 : dec 164 0 = some (.aload_n 0, 1, []) := rfl
theorem d164_1 : dec 164 1 = some (.aload_n 0, 1, []) := rfl
theorem d164_2 : dec 164 2 = some (.iload_n 1, 1, []) := rfl
theorem d164_3 : dec 164 3 = some (.iload_n 2, 1, []) := rfl
theorem d164_4 : dec 164 4 = some (.invokevirtual 103, 3, [2, 165, 2, 10, 0, 1123, 0, 0]) := rfl
theorem d164_7 : dec 164 7 = some (.ifCond .eq 7, 3, [14]) := rfl
theorem d164_10 : dec 164 10 = some (.iconst 0, 1, [0]) := rfl
theorem d164_11 : dec 164 11 = some (.goto 4, 3, [15]) := rfl
theorem d164_14 : dec 164 14 = some (.iconst 1, 1, [1]) := rfl
theorem d164_15 : dec 164 15 = some (.invokevirtual 72, 3, [2, 153, 2, 10, 0, 1081, 0]) := rfl
theorem d164_18 : dec 164 18 = some (.ifCond .eq 5, 3, [23]) := rfl
theorem d164_21 : dec 164 21 = some (.iconst 0, 1, [0]) := rfl
theorem d164_22 : dec 164 22 = some (.ireturn, 1, [0]) := rfl
theorem d164_23 : dec 164 23 = some (.aload_n 0, 1, []) := rfl
theorem d164_24 : dec 164 24 = some (.invokevirtual 87, 3, [2, 157, 2, 10, 0, 1095]) := rfl
theorem d164_27 : dec 164 27 = some (.aload_n 0, 1, []) := rfl
theorem d164_28 : dec 164 28 = some (.getfield 7, 3, [1, 10, 0, 2, 0, 994]) := rfl
theorem d164_31 : dec 164 31 = some (.iconst 3, 1, [3]) := rfl
theorem d164_32 : dec 164 32 = some (.iload_n 1, 1, []) := rfl
theorem d164_33 : dec 164 33 = some (.iadd, 1, []) := rfl
theorem d164_34 : dec 164 34 = some (.dup2, 1, []) := rfl
theorem d164_35 : dec 164 35 = some (.iaload, 1, []) := rfl
theorem d164_36 : dec 164 36 = some (.iconst 1, 1, [1]) := rfl
theorem d164_37 : dec 164 37 = some (.isub, 1, []) := rfl
theorem d164_38 : dec 164 38 = some (.iastore, 1, []) := rfl
theorem d164_39 : dec 164 39 = some (.iload_n 1, 1, []) := rfl
theorem d164_40 : dec 164 40 = some (.iload_n 2, 1, []) := rfl
theorem d164_41 : dec 164 41 = some (.invokestatic 80, 3, [2, 163, 0, 10, 0, 1116, 0, 0]) := rfl
theorem d164_44 : dec 164 44 = some (.istore_n 3, 1, []) := rfl
theorem d164_45 : dec 164 45 = some (.iload_n 3, 1, []) := rfl
theorem d164_46 : dec 164 46 = some (.iload_n 1, 1, []) := rfl
theorem d164_47 : dec 164 47 = some (.aload_n 0, 1, []) := rfl
theorem d164_48 : dec 164 48 = some (.getfield 7, 3, [1, 10, 0, 2, 0, 994]) := rfl
theorem d164_51 : dec 164 51 = some (.iconst 3, 1, [3]) := rfl
theorem d164_52 : dec 164 52 = some (.iload_n 1, 1, []) := rfl
theorem d164_53 : dec 164 53 = some (.iadd, 1, []) := rfl
theorem d164_54 : dec 164 54 = some (.iaload, 1, []) := rfl
theorem d164_55 : dec 164 55 = some (.invokestatic 80, 3, [2, 163, 0, 10, 0, 1116, 0, 0]) := rfl
theorem d164_58 : dec 164 58 = some (.if_icmp .ge 24, 3, [82]) := rfl
theorem d164_61 : dec 164 61 = some (.aload_n 0, 1, []) := rfl
theorem d164_62 : dec 164 62 = some (.getfield 7, 3, [1, 10, 0, 2, 0, 994]) := rfl
theorem d164_65 : dec 164 65 = some (.iload_n 3, 1, []) := rfl
theorem d164_66 : dec 164 66 = some (.aload_n 0, 1, []) := rfl
theorem d164_67 : dec 164 67 = some (.getfield 7, 3, [1, 10, 0, 2, 0, 994]) := rfl
theorem d164_70 : dec 164 70 = some (.iload_n 3, 1, []) := rfl
theorem d164_71 : dec 164 71 = some (.bipush 6, 2, [6]) := rfl
theorem d164_73 : dec 164 73 = some (.iadd, 1, []) := rfl
theorem d164_74 : dec 164 74 = some (.iaload, 1, []) := rfl
theorem d164_75 : dec 164 75 = some (.iastore, 1, []) := rfl
theorem d164_76 : dec 164 76 = some (.iinc 3 1, 3, [1]) := rfl
theorem d164_79 : dec 164 79 = some (.goto (-34), 3, [45]) := rfl
theorem d164_82 : dec 164 82 = some (.aload_n 0, 1, []) := rfl
theorem d164_83 : dec 164 83 = some (.getfield 7, 3, [1, 10, 0, 2, 0, 994]) := rfl
theorem d164_86 : dec 164 86 = some (.iconst 3, 1, [3]) := rfl
theorem d164_87 : dec 164 87 = some (.iload_n 1, 1, []) := rfl
theorem d164_88 : dec 164 88 = some (.iadd, 1, []) := rfl
theorem d164_89 : dec 164 89 = some (.iaload, 1, []) := rfl
theorem d164_90 : dec 164 90 = some (.ireturn, 1, [0]) := rfl
theorem l164 : mL 164 = 4 := rfl
theorem f164 {d : Nat} {P : MP} {L : ML} {C : MC} {t e c : Nat} (hM : MB P) (hd : 2 ≤ d) (ht : t < 3) (hc : c < 6) : ∀ m k (I : MI) (g : GS), k + m = cl t c 0 → 6 ≤ k → NR I g → g (3 + t) = c → ∃ I', NR I' (shU k m g) ∧ (∀ k j, k ≠ 151 → I' k j = I k j) ∧ ∀ Q, X d 164 45 [.ref 150, .int (nI t), .int (nI e), .int (nI k)] [] P I L C Q = Q (.inl (some (.int (nI c)))) P I' L C := by
  obtain ⟨⟨k0, p0, p1, p2, p5, y1, y2, y3, y4⟩, _⟩ := hM
  have hcl := cl_lt (f := 0) ht hc (by omega)
  intro m
  induction m with
  | zero =>
    intro k I g h hk hN hg
    have hnc := hN (3 + t) (by omega)
    rw [hg] at hnc
    have : k = cl t c 0 := by omega
    subst this
    refine ⟨I, NR_c hN fun j _ => if_neg (by omega), fun _ _ _ => rfl, fun Q => ?_⟩
    rw [X_go, d164_45]
    simp (disch := first | assumption | omega) only [Nat.reduceAdd, X_go, go2_some, stp, ldI, ldA, ldL, stI, stA, stL, o1I, o2I, o2L, brI, brII, gl, s1, s2, k1, sl, go_sN, go_sR, go_CT, go_sT, go_no, go_if, pops, bk_v, bk_0, d164_0, d164_1, d164_2, d164_3, d164_4, d164_7, d164_10, d164_11, d164_14, d164_15, d164_18, d164_21, d164_22, d164_23, d164_24, d164_27, d164_28, d164_31, d164_32, d164_33, d164_34, d164_35, d164_36, d164_37, d164_38, d164_39, d164_40, d164_41, d164_44, d164_46, d164_47, d164_48, d164_51, d164_52, d164_53, d164_54, d164_55, d164_58, d164_61, d164_62, d164_65, d164_66, d164_67, d164_70, d164_71, d164_73, d164_74, d164_75, d164_76, d164_79, d164_82, d164_83, d164_86, d164_87, d164_88, d164_89, d164_90, n_lt, n_le, n_eq, n_lt0, n_ge0, n_gt0, n_le0, n_eq0, m_lt, m_le, m_gt, m_ge, m_eq, m_eq', m_lt0, m_ge0, m_gt0, m_le0, m_ltm, m_lem, n_in, m_in, n_cl, n_ti, n_div, n_rem', n_dec, n_l, nI_add, pk_mul, an0, an1, decide_eq_true_eq, if_true, if_false, ite_true, ite_false, and_true, true_and, and_false, false_and, not_true, not_false_iff, or_false, false_or, or_true, true_or, eq_self, va_some, Bool.false_eq_true, reduceIte, catS_n, catS_i, catS_r, catS_l, catS_d, Nat.zero_add, Nat.add_zero, decide_true, decide_false, Nat.reduceLeDiff, cat_r, cat_i, cat_l, nle_T, nle_F, nlt_T, nlt_F, neq_T, neq_F, k0, p0, y1, hnc, c163]
  | succ m ih =>
    intro k I g h hk hN hg
    have hnc := hN (3 + t) (by omega)
    rw [hg] at hnc
    have h6 := hN (k + 6) (by omega)
    obtain ⟨I', a1, a2, a3⟩ := ih (k + 1) (xu I 151 k (nI (g (k + 6)))) (ud g k (g (k + 6))) (by omega) (by omega) (NR_ud hN) (by rw [ud_n (by omega)]; exact hg)
    rw [shU_s] at a1
    refine ⟨I', a1, fun k j h => by rw [a2 k j h, xu_n _ _ (by omega)], fun Q => ?_⟩
    have a3 := a3 Q
    rw [← a3, X_go, d164_45]
    simp (disch := first | assumption | omega) only [Nat.reduceAdd, X_go, go2_some, stp, ldI, ldA, ldL, stI, stA, stL, o1I, o2I, o2L, brI, brII, gl, s1, s2, k1, sl, go_sN, go_sR, go_CT, go_sT, go_no, go_if, pops, bk_v, bk_0, d164_0, d164_1, d164_2, d164_3, d164_4, d164_7, d164_10, d164_11, d164_14, d164_15, d164_18, d164_21, d164_22, d164_23, d164_24, d164_27, d164_28, d164_31, d164_32, d164_33, d164_34, d164_35, d164_36, d164_37, d164_38, d164_39, d164_40, d164_41, d164_44, d164_46, d164_47, d164_48, d164_51, d164_52, d164_53, d164_54, d164_55, d164_58, d164_61, d164_62, d164_65, d164_66, d164_67, d164_70, d164_71, d164_73, d164_74, d164_75, d164_76, d164_79, d164_82, d164_83, d164_86, d164_87, d164_88, d164_89, d164_90, n_lt, n_le, n_eq, n_lt0, n_ge0, n_gt0, n_le0, n_eq0, m_lt, m_le, m_gt, m_ge, m_eq, m_eq', m_lt0, m_ge0, m_gt0, m_le0, m_ltm, m_lem, n_in, m_in, n_cl, n_ti, n_div, n_rem', n_dec, n_l, nI_add, pk_mul, an0, an1, decide_eq_true_eq, if_true, if_false, ite_true, ite_false, and_true, true_and, and_false, false_and, not_true, not_false_iff, or_false, false_or, or_true, true_or, eq_self, va_some, Bool.false_eq_true, reduceIte, catS_n, catS_i, catS_r, catS_l, catS_d, Nat.zero_add, Nat.add_zero, decide_true, decide_false, Nat.reduceLeDiff, cat_r, cat_i, cat_l, nle_T, nle_F, nlt_T, nlt_F, neq_T, neq_F, k0, p0, y1, hnc, c163, h6]
    done
theorem c164 {d : Nat} {P : MP} {I : MI} {L : ML} {C : MC} {t e : Nat} {B n len : Nat} {g : GS} {ps : Nat → GS} {tx : Nat → Nat} (hM : MB P) (hR : ZR I g n ps len tx) (hA : AV B g n ps len tx) (hd : 6 ≤ d) (ht : t < 3) (he : e < g (3 + t)) : ∃ I', ZR I' (remG g t e) (puN n) (puS n ps g) len tx ∧ I' 150 4 = nI 0 ∧ fm I I' ∧ ∀ Q, CT d 164 [.ref 150, .int (nI t), .int (nI e)] P I L C Q = Q (.inl (some (.int (nI (g (3 + t) - 1))))) P I' L C := by
  have hM' := hM
  obtain ⟨⟨k0, p0, p1, p2, p5, y1, y2, y3, y4⟩, _⟩ := hM'
  have hR' := hR
  obtain ⟨hN, h3, hps', h6, htx'⟩ := hR'
  have hA' := hA
  obtain ⟨hGV, hps, hn4, hlen, htx⟩ := hA'
  have h140 := GV_140 hGV
  have hv := hGV.1
  have hl := hGV.2.1
  have hFv := hGV.2.2
  have hR0 : ZR (xu I 150 4 (nI 0)) g n ps len tx := ZR_4 hR
  have hN0 := hR0.1
  obtain ⟨J, j1, j2, j3⟩ := c157 (d := d - 1) (L := L) (C := C) hM hR0 hn4 (by omega)
  have hNJ := j1.1
  have j4 : J 150 4 = nI 0 := by rw [j2 _ _ (by omega) (by omega), xu_s]
  have j5 : ∀ k j, k < 150 ∨ 168 < k → J k j = I k j := fun k j h => by rw [j2 _ _ (by omega) (by omega), xu_n _ _ (by omega)]
  have hc := hv.2.1 t ht
  have hnc := hNJ (3 + t) (by omega)
  have hle : cl t e 0 ≤ cl t (g (3 + t) - 1) 0 := by unfold cl; omega
  have hcl := cl_lt (f := 0) ht (show e < 6 by omega) (by omega)
  have hcl2 := cl_lt (f := 0) ht (show g (3 + t) - 1 < 6 by omega) (by omega)
  obtain ⟨I', a1, a2, a3⟩ := f164 (d := d - 1) (L := L) (C := C) (e := e) hM (by omega) ht (show g (3 + t) - 1 < 6 by omega) (cl t (g (3 + t) - 1) 0 - cl t e 0) (cl t e 0) (xu J 151 (3 + t) (nI (g (3 + t) - 1))) (ud g (3 + t) (g (3 + t) - 1)) (by omega) (by omega) (NR_ud hNJ) ud_s
  refine ⟨I', ZR_now j1 (NR_c a1 fun k hk => ?_) (fun k j h => by rw [a2 k j h, xu_n _ _ (by omega)]), by rw [a2 _ _ (by omega), xu_n _ _ (by omega)]; exact j4, fun k j h => by rw [a2 _ _ (by omega), xu_n _ _ (by omega), j5 k j h], fun Q => ?_⟩
  · unfold remG shU ud
    by_cases z : k = 3 + t
    · subst z
      rw [if_pos rfl, if_neg (by omega), if_pos rfl]
    · rw [if_neg z]
      by_cases y : cl t e 0 ≤ k ∧ k < cl t (g (3 + t) - 1) 0
      · rw [if_pos y, if_pos (by omega), if_neg (by omega)]
      · rw [if_neg y, if_neg (by omega), if_neg z]
  · have a3 := a3 Q
    rw [CT_e (mj := 164) (e := [.ref 150, .int (nI t), .int (nI e), UN]) (by omega) rfl (Nat.le_of_ble_eq_true rfl)]
    simp (disch := first | assumption | omega) only [Nat.reduceAdd, X_go, go2_some, stp, ldI, ldA, ldL, stI, stA, stL, o1I, o2I, o2L, brI, brII, gl, s1, s2, k1, sl, go_sN, go_sR, go_CT, go_sT, go_no, go_if, pops, bk_v, bk_0, d164_0, d164_1, d164_2, d164_3, d164_4, d164_7, d164_10, d164_11, d164_14, d164_15, d164_18, d164_21, d164_22, d164_23, d164_24, d164_27, d164_28, d164_31, d164_32, d164_33, d164_34, d164_35, d164_36, d164_37, d164_38, d164_39, d164_40, d164_41, d164_44, d164_46, d164_47, d164_48, d164_51, d164_52, d164_53, d164_54, d164_55, d164_58, d164_61, d164_62, d164_65, d164_66, d164_67, d164_70, d164_71, d164_73, d164_74, d164_75, d164_76, d164_79, d164_82, d164_83, d164_86, d164_87, d164_88, d164_89, d164_90, n_lt, n_le, n_eq, n_lt0, n_ge0, n_gt0, n_le0, n_eq0, m_lt, m_le, m_gt, m_ge, m_eq, m_eq', m_lt0, m_ge0, m_gt0, m_le0, m_ltm, m_lem, n_in, m_in, n_cl, n_ti, n_div, n_rem', n_dec, n_l, nI_add, pk_mul, an0, an1, decide_eq_true_eq, if_true, if_false, ite_true, ite_false, and_true, true_and, and_false, false_and, not_true, not_false_iff, or_false, false_or, or_true, true_or, eq_self, va_some, Bool.false_eq_true, reduceIte, catS_n, catS_i, catS_r, catS_l, catS_d, Nat.zero_add, Nat.add_zero, decide_true, decide_false, Nat.reduceLeDiff, cat_r, cat_i, cat_l, nle_T, nle_F, nlt_T, nlt_F, neq_T, neq_F, k0, p0, y1, c165 hM hN hv, c153 hM, j3, hnc, n_sub, c163]
    simp only [← X_go]
    exact a3
theorem c164b {d : Nat} {P : MP} {I : MI} {L : ML} {C : MC} {Q : QT} {x y : Int32} (hM : MB P) (hd : 6 ≤ d) (hx : x < 0 ∨ nI 3 ≤ x) : CT d 164 [.ref 150, .int x, .int y] P I L C Q = Q (.inl (some (.int (nI 0)))) P (xu I 150 4 (nI 1)) L C := by
  have k0 := hM.1.1
  rw [CT_e (mj := 164) (e := [.ref 150, .int x, .int y, UN]) (by omega) rfl (Nat.le_of_ble_eq_true rfl)]
  simp (disch := first | assumption | omega) only [Nat.reduceAdd, X_go, go2_some, stp, ldI, ldA, ldL, stI, stA, stL, o1I, o2I, o2L, brI, brII, gl, s1, s2, k1, sl, go_sN, go_sR, go_CT, go_sT, go_no, go_if, pops, bk_v, bk_0, d164_0, d164_1, d164_2, d164_3, d164_4, d164_7, d164_10, d164_11, d164_14, d164_15, d164_18, d164_21, d164_22, d164_23, d164_24, d164_27, d164_28, d164_31, d164_32, d164_33, d164_34, d164_35, d164_36, d164_37, d164_38, d164_39, d164_40, d164_41, d164_44, d164_45, d164_46, d164_47, d164_48, d164_51, d164_52, d164_53, d164_54, d164_55, d164_58, d164_61, d164_62, d164_65, d164_66, d164_67, d164_70, d164_71, d164_73, d164_74, d164_75, d164_76, d164_79, d164_82, d164_83, d164_86, d164_87, d164_88, d164_89, d164_90, n_lt, n_le, n_eq, n_lt0, n_ge0, n_gt0, n_le0, n_eq0, m_lt, m_le, m_gt, m_ge, m_eq, m_eq', m_lt0, m_ge0, m_gt0, m_le0, m_ltm, m_lem, n_in, m_in, n_cl, n_ti, n_div, n_rem', n_dec, n_l, nI_add, pk_mul, an0, an1, decide_eq_true_eq, if_true, if_false, ite_true, ite_false, and_true, true_and, and_false, false_and, not_true, not_false_iff, or_false, false_or, or_true, true_or, eq_self, va_some, Bool.false_eq_true, reduceIte, catS_n, catS_i, catS_r, catS_l, catS_d, Nat.zero_add, Nat.add_zero, decide_true, decide_false, Nat.reduceLeDiff, cat_r, cat_i, cat_l, nle_T, nle_F, nlt_T, nlt_F, neq_T, neq_F, k0, c165t, c153 hM]
  done
theorem c164c {d : Nat} {P : MP} {I : MI} {L : ML} {C : MC} {Q : QT} {t : Nat} {y : Int32} {g : GS} (hM : MB P) (hN : NR I g) (hv : TV g) (hd : 6 ≤ d) (ht : t < 3) (hy : y < 0 ∨ nI (g (3 + t)) ≤ y) : CT d 164 [.ref 150, .int (nI t), .int y] P I L C Q = Q (.inl (some (.int (nI 0)))) P (xu I 150 4 (nI 1)) L C := by
  have k0 := hM.1.1
  rw [CT_e (mj := 164) (e := [.ref 150, .int (nI t), .int y, UN]) (by omega) rfl (Nat.le_of_ble_eq_true rfl)]
  simp (disch := first | assumption | omega) only [Nat.reduceAdd, X_go, go2_some, stp, ldI, ldA, ldL, stI, stA, stL, o1I, o2I, o2L, brI, brII, gl, s1, s2, k1, sl, go_sN, go_sR, go_CT, go_sT, go_no, go_if, pops, bk_v, bk_0, d164_0, d164_1, d164_2, d164_3, d164_4, d164_7, d164_10, d164_11, d164_14, d164_15, d164_18, d164_21, d164_22, d164_23, d164_24, d164_27, d164_28, d164_31, d164_32, d164_33, d164_34, d164_35, d164_36, d164_37, d164_38, d164_39, d164_40, d164_41, d164_44, d164_45, d164_46, d164_47, d164_48, d164_51, d164_52, d164_53, d164_54, d164_55, d164_58, d164_61, d164_62, d164_65, d164_66, d164_67, d164_70, d164_71, d164_73, d164_74, d164_75, d164_76, d164_79, d164_82, d164_83, d164_86, d164_87, d164_88, d164_89, d164_90, n_lt, n_le, n_eq, n_lt0, n_ge0, n_gt0, n_le0, n_eq0, m_lt, m_le, m_gt, m_ge, m_eq, m_eq', m_lt0, m_ge0, m_gt0, m_le0, m_ltm, m_lem, n_in, m_in, n_cl, n_ti, n_div, n_rem', n_dec, n_l, nI_add, pk_mul, an0, an1, decide_eq_true_eq, if_true, if_false, ite_true, ite_false, and_true, true_and, and_false, false_and, not_true, not_false_iff, or_false, false_or, or_true, true_or, eq_self, va_some, Bool.false_eq_true, reduceIte, catS_n, catS_i, catS_r, catS_l, catS_d, Nat.zero_add, Nat.add_zero, decide_true, decide_false, Nat.reduceLeDiff, cat_r, cat_i, cat_l, nle_T, nle_F, nlt_T, nlt_F, neq_T, neq_F, k0, c165e hM hN hv, c153 hM]
  done
