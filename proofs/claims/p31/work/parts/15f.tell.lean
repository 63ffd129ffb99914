/-! FINDS, told -/
theorem d34_0 : dec 34 0 = some (.iload_n 1, 1, []) := rfl
theorem d34_1 : dec 34 1 = some (.aload_n 0, 1, []) := rfl
theorem d34_2 : dec 34 2 = some (.invokevirtual 52, 3, [2, 33, 2, 2, 0, 629]) := rfl
theorem d34_5 : dec 34 5 = some (.if_icmp .lt 5, 3, [10]) := rfl
theorem d34_8 : dec 34 8 = some (.iconst (-1), 1, [4294967295]) := rfl
theorem d34_9 : dec 34 9 = some (.ireturn, 1, [0]) := rfl
theorem d34_10 : dec 34 10 = some (.aload_n 0, 1, []) := rfl
theorem d34_11 : dec 34 11 = some (.getfield 32, 3, [1, 2, 5, 0, 0, 121]) := rfl
theorem d34_14 : dec 34 14 = some (.iconst 1, 1, [1]) := rfl
theorem d34_15 : dec 34 15 = some (.isub, 1, []) := rfl
theorem d34_16 : dec 34 16 = some (.iload_n 1, 1, []) := rfl
theorem d34_17 : dec 34 17 = some (.isub, 1, []) := rfl
theorem d34_18 : dec 34 18 = some (.bipush 20, 2, [20]) := rfl
theorem d34_20 : dec 34 20 = some (.invokestatic 35, 3, [2, 14, 0, 12, 0, 630, 0, 0]) := rfl
theorem d34_23 : dec 34 23 = some (.istore_n 3, 1, []) := rfl
theorem d34_24 : dec 34 24 = some (.iload_n 2, 1, []) := rfl
theorem d34_25 : dec 34 25 = some (.lookupswitch 45 #[(0, 27), (1, 36)], 27, []) := rfl
theorem d34_52 : dec 34 52 = some (.aload_n 0, 1, []) := rfl
theorem d34_53 : dec 34 53 = some (.getfield 15, 3, [1, 2, 1, 2, 0, 115]) := rfl
theorem d34_56 : dec 34 56 = some (.iload_n 3, 1, []) := rfl
theorem d34_57 : dec 34 57 = some (.invokestatic 45, 3, [2, 26, 0, 9, 1, 497, 0, 2]) := rfl
theorem d34_60 : dec 34 60 = some (.ireturn, 1, [0]) := rfl
theorem d34_61 : dec 34 61 = some (.aload_n 0, 1, []) := rfl
theorem d34_62 : dec 34 62 = some (.getfield 18, 3, [1, 2, 2, 2, 0, 116]) := rfl
theorem d34_65 : dec 34 65 = some (.iload_n 3, 1, []) := rfl
theorem d34_66 : dec 34 66 = some (.invokestatic 45, 3, [2, 26, 0, 9, 1, 497, 0, 2]) := rfl
theorem d34_69 : dec 34 69 = some (.ireturn, 1, [0]) := rfl
theorem d34_70 : dec 34 70 = some (.aload_n 0, 1, []) := rfl
theorem d34_71 : dec 34 71 = some (.getfield 21, 3, [1, 2, 3, 2, 0, 117]) := rfl
theorem d34_74 : dec 34 74 = some (.iload_n 3, 1, []) := rfl
theorem d34_75 : dec 34 75 = some (.invokestatic 45, 3, [2, 26, 0, 9, 1, 497, 0, 2]) := rfl
theorem d34_78 : dec 34 78 = some (.ireturn, 1, [0]) := rfl
theorem l34 : mL 34 = 4 := rfl
theorem sw34_0 {ls st : List Value} {P : MP} {I : MI} {L : ML} {C : MC} : stp 25 (.lookupswitch 45 #[(0, 27), (1, 36)]) 27 [] ls (.int (nI 0) :: st) P I L C = sN 52 ls st P I L C := rfl
theorem sw34_1 {ls st : List Value} {P : MP} {I : MI} {L : ML} {C : MC} : stp 25 (.lookupswitch 45 #[(0, 27), (1, 36)]) 27 [] ls (.int (nI 1) :: st) P I L C = sN 61 ls st P I L C := rfl
theorem sw34_2 {ls st : List Value} {P : MP} {I : MI} {L : ML} {C : MC} : stp 25 (.lookupswitch 45 #[(0, 27), (1, 36)]) 27 [] ls (.int (nI 2) :: st) P I L C = sN 70 ls st P I L C := rfl
/-- what the latest finds tell -/
def tellG (g : GS) (i w : Nat) : Int32 := if i < g 140 then nI (g (141 + 3 * i + w)) else nI 4294967295
theorem c34 {d : Nat} {P : MP} {I : MI} {L : ML} {C : MC} {Q : QT} {F i w B : Nat} {g : GS} (hF : FB P F) (hg : FR' I F g) (hv : FV B g) (hB : B ≤ 1000000) (hd : 2 ≤ d) (hi : i < 2147483648) (hw : w < 3) : CT d 34 [.ref F, .int (nI i), .int (nI w)] P I L C Q = Q (.inl (some (.int (tellG g i w)))) P I L C := by
  have hF' := hF
  obtain ⟨k0, p0, p1, p2, p3, y1, y2, y3, y4⟩ := hF'
  have hv' := hv
  obtain ⟨v1, v2, v3, v4, v5⟩ := hv'
  have hg' := hg
  obtain ⟨g1, g2, g3, g4⟩ := hg'
  have hm := Nat.mod_lt (g 123 - 1 - i) (by omega : 20 > 0)
  unfold tellG
  rw [CT_e (mj := 34) (e := [.ref F, .int (nI i), .int (nI w), UN]) (by omega) rfl (Nat.le_of_ble_eq_true rfl)]
  by_cases z : i < g 140
  · have g4 := g4 i z
    have e0 : w = 0 ∨ w = 1 ∨ w = 2 := by omega
    rcases e0 with rfl | rfl | rfl
    · simp (disch := first | assumption | omega) only [↓sw34_0, Nat.reduceAdd, X_go, go2_some, stp, ldI, ldA, ldL, stI, stA, stL, o1I, o2I, o2L, brI, brII, gl, s1, s2, k1, sl, go_sN, go_sR, go_CT, go_sT, go_no, go_if, pops, bk_v, bk_0, d34_0, d34_1, d34_2, d34_5, d34_8, d34_9, d34_10, d34_11, d34_14, d34_15, d34_16, d34_17, d34_18, d34_20, d34_23, d34_24, d34_25, d34_52, d34_53, d34_56, d34_57, d34_60, d34_61, d34_62, d34_65, d34_66, d34_69, d34_70, d34_71, d34_74, d34_75, d34_78, n_lt, n_le, n_eq, n_lt0, n_ge0, n_gt0, n_le0, n_eq0, m_lt, m_le, m_gt, m_ge, m_eq, m_eq', m_lt0, m_ge0, m_gt0, m_le0, m_ltm, m_lem, n_in, m_in, n_cl, n_ti, n_div, n_rem', n_dec, n_l, nI_add, pk_mul, an0, an1, decide_eq_true_eq, if_true, if_false, ite_true, ite_false, and_true, true_and, and_false, false_and, not_true, not_false_iff, or_false, false_or, or_true, true_or, eq_self, va_some, Bool.false_eq_true, reduceIte, catS_n, catS_i, catS_r, catS_l, catS_d, Nat.zero_add, Nat.add_zero, decide_true, decide_false, Nat.reduceLeDiff, cat_r, cat_i, cat_l, nle_T, nle_F, nlt_T, nlt_F, neq_T, neq_F, k0, p0, p1, p2, p3, g3, g4, c33 hF hg hv hB, c14, c26 y2, c26 y3, c26 y4, n_sub, z]
    · simp (disch := first | assumption | omega) only [↓sw34_1, Nat.reduceAdd, X_go, go2_some, stp, ldI, ldA, ldL, stI, stA, stL, o1I, o2I, o2L, brI, brII, gl, s1, s2, k1, sl, go_sN, go_sR, go_CT, go_sT, go_no, go_if, pops, bk_v, bk_0, d34_0, d34_1, d34_2, d34_5, d34_8, d34_9, d34_10, d34_11, d34_14, d34_15, d34_16, d34_17, d34_18, d34_20, d34_23, d34_24, d34_25, d34_52, d34_53, d34_56, d34_57, d34_60, d34_61, d34_62, d34_65, d34_66, d34_69, d34_70, d34_71, d34_74, d34_75, d34_78, n_lt, n_le, n_eq, n_lt0, n_ge0, n_gt0, n_le0, n_eq0, m_lt, m_le, m_gt, m_ge, m_eq, m_eq', m_lt0, m_ge0, m_gt0, m_le0, m_ltm, m_lem, n_in, m_in, n_cl, n_ti, n_div, n_rem', n_dec, n_l, nI_add, pk_mul, an0, an1, decide_eq_true_eq, if_true, if_false, ite_true, ite_false, and_true, true_and, and_false, false_and, not_true, not_false_iff, or_false, false_or, or_true, true_or, eq_self, va_some, Bool.false_eq_true, reduceIte, catS_n, catS_i, catS_r, catS_l, catS_d, Nat.zero_add, Nat.add_zero, decide_true, decide_false, Nat.reduceLeDiff, cat_r, cat_i, cat_l, nle_T, nle_F, nlt_T, nlt_F, neq_T, neq_F, k0, p0, p1, p2, p3, g3, g4, c33 hF hg hv hB, c14, c26 y2, c26 y3, c26 y4, n_sub, z]
    · simp (disch := first | assumption | omega) only [↓sw34_2, Nat.reduceAdd, X_go, go2_some, stp, ldI, ldA, ldL, stI, stA, stL, o1I, o2I, o2L, brI, brII, gl, s1, s2, k1, sl, go_sN, go_sR, go_CT, go_sT, go_no, go_if, pops, bk_v, bk_0, d34_0, d34_1, d34_2, d34_5, d34_8, d34_9, d34_10, d34_11, d34_14, d34_15, d34_16, d34_17, d34_18, d34_20, d34_23, d34_24, d34_25, d34_52, d34_53, d34_56, d34_57, d34_60, d34_61, d34_62, d34_65, d34_66, d34_69, d34_70, d34_71, d34_74, d34_75, d34_78, n_lt, n_le, n_eq, n_lt0, n_ge0, n_gt0, n_le0, n_eq0, m_lt, m_le, m_gt, m_ge, m_eq, m_eq', m_lt0, m_ge0, m_gt0, m_le0, m_ltm, m_lem, n_in, m_in, n_cl, n_ti, n_div, n_rem', n_dec, n_l, nI_add, pk_mul, an0, an1, decide_eq_true_eq, if_true, if_false, ite_true, ite_false, and_true, true_and, and_false, false_and, not_true, not_false_iff, or_false, false_or, or_true, true_or, eq_self, va_some, Bool.false_eq_true, reduceIte, catS_n, catS_i, catS_r, catS_l, catS_d, Nat.zero_add, Nat.add_zero, decide_true, decide_false, Nat.reduceLeDiff, cat_r, cat_i, cat_l, nle_T, nle_F, nlt_T, nlt_F, neq_T, neq_F, k0, p0, p1, p2, p3, g3, g4, c33 hF hg hv hB, c14, c26 y2, c26 y3, c26 y4, n_sub, z]
  · simp (disch := first | assumption | omega) only [Nat.reduceAdd, X_go, go2_some, stp, ldI, ldA, ldL, stI, stA, stL, o1I, o2I, o2L, brI, brII, gl, s1, s2, k1, sl, go_sN, go_sR, go_CT, go_sT, go_no, go_if, pops, bk_v, bk_0, d34_0, d34_1, d34_2, d34_5, d34_8, d34_9, d34_10, d34_11, d34_14, d34_15, d34_16, d34_17, d34_18, d34_20, d34_23, d34_24, d34_25, d34_52, d34_53, d34_56, d34_57, d34_60, d34_61, d34_62, d34_65, d34_66, d34_69, d34_70, d34_71, d34_74, d34_75, d34_78, n_lt, n_le, n_eq, n_lt0, n_ge0, n_gt0, n_le0, n_eq0, m_lt, m_le, m_gt, m_ge, m_eq, m_eq', m_lt0, m_ge0, m_gt0, m_le0, m_ltm, m_lem, n_in, m_in, n_cl, n_ti, n_div, n_rem', n_dec, n_l, nI_add, pk_mul, an0, an1, decide_eq_true_eq, if_true, if_false, ite_true, ite_false, and_true, true_and, and_false, false_and, not_true, not_false_iff, or_false, false_or, or_true, true_or, eq_self, va_some, Bool.false_eq_true, reduceIte, catS_n, catS_i, catS_r, catS_l, catS_d, Nat.zero_add, Nat.add_zero, decide_true, decide_false, Nat.reduceLeDiff, cat_r, cat_i, cat_l, nle_T, nle_F, nlt_T, nlt_F, neq_T, neq_F, k0, c33 hF hg hv hB, z]
/-- how many items have been found -/
def dif (g : GS) (n : Nat) : Nat := sm n (fun i => if 0 < g (124 + i) then 1 else 0)
theorem d60_0 : dec 60 0 = some (.iconst 0, 1, [0]) := rfl
theorem d60_1 : dec 60 1 = some (.istore_n 1, 1, []) := rfl
theorem d60_2 : dec 60 2 = some (.iconst 0, 1, [0]) := rfl
theorem d60_3 : dec 60 3 = some (.istore_n 2, 1, []) := rfl
theorem d60_4 : dec 60 4 = some (.iload_n 2, 1, []) := rfl
theorem d60_5 : dec 60 5 = some (.bipush 16, 2, [16]) := rfl
theorem d60_7 : dec 60 7 = some (.if_icmp .ge 23, 3, [30]) := rfl
theorem d60_10 : dec 60 10 = some (.aload_n 0, 1, []) := rfl
theorem d60_11 : dec 60 11 = some (.getfield 9, 3, [1, 2, 0, 2, 0, 113]) := rfl
theorem d60_14 : dec 60 14 = some (.iload_n 2, 1, []) := rfl
theorem d60_15 : dec 60 15 = some (.invokestatic 45, 3, [2, 26, 0, 9, 1, 497, 0, 2]) := rfl
theorem d60_18 : dec 60 18 = some (.ifCond .le 6, 3, [24]) := rfl
theorem d60_21 : dec 60 21 = some (.iinc 1 1, 3, [1]) := rfl
theorem d60_24 : dec 60 24 = some (.iinc 2 1, 3, [1]) := rfl
theorem d60_27 : dec 60 27 = some (.goto (-23), 3, [4]) := rfl
theorem d60_30 : dec 60 30 = some (.iload_n 1, 1, []) := rfl
theorem d60_31 : dec 60 31 = some (.ireturn, 1, [0]) := rfl
theorem l60 : mL 60 = 3 := rfl
theorem f60 {d : Nat} {P : MP} {I : MI} {L : ML} {C : MC} {Q : QT} {F B : Nat} {g : GS} (hF : FB P F) (hg : FR' I F g) (hv : FV B g) (hB : B ≤ 1000000) (hd : 2 ≤ d) : ∀ m i, i + m = 16 → X d 60 4 [.ref F, .int (nI (dif g i)), .int (nI i)] [] P I L C Q = Q (.inl (some (.int (nI (dif g 16))))) P I L C := by
  have hF' := hF
  obtain ⟨k0, p0, p1, p2, p3, y1, y2, y3, y4⟩ := hF'
  obtain ⟨v1, v2, v3, v4, v5⟩ := hv
  intro m
  induction m with
  | zero =>
    intro i h
    have : i = 16 := by omega
    subst this
    rw [X_go, d60_4]
    simp (disch := first | assumption | omega) only [Nat.reduceAdd, X_go, go2_some, stp, ldI, ldA, ldL, stI, stA, stL, o1I, o2I, o2L, brI, brII, gl, s1, s2, k1, sl, go_sN, go_sR, go_CT, go_sT, go_no, go_if, pops, bk_v, bk_0, d60_0, d60_1, d60_2, d60_3, d60_5, d60_7, d60_10, d60_11, d60_14, d60_15, d60_18, d60_21, d60_24, d60_27, d60_30, d60_31, n_lt, n_le, n_eq, n_lt0, n_ge0, n_gt0, n_le0, n_eq0, m_lt, m_le, m_gt, m_ge, m_eq, m_eq', m_lt0, m_ge0, m_gt0, m_le0, m_ltm, m_lem, n_in, m_in, n_cl, n_ti, n_div, n_rem', n_dec, n_l, nI_add, pk_mul, an0, an1, decide_eq_true_eq, if_true, if_false, ite_true, ite_false, and_true, true_and, and_false, false_and, not_true, not_false_iff, or_false, false_or, or_true, true_or, eq_self, va_some, Bool.false_eq_true, reduceIte, catS_n, catS_i, catS_r, catS_l, catS_d, Nat.zero_add, Nat.add_zero, decide_true, decide_false, Nat.reduceLeDiff, cat_r, cat_i, cat_l, nle_T, nle_F, nlt_T, nlt_F, neq_T, neq_F]
  | succ m ih =>
    intro i h
    have e := ih (i + 1) (by omega)
    have g1 := hg.1 i (by omega)
    have v4 := v4 i (by omega)
    have hs : dif g (i + 1) = dif g i + if 0 < g (124 + i) then 1 else 0 := rfl
    rw [X_go, d60_4]
    by_cases z : 0 < g (124 + i)
    · rw [hs, if_pos z] at e
      simp (disch := first | assumption | omega) only [Nat.reduceAdd, X_go, go2_some, stp, ldI, ldA, ldL, stI, stA, stL, o1I, o2I, o2L, brI, brII, gl, s1, s2, k1, sl, go_sN, go_sR, go_CT, go_sT, go_no, go_if, pops, bk_v, bk_0, d60_0, d60_1, d60_2, d60_3, d60_5, d60_7, d60_10, d60_11, d60_14, d60_15, d60_18, d60_21, d60_24, d60_27, d60_30, d60_31, n_lt, n_le, n_eq, n_lt0, n_ge0, n_gt0, n_le0, n_eq0, m_lt, m_le, m_gt, m_ge, m_eq, m_eq', m_lt0, m_ge0, m_gt0, m_le0, m_ltm, m_lem, n_in, m_in, n_cl, n_ti, n_div, n_rem', n_dec, n_l, nI_add, pk_mul, an0, an1, decide_eq_true_eq, if_true, if_false, ite_true, ite_false, and_true, true_and, and_false, false_and, not_true, not_false_iff, or_false, false_or, or_true, true_or, eq_self, va_some, Bool.false_eq_true, reduceIte, catS_n, catS_i, catS_r, catS_l, catS_d, Nat.zero_add, Nat.add_zero, decide_true, decide_false, Nat.reduceLeDiff, cat_r, cat_i, cat_l, nle_T, nle_F, nlt_T, nlt_F, neq_T, neq_F, k0, p0, c26 y1, g1, z]
      simp only [← X_go]
      exact e
    · rw [hs, if_neg z, Nat.add_zero] at e
      simp (disch := first | assumption | omega) only [Nat.reduceAdd, X_go, go2_some, stp, ldI, ldA, ldL, stI, stA, stL, o1I, o2I, o2L, brI, brII, gl, s1, s2, k1, sl, go_sN, go_sR, go_CT, go_sT, go_no, go_if, pops, bk_v, bk_0, d60_0, d60_1, d60_2, d60_3, d60_5, d60_7, d60_10, d60_11, d60_14, d60_15, d60_18, d60_21, d60_24, d60_27, d60_30, d60_31, n_lt, n_le, n_eq, n_lt0, n_ge0, n_gt0, n_le0, n_eq0, m_lt, m_le, m_gt, m_ge, m_eq, m_eq', m_lt0, m_ge0, m_gt0, m_le0, m_ltm, m_lem, n_in, m_in, n_cl, n_ti, n_div, n_rem', n_dec, n_l, nI_add, pk_mul, an0, an1, decide_eq_true_eq, if_true, if_false, ite_true, ite_false, and_true, true_and, and_false, false_and, not_true, not_false_iff, or_false, false_or, or_true, true_or, eq_self, va_some, Bool.false_eq_true, reduceIte, catS_n, catS_i, catS_r, catS_l, catS_d, Nat.zero_add, Nat.add_zero, decide_true, decide_false, Nat.reduceLeDiff, cat_r, cat_i, cat_l, nle_T, nle_F, nlt_T, nlt_F, neq_T, neq_F, k0, p0, c26 y1, g1, z]
      simp only [← X_go]
      exact e
theorem c60 {d : Nat} {P : MP} {I : MI} {L : ML} {C : MC} {Q : QT} {F B : Nat} {g : GS} (hF : FB P F) (hg : FR' I F g) (hv : FV B g) (hB : B ≤ 1000000) (hd : 3 ≤ d) : CT d 60 [.ref F] P I L C Q = Q (.inl (some (.int (nI (dif g 16))))) P I L C := by
  rw [CT_e (mj := 60) (e := [.ref F, UN, UN]) (by omega) rfl (Nat.le_of_ble_eq_true rfl)]
  simp (disch := first | assumption | omega) only [Nat.reduceAdd, X_go, go2_some, stp, ldI, ldA, ldL, stI, stA, stL, o1I, o2I, o2L, brI, brII, gl, s1, s2, k1, sl, go_sN, go_sR, go_CT, go_sT, go_no, go_if, pops, bk_v, bk_0, d60_0, d60_1, d60_2, d60_3, d60_5, d60_7, d60_10, d60_11, d60_14, d60_15, d60_18, d60_21, d60_24, d60_27, d60_30, d60_31, n_lt, n_le, n_eq, n_lt0, n_ge0, n_gt0, n_le0, n_eq0, m_lt, m_le, m_gt, m_ge, m_eq, m_eq', m_lt0, m_ge0, m_gt0, m_le0, m_ltm, m_lem, n_in, m_in, n_cl, n_ti, n_div, n_rem', n_dec, n_l, nI_add, pk_mul, an0, an1, decide_eq_true_eq, if_true, if_false, ite_true, ite_false, and_true, true_and, and_false, false_and, not_true, not_false_iff, or_false, false_or, or_true, true_or, eq_self, va_some, Bool.false_eq_true, reduceIte, catS_n, catS_i, catS_r, catS_l, catS_d, Nat.zero_add, Nat.add_zero, decide_true, decide_false, Nat.reduceLeDiff, cat_r, cat_i, cat_l, nle_T, nle_F, nlt_T, nlt_F, neq_T, neq_F]
  simp only [← X_go]
  exact f60 hF hg hv hB (by omega) 16 0 rfl
/-- how many openings the latest finds are of -/
def difO (g : GS) (n : Nat) : Nat := sm n (fun i => if i = 0 ∨ g (141 + 3 * i + 2) ≠ g (141 + 3 * (i - 1) + 2) then 1 else 0)
def prv (g : GS) : Nat → Int32
  | 0 => nI 4294967295
  | i + 1 => nI (g (141 + 3 * i + 2))
theorem d32_0 : dec 32 0 = some (.iconst 0, 1, [0]) := rfl
theorem d32_1 : dec 32 1 = some (.istore_n 1, 1, []) := rfl
theorem d32_2 : dec 32 2 = some (.iconst (-1), 1, [4294967295]) := rfl
theorem d32_3 : dec 32 3 = some (.istore_n 2, 1, []) := rfl
theorem d32_4 : dec 32 4 = some (.iconst 0, 1, [0]) := rfl
theorem d32_5 : dec 32 5 = some (.istore_n 3, 1, []) := rfl
theorem d32_6 : dec 32 6 = some (.iload_n 3, 1, []) := rfl
theorem d32_7 : dec 32 7 = some (.aload_n 0, 1, []) := rfl
theorem d32_8 : dec 32 8 = some (.invokevirtual 52, 3, [2, 33, 2, 2, 0, 629]) := rfl
theorem d32_11 : dec 32 11 = some (.if_icmp .ge 29, 3, [40]) := rfl
theorem d32_14 : dec 32 14 = some (.aload_n 0, 1, []) := rfl
theorem d32_15 : dec 32 15 = some (.iload_n 3, 1, []) := rfl
theorem d32_16 : dec 32 16 = some (.iconst 2, 1, [2]) := rfl
theorem d32_17 : dec 32 17 = some (.invokevirtual 56, 3, [2, 34, 2, 2, 0, 919, 0, 0]) := rfl
theorem d32_20 : dec 32 20 = some (.istore 4, 2, []) := rfl
theorem d32_22 : dec 32 22 = some (.iload 4, 2, []) := rfl
theorem d32_24 : dec 32 24 = some (.iload_n 2, 1, []) := rfl
theorem d32_25 : dec 32 25 = some (.if_icmp .eq 6, 3, [31]) := rfl
theorem d32_28 : dec 32 28 = some (.iinc 1 1, 3, [1]) := rfl
theorem d32_31 : dec 32 31 = some (.iload 4, 2, []) := rfl
theorem d32_33 : dec 32 33 = some (.istore_n 2, 1, []) := rfl
theorem d32_34 : dec 32 34 = some (.iinc 3 1, 3, [1]) := rfl
theorem d32_37 : dec 32 37 = some (.goto (-31), 3, [6]) := rfl
theorem d32_40 : dec 32 40 = some (.iload_n 1, 1, []) := rfl
theorem d32_41 : dec 32 41 = some (.ireturn, 1, [0]) := rfl
theorem l32 : mL 32 = 5 := rfl
theorem f32 {d : Nat} {P : MP} {I : MI} {L : ML} {C : MC} {Q : QT} {F B : Nat} {g : GS} (hF : FB P F) (hg : FR' I F g) (hv : FV B g) (hB : B ≤ 1000000) (hd : 3 ≤ d) : ∀ m i (u : Value), i + m = g 140 → X d 32 6 [.ref F, .int (nI (difO g i)), .int (prv g i), .int (nI i), u] [] P I L C Q = Q (.inl (some (.int (nI (difO g (g 140)))))) P I L C := by
  have hF' := hF
  obtain ⟨k0, p0, p1, p2, p3, y1, y2, y3, y4⟩ := hF'
  have hv' := hv
  obtain ⟨v1, v2, v3, v4, v5⟩ := hv'
  intro m
  induction m with
  | zero =>
    intro i u h
    have : i = g 140 := by omega
    subst this
    rw [X_go, d32_6]
    simp (disch := first | assumption | omega) only [Nat.reduceAdd, X_go, go2_some, stp, ldI, ldA, ldL, stI, stA, stL, o1I, o2I, o2L, brI, brII, gl, s1, s2, k1, sl, go_sN, go_sR, go_CT, go_sT, go_no, go_if, pops, bk_v, bk_0, d32_0, d32_1, d32_2, d32_3, d32_4, d32_5, d32_7, d32_8, d32_11, d32_14, d32_15, d32_16, d32_17, d32_20, d32_22, d32_24, d32_25, d32_28, d32_31, d32_33, d32_34, d32_37, d32_40, d32_41, n_lt, n_le, n_eq, n_lt0, n_ge0, n_gt0, n_le0, n_eq0, m_lt, m_le, m_gt, m_ge, m_eq, m_eq', m_lt0, m_ge0, m_gt0, m_le0, m_ltm, m_lem, n_in, m_in, n_cl, n_ti, n_div, n_rem', n_dec, n_l, nI_add, pk_mul, an0, an1, decide_eq_true_eq, if_true, if_false, ite_true, ite_false, and_true, true_and, and_false, false_and, not_true, not_false_iff, or_false, false_or, or_true, true_or, eq_self, va_some, Bool.false_eq_true, reduceIte, catS_n, catS_i, catS_r, catS_l, catS_d, Nat.zero_add, Nat.add_zero, decide_true, decide_false, Nat.reduceLeDiff, cat_r, cat_i, cat_l, nle_T, nle_F, nlt_T, nlt_F, neq_T, neq_F, k0, c33 hF hg hv hB]
  | succ m ih =>
    intro i u h
    have e := ih (i + 1) (.int (nI (g (141 + 3 * i + 2)))) (by omega)
    have h5 := (v5 i (by omega)).2.2
    have ht : tellG g i 2 = nI (g (141 + 3 * i + 2)) := if_pos (by omega)
    have hs : difO g (i + 1) = difO g i + if i = 0 ∨ g (141 + 3 * i + 2) ≠ g (141 + 3 * (i - 1) + 2) then 1 else 0 := rfl
    have hp : prv g (i + 1) = nI (g (141 + 3 * i + 2)) := rfl
    rw [X_go, d32_6]
    rw [hp] at e
    cases i with
    | zero =>
      rw [hs, if_pos (.inl rfl)] at e
      have hp0 : prv g 0 = nI 4294967295 := rfl
      rw [hp0]
      simp (disch := first | assumption | omega) only [Nat.reduceAdd, X_go, go2_some, stp, ldI, ldA, ldL, stI, stA, stL, o1I, o2I, o2L, brI, brII, gl, s1, s2, k1, sl, go_sN, go_sR, go_CT, go_sT, go_no, go_if, pops, bk_v, bk_0, d32_0, d32_1, d32_2, d32_3, d32_4, d32_5, d32_7, d32_8, d32_11, d32_14, d32_15, d32_16, d32_17, d32_20, d32_22, d32_24, d32_25, d32_28, d32_31, d32_33, d32_34, d32_37, d32_40, d32_41, n_lt, n_le, n_eq, n_lt0, n_ge0, n_gt0, n_le0, n_eq0, m_lt, m_le, m_gt, m_ge, m_eq, m_eq', m_lt0, m_ge0, m_gt0, m_le0, m_ltm, m_lem, n_in, m_in, n_cl, n_ti, n_div, n_rem', n_dec, n_l, nI_add, pk_mul, an0, an1, decide_eq_true_eq, if_true, if_false, ite_true, ite_false, and_true, true_and, and_false, false_and, not_true, not_false_iff, or_false, false_or, or_true, true_or, eq_self, va_some, Bool.false_eq_true, reduceIte, catS_n, catS_i, catS_r, catS_l, catS_d, Nat.zero_add, Nat.add_zero, decide_true, decide_false, Nat.reduceLeDiff, cat_r, cat_i, cat_l, nle_T, nle_F, nlt_T, nlt_F, neq_T, neq_F, k0, c33 hF hg hv hB, c34 hF hg hv hB, ht]
      simp only [← X_go]
      exact e
    | succ n =>
      have h6 := (v5 n (by omega)).2.2
      have hp0 : prv g (n + 1) = nI (g (141 + 3 * n + 2)) := rfl
      rw [hp0]
      by_cases z : g (141 + 3 * (n + 1) + 2) = g (141 + 3 * n + 2)
      · rw [hs, if_neg (by rw [show n + 1 - 1 = n by omega]; omega), Nat.add_zero] at e
        simp (disch := first | assumption | omega) only [Nat.reduceAdd, X_go, go2_some, stp, ldI, ldA, ldL, stI, stA, stL, o1I, o2I, o2L, brI, brII, gl, s1, s2, k1, sl, go_sN, go_sR, go_CT, go_sT, go_no, go_if, pops, bk_v, bk_0, d32_0, d32_1, d32_2, d32_3, d32_4, d32_5, d32_7, d32_8, d32_11, d32_14, d32_15, d32_16, d32_17, d32_20, d32_22, d32_24, d32_25, d32_28, d32_31, d32_33, d32_34, d32_37, d32_40, d32_41, n_lt, n_le, n_eq, n_lt0, n_ge0, n_gt0, n_le0, n_eq0, m_lt, m_le, m_gt, m_ge, m_eq, m_eq', m_lt0, m_ge0, m_gt0, m_le0, m_ltm, m_lem, n_in, m_in, n_cl, n_ti, n_div, n_rem', n_dec, n_l, nI_add, pk_mul, an0, an1, decide_eq_true_eq, if_true, if_false, ite_true, ite_false, and_true, true_and, and_false, false_and, not_true, not_false_iff, or_false, false_or, or_true, true_or, eq_self, va_some, Bool.false_eq_true, reduceIte, catS_n, catS_i, catS_r, catS_l, catS_d, Nat.zero_add, Nat.add_zero, decide_true, decide_false, Nat.reduceLeDiff, cat_r, cat_i, cat_l, nle_T, nle_F, nlt_T, nlt_F, neq_T, neq_F, k0, c33 hF hg hv hB, c34 hF hg hv hB, ht]
        simp only [← X_go]
        exact e
      · rw [hs, if_pos (by rw [show n + 1 - 1 = n by omega]; omega)] at e
        simp (disch := first | assumption | omega) only [Nat.reduceAdd, X_go, go2_some, stp, ldI, ldA, ldL, stI, stA, stL, o1I, o2I, o2L, brI, brII, gl, s1, s2, k1, sl, go_sN, go_sR, go_CT, go_sT, go_no, go_if, pops, bk_v, bk_0, d32_0, d32_1, d32_2, d32_3, d32_4, d32_5, d32_7, d32_8, d32_11, d32_14, d32_15, d32_16, d32_17, d32_20, d32_22, d32_24, d32_25, d32_28, d32_31, d32_33, d32_34, d32_37, d32_40, d32_41, n_lt, n_le, n_eq, n_lt0, n_ge0, n_gt0, n_le0, n_eq0, m_lt, m_le, m_gt, m_ge, m_eq, m_eq', m_lt0, m_ge0, m_gt0, m_le0, m_ltm, m_lem, n_in, m_in, n_cl, n_ti, n_div, n_rem', n_dec, n_l, nI_add, pk_mul, an0, an1, decide_eq_true_eq, if_true, if_false, ite_true, ite_false, and_true, true_and, and_false, false_and, not_true, not_false_iff, or_false, false_or, or_true, true_or, eq_self, va_some, Bool.false_eq_true, reduceIte, catS_n, catS_i, catS_r, catS_l, catS_d, Nat.zero_add, Nat.add_zero, decide_true, decide_false, Nat.reduceLeDiff, cat_r, cat_i, cat_l, nle_T, nle_F, nlt_T, nlt_F, neq_T, neq_F, k0, c33 hF hg hv hB, c34 hF hg hv hB, ht]
        simp only [← X_go]
        exact e
theorem c32 {d : Nat} {P : MP} {I : MI} {L : ML} {C : MC} {Q : QT} {F B : Nat} {g : GS} (hF : FB P F) (hg : FR' I F g) (hv : FV B g) (hB : B ≤ 1000000) (hd : 4 ≤ d) : CT d 32 [.ref F] P I L C Q = Q (.inl (some (.int (nI (difO g (g 140)))))) P I L C := by
  rw [CT_e (mj := 32) (e := [.ref F, UN, UN, UN, UN]) (by omega) rfl (Nat.le_of_ble_eq_true rfl)]
  simp (disch := first | assumption | omega) only [Nat.reduceAdd, X_go, go2_some, stp, ldI, ldA, ldL, stI, stA, stL, o1I, o2I, o2L, brI, brII, gl, s1, s2, k1, sl, go_sN, go_sR, go_CT, go_sT, go_no, go_if, pops, bk_v, bk_0, d32_0, d32_1, d32_2, d32_3, d32_4, d32_5, d32_7, d32_8, d32_11, d32_14, d32_15, d32_16, d32_17, d32_20, d32_22, d32_24, d32_25, d32_28, d32_31, d32_33, d32_34, d32_37, d32_40, d32_41, n_lt, n_le, n_eq, n_lt0, n_ge0, n_gt0, n_le0, n_eq0, m_lt, m_le, m_gt, m_ge, m_eq, m_eq', m_lt0, m_ge0, m_gt0, m_le0, m_ltm, m_lem, n_in, m_in, n_cl, n_ti, n_div, n_rem', n_dec, n_l, nI_add, pk_mul, an0, an1, decide_eq_true_eq, if_true, if_false, ite_true, ite_false, and_true, true_and, and_false, false_and, not_true, not_false_iff, or_false, false_or, or_true, true_or, eq_self, va_some, Bool.false_eq_true, reduceIte, catS_n, catS_i, catS_r, catS_l, catS_d, Nat.zero_add, Nat.add_zero, decide_true, decide_false, Nat.reduceLeDiff, cat_r, cat_i, cat_l, nle_T, nle_F, nlt_T, nlt_F, neq_T, neq_F]
  simp only [← X_go]
  exact f32 hF hg hv hB (by omega) (g 140) 0 _ (by omega)
