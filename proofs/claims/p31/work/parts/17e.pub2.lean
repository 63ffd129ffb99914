/-! CALLS of the class: entries, openings, finds, text, undo -/
theorem RC_tr {I I' : MI} {b : Nat} {g g' : GS} (hg : RC I b g) (hT : TR I' (b + 1) g') (h : ∀ k j, b + 10 ≤ k → k ≤ b + 17 → I' k j = I k j) (hk : ∀ k, 114 ≤ k → g' k = g k) (hc : g 140 ≤ 20) : RC I' b g' :=
  ⟨hT, LR_g (LR_fr hg.2.1 fun k j q1 q2 => h k j (by omega) (by omega)) (fun k q1 q2 => hk k q1), FR_g (FR_fr hg.2.2 fun k j q1 q2 => h k j (by omega) (by omega)) (fun k q1 q2 => hk k (by omega)) hc⟩
theorem d90_0 : dec 90 0 = some (.iload_n 1, 1, []) := rfl
theorem d90_1 : dec 90 1 = some (.invokestatic 64, 3, [2, 86, 0, 9, 0, 507, 0]) := rfl
theorem d90_4 : dec 90 4 = some (.iload_n 2, 1, []) := rfl
theorem d90_5 : dec 90 5 = some (.iconst 0, 1, [0]) := rfl
theorem d90_6 : dec 90 6 = some (.bipush 18, 2, [18]) := rfl
theorem d90_8 : dec 90 8 = some (.invokestatic 68, 3, [2, 87, 0, 9, 0, 434, 0, 0, 0]) := rfl
theorem d90_11 : dec 90 11 = some (.iload_n 1, 1, []) := rfl
theorem d90_12 : dec 90 12 = some (.iload_n 2, 1, []) := rfl
theorem d90_13 : dec 90 13 = some (.invokestatic 86, 3, [2, 50, 0, 9, 0, 662, 0, 0]) := rfl
theorem d90_16 : dec 90 16 = some (.ifCond .eq 13, 3, [29]) := rfl
theorem d90_19 : dec 90 19 = some (.new 90, 3, [6, 1, 437]) := rfl
theorem d90_22 : dec 90 22 = some (.dup, 1, []) := rfl
theorem d90_23 : dec 90 23 = some (.ldc 92, 2, []) := rfl
theorem d90_25 : dec 90 25 = some (.invokespecial 94, 3, []) := rfl
theorem d90_28 : dec 90 28 = some (.athrow, 1, []) := rfl
theorem d90_29 : dec 90 29 = some (.iload_n 3, 1, []) := rfl
theorem d90_30 : dec 90 30 = some (.iconst 1, 1, [1]) := rfl
theorem d90_31 : dec 90 31 = some (.sipush 1000, 3, [1000]) := rfl
theorem d90_34 : dec 90 34 = some (.invokestatic 68, 3, [2, 87, 0, 9, 0, 434, 0, 0, 0]) := rfl
theorem d90_37 : dec 90 37 = some (.iload 4, 2, []) := rfl
theorem d90_39 : dec 90 39 = some (.iconst 0, 1, [0]) := rfl
theorem d90_40 : dec 90 40 = some (.iload_n 2, 1, []) := rfl
theorem d90_41 : dec 90 41 = some (.invokestatic 97, 3, [2, 53, 0, 9, 0, 668, 0]) := rfl
theorem d90_44 : dec 90 44 = some (.invokestatic 68, 3, [2, 87, 0, 9, 0, 434, 0, 0, 0]) := rfl
theorem d90_47 : dec 90 47 = some (.iload 5, 2, []) := rfl
theorem d90_49 : dec 90 49 = some (.iconst 0, 1, [0]) := rfl
theorem d90_50 : dec 90 50 = some (.iconst 3, 1, [3]) := rfl
theorem d90_51 : dec 90 51 = some (.invokestatic 68, 3, [2, 87, 0, 9, 0, 434, 0, 0, 0]) := rfl
theorem d90_54 : dec 90 54 = some (.aload_n 0, 1, []) := rfl
theorem d90_55 : dec 90 55 = some (.getfield 12, 3, [1, 9, 0, 2, 0, 267]) := rfl
theorem d90_58 : dec 90 58 = some (.getfield 75, 3, [1, 6, 0, 2, 1, 138]) := rfl
theorem d90_61 : dec 90 61 = some (.iload_n 1, 1, []) := rfl
theorem d90_62 : dec 90 62 = some (.invokevirtual 101, 3, [2, 25, 2, 7, 0, 531, 0]) := rfl
theorem d90_65 : dec 90 65 = some (.bipush 6, 2, [6]) := rfl
theorem d90_67 : dec 90 67 = some (.if_icmp .lt 13, 3, [80]) := rfl
theorem d90_70 : dec 90 70 = some (.new 104, 3, [6, 2, 311]) := rfl
theorem d90_73 : dec 90 73 = some (.dup, 1, []) := rfl
theorem d90_74 : dec 90 74 = some (.ldc 106, 2, []) := rfl
theorem d90_76 : dec 90 76 = some (.invokespecial 108, 3, []) := rfl
theorem d90_79 : dec 90 79 = some (.athrow, 1, []) := rfl
theorem d90_80 : dec 90 80 = some (.aload_n 0, 1, []) := rfl
theorem d90_81 : dec 90 81 = some (.invokevirtual 72, 3, [2, 11, 2, 9, 0, 641]) := rfl
theorem d90_84 : dec 90 84 = some (.aload_n 0, 1, []) := rfl
theorem d90_85 : dec 90 85 = some (.getfield 12, 3, [1, 9, 0, 2, 0, 267]) := rfl
theorem d90_88 : dec 90 88 = some (.getfield 75, 3, [1, 6, 0, 2, 1, 138]) := rfl
theorem d90_91 : dec 90 91 = some (.iload_n 1, 1, []) := rfl
theorem d90_92 : dec 90 92 = some (.iload_n 2, 1, []) := rfl
theorem d90_93 : dec 90 93 = some (.iload_n 3, 1, []) := rfl
theorem d90_94 : dec 90 94 = some (.iload 4, 2, []) := rfl
theorem d90_96 : dec 90 96 = some (.iload 5, 2, []) := rfl
theorem d90_98 : dec 90 98 = some (.iload 6, 2, []) := rfl
theorem d90_100 : dec 90 100 = some (.invokevirtual 109, 3, [2, 55, 2, 7, 0, 672, 0, 0, 0, 0, 0, 0]) := rfl
theorem d90_103 : dec 90 103 = some (.ireturn, 1, [0]) := rfl
theorem l90 : mL 90 = 7 := rfl
theorem x90 : (mG 90).2.2.2.2 = [] := rfl
theorem c90 {d : Nat} {P : MP} {I : MI} {L : ML} {C : MC} {t w we ra gr on : Nat} {B n len : Nat} {g : GS} {ps : Nat → GS} {tx : Nat → Nat} (hX : XB P) (hR : XR I L g n ps len tx) (hA : AV B g n ps len tx) (hd : 8 ≤ d) (ht : t < 3) (hw : w ≤ 18) (hlo : w < 16 ∨ t + 16 < w) (h1 : 1 ≤ we) (h2 : we ≤ 1000) (hra : ra ≤ 3) (hra2 : 16 ≤ w → ra = 0) (hgr : gr ≤ 3) (ho : on ≤ 1) (hc : g (3 + t) < 6) : ∃ I', XR I' L (addG g t w we ra gr on) (puN n) (puS n ps g) len tx ∧ fo I I' ∧ ∀ Q, CT d 90 [.ref 1, .int (nI t), .int (nI w), .int (nI we), .int (nI ra), .int (nI gr), .int (nI on)] P I L C Q = Q (.inl (some (.int (nI (g (3 + t)))))) P I' L C := by
  have hX' := hX
  obtain ⟨k0, ⟨p0, p1, p2, p3, p4, p5, p6, p7, p8⟩, hS, hS2, hV, ⟨x0, x1, x2⟩, hT2, hO, hD, hH, hH2⟩ := hX'
  have hS' := hS
  obtain ⟨l0, r0, r1, r2, hT, hK, hF⟩ := hS'
  have hT' := hT
  have hK' := hK
  have hF' := hF
  have hR' := hR
  have hA' := hA
  obtain ⟨⟨m0, q0, q1, q2, q3, q4, q5, q6, q7⟩, z1, z2, z3, z4, z5, z6, z7, z8⟩ := hT'
  obtain ⟨w0, w1, w2, w3, w4⟩ := hK'
  obtain ⟨f0, f1, f2, f3, f4, f5, f6, f7, f8⟩ := hF'
  obtain ⟨hg, hVR, hXT, hCC⟩ := hR'
  obtain ⟨hGV, hps, hn4, hlen, htx⟩ := hA'
  have h140 := GV_140 hGV
  have hv := hGV.1
  have hl := hGV.2.1
  have hFv := hGV.2.2
  obtain ⟨J, j1, j2, j3, j4, j5⟩ := c11 (d := d - 1) (C := C) hX hR hv (by omega)
  have hll : ¬ (16 ≤ w ∧ w ≤ t + 16) := by omega
  have hmx : (if w < 16 then 3 else 0) < 2147483648 := by split <;> omega
  have hrr : ra ≤ (if w < 16 then 3 else 0) := by split <;> omega
  refine ⟨xu (xu (xu (xu (xu (xu (xu J 6 (6 * t + g (3 + t)) (nI w)) 7 (6 * t + g (3 + t)) (nI we)) 8 (6 * t + g (3 + t)) (nI ra)) 9 (6 * t + g (3 + t)) (nI gr)) 10 (6 * t + g (3 + t)) (nI on)) 11 (6 * t + g (3 + t)) (nI 0)) 5 t (nI (g (3 + t) + 1)), XR_mk hR (RC_tr j1 (TR_add (T := 3) j1.1 hv ht hc) (fun k j h h' => ?_) (fun k h => addG_o ht hc (.inr h)) h140) (VR_fr j2 fun k j h h' => ?_) ?_ (fun k j h => ?_), fun k j h => ?_, fun Q => ?_⟩
  · simp (disch := omega) only [xu_n]
  · simp (disch := omega) only [xu_n]
  · simp (disch := omega) only [xu_n]; exact j3
  · simp (disch := omega) only [xu_n]; rw [j4 k j (by omega) (by omega)]
  · simp (disch := omega) only [xu_n]; rw [j4 k j (by omega) (by omega)]
  · rw [CT_e (mj := 90) (e := [.ref 1, .int (nI t), .int (nI w), .int (nI we), .int (nI ra), .int (nI gr), .int (nI on)]) (by omega) rfl (Nat.le_of_ble_eq_true rfl)]
    simp (disch := first | assumption | omega) only [Nat.reduceAdd, X_go, go2_some, stp, ldI, ldA, ldL, stI, stA, stL, o1I, o2I, o2L, brI, brII, gl, s1, s2, k1, sl, go_sN, go_sR, go_CT, go_sT, go_no, go_if, pops, bk_v, bk_0, d90_0, d90_1, d90_4, d90_5, d90_6, d90_8, d90_11, d90_12, d90_13, d90_16, d90_19, d90_22, d90_23, d90_25, d90_28, d90_29, d90_30, d90_31, d90_34, d90_37, d90_39, d90_40, d90_41, d90_44, d90_47, d90_49, d90_50, d90_51, d90_54, d90_55, d90_58, d90_61, d90_62, d90_65, d90_67, d90_70, d90_73, d90_74, d90_76, d90_79, d90_80, d90_81, d90_84, d90_85, d90_88, d90_91, d90_92, d90_93, d90_94, d90_96, d90_98, d90_100, d90_103, n_lt, n_le, n_eq, n_lt0, n_ge0, n_gt0, n_le0, n_eq0, m_lt, m_le, m_gt, m_ge, m_eq, m_eq', m_lt0, m_ge0, m_gt0, m_le0, m_ltm, m_lem, n_in, m_in, n_cl, n_ti, n_div, n_rem', n_dec, n_l, nI_add, pk_mul, an0, an1, decide_eq_true_eq, if_true, if_false, ite_true, ite_false, and_true, true_and, and_false, false_and, not_true, not_false_iff, or_false, false_or, or_true, true_or, eq_self, va_some, Bool.false_eq_true, reduceIte, catS_n, catS_i, catS_r, catS_l, catS_d, Nat.zero_add, Nat.add_zero, decide_true, decide_false, Nat.reduceLeDiff, cat_r, cat_i, cat_l, nle_T, nle_F, nlt_T, nlt_F, neq_T, neq_F, k0, p0, p1, p2, p3, p4, p5, p6, p7, p8, x0, x1, x2, l0, r0, r1, r2, m0, q0, q1, q2, q3, q4, q5, q6, q7, w0, w1, w2, f0, f1, f2, f3, f4, c86, c87, c50, hll, c53, c25g hT hg.1, j5, c55 hT j1.1]
    done
theorem c90t {d : Nat} {P : MP} {I : MI} {L : ML} {C : MC} {Q : QT} {x x2 x3 x4 x5 x6 : Int32} (hd : 8 ≤ d) (hx : x < 0 ∨ nI 3 ≤ x) : CT d 90 [.ref 1, .int x, .int x2, .int x3, .int x4, .int x5, .int x6] P I L C Q = Q (.inr 0) P I L (C.1 + 1, C.2 + 6) := by
  rw [CT_e (mj := 90) (e := [.ref 1, .int x, .int x2, .int x3, .int x4, .int x5, .int x6]) (by omega) rfl (Nat.le_of_ble_eq_true rfl)]
  simp (disch := first | assumption | omega) only [Nat.reduceAdd, X_go, go2_some, stp, ldI, ldA, ldL, stI, stA, stL, o1I, o2I, o2L, brI, brII, gl, s1, s2, k1, sl, go_sN, go_sR, go_CT, go_sT, go_no, go_if, pops, bk_v, bk_0, d90_0, d90_1, d90_4, d90_5, d90_6, d90_8, d90_11, d90_12, d90_13, d90_16, d90_19, d90_22, d90_23, d90_25, d90_28, d90_29, d90_30, d90_31, d90_34, d90_37, d90_39, d90_40, d90_41, d90_44, d90_47, d90_49, d90_50, d90_51, d90_54, d90_55, d90_58, d90_61, d90_62, d90_65, d90_67, d90_70, d90_73, d90_74, d90_76, d90_79, d90_80, d90_81, d90_84, d90_85, d90_88, d90_91, d90_92, d90_93, d90_94, d90_96, d90_98, d90_100, d90_103, n_lt, n_le, n_eq, n_lt0, n_ge0, n_gt0, n_le0, n_eq0, m_lt, m_le, m_gt, m_ge, m_eq, m_eq', m_lt0, m_ge0, m_gt0, m_le0, m_ltm, m_lem, n_in, m_in, n_cl, n_ti, n_div, n_rem', n_dec, n_l, nI_add, pk_mul, an0, an1, decide_eq_true_eq, if_true, if_false, ite_true, ite_false, and_true, true_and, and_false, false_and, not_true, not_false_iff, or_false, false_or, or_true, true_or, eq_self, va_some, Bool.false_eq_true, reduceIte, catS_n, catS_i, catS_r, catS_l, catS_d, Nat.zero_add, Nat.add_zero, decide_true, decide_false, Nat.reduceLeDiff, cat_r, cat_i, cat_l, nle_T, nle_F, nlt_T, nlt_F, neq_T, neq_F, c86b, bk_x x90]
  done
theorem c90w {d : Nat} {P : MP} {I : MI} {L : ML} {C : MC} {Q : QT} {t : Nat} {x2 x3 x4 x5 x6 : Int32} (hd : 8 ≤ d) (ht : t < 3) (hx : x2 < 0 ∨ nI 18 < x2) : CT d 90 [.ref 1, .int (nI t), .int x2, .int x3, .int x4, .int x5, .int x6] P I L C Q = Q (.inr 1) P I L (C.1 + 1, C.2 + 6) := by
  rw [CT_e (mj := 90) (e := [.ref 1, .int (nI t), .int x2, .int x3, .int x4, .int x5, .int x6]) (by omega) rfl (Nat.le_of_ble_eq_true rfl)]
  simp (disch := first | assumption | omega) only [Nat.reduceAdd, X_go, go2_some, stp, ldI, ldA, ldL, stI, stA, stL, o1I, o2I, o2L, brI, brII, gl, s1, s2, k1, sl, go_sN, go_sR, go_CT, go_sT, go_no, go_if, pops, bk_v, bk_0, d90_0, d90_1, d90_4, d90_5, d90_6, d90_8, d90_11, d90_12, d90_13, d90_16, d90_19, d90_22, d90_23, d90_25, d90_28, d90_29, d90_30, d90_31, d90_34, d90_37, d90_39, d90_40, d90_41, d90_44, d90_47, d90_49, d90_50, d90_51, d90_54, d90_55, d90_58, d90_61, d90_62, d90_65, d90_67, d90_70, d90_73, d90_74, d90_76, d90_79, d90_80, d90_81, d90_84, d90_85, d90_88, d90_91, d90_92, d90_93, d90_94, d90_96, d90_98, d90_100, d90_103, n_lt, n_le, n_eq, n_lt0, n_ge0, n_gt0, n_le0, n_eq0, m_lt, m_le, m_gt, m_ge, m_eq, m_eq', m_lt0, m_ge0, m_gt0, m_le0, m_ltm, m_lem, n_in, m_in, n_cl, n_ti, n_div, n_rem', n_dec, n_l, nI_add, pk_mul, an0, an1, decide_eq_true_eq, if_true, if_false, ite_true, ite_false, and_true, true_and, and_false, false_and, not_true, not_false_iff, or_false, false_or, or_true, true_or, eq_self, va_some, Bool.false_eq_true, reduceIte, catS_n, catS_i, catS_r, catS_l, catS_d, Nat.zero_add, Nat.add_zero, decide_true, decide_false, Nat.reduceLeDiff, cat_r, cat_i, cat_l, nle_T, nle_F, nlt_T, nlt_F, neq_T, neq_F, c86, c87b (y := nI 0) (hx := hx), bk_x x90]
  done
theorem c90l {d : Nat} {P : MP} {I : MI} {L : ML} {C : MC} {Q : QT} {t w : Nat} {x3 x4 x5 x6 : Int32} (hd : 8 ≤ d) (ht : t < 3) (hw : w ≤ 18) (hx : 16 ≤ w ∧ w ≤ t + 16) : CT d 90 [.ref 1, .int (nI t), .int (nI w), .int x3, .int x4, .int x5, .int x6] P I L C Q = Q (.inr 1) P I L (C.1 + 1, C.2 + 6) := by
  rw [CT_e (mj := 90) (e := [.ref 1, .int (nI t), .int (nI w), .int x3, .int x4, .int x5, .int x6]) (by omega) rfl (Nat.le_of_ble_eq_true rfl)]
  simp (disch := first | assumption | omega) only [Nat.reduceAdd, X_go, go2_some, stp, ldI, ldA, ldL, stI, stA, stL, o1I, o2I, o2L, brI, brII, gl, s1, s2, k1, sl, go_sN, go_sR, go_CT, go_sT, go_no, go_if, pops, bk_v, bk_0, d90_0, d90_1, d90_4, d90_5, d90_6, d90_8, d90_11, d90_12, d90_13, d90_16, d90_19, d90_22, d90_23, d90_25, d90_28, d90_29, d90_30, d90_31, d90_34, d90_37, d90_39, d90_40, d90_41, d90_44, d90_47, d90_49, d90_50, d90_51, d90_54, d90_55, d90_58, d90_61, d90_62, d90_65, d90_67, d90_70, d90_73, d90_74, d90_76, d90_79, d90_80, d90_81, d90_84, d90_85, d90_88, d90_91, d90_92, d90_93, d90_94, d90_96, d90_98, d90_100, d90_103, n_lt, n_le, n_eq, n_lt0, n_ge0, n_gt0, n_le0, n_eq0, m_lt, m_le, m_gt, m_ge, m_eq, m_eq', m_lt0, m_ge0, m_gt0, m_le0, m_ltm, m_lem, n_in, m_in, n_cl, n_ti, n_div, n_rem', n_dec, n_l, nI_add, pk_mul, an0, an1, decide_eq_true_eq, if_true, if_false, ite_true, ite_false, and_true, true_and, and_false, false_and, not_true, not_false_iff, or_false, false_or, or_true, true_or, eq_self, va_some, Bool.false_eq_true, reduceIte, catS_n, catS_i, catS_r, catS_l, catS_d, Nat.zero_add, Nat.add_zero, decide_true, decide_false, Nat.reduceLeDiff, cat_r, cat_i, cat_l, nle_T, nle_F, nlt_T, nlt_F, neq_T, neq_F, c86, c87, c50, hx, bk_x x90]
  done
theorem c90g {d : Nat} {P : MP} {I : MI} {L : ML} {C : MC} {Q : QT} {t w : Nat} {x3 x4 x5 x6 : Int32} (hd : 8 ≤ d) (ht : t < 3) (hw : w ≤ 18) (hlo : w < 16 ∨ t + 16 < w) (hx : x3 < nI 1 ∨ nI 1000 < x3) : CT d 90 [.ref 1, .int (nI t), .int (nI w), .int x3, .int x4, .int x5, .int x6] P I L C Q = Q (.inr 1) P I L (C.1 + 1, C.2 + 6) := by
  have hll : ¬ (16 ≤ w ∧ w ≤ t + 16) := by omega
  rw [CT_e (mj := 90) (e := [.ref 1, .int (nI t), .int (nI w), .int x3, .int x4, .int x5, .int x6]) (by omega) rfl (Nat.le_of_ble_eq_true rfl)]
  simp (disch := first | assumption | omega) only [Nat.reduceAdd, X_go, go2_some, stp, ldI, ldA, ldL, stI, stA, stL, o1I, o2I, o2L, brI, brII, gl, s1, s2, k1, sl, go_sN, go_sR, go_CT, go_sT, go_no, go_if, pops, bk_v, bk_0, d90_0, d90_1, d90_4, d90_5, d90_6, d90_8, d90_11, d90_12, d90_13, d90_16, d90_19, d90_22, d90_23, d90_25, d90_28, d90_29, d90_30, d90_31, d90_34, d90_37, d90_39, d90_40, d90_41, d90_44, d90_47, d90_49, d90_50, d90_51, d90_54, d90_55, d90_58, d90_61, d90_62, d90_65, d90_67, d90_70, d90_73, d90_74, d90_76, d90_79, d90_80, d90_81, d90_84, d90_85, d90_88, d90_91, d90_92, d90_93, d90_94, d90_96, d90_98, d90_100, d90_103, n_lt, n_le, n_eq, n_lt0, n_ge0, n_gt0, n_le0, n_eq0, m_lt, m_le, m_gt, m_ge, m_eq, m_eq', m_lt0, m_ge0, m_gt0, m_le0, m_ltm, m_lem, n_in, m_in, n_cl, n_ti, n_div, n_rem', n_dec, n_l, nI_add, pk_mul, an0, an1, decide_eq_true_eq, if_true, if_false, ite_true, ite_false, and_true, true_and, and_false, false_and, not_true, not_false_iff, or_false, false_or, or_true, true_or, eq_self, va_some, Bool.false_eq_true, reduceIte, catS_n, catS_i, catS_r, catS_l, catS_d, Nat.zero_add, Nat.add_zero, decide_true, decide_false, Nat.reduceLeDiff, cat_r, cat_i, cat_l, nle_T, nle_F, nlt_T, nlt_F, neq_T, neq_F, c86, c87, c50, hll, c87b, bk_x x90]
  done
theorem c90r {d : Nat} {P : MP} {I : MI} {L : ML} {C : MC} {Q : QT} {t w we : Nat} {x4 x5 x6 : Int32} (hd : 8 ≤ d) (ht : t < 3) (hw : w ≤ 18) (hlo : w < 16 ∨ t + 16 < w) (h1 : 1 ≤ we) (h2 : we ≤ 1000) (hx : x4 < 0 ∨ nI (if w < 16 then 3 else 0) < x4) : CT d 90 [.ref 1, .int (nI t), .int (nI w), .int (nI we), .int x4, .int x5, .int x6] P I L C Q = Q (.inr 1) P I L (C.1 + 1, C.2 + 6) := by
  have hll : ¬ (16 ≤ w ∧ w ≤ t + 16) := by omega
  rw [CT_e (mj := 90) (e := [.ref 1, .int (nI t), .int (nI w), .int (nI we), .int x4, .int x5, .int x6]) (by omega) rfl (Nat.le_of_ble_eq_true rfl)]
  simp (disch := first | assumption | omega) only [Nat.reduceAdd, X_go, go2_some, stp, ldI, ldA, ldL, stI, stA, stL, o1I, o2I, o2L, brI, brII, gl, s1, s2, k1, sl, go_sN, go_sR, go_CT, go_sT, go_no, go_if, pops, bk_v, bk_0, d90_0, d90_1, d90_4, d90_5, d90_6, d90_8, d90_11, d90_12, d90_13, d90_16, d90_19, d90_22, d90_23, d90_25, d90_28, d90_29, d90_30, d90_31, d90_34, d90_37, d90_39, d90_40, d90_41, d90_44, d90_47, d90_49, d90_50, d90_51, d90_54, d90_55, d90_58, d90_61, d90_62, d90_65, d90_67, d90_70, d90_73, d90_74, d90_76, d90_79, d90_80, d90_81, d90_84, d90_85, d90_88, d90_91, d90_92, d90_93, d90_94, d90_96, d90_98, d90_100, d90_103, n_lt, n_le, n_eq, n_lt0, n_ge0, n_gt0, n_le0, n_eq0, m_lt, m_le, m_gt, m_ge, m_eq, m_eq', m_lt0, m_ge0, m_gt0, m_le0, m_ltm, m_lem, n_in, m_in, n_cl, n_ti, n_div, n_rem', n_dec, n_l, nI_add, pk_mul, an0, an1, decide_eq_true_eq, if_true, if_false, ite_true, ite_false, and_true, true_and, and_false, false_and, not_true, not_false_iff, or_false, false_or, or_true, true_or, eq_self, va_some, Bool.false_eq_true, reduceIte, catS_n, catS_i, catS_r, catS_l, catS_d, Nat.zero_add, Nat.add_zero, decide_true, decide_false, Nat.reduceLeDiff, cat_r, cat_i, cat_l, nle_T, nle_F, nlt_T, nlt_F, neq_T, neq_F, c86, c87, c50, hll, c53, c87b (y := nI 0) (hx := hx), bk_x x90]
  done
theorem c90u {d : Nat} {P : MP} {I : MI} {L : ML} {C : MC} {Q : QT} {t w we ra : Nat} {x5 x6 : Int32} (hd : 8 ≤ d) (ht : t < 3) (hw : w ≤ 18) (hlo : w < 16 ∨ t + 16 < w) (h1 : 1 ≤ we) (h2 : we ≤ 1000) (hra : ra ≤ 3) (hra2 : 16 ≤ w → ra = 0) (hx : x5 < 0 ∨ nI 3 < x5) : CT d 90 [.ref 1, .int (nI t), .int (nI w), .int (nI we), .int (nI ra), .int x5, .int x6] P I L C Q = Q (.inr 1) P I L (C.1 + 1, C.2 + 6) := by
  have hll : ¬ (16 ≤ w ∧ w ≤ t + 16) := by omega
  have hmx : (if w < 16 then 3 else 0) < 2147483648 := by split <;> omega
  have hrr : ra ≤ (if w < 16 then 3 else 0) := by split <;> omega
  rw [CT_e (mj := 90) (e := [.ref 1, .int (nI t), .int (nI w), .int (nI we), .int (nI ra), .int x5, .int x6]) (by omega) rfl (Nat.le_of_ble_eq_true rfl)]
  simp (disch := first | assumption | omega) only [Nat.reduceAdd, X_go, go2_some, stp, ldI, ldA, ldL, stI, stA, stL, o1I, o2I, o2L, brI, brII, gl, s1, s2, k1, sl, go_sN, go_sR, go_CT, go_sT, go_no, go_if, pops, bk_v, bk_0, d90_0, d90_1, d90_4, d90_5, d90_6, d90_8, d90_11, d90_12, d90_13, d90_16, d90_19, d90_22, d90_23, d90_25, d90_28, d90_29, d90_30, d90_31, d90_34, d90_37, d90_39, d90_40, d90_41, d90_44, d90_47, d90_49, d90_50, d90_51, d90_54, d90_55, d90_58, d90_61, d90_62, d90_65, d90_67, d90_70, d90_73, d90_74, d90_76, d90_79, d90_80, d90_81, d90_84, d90_85, d90_88, d90_91, d90_92, d90_93, d90_94, d90_96, d90_98, d90_100, d90_103, n_lt, n_le, n_eq, n_lt0, n_ge0, n_gt0, n_le0, n_eq0, m_lt, m_le, m_gt, m_ge, m_eq, m_eq', m_lt0, m_ge0, m_gt0, m_le0, m_ltm, m_lem, n_in, m_in, n_cl, n_ti, n_div, n_rem', n_dec, n_l, nI_add, pk_mul, an0, an1, decide_eq_true_eq, if_true, if_false, ite_true, ite_false, and_true, true_and, and_false, false_and, not_true, not_false_iff, or_false, false_or, or_true, true_or, eq_self, va_some, Bool.false_eq_true, reduceIte, catS_n, catS_i, catS_r, catS_l, catS_d, Nat.zero_add, Nat.add_zero, decide_true, decide_false, Nat.reduceLeDiff, cat_r, cat_i, cat_l, nle_T, nle_F, nlt_T, nlt_F, neq_T, neq_F, c86, c87, c50, hll, c53, c87b (y := nI 0) (hx := hx), bk_x x90]
  done
theorem c90f {d : Nat} {P : MP} {I : MI} {L : ML} {C : MC} {Q : QT} {t w we ra gr : Nat} {x6 : Int32} {B n len : Nat} {g : GS} {ps : Nat → GS} {tx : Nat → Nat} (hX : XB P) (hR : XR I L g n ps len tx) (hA : AV B g n ps len tx) (hd : 8 ≤ d) (ht : t < 3) (hw : w ≤ 18) (hlo : w < 16 ∨ t + 16 < w) (h1 : 1 ≤ we) (h2 : we ≤ 1000) (hra : ra ≤ 3) (hra2 : 16 ≤ w → ra = 0) (hgr : gr ≤ 3) (hc : g (3 + t) = 6) : CT d 90 [.ref 1, .int (nI t), .int (nI w), .int (nI we), .int (nI ra), .int (nI gr), .int x6] P I L C Q = Q (.inr 2) P I L (C.1 + 1, C.2 + 6) := by
  have hX' := hX
  obtain ⟨k0, ⟨p0, p1, p2, p3, p4, p5, p6, p7, p8⟩, hS, hS2, hV, ⟨x0, x1, x2⟩, hT2, hO, hD, hH, hH2⟩ := hX'
  have hS' := hS
  obtain ⟨l0, r0, r1, r2, hT, hK, hF⟩ := hS'
  have hT' := hT
  have hK' := hK
  have hF' := hF
  have hR' := hR
  have hA' := hA
  obtain ⟨⟨m0, q0, q1, q2, q3, q4, q5, q6, q7⟩, z1, z2, z3, z4, z5, z6, z7, z8⟩ := hT'
  obtain ⟨w0, w1, w2, w3, w4⟩ := hK'
  obtain ⟨f0, f1, f2, f3, f4, f5, f6, f7, f8⟩ := hF'
  obtain ⟨hg, hVR, hXT, hCC⟩ := hR'
  obtain ⟨hGV, hps, hn4, hlen, htx⟩ := hA'
  have h140 := GV_140 hGV
  have hv := hGV.1
  have hl := hGV.2.1
  have hFv := hGV.2.2
  have hll : ¬ (16 ≤ w ∧ w ≤ t + 16) := by omega
  have hmx : (if w < 16 then 3 else 0) < 2147483648 := by split <;> omega
  have hrr : ra ≤ (if w < 16 then 3 else 0) := by split <;> omega
  rw [CT_e (mj := 90) (e := [.ref 1, .int (nI t), .int (nI w), .int (nI we), .int (nI ra), .int (nI gr), .int x6]) (by omega) rfl (Nat.le_of_ble_eq_true rfl)]
  simp (disch := first | assumption | omega) only [Nat.reduceAdd, X_go, go2_some, stp, ldI, ldA, ldL, stI, stA, stL, o1I, o2I, o2L, brI, brII, gl, s1, s2, k1, sl, go_sN, go_sR, go_CT, go_sT, go_no, go_if, pops, bk_v, bk_0, d90_0, d90_1, d90_4, d90_5, d90_6, d90_8, d90_11, d90_12, d90_13, d90_16, d90_19, d90_22, d90_23, d90_25, d90_28, d90_29, d90_30, d90_31, d90_34, d90_37, d90_39, d90_40, d90_41, d90_44, d90_47, d90_49, d90_50, d90_51, d90_54, d90_55, d90_58, d90_61, d90_62, d90_65, d90_67, d90_70, d90_73, d90_74, d90_76, d90_79, d90_80, d90_81, d90_84, d90_85, d90_88, d90_91, d90_92, d90_93, d90_94, d90_96, d90_98, d90_100, d90_103, n_lt, n_le, n_eq, n_lt0, n_ge0, n_gt0, n_le0, n_eq0, m_lt, m_le, m_gt, m_ge, m_eq, m_eq', m_lt0, m_ge0, m_gt0, m_le0, m_ltm, m_lem, n_in, m_in, n_cl, n_ti, n_div, n_rem', n_dec, n_l, nI_add, pk_mul, an0, an1, decide_eq_true_eq, if_true, if_false, ite_true, ite_false, and_true, true_and, and_false, false_and, not_true, not_false_iff, or_false, false_or, or_true, true_or, eq_self, va_some, Bool.false_eq_true, reduceIte, catS_n, catS_i, catS_r, catS_l, catS_d, Nat.zero_add, Nat.add_zero, decide_true, decide_false, Nat.reduceLeDiff, cat_r, cat_i, cat_l, nle_T, nle_F, nlt_T, nlt_F, neq_T, neq_F, k0, p0, p1, p2, p3, p4, p5, p6, p7, p8, x0, x1, x2, l0, r0, r1, r2, m0, q0, q1, q2, q3, q4, q5, q6, q7, w0, w1, w2, f0, f1, f2, f3, f4, c86, c87, c50, hll, c53, c25g hT hg.1, hc]
  done
theorem d92_0 : dec 92 0 = some (.aload_n 0, 1, []) := rfl
theorem d92_1 : dec 92 1 = some (.iload_n 1, 1, []) := rfl
theorem d92_2 : dec 92 2 = some (.iload_n 2, 1, []) := rfl
theorem d92_3 : dec 92 3 = some (.invokevirtual 113, 3, [2, 93, 2, 9, 0, 590, 0, 0]) := rfl
theorem d92_6 : dec 92 6 = some (.aload_n 0, 1, []) := rfl
theorem d92_7 : dec 92 7 = some (.invokevirtual 72, 3, [2, 11, 2, 9, 0, 641]) := rfl
theorem d92_10 : dec 92 10 = some (.aload_n 0, 1, []) := rfl
theorem d92_11 : dec 92 11 = some (.getfield 12, 3, [1, 9, 0, 2, 0, 267]) := rfl
theorem d92_14 : dec 92 14 = some (.getfield 75, 3, [1, 6, 0, 2, 1, 138]) := rfl
theorem d92_17 : dec 92 17 = some (.iload_n 1, 1, []) := rfl
theorem d92_18 : dec 92 18 = some (.iload_n 2, 1, []) := rfl
theorem d92_19 : dec 92 19 = some (.invokevirtual 117, 3, [2, 94, 2, 7, 0, 684, 0, 0]) := rfl
theorem d92_22 : dec 92 22 = some (.ireturn, 1, [0]) := rfl
theorem l92 : mL 92 = 3 := rfl
theorem x92 : (mG 92).2.2.2.2 = [] := rfl
theorem c92 {d : Nat} {P : MP} {I : MI} {L : ML} {C : MC} {t e : Nat} {B n len : Nat} {g : GS} {ps : Nat → GS} {tx : Nat → Nat} (hX : XB P) (hR : XR I L g n ps len tx) (hA : AV B g n ps len tx) (hd : 8 ≤ d) (ht : t < 3) (he : e < g (3 + t)) : ∃ I', XR I' L (remG g t e) (puN n) (puS n ps g) len tx ∧ fo I I' ∧ ∀ Q, CT d 92 [.ref 1, .int (nI t), .int (nI e)] P I L C Q = Q (.inl (some (.int (nI (g (3 + t) - 1))))) P I' L C := by
  have hX' := hX
  obtain ⟨k0, ⟨p0, p1, p2, p3, p4, p5, p6, p7, p8⟩, hS, hS2, hV, ⟨x0, x1, x2⟩, hT2, hO, hD, hH, hH2⟩ := hX'
  have hS' := hS
  obtain ⟨l0, r0, r1, r2, hT, hK, hF⟩ := hS'
  have hT' := hT
  have hK' := hK
  have hF' := hF
  have hR' := hR
  have hA' := hA
  obtain ⟨⟨m0, q0, q1, q2, q3, q4, q5, q6, q7⟩, z1, z2, z3, z4, z5, z6, z7, z8⟩ := hT'
  obtain ⟨w0, w1, w2, w3, w4⟩ := hK'
  obtain ⟨f0, f1, f2, f3, f4, f5, f6, f7, f8⟩ := hF'
  obtain ⟨hg, hVR, hXT, hCC⟩ := hR'
  obtain ⟨hGV, hps, hn4, hlen, htx⟩ := hA'
  have h140 := GV_140 hGV
  have hv := hGV.1
  have hl := hGV.2.1
  have hFv := hGV.2.2
  obtain ⟨J, j1, j2, j3, j4, j5⟩ := c11 (d := d - 1) (C := C) hX hR hv (by omega)
  have hc := hv.2.1 t ht
  have hm : ∀ k j, k < 6 ∨ 11 < k → mvR J 3 (6 * t + e) (6 * t + (g (3 + t) - 1)) k j = J k j := fun k j h => by
    unfold mvR
    rw [if_neg (by omega)]
  refine ⟨xu (mvR J 3 (6 * t + e) (6 * t + (g (3 + t) - 1))) 5 t (nI (g (3 + t) - 1)), XR_mk hR (RC_tr j1 (TR_rem (T := 3) j1.1 hv ht he) (fun k j h h' => ?_) (fun k h => remG_o ht hc (.inr h)) h140) (VR_fr j2 fun k j h h' => ?_) ?_ (fun k j h => ?_), fun k j h => ?_, fun Q => ?_⟩
  · rw [xu_n _ _ (by omega), hm _ _ (by omega)]
  · rw [xu_n _ _ (by omega), hm _ _ (by omega)]
  · rw [xu_n _ _ (by omega), hm _ _ (by omega)]; exact j3
  · rw [xu_n _ _ (by omega), hm _ _ (by omega), j4 k j (by omega) (by omega)]
  · rw [xu_n _ _ (by omega), hm _ _ (by omega), j4 k j (by omega) (by omega)]
  · rw [CT_e (mj := 92) (e := [.ref 1, .int (nI t), .int (nI e)]) (by omega) rfl (Nat.le_of_ble_eq_true rfl)]
    simp (disch := first | assumption | omega) only [Nat.reduceAdd, X_go, go2_some, stp, ldI, ldA, ldL, stI, stA, stL, o1I, o2I, o2L, brI, brII, gl, s1, s2, k1, sl, go_sN, go_sR, go_CT, go_sT, go_no, go_if, pops, bk_v, bk_0, d92_0, d92_1, d92_2, d92_3, d92_6, d92_7, d92_10, d92_11, d92_14, d92_17, d92_18, d92_19, d92_22, n_lt, n_le, n_eq, n_lt0, n_ge0, n_gt0, n_le0, n_eq0, m_lt, m_le, m_gt, m_ge, m_eq, m_eq', m_lt0, m_ge0, m_gt0, m_le0, m_ltm, m_lem, n_in, m_in, n_cl, n_ti, n_div, n_rem', n_dec, n_l, nI_add, pk_mul, an0, an1, decide_eq_true_eq, if_true, if_false, ite_true, ite_false, and_true, true_and, and_false, false_and, not_true, not_false_iff, or_false, false_or, or_true, true_or, eq_self, va_some, Bool.false_eq_true, reduceIte, catS_n, catS_i, catS_r, catS_l, catS_d, Nat.zero_add, Nat.add_zero, decide_true, decide_false, Nat.reduceLeDiff, cat_r, cat_i, cat_l, nle_T, nle_F, nlt_T, nlt_F, neq_T, neq_F, k0, p0, p1, p2, p3, p4, p5, p6, p7, p8, x0, x1, x2, l0, r0, r1, r2, m0, q0, q1, q2, q3, q4, q5, q6, q7, w0, w1, w2, f0, f1, f2, f3, f4, c93 hX hg hv, j5, c94 hT j1.1 hv]
    done
theorem c92b {d : Nat} {P : MP} {I : MI} {L : ML} {C : MC} {Q : QT} {x y : Int32} (hX : XB P) (hd : 8 ≤ d) (hx : x < 0 ∨ nI 3 ≤ x) : CT d 92 [.ref 1, .int x, .int y] P I L C Q = Q (.inr 0) P I L (C.1 + 1, C.2 + 6) := by
  have k0 := hX.1
  rw [CT_e (mj := 92) (e := [.ref 1, .int x, .int y]) (by omega) rfl (Nat.le_of_ble_eq_true rfl)]
  simp (disch := first | assumption | omega) only [Nat.reduceAdd, X_go, go2_some, stp, ldI, ldA, ldL, stI, stA, stL, o1I, o2I, o2L, brI, brII, gl, s1, s2, k1, sl, go_sN, go_sR, go_CT, go_sT, go_no, go_if, pops, bk_v, bk_0, d92_0, d92_1, d92_2, d92_3, d92_6, d92_7, d92_10, d92_11, d92_14, d92_17, d92_18, d92_19, d92_22, n_lt, n_le, n_eq, n_lt0, n_ge0, n_gt0, n_le0, n_eq0, m_lt, m_le, m_gt, m_ge, m_eq, m_eq', m_lt0, m_ge0, m_gt0, m_le0, m_ltm, m_lem, n_in, m_in, n_cl, n_ti, n_div, n_rem', n_dec, n_l, nI_add, pk_mul, an0, an1, decide_eq_true_eq, if_true, if_false, ite_true, ite_false, and_true, true_and, and_false, false_and, not_true, not_false_iff, or_false, false_or, or_true, true_or, eq_self, va_some, Bool.false_eq_true, reduceIte, catS_n, catS_i, catS_r, catS_l, catS_d, Nat.zero_add, Nat.add_zero, decide_true, decide_false, Nat.reduceLeDiff, cat_r, cat_i, cat_l, nle_T, nle_F, nlt_T, nlt_F, neq_T, neq_F, k0, c93t hX, bk_x x92]
  done
theorem c92c {d : Nat} {P : MP} {I : MI} {L : ML} {C : MC} {Q : QT} {t : Nat} {y : Int32} {g : GS} (hX : XB P) (hg : RC I 2 g) (hv : TV g) (hd : 8 ≤ d) (ht : t < 3) (hy : y < 0 ∨ nI (g (3 + t)) ≤ y) : CT d 92 [.ref 1, .int (nI t), .int y] P I L C Q = Q (.inr 0) P I L (C.1 + 1, C.2 + 6) := by
  have k0 := hX.1
  rw [CT_e (mj := 92) (e := [.ref 1, .int (nI t), .int y]) (by omega) rfl (Nat.le_of_ble_eq_true rfl)]
  simp (disch := first | assumption | omega) only [Nat.reduceAdd, X_go, go2_some, stp, ldI, ldA, ldL, stI, stA, stL, o1I, o2I, o2L, brI, brII, gl, s1, s2, k1, sl, go_sN, go_sR, go_CT, go_sT, go_no, go_if, pops, bk_v, bk_0, d92_0, d92_1, d92_2, d92_3, d92_6, d92_7, d92_10, d92_11, d92_14, d92_17, d92_18, d92_19, d92_22, n_lt, n_le, n_eq, n_lt0, n_ge0, n_gt0, n_le0, n_eq0, m_lt, m_le, m_gt, m_ge, m_eq, m_eq', m_lt0, m_ge0, m_gt0, m_le0, m_ltm, m_lem, n_in, m_in, n_cl, n_ti, n_div, n_rem', n_dec, n_l, nI_add, pk_mul, an0, an1, decide_eq_true_eq, if_true, if_false, ite_true, ite_false, and_true, true_and, and_false, false_and, not_true, not_false_iff, or_false, false_or, or_true, true_or, eq_self, va_some, Bool.false_eq_true, reduceIte, catS_n, catS_i, catS_r, catS_l, catS_d, Nat.zero_add, Nat.add_zero, decide_true, decide_false, Nat.reduceLeDiff, cat_r, cat_i, cat_l, nle_T, nle_F, nlt_T, nlt_F, neq_T, neq_F, k0, c93e hX hg hv, bk_x x92]
  done
/-- nothing is spent any more -/
def resG (g : GS) : GS := fun k => if (6 ≤ k ∧ k < 114) ∧ (k - 6) % 6 = 5 ∧ (k - 6) / 6 % 6 < g (3 + (k - 6) / 36) then 0 else g k
theorem resG_o {g : GS} {k : Nat} (h : k < 6 ∨ 114 ≤ k) : resG g k = g k := if_neg (by omega)
theorem resG_5 {g : GS} {t e : Nat} (ht : t < 3) (he : e < g (3 + t)) (h6 : e < 6) : resG g (cl t e 5) = 0 := by
  unfold resG
  have q1 : (cl t e 5 - 6) / 36 = t := by unfold cl; omega
  have q2 : (cl t e 5 - 6) / 6 % 6 = e := by unfold cl; omega
  have q3 : (cl t e 5 - 6) % 6 = 5 := by unfold cl; omega
  rw [q1, q2, q3]
  exact if_pos ⟨by unfold cl; omega, rfl, he⟩
theorem resG_f {g : GS} {t e f : Nat} (hf : f < 5) : resG g (cl t e f) = g (cl t e f) := if_neg (by unfold cl; omega)
theorem TV_res {g : GS} (hv : TV g) : TV (resG g) := by
  refine ⟨fun t ht => ?_, fun t ht => ?_, fun t e ht he => ?_⟩
  · rw [resG_o (by omega)]; exact hv.1 t ht
  · rw [resG_o (by omega)]; exact hv.2.1 t ht
  · rw [resG_o (by omega)] at he
    have := hv.2.1 t ht
    obtain ⟨E0, E1, E2, E3, E4, E5, E6, E7⟩ := hv.2.2 t e ht he
    unfold EV
    rw [resG_f (by omega), resG_f (by omega), resG_f (by omega), resG_f (by omega), resG_f (by omega), resG_5 ht he (by omega)]
    exact ⟨E0, E1, E2, E3, E4, E5, E6, by omega⟩
theorem d10_0 : dec 10 0 = some (.aload_n 0, 1, []) := rfl
theorem d10_1 : dec 10 1 = some (.invokevirtual 72, 3, [2, 11, 2, 9, 0, 641]) := rfl
theorem d10_4 : dec 10 4 = some (.aload_n 0, 1, []) := rfl
theorem d10_5 : dec 10 5 = some (.getfield 12, 3, [1, 9, 0, 2, 0, 267]) := rfl
theorem d10_8 : dec 10 8 = some (.getfield 75, 3, [1, 6, 0, 2, 1, 138]) := rfl
theorem d10_11 : dec 10 11 = some (.invokevirtual 127, 3, [2, 22, 2, 7, 0, 939]) := rfl
theorem d10_14 : dec 10 14 = some (.ireturn, 1, [0]) := rfl
theorem l10 : mL 10 = 1 := rfl
theorem c10 {d : Nat} {P : MP} {I : MI} {L : ML} {C : MC} {B n len : Nat} {g : GS} {ps : Nat → GS} {tx : Nat → Nat} (hX : XB P) (hR : XR I L g n ps len tx) (hA : AV B g n ps len tx) (hd : 9 ≤ d) : ∃ I', XR I' L (resG g) (puN n) (puS n ps g) len tx ∧ fo I I' ∧ ∀ Q, CT d 10 [.ref 1] P I L C Q = Q (.inl (some (.int (nI (spc g))))) P I' L C := by
  have hX' := hX
  obtain ⟨k0, ⟨p0, p1, p2, p3, p4, p5, p6, p7, p8⟩, hS, hS2, hV, ⟨x0, x1, x2⟩, hT2, hO, hD, hH, hH2⟩ := hX'
  have hS' := hS
  obtain ⟨l0, r0, r1, r2, hT, hK, hF⟩ := hS'
  have hT' := hT
  have hK' := hK
  have hF' := hF
  have hR' := hR
  have hA' := hA
  obtain ⟨⟨m0, q0, q1, q2, q3, q4, q5, q6, q7⟩, z1, z2, z3, z4, z5, z6, z7, z8⟩ := hT'
  obtain ⟨w0, w1, w2, w3, w4⟩ := hK'
  obtain ⟨f0, f1, f2, f3, f4, f5, f6, f7, f8⟩ := hF'
  obtain ⟨hg, hVR, hXT, hCC⟩ := hR'
  obtain ⟨hGV, hps, hn4, hlen, htx⟩ := hA'
  have h140 := GV_140 hGV
  have hv := hGV.1
  have hl := hGV.2.1
  have hFv := hGV.2.2
  obtain ⟨J, j1, j2, j3, j4, j5⟩ := c11 (d := d - 1) (C := C) hX hR hv (by omega)
  refine ⟨xr J 11 (fun j => if j < 18 then nI 0 else J 11 j), XR_mk hR (RC_tr j1 ⟨fun t ht => ?_, fun t ht => ?_, fun t e ht he => ?_⟩ (fun k j h h' => ?_) (fun k h => resG_o (by omega)) h140) (VR_fr j2 fun k j h h' => ?_) ?_ (fun k j h => ?_), fun k j h => ?_, fun Q => ?_⟩
  · rw [xr_n _ _ (by omega), resG_o (by omega)]; exact j1.1.1 t ht
  · rw [xr_n _ _ (by omega), resG_o (by omega)]; exact j1.1.2.1 t ht
  · rw [resG_o (by omega)] at he
    have hc := hv.2.1 t ht
    obtain ⟨R0, R1, R2, R3, R4, R5⟩ := j1.1.2.2 t e ht he
    rw [resG_f (by omega), resG_f (by omega), resG_f (by omega), resG_f (by omega), resG_f (by omega), resG_5 ht he (by omega)]
    refine ⟨by rw [xr_n _ _ (by omega)]; exact R0, by rw [xr_n _ _ (by omega)]; exact R1, by rw [xr_n _ _ (by omega)]; exact R2, by rw [xr_n _ _ (by omega)]; exact R3, by rw [xr_n _ _ (by omega)]; exact R4, ?_⟩
    show xr J 11 (fun j => if j < 18 then nI 0 else J 11 j) 11 (6 * t + e) = nI 0
    rw [xr_s, if_pos (by omega)]
  · rw [xr_n _ _ (by omega)]
  · rw [xr_n _ _ (by omega)]
  · rw [xr_n _ _ (by omega)]; exact j3
  · rw [xr_n _ _ (by omega), j4 k j (by omega) (by omega)]
  · rw [xr_n _ _ (by omega), j4 k j (by omega) (by omega)]
  · rw [CT_e (mj := 10) (e := [.ref 1]) (by omega) rfl (Nat.le_of_ble_eq_true rfl)]
    simp (disch := first | assumption | omega) only [Nat.reduceAdd, X_go, go2_some, stp, ldI, ldA, ldL, stI, stA, stL, o1I, o2I, o2L, brI, brII, gl, s1, s2, k1, sl, go_sN, go_sR, go_CT, go_sT, go_no, go_if, pops, bk_v, bk_0, d10_0, d10_1, d10_4, d10_5, d10_8, d10_11, d10_14, n_lt, n_le, n_eq, n_lt0, n_ge0, n_gt0, n_le0, n_eq0, m_lt, m_le, m_gt, m_ge, m_eq, m_eq', m_lt0, m_ge0, m_gt0, m_le0, m_ltm, m_lem, n_in, m_in, n_cl, n_ti, n_div, n_rem', n_dec, n_l, nI_add, pk_mul, an0, an1, decide_eq_true_eq, if_true, if_false, ite_true, ite_false, and_true, true_and, and_false, false_and, not_true, not_false_iff, or_false, false_or, or_true, true_or, eq_self, va_some, Bool.false_eq_true, reduceIte, catS_n, catS_i, catS_r, catS_l, catS_d, Nat.zero_add, Nat.add_zero, decide_true, decide_false, Nat.reduceLeDiff, cat_r, cat_i, cat_l, nle_T, nle_F, nlt_T, nlt_F, neq_T, neq_F, k0, p0, p1, p2, p3, p4, p5, p6, p7, p8, x0, x1, x2, l0, r0, r1, r2, m0, q0, q1, q2, q3, q4, q5, q6, q7, w0, w1, w2, f0, f1, f2, f3, f4, j5, c22 hT j1.1 hv]
    done
