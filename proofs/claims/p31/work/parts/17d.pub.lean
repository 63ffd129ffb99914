/-! CALLS of the class: those that change a cell -/
theorem d85_0 : dec 85 0 = some (.iload_n 1, 1, []) := rfl
theorem d85_1 : dec 85 1 = some (.invokestatic 64, 3, [2, 86, 0, 9, 0, 507, 0]) := rfl
theorem d85_4 : dec 85 4 = some (.iload_n 2, 1, []) := rfl
theorem d85_5 : dec 85 5 = some (.iconst 1, 1, [1]) := rfl
theorem d85_6 : dec 85 6 = some (.iconst 2, 1, [2]) := rfl
theorem d85_7 : dec 85 7 = some (.invokestatic 68, 3, [2, 87, 0, 9, 0, 434, 0, 0, 0]) := rfl
theorem d85_10 : dec 85 10 = some (.aload_n 0, 1, []) := rfl
theorem d85_11 : dec 85 11 = some (.invokevirtual 72, 3, [2, 11, 2, 9, 0, 641]) := rfl
theorem d85_14 : dec 85 14 = some (.aload_n 0, 1, []) := rfl
theorem d85_15 : dec 85 15 = some (.getfield 12, 3, [1, 9, 0, 2, 0, 267]) := rfl
theorem d85_18 : dec 85 18 = some (.getfield 75, 3, [1, 6, 0, 2, 1, 138]) := rfl
theorem d85_21 : dec 85 21 = some (.getfield 78, 3, [1, 7, 0, 2, 1, 42]) := rfl
theorem d85_24 : dec 85 24 = some (.iload_n 1, 1, []) := rfl
theorem d85_25 : dec 85 25 = some (.iload_n 2, 1, []) := rfl
theorem d85_26 : dec 85 26 = some (.invokestatic 82, 3, [2, 88, 0, 9, 0, 649, 0, 0, 2]) := rfl
theorem d85_29 : dec 85 29 = some (.ireturn, 1, [0]) := rfl
theorem l85 : mL 85 = 3 := rfl
theorem x85 : (mG 85).2.2.2.2 = [] := rfl
theorem c85 {d : Nat} {P : MP} {I : MI} {L : ML} {C : MC} {t v : Nat} {B n len : Nat} {g : GS} {ps : Nat → GS} {tx : Nat → Nat} (hX : XB P) (hR : XR I L g n ps len tx) (hA : AV B g n ps len tx) (hd : 8 ≤ d) (ht : t < 3) (h1 : 1 ≤ v) (h2 : v ≤ 2) : ∃ I', XR I' L (ud g t v) (puN n) (puS n ps g) len tx ∧ fo I I' ∧ ∀ Q, CT d 85 [.ref 1, .int (nI t), .int (nI v)] P I L C Q = Q (.inl (some (.int (nI (g t))))) P I' L C := by
  have hX' := hX
  obtain ⟨k0, ⟨p0, p1, p2, p3, p4, p5, p6, p7, p8⟩, hS, hS2, hV, ⟨x0, x1, x2⟩, hT2, hO, hD, hH, hH2⟩ := hX'
  have hS' := hS
  obtain ⟨l0, r0, r1, r2, hT, hK, hF⟩ := hS'
  have hT' := hT
  have hK' := hK
  have hF' := hF
  have hR' := hR
  have hA' := hA
  obtain ⟨⟨m0, q0, q1, q2, q3, q4, q5, q6, q7⟩, z1, z2, z3, z4, z5, z6, z7, z8⟩ := hT'
  obtain ⟨w0, w1, w2, w3, w4⟩ := hK'
  obtain ⟨f0, f1, f2, f3, f4, f5, f6, f7, f8⟩ := hF'
  obtain ⟨hg, hVR, hXT, hCC⟩ := hR'
  obtain ⟨hGV, hps, hn4, hlen, htx⟩ := hA'
  have h140 := GV_140 hGV
  have hv := hGV.1
  have hl := hGV.2.1
  have hFv := hGV.2.2
  obtain ⟨J, j1, j2, j3, j4, j5⟩ := c11 (d := d - 1) (C := C) hX hR hv (by omega)
  have e0 : J 4 t = nI (g t) := j1.1.1 t ht
  refine ⟨xu J 4 t (nI v), XR_mk hR (RC_dr (b := 2) j1 ht h140) (VR_fr j2 fun k j h h' => xu_n _ _ (by omega)) (by rw [xu_n _ _ (by omega)]; exact j3) (fun k j h => by rw [xu_n _ _ (by omega), j4 k j (by omega) (by omega)]), fun k j h => by rw [xu_n _ _ (by omega), j4 k j (by omega) (by omega)], fun Q => ?_⟩
  rw [CT_e (mj := 85) (e := [.ref 1, .int (nI t), .int (nI v)]) (by omega) rfl (Nat.le_of_ble_eq_true rfl)]
  simp (disch := first | assumption | omega) only [Nat.reduceAdd, X_go, go2_some, stp, ldI, ldA, ldL, stI, stA, stL, o1I, o2I, o2L, brI, brII, gl, s1, s2, k1, sl, go_sN, go_sR, go_CT, go_sT, go_no, go_if, pops, bk_v, bk_0, d85_0, d85_1, d85_4, d85_5, d85_6, d85_7, d85_10, d85_11, d85_14, d85_15, d85_18, d85_21, d85_24, d85_25, d85_26, d85_29, n_lt, n_le, n_eq, n_lt0, n_ge0, n_gt0, n_le0, n_eq0, m_lt, m_le, m_gt, m_ge, m_eq, m_eq', m_lt0, m_ge0, m_gt0, m_le0, m_ltm, m_lem, n_in, m_in, n_cl, n_ti, n_div, n_rem', n_dec, n_l, nI_add, pk_mul, an0, an1, decide_eq_true_eq, if_true, if_false, ite_true, ite_false, and_true, true_and, and_false, false_and, not_true, not_false_iff, or_false, false_or, or_true, true_or, eq_self, va_some, Bool.false_eq_true, reduceIte, catS_n, catS_i, catS_r, catS_l, catS_d, Nat.zero_add, Nat.add_zero, decide_true, decide_false, Nat.reduceLeDiff, cat_r, cat_i, cat_l, nle_T, nle_F, nlt_T, nlt_F, neq_T, neq_F, k0, p0, p1, p2, p3, p4, p5, p6, p7, p8, x0, x1, x2, l0, r0, r1, r2, m0, q0, q1, q2, q3, q4, q5, q6, q7, w0, w1, w2, f0, f1, f2, f3, f4, c86, c87, j5, c88 z1, e0]
  done
theorem c85b {d : Nat} {P : MP} {I : MI} {L : ML} {C : MC} {Q : QT} {x y : Int32} (hX : XB P) (hd : 8 ≤ d) (hx : x < 0 ∨ nI 3 ≤ x) : CT d 85 [.ref 1, .int x, .int y] P I L C Q = Q (.inr 0) P I L (C.1 + 1, C.2 + 6) := by
  rw [CT_e (mj := 85) (e := [.ref 1, .int x, .int y]) (by omega) rfl (Nat.le_of_ble_eq_true rfl)]
  simp (disch := first | assumption | omega) only [Nat.reduceAdd, X_go, go2_some, stp, ldI, ldA, ldL, stI, stA, stL, o1I, o2I, o2L, brI, brII, gl, s1, s2, k1, sl, go_sN, go_sR, go_CT, go_sT, go_no, go_if, pops, bk_v, bk_0, d85_0, d85_1, d85_4, d85_5, d85_6, d85_7, d85_10, d85_11, d85_14, d85_15, d85_18, d85_21, d85_24, d85_25, d85_26, d85_29, n_lt, n_le, n_eq, n_lt0, n_ge0, n_gt0, n_le0, n_eq0, m_lt, m_le, m_gt, m_ge, m_eq, m_eq', m_lt0, m_ge0, m_gt0, m_le0, m_ltm, m_lem, n_in, m_in, n_cl, n_ti, n_div, n_rem', n_dec, n_l, nI_add, pk_mul, an0, an1, decide_eq_true_eq, if_true, if_false, ite_true, ite_false, and_true, true_and, and_false, false_and, not_true, not_false_iff, or_false, false_or, or_true, true_or, eq_self, va_some, Bool.false_eq_true, reduceIte, catS_n, catS_i, catS_r, catS_l, catS_d, Nat.zero_add, Nat.add_zero, decide_true, decide_false, Nat.reduceLeDiff, cat_r, cat_i, cat_l, nle_T, nle_F, nlt_T, nlt_F, neq_T, neq_F, c86b, bk_x x85]
  done
theorem c85c {d : Nat} {P : MP} {I : MI} {L : ML} {C : MC} {Q : QT} {t : Nat} {y : Int32} (hX : XB P) (hd : 8 ≤ d) (ht : t < 3) (hy : y < nI 1 ∨ nI 2 < y) : CT d 85 [.ref 1, .int (nI t), .int y] P I L C Q = Q (.inr 1) P I L (C.1 + 1, C.2 + 6) := by
  rw [CT_e (mj := 85) (e := [.ref 1, .int (nI t), .int y]) (by omega) rfl (Nat.le_of_ble_eq_true rfl)]
  simp (disch := first | assumption | omega) only [Nat.reduceAdd, X_go, go2_some, stp, ldI, ldA, ldL, stI, stA, stL, o1I, o2I, o2L, brI, brII, gl, s1, s2, k1, sl, go_sN, go_sR, go_CT, go_sT, go_no, go_if, pops, bk_v, bk_0, d85_0, d85_1, d85_4, d85_5, d85_6, d85_7, d85_10, d85_11, d85_14, d85_15, d85_18, d85_21, d85_24, d85_25, d85_26, d85_29, n_lt, n_le, n_eq, n_lt0, n_ge0, n_gt0, n_le0, n_eq0, m_lt, m_le, m_gt, m_ge, m_eq, m_eq', m_lt0, m_ge0, m_gt0, m_le0, m_ltm, m_lem, n_in, m_in, n_cl, n_ti, n_div, n_rem', n_dec, n_l, nI_add, pk_mul, an0, an1, decide_eq_true_eq, if_true, if_false, ite_true, ite_false, and_true, true_and, and_false, false_and, not_true, not_false_iff, or_false, false_or, or_true, true_or, eq_self, va_some, Bool.false_eq_true, reduceIte, catS_n, catS_i, catS_r, catS_l, catS_d, Nat.zero_add, Nat.add_zero, decide_true, decide_false, Nat.reduceLeDiff, cat_r, cat_i, cat_l, nle_T, nle_F, nlt_T, nlt_F, neq_T, neq_F, c86, c87b, bk_x x85]
  done
theorem d97_0 : dec 97 0 = some (.aload_n 0, 1, []) := rfl
theorem d97_1 : dec 97 1 = some (.iload_n 1, 1, []) := rfl
theorem d97_2 : dec 97 2 = some (.iload_n 2, 1, []) := rfl
theorem d97_3 : dec 97 3 = some (.invokevirtual 113, 3, [2, 93, 2, 9, 0, 590, 0, 0]) := rfl
theorem d97_6 : dec 97 6 = some (.iload_n 3, 1, []) := rfl
theorem d97_7 : dec 97 7 = some (.iconst 1, 1, [1]) := rfl
theorem d97_8 : dec 97 8 = some (.sipush 1000, 3, [1000]) := rfl
theorem d97_11 : dec 97 11 = some (.invokestatic 68, 3, [2, 87, 0, 9, 0, 434, 0, 0, 0]) := rfl
theorem d97_14 : dec 97 14 = some (.aload_n 0, 1, []) := rfl
theorem d97_15 : dec 97 15 = some (.invokevirtual 72, 3, [2, 11, 2, 9, 0, 641]) := rfl
theorem d97_18 : dec 97 18 = some (.aload_n 0, 1, []) := rfl
theorem d97_19 : dec 97 19 = some (.getfield 12, 3, [1, 9, 0, 2, 0, 267]) := rfl
theorem d97_22 : dec 97 22 = some (.getfield 75, 3, [1, 6, 0, 2, 1, 138]) := rfl
theorem d97_25 : dec 97 25 = some (.getfield 121, 3, [1, 7, 3, 2, 1, 53]) := rfl
theorem d97_28 : dec 97 28 = some (.iload_n 1, 1, []) := rfl
theorem d97_29 : dec 97 29 = some (.iload_n 2, 1, []) := rfl
theorem d97_30 : dec 97 30 = some (.invokestatic 124, 3, [2, 27, 0, 9, 0, 599, 0, 0]) := rfl
theorem d97_33 : dec 97 33 = some (.iload_n 3, 1, []) := rfl
theorem d97_34 : dec 97 34 = some (.invokestatic 82, 3, [2, 88, 0, 9, 0, 649, 0, 0, 2]) := rfl
theorem d97_37 : dec 97 37 = some (.ireturn, 1, [0]) := rfl
theorem l97 : mL 97 = 4 := rfl
theorem x97 : (mG 97).2.2.2.2 = [] := rfl
theorem c97 {d : Nat} {P : MP} {I : MI} {L : ML} {C : MC} {t e v : Nat} {B n len : Nat} {g : GS} {ps : Nat → GS} {tx : Nat → Nat} (hX : XB P) (hR : XR I L g n ps len tx) (hA : AV B g n ps len tx) (hd : 8 ≤ d) (ht : t < 3) (he : e < g (3 + t)) (h1 : 1 ≤ v) (h2 : v ≤ 1000) : ∃ I', XR I' L (ud g (cl t e 1) v) (puN n) (puS n ps g) len tx ∧ fo I I' ∧ ∀ Q, CT d 97 [.ref 1, .int (nI t), .int (nI e), .int (nI v)] P I L C Q = Q (.inl (some (.int (nI (g (cl t e 1)))))) P I' L C := by
  have hX' := hX
  obtain ⟨k0, ⟨p0, p1, p2, p3, p4, p5, p6, p7, p8⟩, hS, hS2, hV, ⟨x0, x1, x2⟩, hT2, hO, hD, hH, hH2⟩ := hX'
  have hS' := hS
  obtain ⟨l0, r0, r1, r2, hT, hK, hF⟩ := hS'
  have hT' := hT
  have hK' := hK
  have hF' := hF
  have hR' := hR
  have hA' := hA
  obtain ⟨⟨m0, q0, q1, q2, q3, q4, q5, q6, q7⟩, z1, z2, z3, z4, z5, z6, z7, z8⟩ := hT'
  obtain ⟨w0, w1, w2, w3, w4⟩ := hK'
  obtain ⟨f0, f1, f2, f3, f4, f5, f6, f7, f8⟩ := hF'
  obtain ⟨hg, hVR, hXT, hCC⟩ := hR'
  obtain ⟨hGV, hps, hn4, hlen, htx⟩ := hA'
  have h140 := GV_140 hGV
  have hv := hGV.1
  have hl := hGV.2.1
  have hFv := hGV.2.2
  obtain ⟨J, j1, j2, j3, j4, j5⟩ := c11 (d := d - 1) (C := C) hX hR hv (by omega)
  have hc := hv.2.1 t ht
  have e0 : J 7 (6 * t + e) = nI (g (cl t e 1)) := (j1.1.2.2 t e ht he).2.1
  refine ⟨xu J 7 (6 * t + e) (nI v), XR_mk hR (RC_wt (b := 2) j1 hv ht (by omega) h140) (VR_fr j2 fun k j h h' => xu_n _ _ (by omega)) (by rw [xu_n _ _ (by omega)]; exact j3) (fun k j h => by rw [xu_n _ _ (by omega), j4 k j (by omega) (by omega)]), fun k j h => by rw [xu_n _ _ (by omega), j4 k j (by omega) (by omega)], fun Q => ?_⟩
  rw [CT_e (mj := 97) (e := [.ref 1, .int (nI t), .int (nI e), .int (nI v)]) (by omega) rfl (Nat.le_of_ble_eq_true rfl)]
  simp (disch := first | assumption | omega) only [Nat.reduceAdd, X_go, go2_some, stp, ldI, ldA, ldL, stI, stA, stL, o1I, o2I, o2L, brI, brII, gl, s1, s2, k1, sl, go_sN, go_sR, go_CT, go_sT, go_no, go_if, pops, bk_v, bk_0, d97_0, d97_1, d97_2, d97_3, d97_6, d97_7, d97_8, d97_11, d97_14, d97_15, d97_18, d97_19, d97_22, d97_25, d97_28, d97_29, d97_30, d97_33, d97_34, d97_37, n_lt, n_le, n_eq, n_lt0, n_ge0, n_gt0, n_le0, n_eq0, m_lt, m_le, m_gt, m_ge, m_eq, m_eq', m_lt0, m_ge0, m_gt0, m_le0, m_ltm, m_lem, n_in, m_in, n_cl, n_ti, n_div, n_rem', n_dec, n_l, nI_add, pk_mul, an0, an1, decide_eq_true_eq, if_true, if_false, ite_true, ite_false, and_true, true_and, and_false, false_and, not_true, not_false_iff, or_false, false_or, or_true, true_or, eq_self, va_some, Bool.false_eq_true, reduceIte, catS_n, catS_i, catS_r, catS_l, catS_d, Nat.zero_add, Nat.add_zero, decide_true, decide_false, Nat.reduceLeDiff, cat_r, cat_i, cat_l, nle_T, nle_F, nlt_T, nlt_F, neq_T, neq_F, k0, p0, p1, p2, p3, p4, p5, p6, p7, p8, x0, x1, x2, l0, r0, r1, r2, m0, q0, q1, q2, q3, q4, q5, q6, q7, w0, w1, w2, f0, f1, f2, f3, f4, c93 hX hg hv, c87, j5, c27, c88 z4, e0]
  done
theorem c97b {d : Nat} {P : MP} {I : MI} {L : ML} {C : MC} {Q : QT} {x y z : Int32} (hX : XB P) (hd : 8 ≤ d) (hx : x < 0 ∨ nI 3 ≤ x) : CT d 97 [.ref 1, .int x, .int y, .int z] P I L C Q = Q (.inr 0) P I L (C.1 + 1, C.2 + 6) := by
  have k0 := hX.1
  rw [CT_e (mj := 97) (e := [.ref 1, .int x, .int y, .int z]) (by omega) rfl (Nat.le_of_ble_eq_true rfl)]
  simp (disch := first | assumption | omega) only [Nat.reduceAdd, X_go, go2_some, stp, ldI, ldA, ldL, stI, stA, stL, o1I, o2I, o2L, brI, brII, gl, s1, s2, k1, sl, go_sN, go_sR, go_CT, go_sT, go_no, go_if, pops, bk_v, bk_0, d97_0, d97_1, d97_2, d97_3, d97_6, d97_7, d97_8, d97_11, d97_14, d97_15, d97_18, d97_19, d97_22, d97_25, d97_28, d97_29, d97_30, d97_33, d97_34, d97_37, n_lt, n_le, n_eq, n_lt0, n_ge0, n_gt0, n_le0, n_eq0, m_lt, m_le, m_gt, m_ge, m_eq, m_eq', m_lt0, m_ge0, m_gt0, m_le0, m_ltm, m_lem, n_in, m_in, n_cl, n_ti, n_div, n_rem', n_dec, n_l, nI_add, pk_mul, an0, an1, decide_eq_true_eq, if_true, if_false, ite_true, ite_false, and_true, true_and, and_false, false_and, not_true, not_false_iff, or_false, false_or, or_true, true_or, eq_self, va_some, Bool.false_eq_true, reduceIte, catS_n, catS_i, catS_r, catS_l, catS_d, Nat.zero_add, Nat.add_zero, decide_true, decide_false, Nat.reduceLeDiff, cat_r, cat_i, cat_l, nle_T, nle_F, nlt_T, nlt_F, neq_T, neq_F, k0, c93t hX, bk_x x97]
  done
theorem c97c {d : Nat} {P : MP} {I : MI} {L : ML} {C : MC} {Q : QT} {t : Nat} {y z : Int32} {g : GS} (hX : XB P) (hg : RC I 2 g) (hv : TV g) (hd : 8 ≤ d) (ht : t < 3) (hy : y < 0 ∨ nI (g (3 + t)) ≤ y) : CT d 97 [.ref 1, .int (nI t), .int y, .int z] P I L C Q = Q (.inr 0) P I L (C.1 + 1, C.2 + 6) := by
  have k0 := hX.1
  rw [CT_e (mj := 97) (e := [.ref 1, .int (nI t), .int y, .int z]) (by omega) rfl (Nat.le_of_ble_eq_true rfl)]
  simp (disch := first | assumption | omega) only [Nat.reduceAdd, X_go, go2_some, stp, ldI, ldA, ldL, stI, stA, stL, o1I, o2I, o2L, brI, brII, gl, s1, s2, k1, sl, go_sN, go_sR, go_CT, go_sT, go_no, go_if, pops, bk_v, bk_0, d97_0, d97_1, d97_2, d97_3, d97_6, d97_7, d97_8, d97_11, d97_14, d97_15, d97_18, d97_19, d97_22, d97_25, d97_28, d97_29, d97_30, d97_33, d97_34, d97_37, n_lt, n_le, n_eq, n_lt0, n_ge0, n_gt0, n_le0, n_eq0, m_lt, m_le, m_gt, m_ge, m_eq, m_eq', m_lt0, m_ge0, m_gt0, m_le0, m_ltm, m_lem, n_in, m_in, n_cl, n_ti, n_div, n_rem', n_dec, n_l, nI_add, pk_mul, an0, an1, decide_eq_true_eq, if_true, if_false, ite_true, ite_false, and_true, true_and, and_false, false_and, not_true, not_false_iff, or_false, false_or, or_true, true_or, eq_self, va_some, Bool.false_eq_true, reduceIte, catS_n, catS_i, catS_r, catS_l, catS_d, Nat.zero_add, Nat.add_zero, decide_true, decide_false, Nat.reduceLeDiff, cat_r, cat_i, cat_l, nle_T, nle_F, nlt_T, nlt_F, neq_T, neq_F, k0, c93e hX hg hv, bk_x x97]
  done
theorem c97d {d : Nat} {P : MP} {I : MI} {L : ML} {C : MC} {Q : QT} {t e : Nat} {z : Int32} {g : GS} (hX : XB P) (hg : RC I 2 g) (hv : TV g) (hd : 8 ≤ d) (ht : t < 3) (he : e < g (3 + t)) (hz : z < nI 1 ∨ nI 1000 < z) : CT d 97 [.ref 1, .int (nI t), .int (nI e), .int z] P I L C Q = Q (.inr 1) P I L (C.1 + 1, C.2 + 6) := by
  have k0 := hX.1
  rw [CT_e (mj := 97) (e := [.ref 1, .int (nI t), .int (nI e), .int z]) (by omega) rfl (Nat.le_of_ble_eq_true rfl)]
  simp (disch := first | assumption | omega) only [Nat.reduceAdd, X_go, go2_some, stp, ldI, ldA, ldL, stI, stA, stL, o1I, o2I, o2L, brI, brII, gl, s1, s2, k1, sl, go_sN, go_sR, go_CT, go_sT, go_no, go_if, pops, bk_v, bk_0, d97_0, d97_1, d97_2, d97_3, d97_6, d97_7, d97_8, d97_11, d97_14, d97_15, d97_18, d97_19, d97_22, d97_25, d97_28, d97_29, d97_30, d97_33, d97_34, d97_37, n_lt, n_le, n_eq, n_lt0, n_ge0, n_gt0, n_le0, n_eq0, m_lt, m_le, m_gt, m_ge, m_eq, m_eq', m_lt0, m_ge0, m_gt0, m_le0, m_ltm, m_lem, n_in, m_in, n_cl, n_ti, n_div, n_rem', n_dec, n_l, nI_add, pk_mul, an0, an1, decide_eq_true_eq, if_true, if_false, ite_true, ite_false, and_true, true_and, and_false, false_and, not_true, not_false_iff, or_false, false_or, or_true, true_or, eq_self, va_some, Bool.false_eq_true, reduceIte, catS_n, catS_i, catS_r, catS_l, catS_d, Nat.zero_add, Nat.add_zero, decide_true, decide_false, Nat.reduceLeDiff, cat_r, cat_i, cat_l, nle_T, nle_F, nlt_T, nlt_F, neq_T, neq_F, k0, c93 hX hg hv, c87b, bk_x x97]
  done
theorem d103_0 : dec 103 0 = some (.iload_n 1, 1, []) := rfl
theorem d103_1 : dec 103 1 = some (.invokestatic 138, 3, [2, 104, 0, 9, 0, 613, 0]) := rfl
theorem d103_4 : dec 103 4 = some (.iload_n 2, 1, []) := rfl
theorem d103_5 : dec 103 5 = some (.iconst 0, 1, [0]) := rfl
theorem d103_6 : dec 103 6 = some (.sipush 200, 3, [200]) := rfl
theorem d103_9 : dec 103 9 = some (.invokestatic 68, 3, [2, 87, 0, 9, 0, 434, 0, 0, 0]) := rfl
theorem d103_12 : dec 103 12 = some (.aload_n 0, 1, []) := rfl
theorem d103_13 : dec 103 13 = some (.invokevirtual 72, 3, [2, 11, 2, 9, 0, 641]) := rfl
theorem d103_16 : dec 103 16 = some (.aload_n 0, 1, []) := rfl
theorem d103_17 : dec 103 17 = some (.getfield 12, 3, [1, 9, 0, 2, 0, 267]) := rfl
theorem d103_20 : dec 103 20 = some (.getfield 141, 3, [1, 6, 1, 2, 1, 144]) := rfl
theorem d103_23 : dec 103 23 = some (.getfield 145, 3, [1, 3, 0, 2, 1, 91]) := rfl
theorem d103_26 : dec 103 26 = some (.iload_n 1, 1, []) := rfl
theorem d103_27 : dec 103 27 = some (.iload_n 2, 1, []) := rfl
theorem d103_28 : dec 103 28 = some (.invokestatic 82, 3, [2, 88, 0, 9, 0, 649, 0, 0, 2]) := rfl
theorem d103_31 : dec 103 31 = some (.ireturn, 1, [0]) := rfl
theorem l103 : mL 103 = 3 := rfl
theorem x103 : (mG 103).2.2.2.2 = [] := rfl
theorem c103 {d : Nat} {P : MP} {I : MI} {L : ML} {C : MC} {r v : Nat} {B n len : Nat} {g : GS} {ps : Nat → GS} {tx : Nat → Nat} (hX : XB P) (hR : XR I L g n ps len tx) (hA : AV B g n ps len tx) (hd : 8 ≤ d) (q1 : 1 ≤ r) (q3 : r ≤ 3) (h2 : v ≤ 200) : ∃ I', XR I' L (ud g (113 + r) v) (puN n) (puS n ps g) len tx ∧ fo I I' ∧ ∀ Q, CT d 103 [.ref 1, .int (nI r), .int (nI v)] P I L C Q = Q (.inl (some (.int (nI (g (113 + r)))))) P I' L C := by
  have a1 := q1
  have a3 := q3
  clear q1 q3
  have hX' := hX
  obtain ⟨k0, ⟨p0, p1, p2, p3, p4, p5, p6, p7, p8⟩, hS, hS2, hV, ⟨x0, x1, x2⟩, hT2, hO, hD, hH, hH2⟩ := hX'
  have hS' := hS
  obtain ⟨l0, r0, r1, r2, hT, hK, hF⟩ := hS'
  have hT' := hT
  have hK' := hK
  have hF' := hF
  have hR' := hR
  have hA' := hA
  obtain ⟨⟨m0, q0, q1, q2, q3, q4, q5, q6, q7⟩, z1, z2, z3, z4, z5, z6, z7, z8⟩ := hT'
  obtain ⟨w0, w1, w2, w3, w4⟩ := hK'
  obtain ⟨f0, f1, f2, f3, f4, f5, f6, f7, f8⟩ := hF'
  obtain ⟨hg, hVR, hXT, hCC⟩ := hR'
  obtain ⟨hGV, hps, hn4, hlen, htx⟩ := hA'
  have h140 := GV_140 hGV
  have hv := hGV.1
  have hl := hGV.2.1
  have hFv := hGV.2.2
  obtain ⟨J, j1, j2, j3, j4, j5⟩ := c11 (d := d - 1) (C := C) hX hR hv (by omega)
  have e0 : J 13 r = nI (g (113 + r)) := (j1.2.1.1 r a1 a3).1
  refine ⟨xu J 13 r (nI v), XR_mk hR (RC_co (b := 2) j1 hv a1 a3 h140) (VR_fr j2 fun k j h h' => xu_n _ _ (by omega)) (by rw [xu_n _ _ (by omega)]; exact j3) (fun k j h => by rw [xu_n _ _ (by omega), j4 k j (by omega) (by omega)]), fun k j h => by rw [xu_n _ _ (by omega), j4 k j (by omega) (by omega)], fun Q => ?_⟩
  rw [CT_e (mj := 103) (e := [.ref 1, .int (nI r), .int (nI v)]) (by omega) rfl (Nat.le_of_ble_eq_true rfl)]
  simp (disch := first | assumption | omega) only [Nat.reduceAdd, X_go, go2_some, stp, ldI, ldA, ldL, stI, stA, stL, o1I, o2I, o2L, brI, brII, gl, s1, s2, k1, sl, go_sN, go_sR, go_CT, go_sT, go_no, go_if, pops, bk_v, bk_0, d103_0, d103_1, d103_4, d103_5, d103_6, d103_9, d103_12, d103_13, d103_16, d103_17, d103_20, d103_23, d103_26, d103_27, d103_28, d103_31, n_lt, n_le, n_eq, n_lt0, n_ge0, n_gt0, n_le0, n_eq0, m_lt, m_le, m_gt, m_ge, m_eq, m_eq', m_lt0, m_ge0, m_gt0, m_le0, m_ltm, m_lem, n_in, m_in, n_cl, n_ti, n_div, n_rem', n_dec, n_l, nI_add, pk_mul, an0, an1, decide_eq_true_eq, if_true, if_false, ite_true, ite_false, and_true, true_and, and_false, false_and, not_true, not_false_iff, or_false, false_or, or_true, true_or, eq_self, va_some, Bool.false_eq_true, reduceIte, catS_n, catS_i, catS_r, catS_l, catS_d, Nat.zero_add, Nat.add_zero, decide_true, decide_false, Nat.reduceLeDiff, cat_r, cat_i, cat_l, nle_T, nle_F, nlt_T, nlt_F, neq_T, neq_F, k0, p0, p1, p2, p3, p4, p5, p6, p7, p8, x0, x1, x2, l0, r0, r1, r2, m0, q0, q1, q2, q3, q4, q5, q6, q7, w0, w1, w2, f0, f1, f2, f3, f4, c104, c87, j5, c88 w3, e0]
  done
theorem c103b {d : Nat} {P : MP} {I : MI} {L : ML} {C : MC} {Q : QT} {x y : Int32} (hd : 8 ≤ d) (hx : x < nI 1 ∨ nI 3 < x) : CT d 103 [.ref 1, .int x, .int y] P I L C Q = Q (.inr 0) P I L (C.1 + 1, C.2 + 6) := by
  rw [CT_e (mj := 103) (e := [.ref 1, .int x, .int y]) (by omega) rfl (Nat.le_of_ble_eq_true rfl)]
  simp (disch := first | assumption | omega) only [Nat.reduceAdd, X_go, go2_some, stp, ldI, ldA, ldL, stI, stA, stL, o1I, o2I, o2L, brI, brII, gl, s1, s2, k1, sl, go_sN, go_sR, go_CT, go_sT, go_no, go_if, pops, bk_v, bk_0, d103_0, d103_1, d103_4, d103_5, d103_6, d103_9, d103_12, d103_13, d103_16, d103_17, d103_20, d103_23, d103_26, d103_27, d103_28, d103_31, n_lt, n_le, n_eq, n_lt0, n_ge0, n_gt0, n_le0, n_eq0, m_lt, m_le, m_gt, m_ge, m_eq, m_eq', m_lt0, m_ge0, m_gt0, m_le0, m_ltm, m_lem, n_in, m_in, n_cl, n_ti, n_div, n_rem', n_dec, n_l, nI_add, pk_mul, an0, an1, decide_eq_true_eq, if_true, if_false, ite_true, ite_false, and_true, true_and, and_false, false_and, not_true, not_false_iff, or_false, false_or, or_true, true_or, eq_self, va_some, Bool.false_eq_true, reduceIte, catS_n, catS_i, catS_r, catS_l, catS_d, Nat.zero_add, Nat.add_zero, decide_true, decide_false, Nat.reduceLeDiff, cat_r, cat_i, cat_l, nle_T, nle_F, nlt_T, nlt_F, neq_T, neq_F, c104b, bk_x x103]
  done
theorem c103c {d : Nat} {P : MP} {I : MI} {L : ML} {C : MC} {Q : QT} {t : Nat} {y : Int32} (hd : 8 ≤ d) (h1 : 1 ≤ t) (h3 : t ≤ 3) (hy : y < 0 ∨ nI 200 < y) : CT d 103 [.ref 1, .int (nI t), .int y] P I L C Q = Q (.inr 1) P I L (C.1 + 1, C.2 + 6) := by
  rw [CT_e (mj := 103) (e := [.ref 1, .int (nI t), .int y]) (by omega) rfl (Nat.le_of_ble_eq_true rfl)]
  simp (disch := first | assumption | omega) only [Nat.reduceAdd, X_go, go2_some, stp, ldI, ldA, ldL, stI, stA, stL, o1I, o2I, o2L, brI, brII, gl, s1, s2, k1, sl, go_sN, go_sR, go_CT, go_sT, go_no, go_if, pops, bk_v, bk_0, d103_0, d103_1, d103_4, d103_5, d103_6, d103_9, d103_12, d103_13, d103_16, d103_17, d103_20, d103_23, d103_26, d103_27, d103_28, d103_31, n_lt, n_le, n_eq, n_lt0, n_ge0, n_gt0, n_le0, n_eq0, m_lt, m_le, m_gt, m_ge, m_eq, m_eq', m_lt0, m_ge0, m_gt0, m_le0, m_ltm, m_lem, n_in, m_in, n_cl, n_ti, n_div, n_rem', n_dec, n_l, nI_add, pk_mul, an0, an1, decide_eq_true_eq, if_true, if_false, ite_true, ite_false, and_true, true_and, and_false, false_and, not_true, not_false_iff, or_false, false_or, or_true, true_or, eq_self, va_some, Bool.false_eq_true, reduceIte, catS_n, catS_i, catS_r, catS_l, catS_d, Nat.zero_add, Nat.add_zero, decide_true, decide_false, Nat.reduceLeDiff, cat_r, cat_i, cat_l, nle_T, nle_F, nlt_T, nlt_F, neq_T, neq_F, c104, c87b (y := nI 0) (hx := hy), bk_x x103]
  done
theorem d106_0 : dec 106 0 = some (.iload_n 1, 1, []) := rfl
theorem d106_1 : dec 106 1 = some (.invokestatic 138, 3, [2, 104, 0, 9, 0, 613, 0]) := rfl
theorem d106_4 : dec 106 4 = some (.iload_n 2, 1, []) := rfl
theorem d106_5 : dec 106 5 = some (.iconst 0, 1, [0]) := rfl
theorem d106_6 : dec 106 6 = some (.sipush 200, 3, [200]) := rfl
theorem d106_9 : dec 106 9 = some (.invokestatic 68, 3, [2, 87, 0, 9, 0, 434, 0, 0, 0]) := rfl
theorem d106_12 : dec 106 12 = some (.aload_n 0, 1, []) := rfl
theorem d106_13 : dec 106 13 = some (.invokevirtual 72, 3, [2, 11, 2, 9, 0, 641]) := rfl
theorem d106_16 : dec 106 16 = some (.aload_n 0, 1, []) := rfl
theorem d106_17 : dec 106 17 = some (.getfield 12, 3, [1, 9, 0, 2, 0, 267]) := rfl
theorem d106_20 : dec 106 20 = some (.getfield 141, 3, [1, 6, 1, 2, 1, 144]) := rfl
theorem d106_23 : dec 106 23 = some (.getfield 150, 3, [1, 3, 1, 2, 1, 93]) := rfl
theorem d106_26 : dec 106 26 = some (.iload_n 1, 1, []) := rfl
theorem d106_27 : dec 106 27 = some (.iload_n 2, 1, []) := rfl
theorem d106_28 : dec 106 28 = some (.invokestatic 82, 3, [2, 88, 0, 9, 0, 649, 0, 0, 2]) := rfl
theorem d106_31 : dec 106 31 = some (.ireturn, 1, [0]) := rfl
theorem l106 : mL 106 = 3 := rfl
theorem x106 : (mG 106).2.2.2.2 = [] := rfl
theorem c106 {d : Nat} {P : MP} {I : MI} {L : ML} {C : MC} {r v : Nat} {B n len : Nat} {g : GS} {ps : Nat → GS} {tx : Nat → Nat} (hX : XB P) (hR : XR I L g n ps len tx) (hA : AV B g n ps len tx) (hd : 8 ≤ d) (a1 : 1 ≤ r) (a3 : r ≤ 3) (h2 : v ≤ 200) : ∃ I', XR I' L (ud g (116 + r) v) (puN n) (puS n ps g) len tx ∧ fo I I' ∧ ∀ Q, CT d 106 [.ref 1, .int (nI r), .int (nI v)] P I L C Q = Q (.inl (some (.int (nI (g (116 + r)))))) P I' L C := by
  have hX' := hX
  obtain ⟨k0, ⟨p0, p1, p2, p3, p4, p5, p6, p7, p8⟩, hS, hS2, hV, ⟨x0, x1, x2⟩, hT2, hO, hD, hH, hH2⟩ := hX'
  have hS' := hS
  obtain ⟨l0, r0, r1, r2, hT, hK, hF⟩ := hS'
  have hT' := hT
  have hK' := hK
  have hF' := hF
  have hR' := hR
  have hA' := hA
  obtain ⟨⟨m0, q0, q1, q2, q3, q4, q5, q6, q7⟩, z1, z2, z3, z4, z5, z6, z7, z8⟩ := hT'
  obtain ⟨w0, w1, w2, w3, w4⟩ := hK'
  obtain ⟨f0, f1, f2, f3, f4, f5, f6, f7, f8⟩ := hF'
  obtain ⟨hg, hVR, hXT, hCC⟩ := hR'
  obtain ⟨hGV, hps, hn4, hlen, htx⟩ := hA'
  have h140 := GV_140 hGV
  have hv := hGV.1
  have hl := hGV.2.1
  have hFv := hGV.2.2
  obtain ⟨J, j1, j2, j3, j4, j5⟩ := c11 (d := d - 1) (C := C) hX hR hv (by omega)
  have e0 : J 14 r = nI (g (116 + r)) := (j1.2.1.1 r a1 a3).2
  refine ⟨xu J 14 r (nI v), XR_mk hR (RC_li (b := 2) j1 hv a1 a3 h140) (VR_fr j2 fun k j h h' => xu_n _ _ (by omega)) (by rw [xu_n _ _ (by omega)]; exact j3) (fun k j h => by rw [xu_n _ _ (by omega), j4 k j (by omega) (by omega)]), fun k j h => by rw [xu_n _ _ (by omega), j4 k j (by omega) (by omega)], fun Q => ?_⟩
  rw [CT_e (mj := 106) (e := [.ref 1, .int (nI r), .int (nI v)]) (by omega) rfl (Nat.le_of_ble_eq_true rfl)]
  simp (disch := first | assumption | omega) only [Nat.reduceAdd, X_go, go2_some, stp, ldI, ldA, ldL, stI, stA, stL, o1I, o2I, o2L, brI, brII, gl, s1, s2, k1, sl, go_sN, go_sR, go_CT, go_sT, go_no, go_if, pops, bk_v, bk_0, d106_0, d106_1, d106_4, d106_5, d106_6, d106_9, d106_12, d106_13, d106_16, d106_17, d106_20, d106_23, d106_26, d106_27, d106_28, d106_31, n_lt, n_le, n_eq, n_lt0, n_ge0, n_gt0, n_le0, n_eq0, m_lt, m_le, m_gt, m_ge, m_eq, m_eq', m_lt0, m_ge0, m_gt0, m_le0, m_ltm, m_lem, n_in, m_in, n_cl, n_ti, n_div, n_rem', n_dec, n_l, nI_add, pk_mul, an0, an1, decide_eq_true_eq, if_true, if_false, ite_true, ite_false, and_true, true_and, and_false, false_and, not_true, not_false_iff, or_false, false_or, or_true, true_or, eq_self, va_some, Bool.false_eq_true, reduceIte, catS_n, catS_i, catS_r, catS_l, catS_d, Nat.zero_add, Nat.add_zero, decide_true, decide_false, Nat.reduceLeDiff, cat_r, cat_i, cat_l, nle_T, nle_F, nlt_T, nlt_F, neq_T, neq_F, k0, p0, p1, p2, p3, p4, p5, p6, p7, p8, x0, x1, x2, l0, r0, r1, r2, m0, q0, q1, q2, q3, q4, q5, q6, q7, w0, w1, w2, f0, f1, f2, f3, f4, c104, c87, j5, c88 w4, e0]
  done
theorem c106b {d : Nat} {P : MP} {I : MI} {L : ML} {C : MC} {Q : QT} {x y : Int32} (hd : 8 ≤ d) (hx : x < nI 1 ∨ nI 3 < x) : CT d 106 [.ref 1, .int x, .int y] P I L C Q = Q (.inr 0) P I L (C.1 + 1, C.2 + 6) := by
  rw [CT_e (mj := 106) (e := [.ref 1, .int x, .int y]) (by omega) rfl (Nat.le_of_ble_eq_true rfl)]
  simp (disch := first | assumption | omega) only [Nat.reduceAdd, X_go, go2_some, stp, ldI, ldA, ldL, stI, stA, stL, o1I, o2I, o2L, brI, brII, gl, s1, s2, k1, sl, go_sN, go_sR, go_CT, go_sT, go_no, go_if, pops, bk_v, bk_0, d106_0, d106_1, d106_4, d106_5, d106_6, d106_9, d106_12, d106_13, d106_16, d106_17, d106_20, d106_23, d106_26, d106_27, d106_28, d106_31, n_lt, n_le, n_eq, n_lt0, n_ge0, n_gt0, n_le0, n_eq0, m_lt, m_le, m_gt, m_ge, m_eq, m_eq', m_lt0, m_ge0, m_gt0, m_le0, m_ltm, m_lem, n_in, m_in, n_cl, n_ti, n_div, n_rem', n_dec, n_l, nI_add, pk_mul, an0, an1, decide_eq_true_eq, if_true, if_false, ite_true, ite_false, and_true, true_and, and_false, false_and, not_true, not_false_iff, or_false, false_or, or_true, true_or, eq_self, va_some, Bool.false_eq_true, reduceIte, catS_n, catS_i, catS_r, catS_l, catS_d, Nat.zero_add, Nat.add_zero, decide_true, decide_false, Nat.reduceLeDiff, cat_r, cat_i, cat_l, nle_T, nle_F, nlt_T, nlt_F, neq_T, neq_F, c104b, bk_x x106]
  done
theorem c106c {d : Nat} {P : MP} {I : MI} {L : ML} {C : MC} {Q : QT} {t : Nat} {y : Int32} (hd : 8 ≤ d) (h1 : 1 ≤ t) (h3 : t ≤ 3) (hy : y < 0 ∨ nI 200 < y) : CT d 106 [.ref 1, .int (nI t), .int y] P I L C Q = Q (.inr 1) P I L (C.1 + 1, C.2 + 6) := by
  rw [CT_e (mj := 106) (e := [.ref 1, .int (nI t), .int y]) (by omega) rfl (Nat.le_of_ble_eq_true rfl)]
  simp (disch := first | assumption | omega) only [Nat.reduceAdd, X_go, go2_some, stp, ldI, ldA, ldL, stI, stA, stL, o1I, o2I, o2L, brI, brII, gl, s1, s2, k1, sl, go_sN, go_sR, go_CT, go_sT, go_no, go_if, pops, bk_v, bk_0, d106_0, d106_1, d106_4, d106_5, d106_6, d106_9, d106_12, d106_13, d106_16, d106_17, d106_20, d106_23, d106_26, d106_27, d106_28, d106_31, n_lt, n_le, n_eq, n_lt0, n_ge0, n_gt0, n_le0, n_eq0, m_lt, m_le, m_gt, m_ge, m_eq, m_eq', m_lt0, m_ge0, m_gt0, m_le0, m_ltm, m_lem, n_in, m_in, n_cl, n_ti, n_div, n_rem', n_dec, n_l, nI_add, pk_mul, an0, an1, decide_eq_true_eq, if_true, if_false, ite_true, ite_false, and_true, true_and, and_false, false_and, not_true, not_false_iff, or_false, false_or, or_true, true_or, eq_self, va_some, Bool.false_eq_true, reduceIte, catS_n, catS_i, catS_r, catS_l, catS_d, Nat.zero_add, Nat.add_zero, decide_true, decide_false, Nat.reduceLeDiff, cat_r, cat_i, cat_l, nle_T, nle_F, nlt_T, nlt_F, neq_T, neq_F, c104, c87b (y := nI 0) (hx := hy), bk_x x106]
  done
theorem d108_0 : dec 108 0 = some (.iload_n 1, 1, []) := rfl
theorem d108_1 : dec 108 1 = some (.iconst 0, 1, [0]) := rfl
theorem d108_2 : dec 108 2 = some (.bipush 50, 2, [50]) := rfl
theorem d108_4 : dec 108 4 = some (.invokestatic 68, 3, [2, 87, 0, 9, 0, 434, 0, 0, 0]) := rfl
theorem d108_7 : dec 108 7 = some (.iload_n 2, 1, []) := rfl
theorem d108_8 : dec 108 8 = some (.iconst (-1), 1, [4294967295]) := rfl
theorem d108_9 : dec 108 9 = some (.if_icmp .eq 10, 3, [19]) := rfl
theorem d108_12 : dec 108 12 = some (.iload_n 2, 1, []) := rfl
theorem d108_13 : dec 108 13 = some (.iconst 0, 1, [0]) := rfl
theorem d108_14 : dec 108 14 = some (.ldc 153, 2, [8, 999999, 720]) := rfl
theorem d108_16 : dec 108 16 = some (.invokestatic 68, 3, [2, 87, 0, 9, 0, 434, 0, 0, 0]) := rfl
theorem d108_19 : dec 108 19 = some (.aload_n 0, 1, []) := rfl
theorem d108_20 : dec 108 20 = some (.invokevirtual 72, 3, [2, 11, 2, 9, 0, 641]) := rfl
theorem d108_23 : dec 108 23 = some (.aload_n 0, 1, []) := rfl
theorem d108_24 : dec 108 24 = some (.getfield 12, 3, [1, 9, 0, 2, 0, 267]) := rfl
theorem d108_27 : dec 108 27 = some (.getfield 141, 3, [1, 6, 1, 2, 1, 144]) := rfl
theorem d108_30 : dec 108 30 = some (.getfield 154, 3, [1, 3, 2, 0, 1, 95]) := rfl
theorem d108_33 : dec 108 33 = some (.istore_n 3, 1, []) := rfl
theorem d108_34 : dec 108 34 = some (.aload_n 0, 1, []) := rfl
theorem d108_35 : dec 108 35 = some (.getfield 12, 3, [1, 9, 0, 2, 0, 267]) := rfl
theorem d108_38 : dec 108 38 = some (.getfield 141, 3, [1, 6, 1, 2, 1, 144]) := rfl
theorem d108_41 : dec 108 41 = some (.iload_n 1, 1, []) := rfl
theorem d108_42 : dec 108 42 = some (.putfield 154, 3, [1, 3, 2, 0, 1, 95]) := rfl
theorem d108_45 : dec 108 45 = some (.iload_n 2, 1, []) := rfl
theorem d108_46 : dec 108 46 = some (.iconst (-1), 1, [4294967295]) := rfl
theorem d108_47 : dec 108 47 = some (.if_icmp .eq 14, 3, [61]) := rfl
theorem d108_50 : dec 108 50 = some (.aload_n 0, 1, []) := rfl
theorem d108_51 : dec 108 51 = some (.getfield 12, 3, [1, 9, 0, 2, 0, 267]) := rfl
theorem d108_54 : dec 108 54 = some (.getfield 141, 3, [1, 6, 1, 2, 1, 144]) := rfl
theorem d108_57 : dec 108 57 = some (.iload_n 2, 1, []) := rfl
theorem d108_58 : dec 108 58 = some (.putfield 158, 3, [1, 3, 3, 0, 1, 97]) := rfl
theorem d108_61 : dec 108 61 = some (.iload_n 3, 1, []) := rfl
theorem d108_62 : dec 108 62 = some (.ireturn, 1, [0]) := rfl
theorem l108 : mL 108 = 4 := rfl
theorem x108 : (mG 108).2.2.2.2 = [] := rfl
theorem c108 {d : Nat} {P : MP} {I : MI} {L : ML} {C : MC} {r v : Nat} {B n len : Nat} {g : GS} {ps : Nat → GS} {tx : Nat → Nat} (hX : XB P) (hR : XR I L g n ps len tx) (hA : AV B g n ps len tx) (hd : 8 ≤ d) (h1 : r ≤ 50) (h2 : v ≤ 999999) : ∃ I', XR I' L (ud (ud g 120 r) 121 v) (puN n) (puS n ps g) len tx ∧ fo I I' ∧ ∀ Q, CT d 108 [.ref 1, .int (nI r), .int (nI v)] P I L C Q = Q (.inl (some (.int (nI (g 120))))) P I' L C := by
  have hX' := hX
  obtain ⟨k0, ⟨p0, p1, p2, p3, p4, p5, p6, p7, p8⟩, hS, hS2, hV, ⟨x0, x1, x2⟩, hT2, hO, hD, hH, hH2⟩ := hX'
  have hS' := hS
  obtain ⟨l0, r0, r1, r2, hT, hK, hF⟩ := hS'
  have hT' := hT
  have hK' := hK
  have hF' := hF
  have hR' := hR
  have hA' := hA
  obtain ⟨⟨m0, q0, q1, q2, q3, q4, q5, q6, q7⟩, z1, z2, z3, z4, z5, z6, z7, z8⟩ := hT'
  obtain ⟨w0, w1, w2, w3, w4⟩ := hK'
  obtain ⟨f0, f1, f2, f3, f4, f5, f6, f7, f8⟩ := hF'
  obtain ⟨hg, hVR, hXT, hCC⟩ := hR'
  obtain ⟨hGV, hps, hn4, hlen, htx⟩ := hA'
  have h140 := GV_140 hGV
  have hv := hGV.1
  have hl := hGV.2.1
  have hFv := hGV.2.2
  obtain ⟨J, j1, j2, j3, j4, j5⟩ := c11 (d := d - 1) (C := C) hX hR hv (by omega)
  have e0 : J 12 2 = nI (g 120) := j1.2.1.2.1
  have v1 := TV_g (g' := ud g 120 r) (fun k hk => ud_n (by omega)) hv
  refine ⟨xu (xu J 12 2 (nI r)) 12 3 (nI v), XR_mk hR (RC_se (b := 2) (RC_ri (b := 2) j1 hv h140) v1 (by rw [ud_n (by omega)]; exact h140)) (VR_fr j2 fun k j h h' => by rw [xu_n _ _ (by omega), xu_n _ _ (by omega)]) (by rw [xu_n _ _ (by omega), xu_n _ _ (by omega)]; exact j3) (fun k j h => by rw [xu_n _ _ (by omega), xu_n _ _ (by omega), j4 k j (by omega) (by omega)]), fun k j h => by rw [xu_n _ _ (by omega), xu_n _ _ (by omega), j4 k j (by omega) (by omega)], fun Q => ?_⟩
  rw [CT_e (mj := 108) (e := [.ref 1, .int (nI r), .int (nI v), UN]) (by omega) rfl (Nat.le_of_ble_eq_true rfl)]
  simp (disch := first | assumption | omega) only [Nat.reduceAdd, X_go, go2_some, stp, ldI, ldA, ldL, stI, stA, stL, o1I, o2I, o2L, brI, brII, gl, s1, s2, k1, sl, go_sN, go_sR, go_CT, go_sT, go_no, go_if, pops, bk_v, bk_0, d108_0, d108_1, d108_2, d108_4, d108_7, d108_8, d108_9, d108_12, d108_13, d108_14, d108_16, d108_19, d108_20, d108_23, d108_24, d108_27, d108_30, d108_33, d108_34, d108_35, d108_38, d108_41, d108_42, d108_45, d108_46, d108_47, d108_50, d108_51, d108_54, d108_57, d108_58, d108_61, d108_62, n_lt, n_le, n_eq, n_lt0, n_ge0, n_gt0, n_le0, n_eq0, m_lt, m_le, m_gt, m_ge, m_eq, m_eq', m_lt0, m_ge0, m_gt0, m_le0, m_ltm, m_lem, n_in, m_in, n_cl, n_ti, n_div, n_rem', n_dec, n_l, nI_add, pk_mul, an0, an1, decide_eq_true_eq, if_true, if_false, ite_true, ite_false, and_true, true_and, and_false, false_and, not_true, not_false_iff, or_false, false_or, or_true, true_or, eq_self, va_some, Bool.false_eq_true, reduceIte, catS_n, catS_i, catS_r, catS_l, catS_d, Nat.zero_add, Nat.add_zero, decide_true, decide_false, Nat.reduceLeDiff, cat_r, cat_i, cat_l, nle_T, nle_F, nlt_T, nlt_F, neq_T, neq_F, k0, p0, p1, p2, p3, p4, p5, p6, p7, p8, x0, x1, x2, l0, r0, r1, r2, m0, q0, q1, q2, q3, q4, q5, q6, q7, w0, w1, w2, f0, f1, f2, f3, f4, c87, j5, e0]
  done
theorem c108n {d : Nat} {P : MP} {I : MI} {L : ML} {C : MC} {r : Nat} {B n len : Nat} {g : GS} {ps : Nat → GS} {tx : Nat → Nat} (hX : XB P) (hR : XR I L g n ps len tx) (hA : AV B g n ps len tx) (hd : 8 ≤ d) (h1 : r ≤ 50) : ∃ I', XR I' L (ud g 120 r) (puN n) (puS n ps g) len tx ∧ fo I I' ∧ ∀ Q, CT d 108 [.ref 1, .int (nI r), .int (nI 4294967295)] P I L C Q = Q (.inl (some (.int (nI (g 120))))) P I' L C := by
  have hX' := hX
  obtain ⟨k0, ⟨p0, p1, p2, p3, p4, p5, p6, p7, p8⟩, hS, hS2, hV, ⟨x0, x1, x2⟩, hT2, hO, hD, hH, hH2⟩ := hX'
  have hS' := hS
  obtain ⟨l0, r0, r1, r2, hT, hK, hF⟩ := hS'
  have hT' := hT
  have hK' := hK
  have hF' := hF
  have hR' := hR
  have hA' := hA
  obtain ⟨⟨m0, q0, q1, q2, q3, q4, q5, q6, q7⟩, z1, z2, z3, z4, z5, z6, z7, z8⟩ := hT'
  obtain ⟨w0, w1, w2, w3, w4⟩ := hK'
  obtain ⟨f0, f1, f2, f3, f4, f5, f6, f7, f8⟩ := hF'
  obtain ⟨hg, hVR, hXT, hCC⟩ := hR'
  obtain ⟨hGV, hps, hn4, hlen, htx⟩ := hA'
  have h140 := GV_140 hGV
  have hv := hGV.1
  have hl := hGV.2.1
  have hFv := hGV.2.2
  obtain ⟨J, j1, j2, j3, j4, j5⟩ := c11 (d := d - 1) (C := C) hX hR hv (by omega)
  have e0 : J 12 2 = nI (g 120) := j1.2.1.2.1
  refine ⟨xu J 12 2 (nI r), XR_mk hR (RC_ri (b := 2) j1 hv h140) (VR_fr j2 fun k j h h' => xu_n _ _ (by omega)) (by rw [xu_n _ _ (by omega)]; exact j3) (fun k j h => by rw [xu_n _ _ (by omega), j4 k j (by omega) (by omega)]), fun k j h => by rw [xu_n _ _ (by omega), j4 k j (by omega) (by omega)], fun Q => ?_⟩
  rw [CT_e (mj := 108) (e := [.ref 1, .int (nI r), .int (nI 4294967295), UN]) (by omega) rfl (Nat.le_of_ble_eq_true rfl)]
  simp (disch := first | assumption | omega) only [Nat.reduceAdd, X_go, go2_some, stp, ldI, ldA, ldL, stI, stA, stL, o1I, o2I, o2L, brI, brII, gl, s1, s2, k1, sl, go_sN, go_sR, go_CT, go_sT, go_no, go_if, pops, bk_v, bk_0, d108_0, d108_1, d108_2, d108_4, d108_7, d108_8, d108_9, d108_12, d108_13, d108_14, d108_16, d108_19, d108_20, d108_23, d108_24, d108_27, d108_30, d108_33, d108_34, d108_35, d108_38, d108_41, d108_42, d108_45, d108_46, d108_47, d108_50, d108_51, d108_54, d108_57, d108_58, d108_61, d108_62, n_lt, n_le, n_eq, n_lt0, n_ge0, n_gt0, n_le0, n_eq0, m_lt, m_le, m_gt, m_ge, m_eq, m_eq', m_lt0, m_ge0, m_gt0, m_le0, m_ltm, m_lem, n_in, m_in, n_cl, n_ti, n_div, n_rem', n_dec, n_l, nI_add, pk_mul, an0, an1, decide_eq_true_eq, if_true, if_false, ite_true, ite_false, and_true, true_and, and_false, false_and, not_true, not_false_iff, or_false, false_or, or_true, true_or, eq_self, va_some, Bool.false_eq_true, reduceIte, catS_n, catS_i, catS_r, catS_l, catS_d, Nat.zero_add, Nat.add_zero, decide_true, decide_false, Nat.reduceLeDiff, cat_r, cat_i, cat_l, nle_T, nle_F, nlt_T, nlt_F, neq_T, neq_F, k0, p0, p1, p2, p3, p4, p5, p6, p7, p8, x0, x1, x2, l0, r0, r1, r2, m0, q0, q1, q2, q3, q4, q5, q6, q7, w0, w1, w2, f0, f1, f2, f3, f4, c87, j5, e0]
  done
theorem c108b {d : Nat} {P : MP} {I : MI} {L : ML} {C : MC} {Q : QT} {x y : Int32} (hd : 8 ≤ d) (hx : x < 0 ∨ nI 50 < x) : CT d 108 [.ref 1, .int x, .int y] P I L C Q = Q (.inr 1) P I L (C.1 + 1, C.2 + 6) := by
  rw [CT_e (mj := 108) (e := [.ref 1, .int x, .int y, UN]) (by omega) rfl (Nat.le_of_ble_eq_true rfl)]
  simp (disch := first | assumption | omega) only [Nat.reduceAdd, X_go, go2_some, stp, ldI, ldA, ldL, stI, stA, stL, o1I, o2I, o2L, brI, brII, gl, s1, s2, k1, sl, go_sN, go_sR, go_CT, go_sT, go_no, go_if, pops, bk_v, bk_0, d108_0, d108_1, d108_2, d108_4, d108_7, d108_8, d108_9, d108_12, d108_13, d108_14, d108_16, d108_19, d108_20, d108_23, d108_24, d108_27, d108_30, d108_33, d108_34, d108_35, d108_38, d108_41, d108_42, d108_45, d108_46, d108_47, d108_50, d108_51, d108_54, d108_57, d108_58, d108_61, d108_62, n_lt, n_le, n_eq, n_lt0, n_ge0, n_gt0, n_le0, n_eq0, m_lt, m_le, m_gt, m_ge, m_eq, m_eq', m_lt0, m_ge0, m_gt0, m_le0, m_ltm, m_lem, n_in, m_in, n_cl, n_ti, n_div, n_rem', n_dec, n_l, nI_add, pk_mul, an0, an1, decide_eq_true_eq, if_true, if_false, ite_true, ite_false, and_true, true_and, and_false, false_and, not_true, not_false_iff, or_false, false_or, or_true, true_or, eq_self, va_some, Bool.false_eq_true, reduceIte, catS_n, catS_i, catS_r, catS_l, catS_d, Nat.zero_add, Nat.add_zero, decide_true, decide_false, Nat.reduceLeDiff, cat_r, cat_i, cat_l, nle_T, nle_F, nlt_T, nlt_F, neq_T, neq_F, c87b (y := nI 0) (hx := hx), bk_x x108]
  done
theorem c108c {d : Nat} {P : MP} {I : MI} {L : ML} {C : MC} {Q : QT} {r : Nat} {y : Int32} (hd : 8 ≤ d) (hr : r ≤ 50) (hn : y ≠ nI 4294967295) (hy : y < 0 ∨ nI 999999 < y) : CT d 108 [.ref 1, .int (nI r), .int y] P I L C Q = Q (.inr 1) P I L (C.1 + 1, C.2 + 6) := by
  rw [CT_e (mj := 108) (e := [.ref 1, .int (nI r), .int y, UN]) (by omega) rfl (Nat.le_of_ble_eq_true rfl)]
  simp (disch := first | assumption | omega) only [Nat.reduceAdd, X_go, go2_some, stp, ldI, ldA, ldL, stI, stA, stL, o1I, o2I, o2L, brI, brII, gl, s1, s2, k1, sl, go_sN, go_sR, go_CT, go_sT, go_no, go_if, pops, bk_v, bk_0, d108_0, d108_1, d108_2, d108_4, d108_7, d108_8, d108_9, d108_12, d108_13, d108_14, d108_16, d108_19, d108_20, d108_23, d108_24, d108_27, d108_30, d108_33, d108_34, d108_35, d108_38, d108_41, d108_42, d108_45, d108_46, d108_47, d108_50, d108_51, d108_54, d108_57, d108_58, d108_61, d108_62, n_lt, n_le, n_eq, n_lt0, n_ge0, n_gt0, n_le0, n_eq0, m_lt, m_le, m_gt, m_ge, m_eq, m_eq', m_lt0, m_ge0, m_gt0, m_le0, m_ltm, m_lem, n_in, m_in, n_cl, n_ti, n_div, n_rem', n_dec, n_l, nI_add, pk_mul, an0, an1, decide_eq_true_eq, if_true, if_false, ite_true, ite_false, and_true, true_and, and_false, false_and, not_true, not_false_iff, or_false, false_or, or_true, true_or, eq_self, va_some, Bool.false_eq_true, reduceIte, catS_n, catS_i, catS_r, catS_l, catS_d, Nat.zero_add, Nat.add_zero, decide_true, decide_false, Nat.reduceLeDiff, cat_r, cat_i, cat_l, nle_T, nle_F, nlt_T, nlt_F, neq_T, neq_F, c87, hn, c87b (y := nI 0) (hx := hy), bk_x x108]
  done
