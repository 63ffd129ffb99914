/-! CALLS of the class: the share, the digest -/
def lsV (g : GS) : UInt64 := if g 122 = 0 then FP.dconst0 else FP.ddiv (FP.i2d (nI (difO g (g 140)))) (FP.i2d (nI (g 122)))
theorem difO_b {g : GS} {n : Nat} : difO g n ≤ n := by
  have := sm_le (n := n) (b := 1) (f := fun i => if i = 0 ∨ g (141 + 3 * i + 2) ≠ g (141 + 3 * (i - 1) + 2) then 1 else 0) (fun i hi => by split <;> omega)
  unfold difO
  omega
theorem d31_0 : dec 31 0 = some (.aload_n 0, 1, []) := rfl
theorem d31_1 : dec 31 1 = some (.getfield 12, 3, [1, 9, 0, 2, 0, 267]) := rfl
theorem d31_4 : dec 31 4 = some (.getfield 174, 3, [1, 6, 2, 2, 1, 147]) := rfl
theorem d31_7 : dec 31 7 = some (.getfield 216, 3, [1, 2, 4, 0, 1, 120]) := rfl
theorem d31_10 : dec 31 10 = some (.istore_n 1, 1, []) := rfl
theorem d31_11 : dec 31 11 = some (.iload_n 1, 1, []) := rfl
theorem d31_12 : dec 31 12 = some (.ifCond .gt 5, 3, [17]) := rfl
theorem d31_15 : dec 31 15 = some (.dconst 0, 1, []) := rfl
theorem d31_16 : dec 31 16 = some (.dreturn, 1, []) := rfl
theorem d31_17 : dec 31 17 = some (.aload_n 0, 1, []) := rfl
theorem d31_18 : dec 31 18 = some (.getfield 12, 3, [1, 9, 0, 2, 0, 267]) := rfl
theorem d31_21 : dec 31 21 = some (.getfield 174, 3, [1, 6, 2, 2, 1, 147]) := rfl
theorem d31_24 : dec 31 24 = some (.invokevirtual 219, 3, [2, 32, 2, 2, 0, 915]) := rfl
theorem d31_27 : dec 31 27 = some (.i2d, 1, []) := rfl
theorem d31_28 : dec 31 28 = some (.iload_n 1, 1, []) := rfl
theorem d31_29 : dec 31 29 = some (.i2d, 1, []) := rfl
theorem d31_30 : dec 31 30 = some (.ddiv, 1, []) := rfl
theorem d31_31 : dec 31 31 = some (.dreturn, 1, []) := rfl
theorem c31 {d : Nat} {P : MP} {I : MI} {L : ML} {C : MC} {Q : QT} {B n len : Nat} {g : GS} {ps : Nat → GS} {tx : Nat → Nat} (hX : XB P) (hR : XR I L g n ps len tx) (hA : AV B g n ps len tx) (hB : B ≤ 1000000) (hd : 6 ≤ d) : CT d 31 [.ref 1] P I L C Q = Q (.inl (some (.double (lsV g)))) P I L C := by
  have hX' := hX
  obtain ⟨k0, ⟨p0, p1, p2, p3, p4, p5, p6, p7, p8⟩, hS, hS2, hV, ⟨x0, x1, x2⟩, hT2, hO, hD, hH, hH2⟩ := hX'
  have hS' := hS
  obtain ⟨l0, r0, r1, r2, hT, hK, hF⟩ := hS'
  have hT' := hT
  have hK' := hK
  have hF' := hF
  have hR' := hR
  have hA' := hA
  obtain ⟨⟨m0, q0, q1, q2, q3, q4, q5, q6, q7⟩, z1, z2, z3, z4, z5, z6, z7, z8⟩ := hT'
  obtain ⟨w0, w1, w2, w3, w4⟩ := hK'
  obtain ⟨f0, f1, f2, f3, f4, f5, f6, f7, f8⟩ := hF'
  obtain ⟨hg, hVR, hXT, hCC⟩ := hR'
  obtain ⟨hGV, hps, hn4, hlen, htx⟩ := hA'
  have h140 := GV_140 hGV
  have hv := hGV.1
  have hl := hGV.2.1
  have hFv := hGV.2.2
  have e2 : I 15 4 = nI (g 122) := hg.2.2.2.1
  have hb := difO_b (g := g) (n := g 140)
  have hb2 := hFv.1
  unfold lsV
  rw [CT_e (mj := 31) (e := [.ref 1, UN]) (by omega) rfl (Nat.le_of_ble_eq_true rfl)]
  by_cases z : g 122 = 0
  · simp (disch := first | assumption | omega) only [Nat.reduceAdd, X_go, go2_some, stp, ldI, ldA, ldL, stI, stA, stL, o1I, o2I, o2L, brI, brII, gl, s1, s2, k1, sl, go_sN, go_sR, go_CT, go_sT, go_no, go_if, pops, bk_v, bk_0, d31_0, d31_1, d31_4, d31_7, d31_10, d31_11, d31_12, d31_15, d31_16, d31_17, d31_18, d31_21, d31_24, d31_27, d31_28, d31_29, d31_30, d31_31, n_lt, n_le, n_eq, n_lt0, n_ge0, n_gt0, n_le0, n_eq0, m_lt, m_le, m_gt, m_ge, m_eq, m_eq', m_lt0, m_ge0, m_gt0, m_le0, m_ltm, m_lem, n_in, m_in, n_cl, n_ti, n_div, n_rem', n_dec, n_l, nI_add, pk_mul, an0, an1, decide_eq_true_eq, if_true, if_false, ite_true, ite_false, and_true, true_and, and_false, false_and, not_true, not_false_iff, or_false, false_or, or_true, true_or, eq_self, va_some, Bool.false_eq_true, reduceIte, catS_n, catS_i, catS_r, catS_l, catS_d, Nat.zero_add, Nat.add_zero, decide_true, decide_false, Nat.reduceLeDiff, cat_r, cat_i, cat_l, nle_T, nle_F, nlt_T, nlt_F, neq_T, neq_F, k0, p0, p1, p2, p3, p4, p5, p6, p7, p8, x0, x1, x2, l0, r0, r1, r2, m0, q0, q1, q2, q3, q4, q5, q6, q7, w0, w1, w2, f0, f1, f2, f3, f4, e2, z]
  · have hnn := dd_ok (a := difO g (g 140)) (b := g 122) (by omega) (by omega) (by omega)
    simp (disch := first | assumption | omega) only [Nat.reduceAdd, X_go, go2_some, stp, ldI, ldA, ldL, stI, stA, stL, o1I, o2I, o2L, brI, brII, gl, s1, s2, k1, sl, go_sN, go_sR, go_CT, go_sT, go_no, go_if, pops, bk_v, bk_0, d31_0, d31_1, d31_4, d31_7, d31_10, d31_11, d31_12, d31_15, d31_16, d31_17, d31_18, d31_21, d31_24, d31_27, d31_28, d31_29, d31_30, d31_31, n_lt, n_le, n_eq, n_lt0, n_ge0, n_gt0, n_le0, n_eq0, m_lt, m_le, m_gt, m_ge, m_eq, m_eq', m_lt0, m_ge0, m_gt0, m_le0, m_ltm, m_lem, n_in, m_in, n_cl, n_ti, n_div, n_rem', n_dec, n_l, nI_add, pk_mul, an0, an1, decide_eq_true_eq, if_true, if_false, ite_true, ite_false, and_true, true_and, and_false, false_and, not_true, not_false_iff, or_false, false_or, or_true, true_or, eq_self, va_some, Bool.false_eq_true, reduceIte, catS_n, catS_i, catS_r, catS_l, catS_d, Nat.zero_add, Nat.add_zero, decide_true, decide_false, Nat.reduceLeDiff, cat_r, cat_i, cat_l, nle_T, nle_F, nlt_T, nlt_F, neq_T, neq_F, k0, p0, p1, p2, p3, p4, p5, p6, p7, p8, x0, x1, x2, l0, r0, r1, r2, m0, q0, q1, q2, q3, q4, q5, q6, q7, w0, w1, w2, f0, f1, f2, f3, f4, e2, z, c32 hF hg.2.2 hFv hB, hnn]
