/-! CALLS of the class: luck, openings, finds, text, undo -/
theorem d110_0 : dec 110 0 = some (.iload_n 1, 1, []) := rfl
theorem d110_1 : dec 110 1 = some (.invokestatic 138, 3, [2, 104, 0, 9, 0, 613, 0]) := rfl
theorem d110_4 : dec 110 4 = some (.iload_n 2, 1, []) := rfl
theorem d110_5 : dec 110 5 = some (.ifCond .eq 16, 3, [21]) := rfl
theorem d110_8 : dec 110 8 = some (.aload_n 0, 1, []) := rfl
theorem d110_9 : dec 110 9 = some (.getfield 12, 3, [1, 9, 0, 2, 0, 267]) := rfl
theorem d110_12 : dec 110 12 = some (.getfield 141, 3, [1, 6, 1, 2, 1, 144]) := rfl
theorem d110_15 : dec 110 15 = some (.getfield 150, 3, [1, 3, 1, 2, 1, 93]) := rfl
theorem d110_18 : dec 110 18 = some (.goto 13, 3, [31]) := rfl
theorem d110_21 : dec 110 21 = some (.aload_n 0, 1, []) := rfl
theorem d110_22 : dec 110 22 = some (.getfield 12, 3, [1, 9, 0, 2, 0, 267]) := rfl
theorem d110_25 : dec 110 25 = some (.getfield 141, 3, [1, 6, 1, 2, 1, 144]) := rfl
theorem d110_28 : dec 110 28 = some (.getfield 145, 3, [1, 3, 0, 2, 1, 91]) := rfl
theorem d110_31 : dec 110 31 = some (.iload_n 1, 1, []) := rfl
theorem d110_32 : dec 110 32 = some (.invokestatic 161, 3, [2, 26, 0, 9, 0, 530, 0, 2]) := rfl
theorem d110_35 : dec 110 35 = some (.ireturn, 1, [0]) := rfl
theorem l110 : mL 110 = 3 := rfl
theorem x110 : (mG 110).2.2.2.2 = [] := rfl
theorem c110 {d : Nat} {P : MP} {I : MI} {L : ML} {C : MC} {Q : QT} {r b : Nat} {B n len : Nat} {g : GS} {ps : Nat → GS} {tx : Nat → Nat} (hX : XB P) (hR : XR I L g n ps len tx) (hA : AV B g n ps len tx) (hd : 4 ≤ d) (a1 : 1 ≤ r) (a3 : r ≤ 3) (hb : b ≤ 1) : CT d 110 [.ref 1, .int (nI r), .int (nI b)] P I L C Q = Q (.inl (some (.int (nI (if b = 0 then g (113 + r) else g (116 + r)))))) P I L C := by
  have hX' := hX
  obtain ⟨k0, ⟨p0, p1, p2, p3, p4, p5, p6, p7, p8⟩, hS, hS2, hV, ⟨x0, x1, x2⟩, hT2, hO, hD, hH, hH2⟩ := hX'
  have hS' := hS
  obtain ⟨l0, r0, r1, r2, hT, hK, hF⟩ := hS'
  have hT' := hT
  have hK' := hK
  have hF' := hF
  have hR' := hR
  have hA' := hA
  obtain ⟨⟨m0, q0, q1, q2, q3, q4, q5, q6, q7⟩, z1, z2, z3, z4, z5, z6, z7, z8⟩ := hT'
  obtain ⟨w0, w1, w2, w3, w4⟩ := hK'
  obtain ⟨f0, f1, f2, f3, f4, f5, f6, f7, f8⟩ := hF'
  obtain ⟨hg, hVR, hXT, hCC⟩ := hR'
  obtain ⟨hGV, hps, hn4, hlen, htx⟩ := hA'
  have h140 := GV_140 hGV
  have hv := hGV.1
  have hl := hGV.2.1
  have hFv := hGV.2.2
  have e1 : I 13 r = nI (g (113 + r)) := (hg.2.1.1 r a1 a3).1
  have e2 : I 14 r = nI (g (116 + r)) := (hg.2.1.1 r a1 a3).2
  rw [CT_e (mj := 110) (e := [.ref 1, .int (nI r), .int (nI b)]) (by omega) rfl (Nat.le_of_ble_eq_true rfl)]
  by_cases z : b = 0
  · simp (disch := first | assumption | omega) only [Nat.reduceAdd, X_go, go2_some, stp, ldI, ldA, ldL, stI, stA, stL, o1I, o2I, o2L, brI, brII, gl, s1, s2, k1, sl, go_sN, go_sR, go_CT, go_sT, go_no, go_if, pops, bk_v, bk_0, d110_0, d110_1, d110_4, d110_5, d110_8, d110_9, d110_12, d110_15, d110_18, d110_21, d110_22, d110_25, d110_28, d110_31, d110_32, d110_35, n_lt, n_le, n_eq, n_lt0, n_ge0, n_gt0, n_le0, n_eq0, m_lt, m_le, m_gt, m_ge, m_eq, m_eq', m_lt0, m_ge0, m_gt0, m_le0, m_ltm, m_lem, n_in, m_in, n_cl, n_ti, n_div, n_rem', n_dec, n_l, nI_add, pk_mul, an0, an1, decide_eq_true_eq, if_true, if_false, ite_true, ite_false, and_true, true_and, and_false, false_and, not_true, not_false_iff, or_false, false_or, or_true, true_or, eq_self, va_some, Bool.false_eq_true, reduceIte, catS_n, catS_i, catS_r, catS_l, catS_d, Nat.zero_add, Nat.add_zero, decide_true, decide_false, Nat.reduceLeDiff, cat_r, cat_i, cat_l, nle_T, nle_F, nlt_T, nlt_F, neq_T, neq_F, k0, p0, p1, p2, p3, p4, p5, p6, p7, p8, x0, x1, x2, l0, r0, r1, r2, m0, q0, q1, q2, q3, q4, q5, q6, q7, w0, w1, w2, f0, f1, f2, f3, f4, c104, c26 w3, e1, z]
  · simp (disch := first | assumption | omega) only [Nat.reduceAdd, X_go, go2_some, stp, ldI, ldA, ldL, stI, stA, stL, o1I, o2I, o2L, brI, brII, gl, s1, s2, k1, sl, go_sN, go_sR, go_CT, go_sT, go_no, go_if, pops, bk_v, bk_0, d110_0, d110_1, d110_4, d110_5, d110_8, d110_9, d110_12, d110_15, d110_18, d110_21, d110_22, d110_25, d110_28, d110_31, d110_32, d110_35, n_lt, n_le, n_eq, n_lt0, n_ge0, n_gt0, n_le0, n_eq0, m_lt, m_le, m_gt, m_ge, m_eq, m_eq', m_lt0, m_ge0, m_gt0, m_le0, m_ltm, m_lem, n_in, m_in, n_cl, n_ti, n_div, n_rem', n_dec, n_l, nI_add, pk_mul, an0, an1, decide_eq_true_eq, if_true, if_false, ite_true, ite_false, and_true, true_and, and_false, false_and, not_true, not_false_iff, or_false, false_or, or_true, true_or, eq_self, va_some, Bool.false_eq_true, reduceIte, catS_n, catS_i, catS_r, catS_l, catS_d, Nat.zero_add, Nat.add_zero, decide_true, decide_false, Nat.reduceLeDiff, cat_r, cat_i, cat_l, nle_T, nle_F, nlt_T, nlt_F, neq_T, neq_F, k0, p0, p1, p2, p3, p4, p5, p6, p7, p8, x0, x1, x2, l0, r0, r1, r2, m0, q0, q1, q2, q3, q4, q5, q6, q7, w0, w1, w2, f0, f1, f2, f3, f4, c104, c26 w4, e2, z]
theorem c110b {d : Nat} {P : MP} {I : MI} {L : ML} {C : MC} {Q : QT} {x y : Int32} (hd : 4 ≤ d) (hx : x < nI 1 ∨ nI 3 < x) : CT d 110 [.ref 1, .int x, .int y] P I L C Q = Q (.inr 0) P I L (C.1 + 1, C.2 + 6) := by
  rw [CT_e (mj := 110) (e := [.ref 1, .int x, .int y]) (by omega) rfl (Nat.le_of_ble_eq_true rfl)]
  simp (disch := first | assumption | omega) only [Nat.reduceAdd, X_go, go2_some, stp, ldI, ldA, ldL, stI, stA, stL, o1I, o2I, o2L, brI, brII, gl, s1, s2, k1, sl, go_sN, go_sR, go_CT, go_sT, go_no, go_if, pops, bk_v, bk_0, d110_0, d110_1, d110_4, d110_5, d110_8, d110_9, d110_12, d110_15, d110_18, d110_21, d110_22, d110_25, d110_28, d110_31, d110_32, d110_35, n_lt, n_le, n_eq, n_lt0, n_ge0, n_gt0, n_le0, n_eq0, m_lt, m_le, m_gt, m_ge, m_eq, m_eq', m_lt0, m_ge0, m_gt0, m_le0, m_ltm, m_lem, n_in, m_in, n_cl, n_ti, n_div, n_rem', n_dec, n_l, nI_add, pk_mul, an0, an1, decide_eq_true_eq, if_true, if_false, ite_true, ite_false, and_true, true_and, and_false, false_and, not_true, not_false_iff, or_false, false_or, or_true, true_or, eq_self, va_some, Bool.false_eq_true, reduceIte, catS_n, catS_i, catS_r, catS_l, catS_d, Nat.zero_add, Nat.add_zero, decide_true, decide_false, Nat.reduceLeDiff, cat_r, cat_i, cat_l, nle_T, nle_F, nlt_T, nlt_F, neq_T, neq_F, c104b, bk_x x110]
  done
/-- many openings, one after another -/
def opI (top : Nat) : Nat → GS → GS
  | 0, g => g
  | m + 1, g => opI top m (opn top g)
def opT (top : Nat) : Nat → GS → Nat
  | 0, _ => 0
  | m + 1, g => opN top g + opT top m (opn top g)
theorem VR_op {I I' : MI} {n : Nat} {ps : Nat → GS} (hV : VR I n ps) (h : ∀ k j, k < 2 ∨ 2 + 17 < k → k < 123 ∨ 126 < k → I' k j = I k j) : VR I' n ps := VR_fr hV fun k j q1 q2 => h k j (by omega) (by omega)
theorem d114_0 : dec 114 0 = some (.iload_n 1, 1, []) := rfl
theorem d114_1 : dec 114 1 = some (.invokestatic 64, 3, [2, 86, 0, 9, 0, 507, 0]) := rfl
theorem d114_4 : dec 114 4 = some (.aload_n 0, 1, []) := rfl
theorem d114_5 : dec 114 5 = some (.invokevirtual 72, 3, [2, 11, 2, 9, 0, 641]) := rfl
theorem d114_8 : dec 114 8 = some (.aload_n 0, 1, []) := rfl
theorem d114_9 : dec 114 9 = some (.getfield 43, 3, [1, 9, 5, 2, 0, 272]) := rfl
theorem d114_12 : dec 114 12 = some (.aload_n 0, 1, []) := rfl
theorem d114_13 : dec 114 13 = some (.getfield 12, 3, [1, 9, 0, 2, 0, 267]) := rfl
theorem d114_16 : dec 114 16 = some (.iload_n 1, 1, []) := rfl
theorem d114_17 : dec 114 17 = some (.invokevirtual 168, 3, [2, 115, 2, 4, 0, 728, 0, 2]) := rfl
theorem d114_20 : dec 114 20 = some (.ireturn, 1, [0]) := rfl
theorem l114 : mL 114 = 2 := rfl
theorem x114 : (mG 114).2.2.2.2 = [] := rfl
theorem c114 {d : Nat} {P : MP} {I : MI} {L : ML} {C : MC} {t : Nat} {B n len : Nat} {g : GS} {ps : Nat → GS} {tx : Nat → Nat} (hX : XB P) (hR : XR I L g n ps len tx) (hA : AV B g n ps len tx) (hB : B < 1000000) (hd : 12 ≤ d) (ht : t < 3) : ∃ I', XR I' L (opn t g) (puN n) (puS n ps g) len tx ∧ fo I I' ∧ ∀ Q, CT d 114 [.ref 1, .int (nI t)] P I L C Q = Q (.inl (some (.int (nI (opN t g))))) P I' L C := by
  have hX' := hX
  obtain ⟨k0, ⟨p0, p1, p2, p3, p4, p5, p6, p7, p8⟩, hS, hS2, hV, ⟨x0, x1, x2⟩, hT2, hO, hD, hH, hH2⟩ := hX'
  have hS' := hS
  obtain ⟨l0, r0, r1, r2, hT, hK, hF⟩ := hS'
  have hT' := hT
  have hK' := hK
  have hF' := hF
  have hR' := hR
  have hA' := hA
  obtain ⟨⟨m0, q0, q1, q2, q3, q4, q5, q6, q7⟩, z1, z2, z3, z4, z5, z6, z7, z8⟩ := hT'
  obtain ⟨w0, w1, w2, w3, w4⟩ := hK'
  obtain ⟨f0, f1, f2, f3, f4, f5, f6, f7, f8⟩ := hF'
  obtain ⟨hg, hVR, hXT, hCC⟩ := hR'
  obtain ⟨hGV, hps, hn4, hlen, htx⟩ := hA'
  have h140 := GV_140 hGV
  have hv := hGV.1
  have hl := hGV.2.1
  have hFv := hGV.2.2
  obtain ⟨J, j1, j2, j3, j4, j5⟩ := c11 (d := d - 1) (C := C) hX hR hv (by omega)
  have hO0 := hO.1
  obtain ⟨I', i1, i2, i3, i4, i5⟩ := c115 (d := d - 1) (L := L) (C := C) hO hS (by omega) j1 hv hl hFv hB (by omega) ht
  refine ⟨I', XR_mk hR i1 (VR_op j2 i4) (by rw [i4 _ _ (by omega) (by omega)]; exact j3) (fun k j h => by rw [i4 _ _ (by omega) (by omega), j4 k j (by omega) (by omega)]), fun k j h => by rw [i4 _ _ (by omega) (by omega), j4 k j (by omega) (by omega)], fun Q => ?_⟩
  rw [CT_e (mj := 114) (e := [.ref 1, .int (nI t)]) (by omega) rfl (Nat.le_of_ble_eq_true rfl)]
  simp (disch := first | assumption | omega) only [Nat.reduceAdd, X_go, go2_some, stp, ldI, ldA, ldL, stI, stA, stL, o1I, o2I, o2L, brI, brII, gl, s1, s2, k1, sl, go_sN, go_sR, go_CT, go_sT, go_no, go_if, pops, bk_v, bk_0, d114_0, d114_1, d114_4, d114_5, d114_8, d114_9, d114_12, d114_13, d114_16, d114_17, d114_20, n_lt, n_le, n_eq, n_lt0, n_ge0, n_gt0, n_le0, n_eq0, m_lt, m_le, m_gt, m_ge, m_eq, m_eq', m_lt0, m_ge0, m_gt0, m_le0, m_ltm, m_lem, n_in, m_in, n_cl, n_ti, n_div, n_rem', n_dec, n_l, nI_add, pk_mul, an0, an1, decide_eq_true_eq, if_true, if_false, ite_true, ite_false, and_true, true_and, and_false, false_and, not_true, not_false_iff, or_false, false_or, or_true, true_or, eq_self, va_some, Bool.false_eq_true, reduceIte, catS_n, catS_i, catS_r, catS_l, catS_d, Nat.zero_add, Nat.add_zero, decide_true, decide_false, Nat.reduceLeDiff, cat_r, cat_i, cat_l, nle_T, nle_F, nlt_T, nlt_F, neq_T, neq_F, k0, p0, p1, p2, p3, p4, p5, p6, p7, p8, x0, x1, x2, l0, r0, r1, r2, m0, q0, q1, q2, q3, q4, q5, q6, q7, w0, w1, w2, f0, f1, f2, f3, f4, c86, j5, hO0, i5]
  done
theorem c114b {d : Nat} {P : MP} {I : MI} {L : ML} {C : MC} {Q : QT} {x : Int32} (hd : 4 ≤ d) (hx : x < 0 ∨ nI 3 ≤ x) : CT d 114 [.ref 1, .int x] P I L C Q = Q (.inr 0) P I L (C.1 + 1, C.2 + 6) := by
  rw [CT_e (mj := 114) (e := [.ref 1, .int x]) (by omega) rfl (Nat.le_of_ble_eq_true rfl)]
  simp (disch := first | assumption | omega) only [Nat.reduceAdd, X_go, go2_some, stp, ldI, ldA, ldL, stI, stA, stL, o1I, o2I, o2L, brI, brII, gl, s1, s2, k1, sl, go_sN, go_sR, go_CT, go_sT, go_no, go_if, pops, bk_v, bk_0, d114_0, d114_1, d114_4, d114_5, d114_8, d114_9, d114_12, d114_13, d114_16, d114_17, d114_20, n_lt, n_le, n_eq, n_lt0, n_ge0, n_gt0, n_le0, n_eq0, m_lt, m_le, m_gt, m_ge, m_eq, m_eq', m_lt0, m_ge0, m_gt0, m_le0, m_ltm, m_lem, n_in, m_in, n_cl, n_ti, n_div, n_rem', n_dec, n_l, nI_add, pk_mul, an0, an1, decide_eq_true_eq, if_true, if_false, ite_true, ite_false, and_true, true_and, and_false, false_and, not_true, not_false_iff, or_false, false_or, or_true, true_or, eq_self, va_some, Bool.false_eq_true, reduceIte, catS_n, catS_i, catS_r, catS_l, catS_d, Nat.zero_add, Nat.add_zero, decide_true, decide_false, Nat.reduceLeDiff, cat_r, cat_i, cat_l, nle_T, nle_F, nlt_T, nlt_F, neq_T, neq_F, c86b, bk_x x114]
  done
theorem d124_0 : dec 124 0 = some (.iload_n 1, 1, []) := rfl
theorem d124_1 : dec 124 1 = some (.invokestatic 64, 3, [2, 86, 0, 9, 0, 507, 0]) := rfl
theorem d124_4 : dec 124 4 = some (.iload_n 2, 1, []) := rfl
theorem d124_5 : dec 124 5 = some (.iconst 1, 1, [1]) := rfl
theorem d124_6 : dec 124 6 = some (.sipush 200, 3, [200]) := rfl
theorem d124_9 : dec 124 9 = some (.invokestatic 68, 3, [2, 87, 0, 9, 0, 434, 0, 0, 0]) := rfl
theorem d124_12 : dec 124 12 = some (.aload_n 0, 1, []) := rfl
theorem d124_13 : dec 124 13 = some (.invokevirtual 72, 3, [2, 11, 2, 9, 0, 641]) := rfl
theorem d124_16 : dec 124 16 = some (.iconst 0, 1, [0]) := rfl
theorem d124_17 : dec 124 17 = some (.istore_n 3, 1, []) := rfl
theorem d124_18 : dec 124 18 = some (.iconst 0, 1, [0]) := rfl
theorem d124_19 : dec 124 19 = some (.istore 4, 2, []) := rfl
theorem d124_21 : dec 124 21 = some (.iload 4, 2, []) := rfl
theorem d124_23 : dec 124 23 = some (.iload_n 2, 1, []) := rfl
theorem d124_24 : dec 124 24 = some (.if_icmp .ge 24, 3, [48]) := rfl
theorem d124_27 : dec 124 27 = some (.iload_n 3, 1, []) := rfl
theorem d124_28 : dec 124 28 = some (.aload_n 0, 1, []) := rfl
theorem d124_29 : dec 124 29 = some (.getfield 43, 3, [1, 9, 5, 2, 0, 272]) := rfl
theorem d124_32 : dec 124 32 = some (.aload_n 0, 1, []) := rfl
theorem d124_33 : dec 124 33 = some (.getfield 12, 3, [1, 9, 0, 2, 0, 267]) := rfl
theorem d124_36 : dec 124 36 = some (.iload_n 1, 1, []) := rfl
theorem d124_37 : dec 124 37 = some (.invokevirtual 168, 3, [2, 115, 2, 4, 0, 728, 0, 2]) := rfl
theorem d124_40 : dec 124 40 = some (.iadd, 1, []) := rfl
theorem d124_41 : dec 124 41 = some (.istore_n 3, 1, []) := rfl
theorem d124_42 : dec 124 42 = some (.iinc 4 1, 3, [1]) := rfl
theorem d124_45 : dec 124 45 = some (.goto (-24), 3, [21]) := rfl
theorem d124_48 : dec 124 48 = some (.iload_n 3, 1, []) := rfl
theorem d124_49 : dec 124 49 = some (.ireturn, 1, [0]) := rfl
theorem l124 : mL 124 = 5 := rfl
theorem x124 : (mG 124).2.2.2.2 = [] := rfl
theorem f124 {d : Nat} {P : MP} {L : ML} {C : MC} {t times : Nat} (hX : XB P) (hd : 11 ≤ d) (ht : t < 3) (h200 : times ≤ 200) : ∀ m i f B (g : GS) (I : MI), i + m = times → f ≤ 2 * i → B + m < 1000000 → RC I 2 g → GV B g → ∃ I', RC I' 2 (opI t m g) ∧ GV (B + m) (opI t m g) ∧ (∀ k j, k < 2 ∨ 2 + 17 < k → k < 123 ∨ 126 < k → I' k j = I k j) ∧ ∀ Q, X d 124 21 [.ref 1, .int (nI t), .int (nI times), .int (nI f), .int (nI i)] [] P I L C Q = Q (.inl (some (.int (nI (f + opT t m g))))) P I' L C := by
  have hX' := hX
  obtain ⟨k0, ⟨p0, p1, p2, p3, p4, p5, p6, p7, p8⟩, hS, hS2, hV, ⟨x0, x1, x2⟩, hT2, hO, hD, hH, hH2⟩ := hX'
  have hS0 := hS.1
  have hO0 := hO.1
  intro m
  induction m with
  | zero =>
    intro i f B g I hi hf hB hg hGV
    refine ⟨I, hg, hGV, fun _ _ _ _ => rfl, fun Q => ?_⟩
    have : i = times := by omega
    subst this
    rw [X_go, d124_21]
    have e : opT t 0 g = 0 := rfl
    simp (disch := first | assumption | omega) only [Nat.reduceAdd, X_go, go2_some, stp, ldI, ldA, ldL, stI, stA, stL, o1I, o2I, o2L, brI, brII, gl, s1, s2, k1, sl, go_sN, go_sR, go_CT, go_sT, go_no, go_if, pops, bk_v, bk_0, d124_0, d124_1, d124_4, d124_5, d124_6, d124_9, d124_12, d124_13, d124_16, d124_17, d124_18, d124_19, d124_23, d124_24, d124_27, d124_28, d124_29, d124_32, d124_33, d124_36, d124_37, d124_40, d124_41, d124_42, d124_45, d124_48, d124_49, n_lt, n_le, n_eq, n_lt0, n_ge0, n_gt0, n_le0, n_eq0, m_lt, m_le, m_gt, m_ge, m_eq, m_eq', m_lt0, m_ge0, m_gt0, m_le0, m_ltm, m_lem, n_in, m_in, n_cl, n_ti, n_div, n_rem', n_dec, n_l, nI_add, pk_mul, an0, an1, decide_eq_true_eq, if_true, if_false, ite_true, ite_false, and_true, true_and, and_false, false_and, not_true, not_false_iff, or_false, false_or, or_true, true_or, eq_self, va_some, Bool.false_eq_true, reduceIte, catS_n, catS_i, catS_r, catS_l, catS_d, Nat.zero_add, Nat.add_zero, decide_true, decide_false, Nat.reduceLeDiff, cat_r, cat_i, cat_l, nle_T, nle_F, nlt_T, nlt_F, neq_T, neq_F, e]
  | succ m ih =>
    intro i f B g I hi hf hB hg hGV
    obtain ⟨J, i1, i2, i3, i4, i5⟩ := c115 (d := d) (L := L) (C := C) hO hS (by omega) hg hGV.1 hGV.2.1 hGV.2.2 (by omega) (by omega) ht
    obtain ⟨I', a1, a2, a3, a4⟩ := ih (i + 1) (f + opN t g) (B + 1) (opn t g) J (by omega) (by omega) (by omega) i1 i2
    have e : opT t (m + 1) g = opN t g + opT t m (opn t g) := rfl
    have e2 : opI t (m + 1) g = opI t m (opn t g) := rfl
    rw [e, e2]
    refine ⟨I', a1, by rw [show B + (m + 1) = B + 1 + m by omega]; exact a2, fun k j h h' => by rw [a3 k j h h', i4 k j h h'], fun Q => ?_⟩
    have a4 := a4 Q
    rw [show f + opN t g + opT t m (opn t g) = f + (opN t g + opT t m (opn t g)) by omega] at a4
    rw [X_go, d124_21]
    simp (disch := first | assumption | omega) only [Nat.reduceAdd, X_go, go2_some, stp, ldI, ldA, ldL, stI, stA, stL, o1I, o2I, o2L, brI, brII, gl, s1, s2, k1, sl, go_sN, go_sR, go_CT, go_sT, go_no, go_if, pops, bk_v, bk_0, d124_0, d124_1, d124_4, d124_5, d124_6, d124_9, d124_12, d124_13, d124_16, d124_17, d124_18, d124_19, d124_23, d124_24, d124_27, d124_28, d124_29, d124_32, d124_33, d124_36, d124_37, d124_40, d124_41, d124_42, d124_45, d124_48, d124_49, n_lt, n_le, n_eq, n_lt0, n_ge0, n_gt0, n_le0, n_eq0, m_lt, m_le, m_gt, m_ge, m_eq, m_eq', m_lt0, m_ge0, m_gt0, m_le0, m_ltm, m_lem, n_in, m_in, n_cl, n_ti, n_div, n_rem', n_dec, n_l, nI_add, pk_mul, an0, an1, decide_eq_true_eq, if_true, if_false, ite_true, ite_false, and_true, true_and, and_false, false_and, not_true, not_false_iff, or_false, false_or, or_true, true_or, eq_self, va_some, Bool.false_eq_true, reduceIte, catS_n, catS_i, catS_r, catS_l, catS_d, Nat.zero_add, Nat.add_zero, decide_true, decide_false, Nat.reduceLeDiff, cat_r, cat_i, cat_l, nle_T, nle_F, nlt_T, nlt_F, neq_T, neq_F, k0, p0, p5, hO0, i5]
    simp only [← X_go]
    exact a4
theorem c124 {d : Nat} {P : MP} {I : MI} {L : ML} {C : MC} {t times : Nat} {B n len : Nat} {g : GS} {ps : Nat → GS} {tx : Nat → Nat} (hX : XB P) (hR : XR I L g n ps len tx) (hA : AV B g n ps len tx) (hB : B + times < 1000000) (hd : 13 ≤ d) (ht : t < 3) (h1 : 1 ≤ times) (h2 : times ≤ 200) : ∃ I', XR I' L (opI t times g) (puN n) (puS n ps g) len tx ∧ GV (B + times) (opI t times g) ∧ fo I I' ∧ ∀ Q, CT d 124 [.ref 1, .int (nI t), .int (nI times)] P I L C Q = Q (.inl (some (.int (nI (opT t times g))))) P I' L C := by
  have hX' := hX
  obtain ⟨k0, ⟨p0, p1, p2, p3, p4, p5, p6, p7, p8⟩, hS, hS2, hV, ⟨x0, x1, x2⟩, hT2, hO, hD, hH, hH2⟩ := hX'
  have hS' := hS
  obtain ⟨l0, r0, r1, r2, hT, hK, hF⟩ := hS'
  have hT' := hT
  have hK' := hK
  have hF' := hF
  have hR' := hR
  have hA' := hA
  obtain ⟨⟨m0, q0, q1, q2, q3, q4, q5, q6, q7⟩, z1, z2, z3, z4, z5, z6, z7, z8⟩ := hT'
  obtain ⟨w0, w1, w2, w3, w4⟩ := hK'
  obtain ⟨f0, f1, f2, f3, f4, f5, f6, f7, f8⟩ := hF'
  obtain ⟨hg, hVR, hXT, hCC⟩ := hR'
  obtain ⟨hGV, hps, hn4, hlen, htx⟩ := hA'
  have h140 := GV_140 hGV
  have hv := hGV.1
  have hl := hGV.2.1
  have hFv := hGV.2.2
  obtain ⟨J, j1, j2, j3, j4, j5⟩ := c11 (d := d - 1) (C := C) hX hR hv (by omega)
  obtain ⟨I', i1, i2, i3, i4⟩ := f124 (d := d - 1) (L := L) (C := C) hX (by omega) ht h2 times 0 0 B g J (by omega) (by omega) hB j1 hGV
  refine ⟨I', XR_mk hR i1 (VR_op j2 i3) (by rw [i3 _ _ (by omega) (by omega)]; exact j3) (fun k j h => by rw [i3 _ _ (by omega) (by omega), j4 k j (by omega) (by omega)]), i2, fun k j h => by rw [i3 _ _ (by omega) (by omega), j4 k j (by omega) (by omega)], fun Q => ?_⟩
  have i4 := i4 Q
  rw [Nat.zero_add] at i4
  rw [CT_e (mj := 124) (e := [.ref 1, .int (nI t), .int (nI times), UN, UN]) (by omega) rfl (Nat.le_of_ble_eq_true rfl)]
  simp (disch := first | assumption | omega) only [Nat.reduceAdd, X_go, go2_some, stp, ldI, ldA, ldL, stI, stA, stL, o1I, o2I, o2L, brI, brII, gl, s1, s2, k1, sl, go_sN, go_sR, go_CT, go_sT, go_no, go_if, pops, bk_v, bk_0, d124_0, d124_1, d124_4, d124_5, d124_6, d124_9, d124_12, d124_13, d124_16, d124_17, d124_18, d124_19, d124_23, d124_24, d124_27, d124_28, d124_29, d124_32, d124_33, d124_36, d124_37, d124_40, d124_41, d124_42, d124_45, d124_48, d124_49, n_lt, n_le, n_eq, n_lt0, n_ge0, n_gt0, n_le0, n_eq0, m_lt, m_le, m_gt, m_ge, m_eq, m_eq', m_lt0, m_ge0, m_gt0, m_le0, m_ltm, m_lem, n_in, m_in, n_cl, n_ti, n_div, n_rem', n_dec, n_l, nI_add, pk_mul, an0, an1, decide_eq_true_eq, if_true, if_false, ite_true, ite_false, and_true, true_and, and_false, false_and, not_true, not_false_iff, or_false, false_or, or_true, true_or, eq_self, va_some, Bool.false_eq_true, reduceIte, catS_n, catS_i, catS_r, catS_l, catS_d, Nat.zero_add, Nat.add_zero, decide_true, decide_false, Nat.reduceLeDiff, cat_r, cat_i, cat_l, nle_T, nle_F, nlt_T, nlt_F, neq_T, neq_F, k0, p0, p1, p2, p3, p4, p5, p6, p7, p8, x0, x1, x2, l0, r0, r1, r2, m0, q0, q1, q2, q3, q4, q5, q6, q7, w0, w1, w2, f0, f1, f2, f3, f4, c86, c87, j5]
  simp only [← X_go]
  exact i4
theorem c124b {d : Nat} {P : MP} {I : MI} {L : ML} {C : MC} {Q : QT} {x y : Int32} (hd : 4 ≤ d) (hx : x < 0 ∨ nI 3 ≤ x) : CT d 124 [.ref 1, .int x, .int y] P I L C Q = Q (.inr 0) P I L (C.1 + 1, C.2 + 6) := by
  rw [CT_e (mj := 124) (e := [.ref 1, .int x, .int y, UN, UN]) (by omega) rfl (Nat.le_of_ble_eq_true rfl)]
  simp (disch := first | assumption | omega) only [Nat.reduceAdd, X_go, go2_some, stp, ldI, ldA, ldL, stI, stA, stL, o1I, o2I, o2L, brI, brII, gl, s1, s2, k1, sl, go_sN, go_sR, go_CT, go_sT, go_no, go_if, pops, bk_v, bk_0, d124_0, d124_1, d124_4, d124_5, d124_6, d124_9, d124_12, d124_13, d124_16, d124_17, d124_18, d124_19, d124_21, d124_23, d124_24, d124_27, d124_28, d124_29, d124_32, d124_33, d124_36, d124_37, d124_40, d124_41, d124_42, d124_45, d124_48, d124_49, n_lt, n_le, n_eq, n_lt0, n_ge0, n_gt0, n_le0, n_eq0, m_lt, m_le, m_gt, m_ge, m_eq, m_eq', m_lt0, m_ge0, m_gt0, m_le0, m_ltm, m_lem, n_in, m_in, n_cl, n_ti, n_div, n_rem', n_dec, n_l, nI_add, pk_mul, an0, an1, decide_eq_true_eq, if_true, if_false, ite_true, ite_false, and_true, true_and, and_false, false_and, not_true, not_false_iff, or_false, false_or, or_true, true_or, eq_self, va_some, Bool.false_eq_true, reduceIte, catS_n, catS_i, catS_r, catS_l, catS_d, Nat.zero_add, Nat.add_zero, decide_true, decide_false, Nat.reduceLeDiff, cat_r, cat_i, cat_l, nle_T, nle_F, nlt_T, nlt_F, neq_T, neq_F, c86b, bk_x x124]
  done
theorem c124c {d : Nat} {P : MP} {I : MI} {L : ML} {C : MC} {Q : QT} {t : Nat} {y : Int32} (hd : 4 ≤ d) (ht : t < 3) (hy : y < nI 1 ∨ nI 200 < y) : CT d 124 [.ref 1, .int (nI t), .int y] P I L C Q = Q (.inr 1) P I L (C.1 + 1, C.2 + 6) := by
  rw [CT_e (mj := 124) (e := [.ref 1, .int (nI t), .int y, UN, UN]) (by omega) rfl (Nat.le_of_ble_eq_true rfl)]
  simp (disch := first | assumption | omega) only [Nat.reduceAdd, X_go, go2_some, stp, ldI, ldA, ldL, stI, stA, stL, o1I, o2I, o2L, brI, brII, gl, s1, s2, k1, sl, go_sN, go_sR, go_CT, go_sT, go_no, go_if, pops, bk_v, bk_0, d124_0, d124_1, d124_4, d124_5, d124_6, d124_9, d124_12, d124_13, d124_16, d124_17, d124_18, d124_19, d124_21, d124_23, d124_24, d124_27, d124_28, d124_29, d124_32, d124_33, d124_36, d124_37, d124_40, d124_41, d124_42, d124_45, d124_48, d124_49, n_lt, n_le, n_eq, n_lt0, n_ge0, n_gt0, n_le0, n_eq0, m_lt, m_le, m_gt, m_ge, m_eq, m_eq', m_lt0, m_ge0, m_gt0, m_le0, m_ltm, m_lem, n_in, m_in, n_cl, n_ti, n_div, n_rem', n_dec, n_l, nI_add, pk_mul, an0, an1, decide_eq_true_eq, if_true, if_false, ite_true, ite_false, and_true, true_and, and_false, false_and, not_true, not_false_iff, or_false, false_or, or_true, true_or, eq_self, va_some, Bool.false_eq_true, reduceIte, catS_n, catS_i, catS_r, catS_l, catS_d, Nat.zero_add, Nat.add_zero, decide_true, decide_false, Nat.reduceLeDiff, cat_r, cat_i, cat_l, nle_T, nle_F, nlt_T, nlt_F, neq_T, neq_F, c86, c87b, bk_x x124]
  done
theorem d126_0 : dec 126 0 = some (.iload_n 1, 1, []) := rfl
theorem d126_1 : dec 126 1 = some (.ifCond .ge 13, 3, [14]) := rfl
theorem d126_4 : dec 126 4 = some (.new 90, 3, [6, 1, 437]) := rfl
theorem d126_7 : dec 126 7 = some (.dup, 1, []) := rfl
theorem d126_8 : dec 126 8 = some (.ldc 172, 2, []) := rfl
theorem d126_10 : dec 126 10 = some (.invokespecial 94, 3, []) := rfl
theorem d126_13 : dec 126 13 = some (.athrow, 1, []) := rfl
theorem d126_14 : dec 126 14 = some (.iload_n 2, 1, []) := rfl
theorem d126_15 : dec 126 15 = some (.iconst 0, 1, [0]) := rfl
theorem d126_16 : dec 126 16 = some (.iconst 2, 1, [2]) := rfl
theorem d126_17 : dec 126 17 = some (.invokestatic 68, 3, [2, 87, 0, 9, 0, 434, 0, 0, 0]) := rfl
theorem d126_20 : dec 126 20 = some (.aload_n 0, 1, []) := rfl
theorem d126_21 : dec 126 21 = some (.getfield 12, 3, [1, 9, 0, 2, 0, 267]) := rfl
theorem d126_24 : dec 126 24 = some (.getfield 174, 3, [1, 6, 2, 2, 1, 147]) := rfl
theorem d126_27 : dec 126 27 = some (.iload_n 1, 1, []) := rfl
theorem d126_28 : dec 126 28 = some (.iload_n 2, 1, []) := rfl
theorem d126_29 : dec 126 29 = some (.invokevirtual 178, 3, [2, 34, 2, 2, 0, 625, 0, 0]) := rfl
theorem d126_32 : dec 126 32 = some (.ireturn, 1, [0]) := rfl
theorem l126 : mL 126 = 3 := rfl
theorem x126 : (mG 126).2.2.2.2 = [] := rfl
theorem c126 {d : Nat} {P : MP} {I : MI} {L : ML} {C : MC} {Q : QT} {i w : Nat} {B n len : Nat} {g : GS} {ps : Nat → GS} {tx : Nat → Nat} (hX : XB P) (hR : XR I L g n ps len tx) (hA : AV B g n ps len tx) (hB : B ≤ 1000000) (hd : 4 ≤ d) (hi : i < 2147483648) (hw : w < 3) : CT d 126 [.ref 1, .int (nI i), .int (nI w)] P I L C Q = Q (.inl (some (.int (tellG g i w)))) P I L C := by
  have hX' := hX
  obtain ⟨k0, ⟨p0, p1, p2, p3, p4, p5, p6, p7, p8⟩, hS, hS2, hV, ⟨x0, x1, x2⟩, hT2, hO, hD, hH, hH2⟩ := hX'
  have hS' := hS
  obtain ⟨l0, r0, r1, r2, hT, hK, hF⟩ := hS'
  have hT' := hT
  have hK' := hK
  have hF' := hF
  have hR' := hR
  have hA' := hA
  obtain ⟨⟨m0, q0, q1, q2, q3, q4, q5, q6, q7⟩, z1, z2, z3, z4, z5, z6, z7, z8⟩ := hT'
  obtain ⟨w0, w1, w2, w3, w4⟩ := hK'
  obtain ⟨f0, f1, f2, f3, f4, f5, f6, f7, f8⟩ := hF'
  obtain ⟨hg, hVR, hXT, hCC⟩ := hR'
  obtain ⟨hGV, hps, hn4, hlen, htx⟩ := hA'
  have h140 := GV_140 hGV
  have hv := hGV.1
  have hl := hGV.2.1
  have hFv := hGV.2.2
  rw [CT_e (mj := 126) (e := [.ref 1, .int (nI i), .int (nI w)]) (by omega) rfl (Nat.le_of_ble_eq_true rfl)]
  simp (disch := first | assumption | omega) only [Nat.reduceAdd, X_go, go2_some, stp, ldI, ldA, ldL, stI, stA, stL, o1I, o2I, o2L, brI, brII, gl, s1, s2, k1, sl, go_sN, go_sR, go_CT, go_sT, go_no, go_if, pops, bk_v, bk_0, d126_0, d126_1, d126_4, d126_7, d126_8, d126_10, d126_13, d126_14, d126_15, d126_16, d126_17, d126_20, d126_21, d126_24, d126_27, d126_28, d126_29, d126_32, n_lt, n_le, n_eq, n_lt0, n_ge0, n_gt0, n_le0, n_eq0, m_lt, m_le, m_gt, m_ge, m_eq, m_eq', m_lt0, m_ge0, m_gt0, m_le0, m_ltm, m_lem, n_in, m_in, n_cl, n_ti, n_div, n_rem', n_dec, n_l, nI_add, pk_mul, an0, an1, decide_eq_true_eq, if_true, if_false, ite_true, ite_false, and_true, true_and, and_false, false_and, not_true, not_false_iff, or_false, false_or, or_true, true_or, eq_self, va_some, Bool.false_eq_true, reduceIte, catS_n, catS_i, catS_r, catS_l, catS_d, Nat.zero_add, Nat.add_zero, decide_true, decide_false, Nat.reduceLeDiff, cat_r, cat_i, cat_l, nle_T, nle_F, nlt_T, nlt_F, neq_T, neq_F, k0, p0, p1, p2, p3, p4, p5, p6, p7, p8, x0, x1, x2, l0, r0, r1, r2, m0, q0, q1, q2, q3, q4, q5, q6, q7, w0, w1, w2, f0, f1, f2, f3, f4, c87, c34 hF hg.2.2 hFv hB]
  done
theorem c126b {d : Nat} {P : MP} {I : MI} {L : ML} {C : MC} {Q : QT} {x y : Int32} (hd : 4 ≤ d) (hx : x < 0) : CT d 126 [.ref 1, .int x, .int y] P I L C Q = Q (.inr 1) P I L (C.1 + 1, C.2 + 6) := by
  have h' : ¬ (0 ≤ x) := Int32.not_le.mpr hx
  rw [CT_e (mj := 126) (e := [.ref 1, .int x, .int y]) (by omega) rfl (Nat.le_of_ble_eq_true rfl)]
  simp (disch := first | assumption | omega) only [Nat.reduceAdd, X_go, go2_some, stp, ldI, ldA, ldL, stI, stA, stL, o1I, o2I, o2L, brI, brII, gl, s1, s2, k1, sl, go_sN, go_sR, go_CT, go_sT, go_no, go_if, pops, bk_v, bk_0, d126_0, d126_1, d126_4, d126_7, d126_8, d126_10, d126_13, d126_14, d126_15, d126_16, d126_17, d126_20, d126_21, d126_24, d126_27, d126_28, d126_29, d126_32, n_lt, n_le, n_eq, n_lt0, n_ge0, n_gt0, n_le0, n_eq0, m_lt, m_le, m_gt, m_ge, m_eq, m_eq', m_lt0, m_ge0, m_gt0, m_le0, m_ltm, m_lem, n_in, m_in, n_cl, n_ti, n_div, n_rem', n_dec, n_l, nI_add, pk_mul, an0, an1, decide_eq_true_eq, if_true, if_false, ite_true, ite_false, and_true, true_and, and_false, false_and, not_true, not_false_iff, or_false, false_or, or_true, true_or, eq_self, va_some, Bool.false_eq_true, reduceIte, catS_n, catS_i, catS_r, catS_l, catS_d, Nat.zero_add, Nat.add_zero, decide_true, decide_false, Nat.reduceLeDiff, cat_r, cat_i, cat_l, nle_T, nle_F, nlt_T, nlt_F, neq_T, neq_F, h']
  done
theorem c126c {d : Nat} {P : MP} {I : MI} {L : ML} {C : MC} {Q : QT} {i : Nat} {y : Int32} (hd : 4 ≤ d) (hi : i < 2147483648) (hy : y < 0 ∨ nI 2 < y) : CT d 126 [.ref 1, .int (nI i), .int y] P I L C Q = Q (.inr 1) P I L (C.1 + 1, C.2 + 6) := by
  rw [CT_e (mj := 126) (e := [.ref 1, .int (nI i), .int y]) (by omega) rfl (Nat.le_of_ble_eq_true rfl)]
  simp (disch := first | assumption | omega) only [Nat.reduceAdd, X_go, go2_some, stp, ldI, ldA, ldL, stI, stA, stL, o1I, o2I, o2L, brI, brII, gl, s1, s2, k1, sl, go_sN, go_sR, go_CT, go_sT, go_no, go_if, pops, bk_v, bk_0, d126_0, d126_1, d126_4, d126_7, d126_8, d126_10, d126_13, d126_14, d126_15, d126_16, d126_17, d126_20, d126_21, d126_24, d126_27, d126_28, d126_29, d126_32, n_lt, n_le, n_eq, n_lt0, n_ge0, n_gt0, n_le0, n_eq0, m_lt, m_le, m_gt, m_ge, m_eq, m_eq', m_lt0, m_ge0, m_gt0, m_le0, m_ltm, m_lem, n_in, m_in, n_cl, n_ti, n_div, n_rem', n_dec, n_l, nI_add, pk_mul, an0, an1, decide_eq_true_eq, if_true, if_false, ite_true, ite_false, and_true, true_and, and_false, false_and, not_true, not_false_iff, or_false, false_or, or_true, true_or, eq_self, va_some, Bool.false_eq_true, reduceIte, catS_n, catS_i, catS_r, catS_l, catS_d, Nat.zero_add, Nat.add_zero, decide_true, decide_false, Nat.reduceLeDiff, cat_r, cat_i, cat_l, nle_T, nle_F, nlt_T, nlt_F, neq_T, neq_F, c87b (y := nI 0) (hx := hy), bk_x x126]
  done
theorem d128_0 : dec 128 0 = some (.iload_n 1, 1, []) := rfl
theorem d128_1 : dec 128 1 = some (.invokestatic 183, 3, [2, 129, 0, 9, 0, 798, 0]) := rfl
theorem d128_4 : dec 128 4 = some (.aload_n 0, 1, []) := rfl
theorem d128_5 : dec 128 5 = some (.getfield 12, 3, [1, 9, 0, 2, 0, 267]) := rfl
theorem d128_8 : dec 128 8 = some (.getfield 174, 3, [1, 6, 2, 2, 1, 147]) := rfl
theorem d128_11 : dec 128 11 = some (.getfield 186, 3, [1, 2, 0, 2, 1, 114]) := rfl
theorem d128_14 : dec 128 14 = some (.iload_n 1, 1, []) := rfl
theorem d128_15 : dec 128 15 = some (.invokestatic 161, 3, [2, 26, 0, 9, 0, 530, 0, 2]) := rfl
theorem d128_18 : dec 128 18 = some (.ireturn, 1, [0]) := rfl
theorem l128 : mL 128 = 2 := rfl
theorem x128 : (mG 128).2.2.2.2 = [] := rfl
theorem c128 {d : Nat} {P : MP} {I : MI} {L : ML} {C : MC} {Q : QT} {i : Nat} {B n len : Nat} {g : GS} {ps : Nat → GS} {tx : Nat → Nat} (hX : XB P) (hR : XR I L g n ps len tx) (hA : AV B g n ps len tx) (hd : 4 ≤ d) (hi : i < 16) : CT d 128 [.ref 1, .int (nI i)] P I L C Q = Q (.inl (some (.int (nI (g (124 + i)))))) P I L C := by
  have hX' := hX
  obtain ⟨k0, ⟨p0, p1, p2, p3, p4, p5, p6, p7, p8⟩, hS, hS2, hV, ⟨x0, x1, x2⟩, hT2, hO, hD, hH, hH2⟩ := hX'
  have hS' := hS
  obtain ⟨l0, r0, r1, r2, hT, hK, hF⟩ := hS'
  have hT' := hT
  have hK' := hK
  have hF' := hF
  have hR' := hR
  have hA' := hA
  obtain ⟨⟨m0, q0, q1, q2, q3, q4, q5, q6, q7⟩, z1, z2, z3, z4, z5, z6, z7, z8⟩ := hT'
  obtain ⟨w0, w1, w2, w3, w4⟩ := hK'
  obtain ⟨f0, f1, f2, f3, f4, f5, f6, f7, f8⟩ := hF'
  obtain ⟨hg, hVR, hXT, hCC⟩ := hR'
  obtain ⟨hGV, hps, hn4, hlen, htx⟩ := hA'
  have h140 := GV_140 hGV
  have hv := hGV.1
  have hl := hGV.2.1
  have hFv := hGV.2.2
  have e1 : I 16 i = nI (g (124 + i)) := hg.2.2.1 i hi
  rw [CT_e (mj := 128) (e := [.ref 1, .int (nI i)]) (by omega) rfl (Nat.le_of_ble_eq_true rfl)]
  simp (disch := first | assumption | omega) only [Nat.reduceAdd, X_go, go2_some, stp, ldI, ldA, ldL, stI, stA, stL, o1I, o2I, o2L, brI, brII, gl, s1, s2, k1, sl, go_sN, go_sR, go_CT, go_sT, go_no, go_if, pops, bk_v, bk_0, d128_0, d128_1, d128_4, d128_5, d128_8, d128_11, d128_14, d128_15, d128_18, n_lt, n_le, n_eq, n_lt0, n_ge0, n_gt0, n_le0, n_eq0, m_lt, m_le, m_gt, m_ge, m_eq, m_eq', m_lt0, m_ge0, m_gt0, m_le0, m_ltm, m_lem, n_in, m_in, n_cl, n_ti, n_div, n_rem', n_dec, n_l, nI_add, pk_mul, an0, an1, decide_eq_true_eq, if_true, if_false, ite_true, ite_false, and_true, true_and, and_false, false_and, not_true, not_false_iff, or_false, false_or, or_true, true_or, eq_self, va_some, Bool.false_eq_true, reduceIte, catS_n, catS_i, catS_r, catS_l, catS_d, Nat.zero_add, Nat.add_zero, decide_true, decide_false, Nat.reduceLeDiff, cat_r, cat_i, cat_l, nle_T, nle_F, nlt_T, nlt_F, neq_T, neq_F, k0, p0, p1, p2, p3, p4, p5, p6, p7, p8, x0, x1, x2, l0, r0, r1, r2, m0, q0, q1, q2, q3, q4, q5, q6, q7, w0, w1, w2, f0, f1, f2, f3, f4, c129, c26 f5, e1]
  done
theorem c128b {d : Nat} {P : MP} {I : MI} {L : ML} {C : MC} {Q : QT} {x : Int32} (hd : 4 ≤ d) (hx : x < 0 ∨ nI 16 ≤ x) : CT d 128 [.ref 1, .int x] P I L C Q = Q (.inr 0) P I L (C.1 + 1, C.2 + 6) := by
  rw [CT_e (mj := 128) (e := [.ref 1, .int x]) (by omega) rfl (Nat.le_of_ble_eq_true rfl)]
  simp (disch := first | assumption | omega) only [Nat.reduceAdd, X_go, go2_some, stp, ldI, ldA, ldL, stI, stA, stL, o1I, o2I, o2L, brI, brII, gl, s1, s2, k1, sl, go_sN, go_sR, go_CT, go_sT, go_no, go_if, pops, bk_v, bk_0, d128_0, d128_1, d128_4, d128_5, d128_8, d128_11, d128_14, d128_15, d128_18, n_lt, n_le, n_eq, n_lt0, n_ge0, n_gt0, n_le0, n_eq0, m_lt, m_le, m_gt, m_ge, m_eq, m_eq', m_lt0, m_ge0, m_gt0, m_le0, m_ltm, m_lem, n_in, m_in, n_cl, n_ti, n_div, n_rem', n_dec, n_l, nI_add, pk_mul, an0, an1, decide_eq_true_eq, if_true, if_false, ite_true, ite_false, and_true, true_and, and_false, false_and, not_true, not_false_iff, or_false, false_or, or_true, true_or, eq_self, va_some, Bool.false_eq_true, reduceIte, catS_n, catS_i, catS_r, catS_l, catS_d, Nat.zero_add, Nat.add_zero, decide_true, decide_false, Nat.reduceLeDiff, cat_r, cat_i, cat_l, nle_T, nle_F, nlt_T, nlt_F, neq_T, neq_F, c129b, bk_x x128]
  done
theorem byt : ∀ v, v < 128 → (nI v).toInt8.toInt32 = nI v := by decide +kernel
theorem bytt {v : Nat} (h : v < 128) : ((nI v).toInt8.toInt32).toInt8.toInt32 = nI v := by rw [byt v h, byt v h]
theorem d146_0 : dec 146 0 = some (.aload_n 0, 1, []) := rfl
theorem d146_1 : dec 146 1 = some (.getfield 15, 3, [1, 8, 1, 0, 0, 182]) := rfl
theorem d146_4 : dec 146 4 = some (.ifCond .lt 36, 3, [40]) := rfl
theorem d146_7 : dec 146 7 = some (.aload_n 0, 1, []) := rfl
theorem d146_8 : dec 146 8 = some (.getfield 15, 3, [1, 8, 1, 0, 0, 182]) := rfl
theorem d146_11 : dec 146 11 = some (.aload_n 0, 1, []) := rfl
theorem d146_12 : dec 146 12 = some (.getfield 9, 3, [1, 8, 0, 2, 0, 181]) := rfl
theorem d146_15 : dec 146 15 = some (.arraylength, 1, []) := rfl
theorem d146_16 : dec 146 16 = some (.if_icmp .ge 24, 3, [40]) := rfl
theorem d146_19 : dec 146 19 = some (.aload_n 0, 1, []) := rfl
theorem d146_20 : dec 146 20 = some (.getfield 9, 3, [1, 8, 0, 2, 0, 181]) := rfl
theorem d146_23 : dec 146 23 = some (.aload_n 0, 1, []) := rfl
theorem d146_24 : dec 146 24 = some (.getfield 15, 3, [1, 8, 1, 0, 0, 182]) := rfl
theorem d146_27 : dec 146 27 = some (.iload_n 1, 1, []) := rfl
theorem d146_28 : dec 146 28 = some (.i2b, 1, []) := rfl
theorem d146_29 : dec 146 29 = some (.bastore, 1, []) := rfl
theorem d146_30 : dec 146 30 = some (.aload_n 0, 1, []) := rfl
theorem d146_31 : dec 146 31 = some (.dup, 1, []) := rfl
theorem d146_32 : dec 146 32 = some (.getfield 15, 3, [1, 8, 1, 0, 0, 182]) := rfl
theorem d146_35 : dec 146 35 = some (.iconst 1, 1, [1]) := rfl
theorem d146_36 : dec 146 36 = some (.iadd, 1, []) := rfl
theorem d146_37 : dec 146 37 = some (.putfield 15, 3, [1, 8, 1, 0, 0, 182]) := rfl
theorem d146_40 : dec 146 40 = some (.aload_n 0, 1, []) := rfl
theorem d146_41 : dec 146 41 = some (.getfield 15, 3, [1, 8, 1, 0, 0, 182]) := rfl
theorem d146_44 : dec 146 44 = some (.ireturn, 1, [0]) := rfl
theorem l146 : mL 146 = 2 := rfl
theorem c146 {d : Nat} {P : MP} {I : MI} {L : ML} {C : MC} {Q : QT} {len v : Nat} (hX : XB P) (hl : I 112 1 = nI len) (hd : 2 ≤ d) (h1 : len < 160) (hv : v ≤ 127) : CT d 146 [.ref 112, .int (nI v)] P I L C Q = Q (.inl (some (.int (nI (len + 1))))) P (xu (xu I 113 len (nI v)) 112 1 (nI (len + 1))) L C := by
  obtain ⟨k0, ⟨p0, p1, p2, p3, p4, p5, p6, p7, p8⟩, hS, hS2, hV, ⟨x0, x1, x2⟩, _⟩ := hX
  rw [CT_e (mj := 146) (e := [.ref 112, .int (nI v)]) (by omega) rfl (Nat.le_of_ble_eq_true rfl)]
  simp (disch := first | assumption | omega) only [Nat.reduceAdd, X_go, go2_some, stp, ldI, ldA, ldL, stI, stA, stL, o1I, o2I, o2L, brI, brII, gl, s1, s2, k1, sl, go_sN, go_sR, go_CT, go_sT, go_no, go_if, pops, bk_v, bk_0, d146_0, d146_1, d146_4, d146_7, d146_8, d146_11, d146_12, d146_15, d146_16, d146_19, d146_20, d146_23, d146_24, d146_27, d146_28, d146_29, d146_30, d146_31, d146_32, d146_35, d146_36, d146_37, d146_40, d146_41, d146_44, n_lt, n_le, n_eq, n_lt0, n_ge0, n_gt0, n_le0, n_eq0, m_lt, m_le, m_gt, m_ge, m_eq, m_eq', m_lt0, m_ge0, m_gt0, m_le0, m_ltm, m_lem, n_in, m_in, n_cl, n_ti, n_div, n_rem', n_dec, n_l, nI_add, pk_mul, an0, an1, decide_eq_true_eq, if_true, if_false, ite_true, ite_false, and_true, true_and, and_false, false_and, not_true, not_false_iff, or_false, false_or, or_true, true_or, eq_self, va_some, Bool.false_eq_true, reduceIte, catS_n, catS_i, catS_r, catS_l, catS_d, Nat.zero_add, Nat.add_zero, decide_true, decide_false, Nat.reduceLeDiff, cat_r, cat_i, cat_l, nle_T, nle_F, nlt_T, nlt_F, neq_T, neq_F, x0, x1, x2, hl, byt v (by omega), xu_n, xu_s]
  done
theorem d145_0 : dec 145 0 = some (.iload_n 1, 1, []) := rfl
theorem d145_1 : dec 145 1 = some (.iconst 0, 1, [0]) := rfl
theorem d145_2 : dec 145 2 = some (.bipush 127, 2, [127]) := rfl
theorem d145_4 : dec 145 4 = some (.invokestatic 68, 3, [2, 87, 0, 9, 0, 434, 0, 0, 0]) := rfl
theorem d145_7 : dec 145 7 = some (.aload_n 0, 1, []) := rfl
theorem d145_8 : dec 145 8 = some (.getfield 29, 3, [1, 9, 3, 2, 0, 270]) := rfl
theorem d145_11 : dec 145 11 = some (.getfield 240, 3, [1, 8, 1, 0, 1, 183]) := rfl
theorem d145_14 : dec 145 14 = some (.sipush 160, 3, [160]) := rfl
theorem d145_17 : dec 145 17 = some (.if_icmp .lt 13, 3, [30]) := rfl
theorem d145_20 : dec 145 20 = some (.new 104, 3, [6, 2, 311]) := rfl
theorem d145_23 : dec 145 23 = some (.dup, 1, []) := rfl
theorem d145_24 : dec 145 24 = some (.ldc 243, 2, []) := rfl
theorem d145_26 : dec 145 26 = some (.invokespecial 108, 3, []) := rfl
theorem d145_29 : dec 145 29 = some (.athrow, 1, []) := rfl
theorem d145_30 : dec 145 30 = some (.aload_n 0, 1, []) := rfl
theorem d145_31 : dec 145 31 = some (.getfield 29, 3, [1, 9, 3, 2, 0, 270]) := rfl
theorem d145_34 : dec 145 34 = some (.iload_n 1, 1, []) := rfl
theorem d145_35 : dec 145 35 = some (.invokevirtual 245, 3, [2, 146, 2, 8, 0, 901, 0]) := rfl
theorem d145_38 : dec 145 38 = some (.ireturn, 1, [0]) := rfl
theorem l145 : mL 145 = 2 := rfl
theorem x145 : (mG 145).2.2.2.2 = [] := rfl
theorem c145 {d : Nat} {P : MP} {I : MI} {L : ML} {C : MC} {v : Nat} {B n len : Nat} {g : GS} {ps : Nat → GS} {tx : Nat → Nat} (hX : XB P) (hR : XR I L g n ps len tx) (hA : AV B g n ps len tx) (hd : 4 ≤ d) (hv : v ≤ 127) (h1 : len < 160) : ∃ I', XR I' L g n ps (len + 1) (ud tx len v) ∧ fo I I' ∧ ∀ Q, CT d 145 [.ref 1, .int (nI v)] P I L C Q = Q (.inl (some (.int (nI (len + 1))))) P I' L C := by
  have hv' := hv
  clear hv
  have hX' := hX
  obtain ⟨k0, ⟨p0, p1, p2, p3, p4, p5, p6, p7, p8⟩, hS, hS2, hV, ⟨x0, x1, x2⟩, hT2, hO, hD, hH, hH2⟩ := hX'
  have hS' := hS
  obtain ⟨l0, r0, r1, r2, hT, hK, hF⟩ := hS'
  have hT' := hT
  have hK' := hK
  have hF' := hF
  have hR' := hR
  have hA' := hA
  obtain ⟨⟨m0, q0, q1, q2, q3, q4, q5, q6, q7⟩, z1, z2, z3, z4, z5, z6, z7, z8⟩ := hT'
  obtain ⟨w0, w1, w2, w3, w4⟩ := hK'
  obtain ⟨f0, f1, f2, f3, f4, f5, f6, f7, f8⟩ := hF'
  obtain ⟨hg, hVR, hXT, hCC⟩ := hR'
  obtain ⟨hGV, hps, hn4, hlen, htx⟩ := hA'
  have h140 := GV_140 hGV
  have hv := hGV.1
  have hl := hGV.2.1
  have hFv := hGV.2.2
  have hlx := hXT.1
  refine ⟨xu (xu I 113 len (nI v)) 112 1 (nI (len + 1)), ⟨RC_fr hg fun k j h h' => by rw [xu_n _ _ (by omega), xu_n _ _ (by omega)], VR_fr hVR fun k j h h' => by rw [xu_n _ _ (by omega), xu_n _ _ (by omega)], ⟨xu_s _ _ _ _, fun i hi => ?_⟩, CC_fr hCC (by rw [xu_n _ _ (by omega), xu_n _ _ (by omega)]) fun _ _ _ _ => rfl⟩, fun k j h => by rw [xu_n _ _ (by omega), xu_n _ _ (by omega)], fun Q => ?_⟩
  · rw [xu_n _ _ (by omega)]
    by_cases z : i = len
    · subst z; rw [xu_s, ud_s]
    · rw [xu_n _ _ (by omega), ud_n z]; exact hXT.2 i (by omega)
  · rw [CT_e (mj := 145) (e := [.ref 1, .int (nI v)]) (by omega) rfl (Nat.le_of_ble_eq_true rfl)]
    simp (disch := first | assumption | omega) only [Nat.reduceAdd, X_go, go2_some, stp, ldI, ldA, ldL, stI, stA, stL, o1I, o2I, o2L, brI, brII, gl, s1, s2, k1, sl, go_sN, go_sR, go_CT, go_sT, go_no, go_if, pops, bk_v, bk_0, d145_0, d145_1, d145_2, d145_4, d145_7, d145_8, d145_11, d145_14, d145_17, d145_20, d145_23, d145_24, d145_26, d145_29, d145_30, d145_31, d145_34, d145_35, d145_38, n_lt, n_le, n_eq, n_lt0, n_ge0, n_gt0, n_le0, n_eq0, m_lt, m_le, m_gt, m_ge, m_eq, m_eq', m_lt0, m_ge0, m_gt0, m_le0, m_ltm, m_lem, n_in, m_in, n_cl, n_ti, n_div, n_rem', n_dec, n_l, nI_add, pk_mul, an0, an1, decide_eq_true_eq, if_true, if_false, ite_true, ite_false, and_true, true_and, and_false, false_and, not_true, not_false_iff, or_false, false_or, or_true, true_or, eq_self, va_some, Bool.false_eq_true, reduceIte, catS_n, catS_i, catS_r, catS_l, catS_d, Nat.zero_add, Nat.add_zero, decide_true, decide_false, Nat.reduceLeDiff, cat_r, cat_i, cat_l, nle_T, nle_F, nlt_T, nlt_F, neq_T, neq_F, k0, p0, p1, p2, p3, p4, p5, p6, p7, p8, x0, x1, x2, l0, r0, r1, r2, m0, q0, q1, q2, q3, q4, q5, q6, q7, w0, w1, w2, f0, f1, f2, f3, f4, c87, hlx, c146 hX hlx]
    done
theorem c145b {d : Nat} {P : MP} {I : MI} {L : ML} {C : MC} {Q : QT} {y : Int32} (hd : 4 ≤ d) (hy : y < 0 ∨ nI 127 < y) : CT d 145 [.ref 1, .int y] P I L C Q = Q (.inr 1) P I L (C.1 + 1, C.2 + 6) := by
  rw [CT_e (mj := 145) (e := [.ref 1, .int y]) (by omega) rfl (Nat.le_of_ble_eq_true rfl)]
  simp (disch := first | assumption | omega) only [Nat.reduceAdd, X_go, go2_some, stp, ldI, ldA, ldL, stI, stA, stL, o1I, o2I, o2L, brI, brII, gl, s1, s2, k1, sl, go_sN, go_sR, go_CT, go_sT, go_no, go_if, pops, bk_v, bk_0, d145_0, d145_1, d145_2, d145_4, d145_7, d145_8, d145_11, d145_14, d145_17, d145_20, d145_23, d145_24, d145_26, d145_29, d145_30, d145_31, d145_34, d145_35, d145_38, n_lt, n_le, n_eq, n_lt0, n_ge0, n_gt0, n_le0, n_eq0, m_lt, m_le, m_gt, m_ge, m_eq, m_eq', m_lt0, m_ge0, m_gt0, m_le0, m_ltm, m_lem, n_in, m_in, n_cl, n_ti, n_div, n_rem', n_dec, n_l, nI_add, pk_mul, an0, an1, decide_eq_true_eq, if_true, if_false, ite_true, ite_false, and_true, true_and, and_false, false_and, not_true, not_false_iff, or_false, false_or, or_true, true_or, eq_self, va_some, Bool.false_eq_true, reduceIte, catS_n, catS_i, catS_r, catS_l, catS_d, Nat.zero_add, Nat.add_zero, decide_true, decide_false, Nat.reduceLeDiff, cat_r, cat_i, cat_l, nle_T, nle_F, nlt_T, nlt_F, neq_T, neq_F, c87b (y := nI 0) (hx := hy), bk_x x145]
  done
theorem c145c {d : Nat} {P : MP} {I : MI} {L : ML} {C : MC} {Q : QT} {v : Nat} {B n len : Nat} {g : GS} {ps : Nat → GS} {tx : Nat → Nat} (hX : XB P) (hR : XR I L g n ps len tx) (hA : AV B g n ps len tx) (hd : 4 ≤ d) (hv : v ≤ 127) (h1 : len = 160) : CT d 145 [.ref 1, .int (nI v)] P I L C Q = Q (.inr 2) P I L (C.1 + 1, C.2 + 6) := by
  have hv' := hv
  clear hv
  have hX' := hX
  obtain ⟨k0, ⟨p0, p1, p2, p3, p4, p5, p6, p7, p8⟩, hS, hS2, hV, ⟨x0, x1, x2⟩, hT2, hO, hD, hH, hH2⟩ := hX'
  have hS' := hS
  obtain ⟨l0, r0, r1, r2, hT, hK, hF⟩ := hS'
  have hT' := hT
  have hK' := hK
  have hF' := hF
  have hR' := hR
  have hA' := hA
  obtain ⟨⟨m0, q0, q1, q2, q3, q4, q5, q6, q7⟩, z1, z2, z3, z4, z5, z6, z7, z8⟩ := hT'
  obtain ⟨w0, w1, w2, w3, w4⟩ := hK'
  obtain ⟨f0, f1, f2, f3, f4, f5, f6, f7, f8⟩ := hF'
  obtain ⟨hg, hVR, hXT, hCC⟩ := hR'
  obtain ⟨hGV, hps, hn4, hlen, htx⟩ := hA'
  have h140 := GV_140 hGV
  have hv := hGV.1
  have hl := hGV.2.1
  have hFv := hGV.2.2
  have hlx := hXT.1
  rw [CT_e (mj := 145) (e := [.ref 1, .int (nI v)]) (by omega) rfl (Nat.le_of_ble_eq_true rfl)]
  simp (disch := first | assumption | omega) only [Nat.reduceAdd, X_go, go2_some, stp, ldI, ldA, ldL, stI, stA, stL, o1I, o2I, o2L, brI, brII, gl, s1, s2, k1, sl, go_sN, go_sR, go_CT, go_sT, go_no, go_if, pops, bk_v, bk_0, d145_0, d145_1, d145_2, d145_4, d145_7, d145_8, d145_11, d145_14, d145_17, d145_20, d145_23, d145_24, d145_26, d145_29, d145_30, d145_31, d145_34, d145_35, d145_38, n_lt, n_le, n_eq, n_lt0, n_ge0, n_gt0, n_le0, n_eq0, m_lt, m_le, m_gt, m_ge, m_eq, m_eq', m_lt0, m_ge0, m_gt0, m_le0, m_ltm, m_lem, n_in, m_in, n_cl, n_ti, n_div, n_rem', n_dec, n_l, nI_add, pk_mul, an0, an1, decide_eq_true_eq, if_true, if_false, ite_true, ite_false, and_true, true_and, and_false, false_and, not_true, not_false_iff, or_false, false_or, or_true, true_or, eq_self, va_some, Bool.false_eq_true, reduceIte, catS_n, catS_i, catS_r, catS_l, catS_d, Nat.zero_add, Nat.add_zero, decide_true, decide_false, Nat.reduceLeDiff, cat_r, cat_i, cat_l, nle_T, nle_F, nlt_T, nlt_F, neq_T, neq_F, k0, p0, p1, p2, p3, p4, p5, p6, p7, p8, x0, x1, x2, l0, r0, r1, r2, m0, q0, q1, q2, q3, q4, q5, q6, q7, w0, w1, w2, f0, f1, f2, f3, f4, c87, hlx, h1]
  done
theorem d148_0 : dec 148 0 = some (.aload_n 0, 1, []) := rfl
theorem d148_1 : dec 148 1 = some (.getfield 22, 3, [1, 9, 2, 2, 0, 269]) := rfl
theorem d148_4 : dec 148 4 = some (.getfield 258, 3, [1, 5, 2, 0, 1, 167]) := rfl
theorem d148_7 : dec 148 7 = some (.ifCond .gt 14, 3, [21]) := rfl
theorem d148_10 : dec 148 10 = some (.new 104, 3, [6, 2, 311]) := rfl
theorem d148_13 : dec 148 13 = some (.dup, 1, []) := rfl
theorem d148_14 : dec 148 14 = some (.ldc_w 261, 3, []) := rfl
theorem d148_17 : dec 148 17 = some (.invokespecial 108, 3, []) := rfl
theorem d148_20 : dec 148 20 = some (.athrow, 1, []) := rfl
theorem d148_21 : dec 148 21 = some (.aload_n 0, 1, []) := rfl
theorem d148_22 : dec 148 22 = some (.getfield 22, 3, [1, 9, 2, 2, 0, 269]) := rfl
theorem d148_25 : dec 148 25 = some (.aload_n 0, 1, []) := rfl
theorem d148_26 : dec 148 26 = some (.getfield 12, 3, [1, 9, 0, 2, 0, 267]) := rfl
theorem d148_29 : dec 148 29 = some (.invokevirtual 263, 3, [2, 149, 2, 5, 0, 378, 2]) := rfl
theorem d148_32 : dec 148 32 = some (.aload_n 0, 1, []) := rfl
theorem d148_33 : dec 148 33 = some (.getfield 57, 3, [1, 9, 7, 2, 0, 274]) := rfl
theorem d148_36 : dec 148 36 = some (.invokevirtual 237, 3, [2, 21, 2, 0, 0, 416]) := rfl
theorem d148_39 : dec 148 39 = some (.aload_n 0, 1, []) := rfl
theorem d148_40 : dec 148 40 = some (.getfield 22, 3, [1, 9, 2, 2, 0, 269]) := rfl
theorem d148_43 : dec 148 43 = some (.getfield 258, 3, [1, 5, 2, 0, 1, 167]) := rfl
theorem d148_46 : dec 148 46 = some (.ireturn, 1, [0]) := rfl
theorem l148 : mL 148 = 1 := rfl
theorem x148 : (mG 148).2.2.2.2 = [] := rfl
theorem c148 {d : Nat} {P : MP} {I : MI} {L : ML} {C : MC} {B n len : Nat} {g : GS} {ps : Nat → GS} {tx : Nat → Nat} (hX : XB P) (hR : XR I L g n ps len tx) (hA : AV B g n ps len tx) (hd : 6 ≤ d) (h1 : 1 ≤ n) : ∃ I', XR I' L (ps (n - 1)) (n - 1) ps len tx ∧ fo I I' ∧ ∀ Q, CT d 148 [.ref 1] P I L C Q = Q (.inl (some (.int (nI (n - 1))))) P I' L C := by
  have hX' := hX
  obtain ⟨k0, ⟨p0, p1, p2, p3, p4, p5, p6, p7, p8⟩, hS, hS2, hV, ⟨x0, x1, x2⟩, hT2, hO, hD, hH, hH2⟩ := hX'
  have hS' := hS
  obtain ⟨l0, r0, r1, r2, hT, hK, hF⟩ := hS'
  have hT' := hT
  have hK' := hK
  have hF' := hF
  have hR' := hR
  have hA' := hA
  obtain ⟨⟨m0, q0, q1, q2, q3, q4, q5, q6, q7⟩, z1, z2, z3, z4, z5, z6, z7, z8⟩ := hT'
  obtain ⟨w0, w1, w2, w3, w4⟩ := hK'
  obtain ⟨f0, f1, f2, f3, f4, f5, f6, f7, f8⟩ := hF'
  obtain ⟨hg, hVR, hXT, hCC⟩ := hR'
  obtain ⟨hGV, hps, hn4, hlen, htx⟩ := hA'
  have h140 := GV_140 hGV
  have hv := hGV.1
  have hl := hGV.2.1
  have hFv := hGV.2.2
  have hV0 := hV.1
  have hH0 := hH.1
  have hn := hVR
  obtain ⟨o, o1, o2, o3, o4, o5⟩ := hn
  obtain ⟨J, i1, i2, i3, i4, i5⟩ := c149 (d := d - 1) (L := L) (C := C) hV hS hVR (fun i hi => (hps i hi).1) (by omega) h1
  refine ⟨xu J 130 6 (nI 4294967295), XR_mk hR (RC_fr i2 fun k j h h' => xu_n _ _ (by omega)) (VR_fr i1 fun k j h h' => xu_n _ _ (by omega)) (xu_s _ _ _ _) (fun k j h => by rw [xu_n _ _ (by omega), i3 _ _ (by omega) (by omega)]), fun k j h => by rw [xu_n _ _ (by omega), i3 _ _ (by omega) (by omega)], fun Q => ?_⟩
  have e2 : (xu J 130 6 (nI 4294967295)) 38 2 = nI (n - 1) := by rw [xu_n _ _ (by omega)]; exact i4
  rw [CT_e (mj := 148) (e := [.ref 1]) (by omega) rfl (Nat.le_of_ble_eq_true rfl)]
  simp (disch := first | assumption | omega) only [Nat.reduceAdd, X_go, go2_some, stp, ldI, ldA, ldL, stI, stA, stL, o1I, o2I, o2L, brI, brII, gl, s1, s2, k1, sl, go_sN, go_sR, go_CT, go_sT, go_no, go_if, pops, bk_v, bk_0, d148_0, d148_1, d148_4, d148_7, d148_10, d148_13, d148_14, d148_17, d148_20, d148_21, d148_22, d148_25, d148_26, d148_29, d148_32, d148_33, d148_36, d148_39, d148_40, d148_43, d148_46, n_lt, n_le, n_eq, n_lt0, n_ge0, n_gt0, n_le0, n_eq0, m_lt, m_le, m_gt, m_ge, m_eq, m_eq', m_lt0, m_ge0, m_gt0, m_le0, m_ltm, m_lem, n_in, m_in, n_cl, n_ti, n_div, n_rem', n_dec, n_l, nI_add, pk_mul, an0, an1, decide_eq_true_eq, if_true, if_false, ite_true, ite_false, and_true, true_and, and_false, false_and, not_true, not_false_iff, or_false, false_or, or_true, true_or, eq_self, va_some, Bool.false_eq_true, reduceIte, catS_n, catS_i, catS_r, catS_l, catS_d, Nat.zero_add, Nat.add_zero, decide_true, decide_false, Nat.reduceLeDiff, cat_r, cat_i, cat_l, nle_T, nle_F, nlt_T, nlt_F, neq_T, neq_F, k0, p0, p1, p2, p3, p4, p5, p6, p7, p8, x0, x1, x2, l0, r0, r1, r2, m0, q0, q1, q2, q3, q4, q5, q6, q7, w0, w1, w2, f0, f1, f2, f3, f4, hV0, hH0, o3, i5, c21, e2]
  done
theorem c148b {d : Nat} {P : MP} {I : MI} {L : ML} {C : MC} {Q : QT} {B n len : Nat} {g : GS} {ps : Nat → GS} {tx : Nat → Nat} (hX : XB P) (hR : XR I L g n ps len tx) (hA : AV B g n ps len tx) (hd : 6 ≤ d) (h0 : n = 0) : CT d 148 [.ref 1] P I L C Q = Q (.inr 2) P I L (C.1 + 1, C.2 + 6) := by
  have hX' := hX
  obtain ⟨k0, ⟨p0, p1, p2, p3, p4, p5, p6, p7, p8⟩, hS, hS2, hV, ⟨x0, x1, x2⟩, hT2, hO, hD, hH, hH2⟩ := hX'
  have hS' := hS
  obtain ⟨l0, r0, r1, r2, hT, hK, hF⟩ := hS'
  have hT' := hT
  have hK' := hK
  have hF' := hF
  have hR' := hR
  have hA' := hA
  obtain ⟨⟨m0, q0, q1, q2, q3, q4, q5, q6, q7⟩, z1, z2, z3, z4, z5, z6, z7, z8⟩ := hT'
  obtain ⟨w0, w1, w2, w3, w4⟩ := hK'
  obtain ⟨f0, f1, f2, f3, f4, f5, f6, f7, f8⟩ := hF'
  obtain ⟨hg, hVR, hXT, hCC⟩ := hR'
  obtain ⟨hGV, hps, hn4, hlen, htx⟩ := hA'
  have h140 := GV_140 hGV
  have hv := hGV.1
  have hl := hGV.2.1
  have hFv := hGV.2.2
  have hV0 := hV.1
  have hn := hVR
  obtain ⟨o, o1, o2, o3, o4, o5⟩ := hn
  rw [CT_e (mj := 148) (e := [.ref 1]) (by omega) rfl (Nat.le_of_ble_eq_true rfl)]
  simp (disch := first | assumption | omega) only [Nat.reduceAdd, X_go, go2_some, stp, ldI, ldA, ldL, stI, stA, stL, o1I, o2I, o2L, brI, brII, gl, s1, s2, k1, sl, go_sN, go_sR, go_CT, go_sT, go_no, go_if, pops, bk_v, bk_0, d148_0, d148_1, d148_4, d148_7, d148_10, d148_13, d148_14, d148_17, d148_20, d148_21, d148_22, d148_25, d148_26, d148_29, d148_32, d148_33, d148_36, d148_39, d148_40, d148_43, d148_46, n_lt, n_le, n_eq, n_lt0, n_ge0, n_gt0, n_le0, n_eq0, m_lt, m_le, m_gt, m_ge, m_eq, m_eq', m_lt0, m_ge0, m_gt0, m_le0, m_ltm, m_lem, n_in, m_in, n_cl, n_ti, n_div, n_rem', n_dec, n_l, nI_add, pk_mul, an0, an1, decide_eq_true_eq, if_true, if_false, ite_true, ite_false, and_true, true_and, and_false, false_and, not_true, not_false_iff, or_false, false_or, or_true, true_or, eq_self, va_some, Bool.false_eq_true, reduceIte, catS_n, catS_i, catS_r, catS_l, catS_d, Nat.zero_add, Nat.add_zero, decide_true, decide_false, Nat.reduceLeDiff, cat_r, cat_i, cat_l, nle_T, nle_F, nlt_T, nlt_F, neq_T, neq_F, k0, p0, p1, p2, p3, p4, p5, p6, p7, p8, x0, x1, x2, l0, r0, r1, r2, m0, q0, q1, q2, q3, q4, q5, q6, q7, w0, w1, w2, f0, f1, f2, f3, f4, hV0, o3, h0]
  done
