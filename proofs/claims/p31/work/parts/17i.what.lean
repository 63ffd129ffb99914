/-! CALLS of the class: what if -/
theorem XR_fr {I I' : MI} {L L' : ML} {g : GS} {n len : Nat} {ps : Nat → GS} {tx : Nat → Nat} (h : XR I L g n ps len tx) (hf : ∀ k j, k < 20 ∨ (37 < k ∧ k < 114) ∨ k = 130 → I' k j = I k j) (hL : ∀ k j, 130 ≤ k → k ≤ 139 → L' k j = L k j) : XR I' L' g n ps len tx :=
  ⟨RC_fr h.1 fun k j _ _ => hf k j (by omega), VR_fr h.2.1 fun k j _ _ => hf k j (by omega), XT_fr h.2.2.1 fun k j _ => hf k j (by omega), CC_fr h.2.2.2 (hf _ _ (by omega)) fun k j q1 q2 => hL k j q1 (by omega)⟩
/-- the first of m openings that finds the item -/
def soV (top it had : Nat) : Nat → Nat → GS → Int32
  | 0, _, _ => nI 4294967295
  | m + 1, k, g => if had < opn top g (124 + it) then nI (k + 1) else soV top it had m (k + 1) (opn top g)
theorem d141_0 : dec 141 0 = some (.iload_n 1, 1, []) := rfl
theorem d141_1 : dec 141 1 = some (.invokestatic 64, 3, [2, 86, 0, 9, 0, 507, 0]) := rfl
theorem d141_4 : dec 141 4 = some (.iload_n 2, 1, []) := rfl
theorem d141_5 : dec 141 5 = some (.invokestatic 183, 3, [2, 129, 0, 9, 0, 798, 0]) := rfl
theorem d141_8 : dec 141 8 = some (.aload_n 0, 1, []) := rfl
theorem d141_9 : dec 141 9 = some (.getfield 16, 3, [1, 9, 1, 2, 0, 268]) := rfl
theorem d141_12 : dec 141 12 = some (.aload_n 0, 1, []) := rfl
theorem d141_13 : dec 141 13 = some (.getfield 12, 3, [1, 9, 0, 2, 0, 267]) := rfl
theorem d141_16 : dec 141 16 = some (.invokevirtual 222, 3, [2, 15, 2, 6, 0, 884, 2]) := rfl
theorem d141_19 : dec 141 19 = some (.aload_n 0, 1, []) := rfl
theorem d141_20 : dec 141 20 = some (.getfield 12, 3, [1, 9, 0, 2, 0, 267]) := rfl
theorem d141_23 : dec 141 23 = some (.getfield 174, 3, [1, 6, 2, 2, 1, 147]) := rfl
theorem d141_26 : dec 141 26 = some (.getfield 186, 3, [1, 2, 0, 2, 1, 114]) := rfl
theorem d141_29 : dec 141 29 = some (.iload_n 2, 1, []) := rfl
theorem d141_30 : dec 141 30 = some (.invokestatic 161, 3, [2, 26, 0, 9, 0, 530, 0, 2]) := rfl
theorem d141_33 : dec 141 33 = some (.istore_n 3, 1, []) := rfl
theorem d141_34 : dec 141 34 = some (.iconst 1, 1, [1]) := rfl
theorem d141_35 : dec 141 35 = some (.istore 4, 2, []) := rfl
theorem d141_37 : dec 141 37 = some (.iload 4, 2, []) := rfl
theorem d141_39 : dec 141 39 = some (.sipush 300, 3, [300]) := rfl
theorem d141_42 : dec 141 42 = some (.if_icmp .gt 43, 3, [85]) := rfl
theorem d141_45 : dec 141 45 = some (.aload_n 0, 1, []) := rfl
theorem d141_46 : dec 141 46 = some (.getfield 43, 3, [1, 9, 5, 2, 0, 272]) := rfl
theorem d141_49 : dec 141 49 = some (.aload_n 0, 1, []) := rfl
theorem d141_50 : dec 141 50 = some (.getfield 16, 3, [1, 9, 1, 2, 0, 268]) := rfl
theorem d141_53 : dec 141 53 = some (.iload_n 1, 1, []) := rfl
theorem d141_54 : dec 141 54 = some (.invokevirtual 168, 3, [2, 115, 2, 4, 0, 728, 0, 2]) := rfl
theorem d141_57 : dec 141 57 = some (.pop, 1, []) := rfl
theorem d141_58 : dec 141 58 = some (.aload_n 0, 1, []) := rfl
theorem d141_59 : dec 141 59 = some (.getfield 16, 3, [1, 9, 1, 2, 0, 268]) := rfl
theorem d141_62 : dec 141 62 = some (.getfield 174, 3, [1, 6, 2, 2, 1, 147]) := rfl
theorem d141_65 : dec 141 65 = some (.getfield 186, 3, [1, 2, 0, 2, 1, 114]) := rfl
theorem d141_68 : dec 141 68 = some (.iload_n 2, 1, []) := rfl
theorem d141_69 : dec 141 69 = some (.invokestatic 161, 3, [2, 26, 0, 9, 0, 530, 0, 2]) := rfl
theorem d141_72 : dec 141 72 = some (.iload_n 3, 1, []) := rfl
theorem d141_73 : dec 141 73 = some (.if_icmp .le 6, 3, [79]) := rfl
theorem d141_76 : dec 141 76 = some (.iload 4, 2, []) := rfl
theorem d141_78 : dec 141 78 = some (.ireturn, 1, [0]) := rfl
theorem d141_79 : dec 141 79 = some (.iinc 4 1, 3, [1]) := rfl
theorem d141_82 : dec 141 82 = some (.goto (-45), 3, [37]) := rfl
theorem d141_85 : dec 141 85 = some (.iconst (-1), 1, [4294967295]) := rfl
theorem d141_86 : dec 141 86 = some (.ireturn, 1, [0]) := rfl
theorem l141 : mL 141 = 5 := rfl
theorem x141 : (mG 141).2.2.2.2 = [] := rfl
theorem f141 {d : Nat} {P : MP} {L : ML} {C : MC} {t it had : Nat} (hX : XB P) (hd : 11 ≤ d) (ht : t < 3) (hit : it < 16) (hhad : had < 2147483648) : ∀ m i B (g : GS) (I : MI), i + m = 300 → B + m < 1000000 → RC I 20 g → GV B g → ∃ I', (∀ k j, k < 20 ∨ 20 + 17 < k → k < 123 ∨ 126 < k → I' k j = I k j) ∧ ∀ Q, X d 141 37 [.ref 1, .int (nI t), .int (nI it), .int (nI had), .int (nI (i + 1))] [] P I L C Q = Q (.inl (some (.int (soV t it had m i g)))) P I' L C := by
  have hX' := hX
  obtain ⟨k0, ⟨p0, p1, p2, p3, p4, p5, p6, p7, p8⟩, hS, hS2, hV, ⟨x0, x1, x2⟩, hT2, hO, hD, hH, hH2⟩ := hX'
  have hS' := hS2
  obtain ⟨l0, r0, r1, r2, hT, hK, hF⟩ := hS'
  obtain ⟨f0, f1, f2, f3, f4, f5, f6, f7, f8⟩ := hF
  have hO0 := hO.1
  intro m
  induction m with
  | zero =>
    intro i B g I hi hB hg hGV
    refine ⟨I, fun _ _ _ _ => rfl, fun Q => ?_⟩
    have : i = 300 := by omega
    subst this
    have e : soV t it had 0 300 g = nI 4294967295 := rfl
    rw [X_go, d141_37]
    simp (disch := first | assumption | omega) only [Nat.reduceAdd, X_go, go2_some, stp, ldI, ldA, ldL, stI, stA, stL, o1I, o2I, o2L, brI, brII, gl, s1, s2, k1, sl, go_sN, go_sR, go_CT, go_sT, go_no, go_if, pops, bk_v, bk_0, d141_0, d141_1, d141_4, d141_5, d141_8, d141_9, d141_12, d141_13, d141_16, d141_19, d141_20, d141_23, d141_26, d141_29, d141_30, d141_33, d141_34, d141_35, d141_39, d141_42, d141_45, d141_46, d141_49, d141_50, d141_53, d141_54, d141_57, d141_58, d141_59, d141_62, d141_65, d141_68, d141_69, d141_72, d141_73, d141_76, d141_78, d141_79, d141_82, d141_85, d141_86, n_lt, n_le, n_eq, n_lt0, n_ge0, n_gt0, n_le0, n_eq0, m_lt, m_le, m_gt, m_ge, m_eq, m_eq', m_lt0, m_ge0, m_gt0, m_le0, m_ltm, m_lem, n_in, m_in, n_cl, n_ti, n_div, n_rem', n_dec, n_l, nI_add, pk_mul, an0, an1, decide_eq_true_eq, if_true, if_false, ite_true, ite_false, and_true, true_and, and_false, false_and, not_true, not_false_iff, or_false, false_or, or_true, true_or, eq_self, va_some, Bool.false_eq_true, reduceIte, catS_n, catS_i, catS_r, catS_l, catS_d, Nat.zero_add, Nat.add_zero, decide_true, decide_false, Nat.reduceLeDiff, cat_r, cat_i, cat_l, nle_T, nle_F, nlt_T, nlt_F, neq_T, neq_F, e]
  | succ m ih =>
    intro i B g I hi hB hg hGV
    obtain ⟨J, i1, i2, i3, i4, i5⟩ := c115 (d := d) (L := L) (C := C) hO hS2 (by omega) hg hGV.1 hGV.2.1 hGV.2.2 (by omega) (by omega) ht
    have e3 : J 34 it = nI (opn t g (124 + it)) := i1.2.2.1 it hit
    have hb1 := i2.2.2.2.2.2.1 it hit
    have hb2 := i2.2.2.2.1
    by_cases z : had < opn t g (124 + it)
    · have e : soV t it had (m + 1) i g = nI (i + 1) := if_pos z
      refine ⟨J, i4, fun Q => ?_⟩
      rw [X_go, d141_37]
      simp (disch := first | assumption | omega) only [Nat.reduceAdd, X_go, go2_some, stp, ldI, ldA, ldL, stI, stA, stL, o1I, o2I, o2L, brI, brII, gl, s1, s2, k1, sl, go_sN, go_sR, go_CT, go_sT, go_no, go_if, pops, bk_v, bk_0, d141_0, d141_1, d141_4, d141_5, d141_8, d141_9, d141_12, d141_13, d141_16, d141_19, d141_20, d141_23, d141_26, d141_29, d141_30, d141_33, d141_34, d141_35, d141_39, d141_42, d141_45, d141_46, d141_49, d141_50, d141_53, d141_54, d141_57, d141_58, d141_59, d141_62, d141_65, d141_68, d141_69, d141_72, d141_73, d141_76, d141_78, d141_79, d141_82, d141_85, d141_86, n_lt, n_le, n_eq, n_lt0, n_ge0, n_gt0, n_le0, n_eq0, m_lt, m_le, m_gt, m_ge, m_eq, m_eq', m_lt0, m_ge0, m_gt0, m_le0, m_ltm, m_lem, n_in, m_in, n_cl, n_ti, n_div, n_rem', n_dec, n_l, nI_add, pk_mul, an0, an1, decide_eq_true_eq, if_true, if_false, ite_true, ite_false, and_true, true_and, and_false, false_and, not_true, not_false_iff, or_false, false_or, or_true, true_or, eq_self, va_some, Bool.false_eq_true, reduceIte, catS_n, catS_i, catS_r, catS_l, catS_d, Nat.zero_add, Nat.add_zero, decide_true, decide_false, Nat.reduceLeDiff, cat_r, cat_i, cat_l, nle_T, nle_F, nlt_T, nlt_F, neq_T, neq_F, k0, p1, p5, l0, r2, f0, f1, hO0, i5, c26 f5, e3, z, e]
    · have e : soV t it had (m + 1) i g = soV t it had m (i + 1) (opn t g) := if_neg z
      obtain ⟨I', a1, a2⟩ := ih (i + 1) (B + 1) (opn t g) J (by omega) (by omega) i1 i2
      refine ⟨I', fun k j h h' => by rw [a1 k j h h', i4 k j h h'], fun Q => ?_⟩
      have a2 := a2 Q
      rw [X_go, d141_37]
      simp (disch := first | assumption | omega) only [Nat.reduceAdd, X_go, go2_some, stp, ldI, ldA, ldL, stI, stA, stL, o1I, o2I, o2L, brI, brII, gl, s1, s2, k1, sl, go_sN, go_sR, go_CT, go_sT, go_no, go_if, pops, bk_v, bk_0, d141_0, d141_1, d141_4, d141_5, d141_8, d141_9, d141_12, d141_13, d141_16, d141_19, d141_20, d141_23, d141_26, d141_29, d141_30, d141_33, d141_34, d141_35, d141_39, d141_42, d141_45, d141_46, d141_49, d141_50, d141_53, d141_54, d141_57, d141_58, d141_59, d141_62, d141_65, d141_68, d141_69, d141_72, d141_73, d141_76, d141_78, d141_79, d141_82, d141_85, d141_86, n_lt, n_le, n_eq, n_lt0, n_ge0, n_gt0, n_le0, n_eq0, m_lt, m_le, m_gt, m_ge, m_eq, m_eq', m_lt0, m_ge0, m_gt0, m_le0, m_ltm, m_lem, n_in, m_in, n_cl, n_ti, n_div, n_rem', n_dec, n_l, nI_add, pk_mul, an0, an1, decide_eq_true_eq, if_true, if_false, ite_true, ite_false, and_true, true_and, and_false, false_and, not_true, not_false_iff, or_false, false_or, or_true, true_or, eq_self, va_some, Bool.false_eq_true, reduceIte, catS_n, catS_i, catS_r, catS_l, catS_d, Nat.zero_add, Nat.add_zero, decide_true, decide_false, Nat.reduceLeDiff, cat_r, cat_i, cat_l, nle_T, nle_F, nlt_T, nlt_F, neq_T, neq_F, k0, p1, p5, l0, r2, f0, f1, hO0, i5, c26 f5, e3, z, e]
      simp only [← X_go]
      exact a2
theorem c141 {d : Nat} {P : MP} {I : MI} {L : ML} {C : MC} {t it : Nat} {B n len : Nat} {g : GS} {ps : Nat → GS} {tx : Nat → Nat} (hX : XB P) (hR : XR I L g n ps len tx) (hA : AV B g n ps len tx) (hB : B + 300 < 1000000) (hd : 13 ≤ d) (ht : t < 3) (hit : it < 16) : ∃ I', XR I' L g n ps len tx ∧ fo I I' ∧ ∀ Q, CT d 141 [.ref 1, .int (nI t), .int (nI it)] P I L C Q = Q (.inl (some (.int (soV t it (g (124 + it)) 300 0 g)))) P I' L C := by
  have hX' := hX
  obtain ⟨k0, ⟨p0, p1, p2, p3, p4, p5, p6, p7, p8⟩, hS, hS2, hV, ⟨x0, x1, x2⟩, hT2, hO, hD, hH, hH2⟩ := hX'
  have hS' := hS
  obtain ⟨l0, r0, r1, r2, hT, hK, hF⟩ := hS'
  have hT' := hT
  have hK' := hK
  have hF' := hF
  have hR' := hR
  have hA' := hA
  obtain ⟨⟨m0, q0, q1, q2, q3, q4, q5, q6, q7⟩, z1, z2, z3, z4, z5, z6, z7, z8⟩ := hT'
  obtain ⟨w0, w1, w2, w3, w4⟩ := hK'
  obtain ⟨f0, f1, f2, f3, f4, f5, f6, f7, f8⟩ := hF'
  obtain ⟨hg, hVR, hXT, hCC⟩ := hR'
  obtain ⟨hGV, hps, hn4, hlen, htx⟩ := hA'
  have h140 := GV_140 hGV
  have hv := hGV.1
  have hl := hGV.2.1
  have hFv := hGV.2.2
  have e3 : I 16 it = nI (g (124 + it)) := hg.2.2.1 it hit
  have hS20 := hS2.1
  have hb1 := hFv.2.2.2.1 it hit
  have hb2 := hFv.2.1
  obtain ⟨I', a1, a2⟩ := f141 (d := d - 1) (L := L) (C := C) (had := g (124 + it)) hX (by omega) ht hit (by omega) 300 0 B g (copS I 20 2) (by omega) hB (RC_cop hg hv (by omega)) hGV
  refine ⟨I', XR_fr hR (fun k j h => by rw [a1 _ _ (by omega) (by omega), copS_n (by omega)]) (fun _ _ _ _ => rfl), fun k j h => by rw [a1 _ _ (by omega) (by omega), copS_n (by omega)], fun Q => ?_⟩
  have e4 : copS I 20 2 16 it = nI (g (124 + it)) := by rw [copS_n (by omega)]; exact e3
  have a2 := a2 Q
  rw [Nat.zero_add] at a2
  rw [CT_e (mj := 141) (e := [.ref 1, .int (nI t), .int (nI it), UN, UN]) (by omega) rfl (Nat.le_of_ble_eq_true rfl)]
  simp (disch := first | assumption | omega) only [Nat.reduceAdd, X_go, go2_some, stp, ldI, ldA, ldL, stI, stA, stL, o1I, o2I, o2L, brI, brII, gl, s1, s2, k1, sl, go_sN, go_sR, go_CT, go_sT, go_no, go_if, pops, bk_v, bk_0, d141_0, d141_1, d141_4, d141_5, d141_8, d141_9, d141_12, d141_13, d141_16, d141_19, d141_20, d141_23, d141_26, d141_29, d141_30, d141_33, d141_34, d141_35, d141_39, d141_42, d141_45, d141_46, d141_49, d141_50, d141_53, d141_54, d141_57, d141_58, d141_59, d141_62, d141_65, d141_68, d141_69, d141_72, d141_73, d141_76, d141_78, d141_79, d141_82, d141_85, d141_86, n_lt, n_le, n_eq, n_lt0, n_ge0, n_gt0, n_le0, n_eq0, m_lt, m_le, m_gt, m_ge, m_eq, m_eq', m_lt0, m_ge0, m_gt0, m_le0, m_ltm, m_lem, n_in, m_in, n_cl, n_ti, n_div, n_rem', n_dec, n_l, nI_add, pk_mul, an0, an1, decide_eq_true_eq, if_true, if_false, ite_true, ite_false, and_true, true_and, and_false, false_and, not_true, not_false_iff, or_false, false_or, or_true, true_or, eq_self, va_some, Bool.false_eq_true, reduceIte, catS_n, catS_i, catS_r, catS_l, catS_d, Nat.zero_add, Nat.add_zero, decide_true, decide_false, Nat.reduceLeDiff, cat_r, cat_i, cat_l, nle_T, nle_F, nlt_T, nlt_F, neq_T, neq_F, k0, p0, p1, p2, p3, p4, p5, p6, p7, p8, x0, x1, x2, l0, r0, r1, r2, m0, q0, q1, q2, q3, q4, q5, q6, q7, w0, w1, w2, f0, f1, f2, f3, f4, c86, c129, hS20, c15 hS2 hS, c26 f5, e4]
  simp only [← X_go]
  exact a2
theorem c141b {d : Nat} {P : MP} {I : MI} {L : ML} {C : MC} {Q : QT} {x y : Int32} (hd : 8 ≤ d) (hx : x < 0 ∨ nI 3 ≤ x) : CT d 141 [.ref 1, .int x, .int y] P I L C Q = Q (.inr 0) P I L (C.1 + 1, C.2 + 6) := by
  rw [CT_e (mj := 141) (e := [.ref 1, .int x, .int y, UN, UN]) (by omega) rfl (Nat.le_of_ble_eq_true rfl)]
  simp (disch := first | assumption | omega) only [Nat.reduceAdd, X_go, go2_some, stp, ldI, ldA, ldL, stI, stA, stL, o1I, o2I, o2L, brI, brII, gl, s1, s2, k1, sl, go_sN, go_sR, go_CT, go_sT, go_no, go_if, pops, bk_v, bk_0, d141_0, d141_1, d141_4, d141_5, d141_8, d141_9, d141_12, d141_13, d141_16, d141_19, d141_20, d141_23, d141_26, d141_29, d141_30, d141_33, d141_34, d141_35, d141_37, d141_39, d141_42, d141_45, d141_46, d141_49, d141_50, d141_53, d141_54, d141_57, d141_58, d141_59, d141_62, d141_65, d141_68, d141_69, d141_72, d141_73, d141_76, d141_78, d141_79, d141_82, d141_85, d141_86, n_lt, n_le, n_eq, n_lt0, n_ge0, n_gt0, n_le0, n_eq0, m_lt, m_le, m_gt, m_ge, m_eq, m_eq', m_lt0, m_ge0, m_gt0, m_le0, m_ltm, m_lem, n_in, m_in, n_cl, n_ti, n_div, n_rem', n_dec, n_l, nI_add, pk_mul, an0, an1, decide_eq_true_eq, if_true, if_false, ite_true, ite_false, and_true, true_and, and_false, false_and, not_true, not_false_iff, or_false, false_or, or_true, true_or, eq_self, va_some, Bool.false_eq_true, reduceIte, catS_n, catS_i, catS_r, catS_l, catS_d, Nat.zero_add, Nat.add_zero, decide_true, decide_false, Nat.reduceLeDiff, cat_r, cat_i, cat_l, nle_T, nle_F, nlt_T, nlt_F, neq_T, neq_F, c86b, bk_x x141]
  done
theorem c141c {d : Nat} {P : MP} {I : MI} {L : ML} {C : MC} {Q : QT} {t : Nat} {y : Int32} (hd : 8 ≤ d) (ht : t < 3) (hy : y < 0 ∨ nI 16 ≤ y) : CT d 141 [.ref 1, .int (nI t), .int y] P I L C Q = Q (.inr 0) P I L (C.1 + 1, C.2 + 6) := by
  rw [CT_e (mj := 141) (e := [.ref 1, .int (nI t), .int y, UN, UN]) (by omega) rfl (Nat.le_of_ble_eq_true rfl)]
  simp (disch := first | assumption | omega) only [Nat.reduceAdd, X_go, go2_some, stp, ldI, ldA, ldL, stI, stA, stL, o1I, o2I, o2L, brI, brII, gl, s1, s2, k1, sl, go_sN, go_sR, go_CT, go_sT, go_no, go_if, pops, bk_v, bk_0, d141_0, d141_1, d141_4, d141_5, d141_8, d141_9, d141_12, d141_13, d141_16, d141_19, d141_20, d141_23, d141_26, d141_29, d141_30, d141_33, d141_34, d141_35, d141_37, d141_39, d141_42, d141_45, d141_46, d141_49, d141_50, d141_53, d141_54, d141_57, d141_58, d141_59, d141_62, d141_65, d141_68, d141_69, d141_72, d141_73, d141_76, d141_78, d141_79, d141_82, d141_85, d141_86, n_lt, n_le, n_eq, n_lt0, n_ge0, n_gt0, n_le0, n_eq0, m_lt, m_le, m_gt, m_ge, m_eq, m_eq', m_lt0, m_ge0, m_gt0, m_le0, m_ltm, m_lem, n_in, m_in, n_cl, n_ti, n_div, n_rem', n_dec, n_l, nI_add, pk_mul, an0, an1, decide_eq_true_eq, if_true, if_false, ite_true, ite_false, and_true, true_and, and_false, false_and, not_true, not_false_iff, or_false, false_or, or_true, true_or, eq_self, va_some, Bool.false_eq_true, reduceIte, catS_n, catS_i, catS_r, catS_l, catS_d, Nat.zero_add, Nat.add_zero, decide_true, decide_false, Nat.reduceLeDiff, cat_r, cat_i, cat_l, nle_T, nle_F, nlt_T, nlt_F, neq_T, neq_F, c86, c129b, bk_x x141]
  done
/-- an entry's weight doubled -/
def dbl (g : GS) (t e : Nat) : GS := ud g (cl t e 1) (min 1000 (2 * g (cl t e 1)))
theorem dbl_b {g : GS} {t e : Nat} : ud (dbl g t e) (cl t e 1) (g (cl t e 1)) = g := by
  funext k
  unfold dbl ud
  split
  · rename_i h; rw [h]
  · rfl
def bdV (g : GS) (t it : Nat) : Nat → Nat → Int32 → Int64 → Int32
  | 0, _, b, _ => b
  | m + 1, e, b, mo => if mo < chV (dbl g t e) t it then bdV g t it m (e + 1) (nI e) (chV (dbl g t e) t it) else bdV g t it m (e + 1) b mo
theorem d143_0 : dec 143 0 = some (.iload_n 1, 1, []) := rfl
theorem d143_1 : dec 143 1 = some (.invokestatic 64, 3, [2, 86, 0, 9, 0, 507, 0]) := rfl
theorem d143_4 : dec 143 4 = some (.iload_n 2, 1, []) := rfl
theorem d143_5 : dec 143 5 = some (.invokestatic 183, 3, [2, 129, 0, 9, 0, 798, 0]) := rfl
theorem d143_8 : dec 143 8 = some (.aload_n 0, 1, []) := rfl
theorem d143_9 : dec 143 9 = some (.getfield 16, 3, [1, 9, 1, 2, 0, 268]) := rfl
theorem d143_12 : dec 143 12 = some (.aload_n 0, 1, []) := rfl
theorem d143_13 : dec 143 13 = some (.getfield 12, 3, [1, 9, 0, 2, 0, 267]) := rfl
theorem d143_16 : dec 143 16 = some (.invokevirtual 222, 3, [2, 15, 2, 6, 0, 884, 2]) := rfl
theorem d143_19 : dec 143 19 = some (.iconst (-1), 1, [4294967295]) := rfl
theorem d143_20 : dec 143 20 = some (.istore_n 3, 1, []) := rfl
theorem d143_21 : dec 143 21 = some (.ldc2_w 226, 3, [9, 18446744073709551615, 892]) := rfl
theorem d143_24 : dec 143 24 = some (.lstore 4, 2, []) := rfl
theorem d143_26 : dec 143 26 = some (.iconst 0, 1, [0]) := rfl
theorem d143_27 : dec 143 27 = some (.istore 6, 2, []) := rfl
theorem d143_29 : dec 143 29 = some (.iload 6, 2, []) := rfl
theorem d143_31 : dec 143 31 = some (.aload_n 0, 1, []) := rfl
theorem d143_32 : dec 143 32 = some (.getfield 12, 3, [1, 9, 0, 2, 0, 267]) := rfl
theorem d143_35 : dec 143 35 = some (.getfield 75, 3, [1, 6, 0, 2, 1, 138]) := rfl
theorem d143_38 : dec 143 38 = some (.iload_n 1, 1, []) := rfl
theorem d143_39 : dec 143 39 = some (.invokevirtual 101, 3, [2, 25, 2, 7, 0, 531, 0]) := rfl
theorem d143_42 : dec 143 42 = some (.if_icmp .ge 122, 3, [164]) := rfl
theorem d143_45 : dec 143 45 = some (.iload_n 1, 1, []) := rfl
theorem d143_46 : dec 143 46 = some (.iload 6, 2, []) := rfl
theorem d143_48 : dec 143 48 = some (.invokestatic 124, 3, [2, 27, 0, 9, 0, 599, 0, 0]) := rfl
theorem d143_51 : dec 143 51 = some (.istore 7, 2, []) := rfl
theorem d143_53 : dec 143 53 = some (.aload_n 0, 1, []) := rfl
theorem d143_54 : dec 143 54 = some (.getfield 12, 3, [1, 9, 0, 2, 0, 267]) := rfl
theorem d143_57 : dec 143 57 = some (.getfield 75, 3, [1, 6, 0, 2, 1, 138]) := rfl
theorem d143_60 : dec 143 60 = some (.getfield 121, 3, [1, 7, 3, 2, 1, 53]) := rfl
theorem d143_63 : dec 143 63 = some (.iload 7, 2, []) := rfl
theorem d143_65 : dec 143 65 = some (.invokestatic 161, 3, [2, 26, 0, 9, 0, 530, 0, 2]) := rfl
theorem d143_68 : dec 143 68 = some (.istore 8, 2, []) := rfl
theorem d143_70 : dec 143 70 = some (.aload_n 0, 1, []) := rfl
theorem d143_71 : dec 143 71 = some (.getfield 16, 3, [1, 9, 1, 2, 0, 268]) := rfl
theorem d143_74 : dec 143 74 = some (.getfield 75, 3, [1, 6, 0, 2, 1, 138]) := rfl
theorem d143_77 : dec 143 77 = some (.getfield 121, 3, [1, 7, 3, 2, 1, 53]) := rfl
theorem d143_80 : dec 143 80 = some (.iload 7, 2, []) := rfl
theorem d143_82 : dec 143 82 = some (.sipush 1000, 3, [1000]) := rfl
theorem d143_85 : dec 143 85 = some (.iconst 2, 1, [2]) := rfl
theorem d143_86 : dec 143 86 = some (.iload 8, 2, []) := rfl
theorem d143_88 : dec 143 88 = some (.imul, 1, []) := rfl
theorem d143_89 : dec 143 89 = some (.invokestatic 228, 3, [10, 400]) := rfl
theorem d143_92 : dec 143 92 = some (.invokestatic 233, 3, [2, 44, 0, 9, 0, 652, 0, 0, 2]) := rfl
theorem d143_95 : dec 143 95 = some (.aload_n 0, 1, []) := rfl
theorem d143_96 : dec 143 96 = some (.getfield 61, 3, [1, 9, 8, 2, 0, 275]) := rfl
theorem d143_99 : dec 143 99 = some (.invokevirtual 237, 3, [2, 21, 2, 0, 0, 416]) := rfl
theorem d143_102 : dec 143 102 = some (.aload_n 0, 1, []) := rfl
theorem d143_103 : dec 143 103 = some (.getfield 61, 3, [1, 9, 8, 2, 0, 275]) := rfl
theorem d143_106 : dec 143 106 = some (.aload_n 0, 1, []) := rfl
theorem d143_107 : dec 143 107 = some (.getfield 16, 3, [1, 9, 1, 2, 0, 268]) := rfl
theorem d143_110 : dec 143 110 = some (.iload_n 1, 1, []) := rfl
theorem d143_111 : dec 143 111 = some (.invokevirtual 201, 3, [2, 75, 2, 0, 0, 819, 0, 2]) := rfl
theorem d143_114 : dec 143 114 = some (.aload_n 0, 1, []) := rfl
theorem d143_115 : dec 143 115 = some (.getfield 16, 3, [1, 9, 1, 2, 0, 268]) := rfl
theorem d143_118 : dec 143 118 = some (.getfield 75, 3, [1, 6, 0, 2, 1, 138]) := rfl
theorem d143_121 : dec 143 121 = some (.getfield 121, 3, [1, 7, 3, 2, 1, 53]) := rfl
theorem d143_124 : dec 143 124 = some (.iload 7, 2, []) := rfl
theorem d143_126 : dec 143 126 = some (.iload 8, 2, []) := rfl
theorem d143_128 : dec 143 128 = some (.invokestatic 233, 3, [2, 44, 0, 9, 0, 652, 0, 0, 2]) := rfl
theorem d143_131 : dec 143 131 = some (.aload_n 0, 1, []) := rfl
theorem d143_132 : dec 143 132 = some (.getfield 61, 3, [1, 9, 8, 2, 0, 275]) := rfl
theorem d143_135 : dec 143 135 = some (.iload_n 2, 1, []) := rfl
theorem d143_136 : dec 143 136 = some (.invokevirtual 205, 3, [2, 135, 2, 0, 0, 851, 0]) := rfl
theorem d143_139 : dec 143 139 = some (.lload 4, 2, []) := rfl
theorem d143_141 : dec 143 141 = some (.lcmp, 1, []) := rfl
theorem d143_142 : dec 143 142 = some (.ifCond .le 16, 3, [158]) := rfl
theorem d143_145 : dec 143 145 = some (.aload_n 0, 1, []) := rfl
theorem d143_146 : dec 143 146 = some (.getfield 61, 3, [1, 9, 8, 2, 0, 275]) := rfl
theorem d143_149 : dec 143 149 = some (.iload_n 2, 1, []) := rfl
theorem d143_150 : dec 143 150 = some (.invokevirtual 205, 3, [2, 135, 2, 0, 0, 851, 0]) := rfl
theorem d143_153 : dec 143 153 = some (.lstore 4, 2, []) := rfl
theorem d143_155 : dec 143 155 = some (.iload 6, 2, []) := rfl
theorem d143_157 : dec 143 157 = some (.istore_n 3, 1, []) := rfl
theorem d143_158 : dec 143 158 = some (.iinc 6 1, 3, [1]) := rfl
theorem d143_161 : dec 143 161 = some (.goto (-132), 3, [29]) := rfl
theorem d143_164 : dec 143 164 = some (.iload_n 3, 1, []) := rfl
theorem d143_165 : dec 143 165 = some (.ireturn, 1, [0]) := rfl
theorem l143 : mL 143 = 9 := rfl
theorem x143 : (mG 143).2.2.2.2 = [] := rfl
theorem f143 {d : Nat} {P : MP} {C : MC} {t it B : Nat} {g : GS} (hX : XB P) (hd : 21 ≤ d) (ht : t < 3) (hit : it < 16) (hGV : GV B g) : ∀ m e (b : Int32) (mo : Int64) (I : MI) (L : ML) (u7 u8 : Value), e + m = g (3 + t) → RC I 2 g → RC I 20 g → ∃ I' L', (∀ k j, k < 20 ∨ (37 < k ∧ k < 140) ∨ 149 < k → I' k j = I k j) ∧ (∀ k j, k < 140 ∨ 149 < k → L' k j = L k j) ∧ ∀ Q, X d 143 29 [.ref 1, .int (nI t), .int (nI it), .int b, .long mo, UN, .int (nI e), u7, u8] [] P I L C Q = Q (.inl (some (.int (bdV g t it m e b mo)))) P I' L' C := by
  have hX' := hX
  obtain ⟨k0, ⟨p0, p1, p2, p3, p4, p5, p6, p7, p8⟩, hS, hS2, hV, ⟨x0, x1, x2⟩, hT2, hO, hD, hH, hH2⟩ := hX'
  have hS' := hS
  obtain ⟨l0, r0, r1, r2, hT, hK, hF⟩ := hS'
  have hT' := hT
  obtain ⟨⟨m0, q0, q1, q2, q3, q4, q5, q6, q7⟩, z1, z2, z3, z4, z5, z6, z7, z8⟩ := hT'
  have hS2' := hS2
  obtain ⟨al0, ar0, ar1, ar2, aT, aK, aF⟩ := hS2'
  obtain ⟨⟨am0, aq0, aq1, aq2, aq3, aq4, aq5, aq6, aq7⟩, az1, az2, az3, az4, az5, az6, az7, az8⟩ := aT
  have hH0 := hH2.1
  have hv := hGV.1
  have h140 := GV_140 hGV
  have hc := hv.2.1 t ht
  intro m
  induction m with
  | zero =>
    intro e b mo I L u7 u8 hm hg hg2
    refine ⟨I, L, fun _ _ _ => rfl, fun _ _ _ => rfl, fun Q => ?_⟩
    have : e = g (3 + t) := by omega
    subst this
    have e0 : bdV g t it 0 (g (3 + t)) b mo = b := rfl
    rw [X_go, d143_29]
    simp (disch := first | assumption | omega) only [Nat.reduceAdd, X_go, go2_some, stp, ldI, ldA, ldL, stI, stA, stL, o1I, o2I, o2L, brI, brII, gl, s1, s2, k1, sl, go_sN, go_sR, go_CT, go_sT, go_no, go_if, pops, bk_v, bk_0, d143_0, d143_1, d143_4, d143_5, d143_8, d143_9, d143_12, d143_13, d143_16, d143_19, d143_20, d143_21, d143_24, d143_26, d143_27, d143_31, d143_32, d143_35, d143_38, d143_39, d143_42, d143_45, d143_46, d143_48, d143_51, d143_53, d143_54, d143_57, d143_60, d143_63, d143_65, d143_68, d143_70, d143_71, d143_74, d143_77, d143_80, d143_82, d143_85, d143_86, d143_88, d143_89, d143_92, d143_95, d143_96, d143_99, d143_102, d143_103, d143_106, d143_107, d143_110, d143_111, d143_114, d143_115, d143_118, d143_121, d143_124, d143_126, d143_128, d143_131, d143_132, d143_135, d143_136, d143_139, d143_141, d143_142, d143_145, d143_146, d143_149, d143_150, d143_153, d143_155, d143_157, d143_158, d143_161, d143_164, d143_165, n_lt, n_le, n_eq, n_lt0, n_ge0, n_gt0, n_le0, n_eq0, m_lt, m_le, m_gt, m_ge, m_eq, m_eq', m_lt0, m_ge0, m_gt0, m_le0, m_ltm, m_lem, n_in, m_in, n_cl, n_ti, n_div, n_rem', n_dec, n_l, nI_add, pk_mul, an0, an1, decide_eq_true_eq, if_true, if_false, ite_true, ite_false, and_true, true_and, and_false, false_and, not_true, not_false_iff, or_false, false_or, or_true, true_or, eq_self, va_some, Bool.false_eq_true, reduceIte, catS_n, catS_i, catS_r, catS_l, catS_d, Nat.zero_add, Nat.add_zero, decide_true, decide_false, Nat.reduceLeDiff, cat_r, cat_i, cat_l, nle_T, nle_F, nlt_T, nlt_F, neq_T, neq_F, k0, p0, l0, r0, m0, c25g hT hg.1, e0]
  | succ m ih =>
    intro e b mo I L u7 u8 hm hg hg2
    have he : e < g (3 + t) := by omega
    obtain ⟨E0, E1, E2, E3, E4, E5, E6, E7⟩ := hv.2.2 t e ht he
    have e1 : I 7 (6 * t + e) = nI (g (cl t e 1)) := (hg.1.2.2 t e ht he).2.1
    have hmn : (if 2 * g (cl t e 1) < 1000 then nI (2 * g (cl t e 1)) else nI 1000) = nI (min 1000 (2 * g (cl t e 1))) := by
      split
      · rw [Nat.min_eq_right (by omega)]
      · rw [Nat.min_eq_left (by omega)]
    obtain ⟨J0, hJ0⟩ : ∃ J0, J0 = xu (xu I 25 (6 * t + e) (nI (min 1000 (2 * g (cl t e 1))))) 140 6 (nI 4294967295) := ⟨_, rfl⟩
    have hGV' : GV B (dbl g t e) := GV_wt hGV ht (by omega) (by omega) (Nat.min_le_left _ _)
    have hJg : RC J0 20 (dbl g t e) := by
      rw [hJ0]
      exact RC_fr (RC_wt (b := 20) hg2 hv ht (by omega) h140) fun k j h h' => xu_n _ _ (by omega)
    obtain ⟨J1, L1, i1, i2, i3, i4, i5⟩ := c75 (d := d) (I := J0) (L := L) (C := C) hH2 hS2 hJg hGV'.1 hGV'.2.1 (CC_no (by rw [hJ0]; exact xu_s _ _ _ _)) (by omega) ht (by omega)
    have hJ1g : RC J1 20 (dbl g t e) := RC_fr hJg fun k j h h' => i3 k j (by omega)
    have hJ2g : RC (xu J1 25 (6 * t + e) (nI (g (cl t e 1)))) 20 g := by
      have := RC_wt (b := 20) (v := g (cl t e 1)) hJ1g hGV'.1 ht (by omega) (e := e) (GV_140 hGV')
      rw [dbl_b] at this
      exact this
    have hJ2n : ∀ k j, k < 20 ∨ (37 < k ∧ k < 140) ∨ 149 < k → (xu J1 25 (6 * t + e) (nI (g (cl t e 1)))) k j = I k j := fun k j h => by
      rw [xu_n _ _ (by omega), i3 _ _ (by omega), hJ0, xu_n _ _ (by omega), xu_n _ _ (by omega)]
    have hci : L1 (140 + 8) it = chV (dbl g t e) t it := i2.1 it hit
    have hl148 : L1 148 it = chV (dbl g t e) t it := hci
    have hgt := lg_cmp_le (chV (dbl g t e) t it) mo
    by_cases z : mo < chV (dbl g t e) t it
    · have e0 : bdV g t it (m + 1) e b mo = bdV g t it m (e + 1) (nI e) (chV (dbl g t e) t it) := if_pos z
      have hz : (lg_cmp (chV (dbl g t e) t it) mo ≤ 0) = False := eq_false fun q => absurd (hgt.mp q) (Int64.not_le.mpr z)
      obtain ⟨I', L', a1, a2, a3⟩ := ih (e + 1) (nI e) (chV (dbl g t e) t it) (xu J1 25 (6 * t + e) (nI (g (cl t e 1)))) L1 (.int (nI (6 * t + e))) (.int (nI (g (cl t e 1)))) (by omega) (RC_fr hg fun k j h h' => hJ2n k j (by omega)) hJ2g
      refine ⟨I', L', fun k j h => by rw [a1 k j h, hJ2n k j h], fun k j h => by rw [a2 k j h, i4 k j (by omega)], fun Q => ?_⟩
      have a3 := a3 Q
      rw [X_go, d143_29]
      simp (disch := first | assumption | omega) only [Nat.reduceAdd, X_go, go2_some, stp, ldI, ldA, ldL, stI, stA, stL, o1I, o2I, o2L, brI, brII, gl, s1, s2, k1, sl, go_sN, go_sR, go_CT, go_sT, go_no, go_if, pops, bk_v, bk_0, d143_0, d143_1, d143_4, d143_5, d143_8, d143_9, d143_12, d143_13, d143_16, d143_19, d143_20, d143_21, d143_24, d143_26, d143_27, d143_31, d143_32, d143_35, d143_38, d143_39, d143_42, d143_45, d143_46, d143_48, d143_51, d143_53, d143_54, d143_57, d143_60, d143_63, d143_65, d143_68, d143_70, d143_71, d143_74, d143_77, d143_80, d143_82, d143_85, d143_86, d143_88, d143_89, d143_92, d143_95, d143_96, d143_99, d143_102, d143_103, d143_106, d143_107, d143_110, d143_111, d143_114, d143_115, d143_118, d143_121, d143_124, d143_126, d143_128, d143_131, d143_132, d143_135, d143_136, d143_139, d143_141, d143_142, d143_145, d143_146, d143_149, d143_150, d143_153, d143_155, d143_157, d143_158, d143_161, d143_164, d143_165, n_lt, n_le, n_eq, n_lt0, n_ge0, n_gt0, n_le0, n_eq0, m_lt, m_le, m_gt, m_ge, m_eq, m_eq', m_lt0, m_ge0, m_gt0, m_le0, m_ltm, m_lem, n_in, m_in, n_cl, n_ti, n_div, n_rem', n_dec, n_l, nI_add, pk_mul, an0, an1, decide_eq_true_eq, if_true, if_false, ite_true, ite_false, and_true, true_and, and_false, false_and, not_true, not_false_iff, or_false, false_or, or_true, true_or, eq_self, va_some, Bool.false_eq_true, reduceIte, catS_n, catS_i, catS_r, catS_l, catS_d, Nat.zero_add, Nat.add_zero, decide_true, decide_false, Nat.reduceLeDiff, cat_r, cat_i, cat_l, nle_T, nle_F, nlt_T, nlt_F, neq_T, neq_F, k0, p0, p1, p8, l0, r0, m0, q3, al0, ar0, am0, aq3, c25g hT hg.1, c27, c26 z4, e1, hmn, c44 az4, hH0, c21, ← hJ0, i5, c135 hH2, hl148, hz, e0]
      simp only [← X_go]
      exact a3
    · have e0 : bdV g t it (m + 1) e b mo = bdV g t it m (e + 1) b mo := if_neg z
      have hz : (lg_cmp (chV (dbl g t e) t it) mo ≤ 0) = True := eq_true (hgt.mpr (Int64.not_lt.mp z))
      obtain ⟨I', L', a1, a2, a3⟩ := ih (e + 1) b mo (xu J1 25 (6 * t + e) (nI (g (cl t e 1)))) L1 (.int (nI (6 * t + e))) (.int (nI (g (cl t e 1)))) (by omega) (RC_fr hg fun k j h h' => hJ2n k j (by omega)) hJ2g
      refine ⟨I', L', fun k j h => by rw [a1 k j h, hJ2n k j h], fun k j h => by rw [a2 k j h, i4 k j (by omega)], fun Q => ?_⟩
      have a3 := a3 Q
      rw [X_go, d143_29]
      simp (disch := first | assumption | omega) only [Nat.reduceAdd, X_go, go2_some, stp, ldI, ldA, ldL, stI, stA, stL, o1I, o2I, o2L, brI, brII, gl, s1, s2, k1, sl, go_sN, go_sR, go_CT, go_sT, go_no, go_if, pops, bk_v, bk_0, d143_0, d143_1, d143_4, d143_5, d143_8, d143_9, d143_12, d143_13, d143_16, d143_19, d143_20, d143_21, d143_24, d143_26, d143_27, d143_31, d143_32, d143_35, d143_38, d143_39, d143_42, d143_45, d143_46, d143_48, d143_51, d143_53, d143_54, d143_57, d143_60, d143_63, d143_65, d143_68, d143_70, d143_71, d143_74, d143_77, d143_80, d143_82, d143_85, d143_86, d143_88, d143_89, d143_92, d143_95, d143_96, d143_99, d143_102, d143_103, d143_106, d143_107, d143_110, d143_111, d143_114, d143_115, d143_118, d143_121, d143_124, d143_126, d143_128, d143_131, d143_132, d143_135, d143_136, d143_139, d143_141, d143_142, d143_145, d143_146, d143_149, d143_150, d143_153, d143_155, d143_157, d143_158, d143_161, d143_164, d143_165, n_lt, n_le, n_eq, n_lt0, n_ge0, n_gt0, n_le0, n_eq0, m_lt, m_le, m_gt, m_ge, m_eq, m_eq', m_lt0, m_ge0, m_gt0, m_le0, m_ltm, m_lem, n_in, m_in, n_cl, n_ti, n_div, n_rem', n_dec, n_l, nI_add, pk_mul, an0, an1, decide_eq_true_eq, if_true, if_false, ite_true, ite_false, and_true, true_and, and_false, false_and, not_true, not_false_iff, or_false, false_or, or_true, true_or, eq_self, va_some, Bool.false_eq_true, reduceIte, catS_n, catS_i, catS_r, catS_l, catS_d, Nat.zero_add, Nat.add_zero, decide_true, decide_false, Nat.reduceLeDiff, cat_r, cat_i, cat_l, nle_T, nle_F, nlt_T, nlt_F, neq_T, neq_F, k0, p0, p1, p8, l0, r0, m0, q3, al0, ar0, am0, aq3, c25g hT hg.1, c27, c26 z4, e1, hmn, c44 az4, hH0, c21, ← hJ0, i5, c135 hH2, hl148, hz, e0]
      simp only [← X_go]
      exact a3
theorem c143 {d : Nat} {P : MP} {I : MI} {L : ML} {C : MC} {t it : Nat} {B n len : Nat} {g : GS} {ps : Nat → GS} {tx : Nat → Nat} (hX : XB P) (hR : XR I L g n ps len tx) (hA : AV B g n ps len tx) (hd : 23 ≤ d) (ht : t < 3) (hit : it < 16) : ∃ I' L', XR I' L' g n ps len tx ∧ fo I I' ∧ fo L L' ∧ ∀ Q, CT d 143 [.ref 1, .int (nI t), .int (nI it)] P I L C Q = Q (.inl (some (.int (bdV g t it (g (3 + t)) 0 (nI 4294967295) (lN 18446744073709551615))))) P I' L' C := by
  have hX' := hX
  obtain ⟨k0, ⟨p0, p1, p2, p3, p4, p5, p6, p7, p8⟩, hS, hS2, hV, ⟨x0, x1, x2⟩, hT2, hO, hD, hH, hH2⟩ := hX'
  have hS' := hS
  obtain ⟨l0, r0, r1, r2, hT, hK, hF⟩ := hS'
  have hT' := hT
  have hK' := hK
  have hF' := hF
  have hR' := hR
  have hA' := hA
  obtain ⟨⟨m0, q0, q1, q2, q3, q4, q5, q6, q7⟩, z1, z2, z3, z4, z5, z6, z7, z8⟩ := hT'
  obtain ⟨w0, w1, w2, w3, w4⟩ := hK'
  obtain ⟨f0, f1, f2, f3, f4, f5, f6, f7, f8⟩ := hF'
  obtain ⟨hg, hVR, hXT, hCC⟩ := hR'
  obtain ⟨hGV, hps, hn4, hlen, htx⟩ := hA'
  have h140 := GV_140 hGV
  have hv := hGV.1
  have hl := hGV.2.1
  have hFv := hGV.2.2
  have hS20 := hS2.1
  obtain ⟨I', L', a1, a2, a3⟩ := f143 (d := d - 1) (C := C) hX (by omega) ht hit hGV (g (3 + t)) 0 (nI 4294967295) (lN 18446744073709551615) (copS I 20 2) L UN UN (by omega) (RC_copo hg (by omega)) (RC_cop hg hv (by omega))
  refine ⟨I', L', XR_fr hR (fun k j h => by rw [a1 _ _ (by omega), copS_n (by omega)]) (fun k j h h' => a2 k j (by omega)), fun k j h => by rw [a1 _ _ (by omega), copS_n (by omega)], fun k j h => a2 k j (by omega), fun Q => ?_⟩
  have a3 := a3 Q
  rw [CT_e (mj := 143) (e := [.ref 1, .int (nI t), .int (nI it), UN, UN, UN, UN, UN, UN]) (by omega) rfl (Nat.le_of_ble_eq_true rfl)]
  simp (disch := first | assumption | omega) only [Nat.reduceAdd, X_go, go2_some, stp, ldI, ldA, ldL, stI, stA, stL, o1I, o2I, o2L, brI, brII, gl, s1, s2, k1, sl, go_sN, go_sR, go_CT, go_sT, go_no, go_if, pops, bk_v, bk_0, d143_0, d143_1, d143_4, d143_5, d143_8, d143_9, d143_12, d143_13, d143_16, d143_19, d143_20, d143_21, d143_24, d143_26, d143_27, d143_31, d143_32, d143_35, d143_38, d143_39, d143_42, d143_45, d143_46, d143_48, d143_51, d143_53, d143_54, d143_57, d143_60, d143_63, d143_65, d143_68, d143_70, d143_71, d143_74, d143_77, d143_80, d143_82, d143_85, d143_86, d143_88, d143_89, d143_92, d143_95, d143_96, d143_99, d143_102, d143_103, d143_106, d143_107, d143_110, d143_111, d143_114, d143_115, d143_118, d143_121, d143_124, d143_126, d143_128, d143_131, d143_132, d143_135, d143_136, d143_139, d143_141, d143_142, d143_145, d143_146, d143_149, d143_150, d143_153, d143_155, d143_157, d143_158, d143_161, d143_164, d143_165, n_lt, n_le, n_eq, n_lt0, n_ge0, n_gt0, n_le0, n_eq0, m_lt, m_le, m_gt, m_ge, m_eq, m_eq', m_lt0, m_ge0, m_gt0, m_le0, m_ltm, m_lem, n_in, m_in, n_cl, n_ti, n_div, n_rem', n_dec, n_l, nI_add, pk_mul, an0, an1, decide_eq_true_eq, if_true, if_false, ite_true, ite_false, and_true, true_and, and_false, false_and, not_true, not_false_iff, or_false, false_or, or_true, true_or, eq_self, va_some, Bool.false_eq_true, reduceIte, catS_n, catS_i, catS_r, catS_l, catS_d, Nat.zero_add, Nat.add_zero, decide_true, decide_false, Nat.reduceLeDiff, cat_r, cat_i, cat_l, nle_T, nle_F, nlt_T, nlt_F, neq_T, neq_F, k0, p0, p1, p2, p3, p4, p5, p6, p7, p8, x0, x1, x2, l0, r0, r1, r2, m0, q0, q1, q2, q3, q4, q5, q6, q7, w0, w1, w2, f0, f1, f2, f3, f4, c86, c129, hS20, c15 hS2 hS]
  simp only [← X_go]
  exact a3
theorem c143b {d : Nat} {P : MP} {I : MI} {L : ML} {C : MC} {Q : QT} {x y : Int32} (hd : 8 ≤ d) (hx : x < 0 ∨ nI 3 ≤ x) : CT d 143 [.ref 1, .int x, .int y] P I L C Q = Q (.inr 0) P I L (C.1 + 1, C.2 + 6) := by
  rw [CT_e (mj := 143) (e := [.ref 1, .int x, .int y, UN, UN, UN, UN, UN, UN]) (by omega) rfl (Nat.le_of_ble_eq_true rfl)]
  simp (disch := first | assumption | omega) only [Nat.reduceAdd, X_go, go2_some, stp, ldI, ldA, ldL, stI, stA, stL, o1I, o2I, o2L, brI, brII, gl, s1, s2, k1, sl, go_sN, go_sR, go_CT, go_sT, go_no, go_if, pops, bk_v, bk_0, d143_0, d143_1, d143_4, d143_5, d143_8, d143_9, d143_12, d143_13, d143_16, d143_19, d143_20, d143_21, d143_24, d143_26, d143_27, d143_29, d143_31, d143_32, d143_35, d143_38, d143_39, d143_42, d143_45, d143_46, d143_48, d143_51, d143_53, d143_54, d143_57, d143_60, d143_63, d143_65, d143_68, d143_70, d143_71, d143_74, d143_77, d143_80, d143_82, d143_85, d143_86, d143_88, d143_89, d143_92, d143_95, d143_96, d143_99, d143_102, d143_103, d143_106, d143_107, d143_110, d143_111, d143_114, d143_115, d143_118, d143_121, d143_124, d143_126, d143_128, d143_131, d143_132, d143_135, d143_136, d143_139, d143_141, d143_142, d143_145, d143_146, d143_149, d143_150, d143_153, d143_155, d143_157, d143_158, d143_161, d143_164, d143_165, n_lt, n_le, n_eq, n_lt0, n_ge0, n_gt0, n_le0, n_eq0, m_lt, m_le, m_gt, m_ge, m_eq, m_eq', m_lt0, m_ge0, m_gt0, m_le0, m_ltm, m_lem, n_in, m_in, n_cl, n_ti, n_div, n_rem', n_dec, n_l, nI_add, pk_mul, an0, an1, decide_eq_true_eq, if_true, if_false, ite_true, ite_false, and_true, true_and, and_false, false_and, not_true, not_false_iff, or_false, false_or, or_true, true_or, eq_self, va_some, Bool.false_eq_true, reduceIte, catS_n, catS_i, catS_r, catS_l, catS_d, Nat.zero_add, Nat.add_zero, decide_true, decide_false, Nat.reduceLeDiff, cat_r, cat_i, cat_l, nle_T, nle_F, nlt_T, nlt_F, neq_T, neq_F, c86b, bk_x x143]
  done
theorem c143c {d : Nat} {P : MP} {I : MI} {L : ML} {C : MC} {Q : QT} {t : Nat} {y : Int32} (hd : 8 ≤ d) (ht : t < 3) (hy : y < 0 ∨ nI 16 ≤ y) : CT d 143 [.ref 1, .int (nI t), .int y] P I L C Q = Q (.inr 0) P I L (C.1 + 1, C.2 + 6) := by
  rw [CT_e (mj := 143) (e := [.ref 1, .int (nI t), .int y, UN, UN, UN, UN, UN, UN]) (by omega) rfl (Nat.le_of_ble_eq_true rfl)]
  simp (disch := first | assumption | omega) only [Nat.reduceAdd, X_go, go2_some, stp, ldI, ldA, ldL, stI, stA, stL, o1I, o2I, o2L, brI, brII, gl, s1, s2, k1, sl, go_sN, go_sR, go_CT, go_sT, go_no, go_if, pops, bk_v, bk_0, d143_0, d143_1, d143_4, d143_5, d143_8, d143_9, d143_12, d143_13, d143_16, d143_19, d143_20, d143_21, d143_24, d143_26, d143_27, d143_29, d143_31, d143_32, d143_35, d143_38, d143_39, d143_42, d143_45, d143_46, d143_48, d143_51, d143_53, d143_54, d143_57, d143_60, d143_63, d143_65, d143_68, d143_70, d143_71, d143_74, d143_77, d143_80, d143_82, d143_85, d143_86, d143_88, d143_89, d143_92, d143_95, d143_96, d143_99, d143_102, d143_103, d143_106, d143_107, d143_110, d143_111, d143_114, d143_115, d143_118, d143_121, d143_124, d143_126, d143_128, d143_131, d143_132, d143_135, d143_136, d143_139, d143_141, d143_142, d143_145, d143_146, d143_149, d143_150, d143_153, d143_155, d143_157, d143_158, d143_161, d143_164, d143_165, n_lt, n_le, n_eq, n_lt0, n_ge0, n_gt0, n_le0, n_eq0, m_lt, m_le, m_gt, m_ge, m_eq, m_eq', m_lt0, m_ge0, m_gt0, m_le0, m_ltm, m_lem, n_in, m_in, n_cl, n_ti, n_div, n_rem', n_dec, n_l, nI_add, pk_mul, an0, an1, decide_eq_true_eq, if_true, if_false, ite_true, ite_false, and_true, true_and, and_false, false_and, not_true, not_false_iff, or_false, false_or, or_true, true_or, eq_self, va_some, Bool.false_eq_true, reduceIte, catS_n, catS_i, catS_r, catS_l, catS_d, Nat.zero_add, Nat.add_zero, decide_true, decide_false, Nat.reduceLeDiff, cat_r, cat_i, cat_l, nle_T, nle_F, nlt_T, nlt_F, neq_T, neq_F, c86, c129b, bk_x x143]
  done
