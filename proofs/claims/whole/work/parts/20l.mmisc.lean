/-! THE MODEL: a chance, the share, the soonest -/
theorem d199_0 : dec 199 0 = some (.aload_n 0, 1, []) := rfl
theorem d199_1 : dec 199 1 = some (.aload_n 0, 1, []) := rfl
theorem d199_2 : dec 199 2 = some (.iload_n 1, 1, []) := rfl
theorem d199_3 : dec 199 3 = some (.iload_n 2, 1, []) := rfl
theorem d199_4 : dec 199 4 = some (.invokevirtual 103, 3, [2, 165, 2, 10, 0, 1123, 0, 0]) := rfl
theorem d199_7 : dec 199 7 = some (.ifCond .eq 7, 3, [14]) := rfl
theorem d199_10 : dec 199 10 = some (.iconst 0, 1, [0]) := rfl
theorem d199_11 : dec 199 11 = some (.goto 4, 3, [15]) := rfl
theorem d199_14 : dec 199 14 = some (.iconst 1, 1, [1]) := rfl
theorem d199_15 : dec 199 15 = some (.invokevirtual 72, 3, [2, 153, 2, 10, 0, 1081, 0]) := rfl
theorem d199_18 : dec 199 18 = some (.ifCond .eq 5, 3, [23]) := rfl
theorem d199_21 : dec 199 21 = some (.iconst 0, 1, [0]) := rfl
theorem d199_22 : dec 199 22 = some (.ireturn, 1, [0]) := rfl
theorem d199_23 : dec 199 23 = some (.aload_n 0, 1, []) := rfl
theorem d199_24 : dec 199 24 = some (.iload_n 1, 1, []) := rfl
theorem d199_25 : dec 199 25 = some (.invokevirtual 131, 3, [2, 173, 2, 10, 0, 1155, 0]) := rfl
theorem d199_28 : dec 199 28 = some (.istore 4, 2, []) := rfl
theorem d199_30 : dec 199 30 = some (.iload 4, 2, []) := rfl
theorem d199_32 : dec 199 32 = some (.bipush 6, 2, [6]) := rfl
theorem d199_34 : dec 199 34 = some (.iload_n 1, 1, []) := rfl
theorem d199_35 : dec 199 35 = some (.imul, 1, []) := rfl
theorem d199_36 : dec 199 36 = some (.iload_n 2, 1, []) := rfl
theorem d199_37 : dec 199 37 = some (.iadd, 1, []) := rfl
theorem d199_38 : dec 199 38 = some (.ishr, 1, []) := rfl
theorem d199_39 : dec 199 39 = some (.iconst 1, 1, [1]) := rfl
theorem d199_40 : dec 199 40 = some (.iand, 1, []) := rfl
theorem d199_41 : dec 199 41 = some (.ifCond .ne 13, 3, [54]) := rfl
theorem d199_44 : dec 199 44 = some (.iload_n 3, 1, []) := rfl
theorem d199_45 : dec 199 45 = some (.ifCond .eq 7, 3, [52]) := rfl
theorem d199_48 : dec 199 48 = some (.iconst 1, 1, [1]) := rfl
theorem d199_49 : dec 199 49 = some (.goto 4, 3, [53]) := rfl
theorem d199_52 : dec 199 52 = some (.iconst 0, 1, [0]) := rfl
theorem d199_53 : dec 199 53 = some (.ireturn, 1, [0]) := rfl
theorem d199_54 : dec 199 54 = some (.aload_n 0, 1, []) := rfl
theorem d199_55 : dec 199 55 = some (.iload_n 1, 1, []) := rfl
theorem d199_56 : dec 199 56 = some (.iload_n 2, 1, []) := rfl
theorem d199_57 : dec 199 57 = some (.invokevirtual 121, 3, [2, 172, 2, 10, 0, 1151, 0, 0]) := rfl
theorem d199_60 : dec 199 60 = some (.istore 5, 2, []) := rfl
theorem d199_62 : dec 199 62 = some (.aload_n 0, 1, []) := rfl
theorem d199_63 : dec 199 63 = some (.iload_n 1, 1, []) := rfl
theorem d199_64 : dec 199 64 = some (.iload 4, 2, []) := rfl
theorem d199_66 : dec 199 66 = some (.invokevirtual 138, 3, [2, 180, 2, 10, 0, 1182, 0, 0]) := rfl
theorem d199_69 : dec 199 69 = some (.istore 6, 2, []) := rfl
theorem d199_71 : dec 199 71 = some (.iload 5, 2, []) := rfl
theorem d199_73 : dec 199 73 = some (.istore 7, 2, []) := rfl
theorem d199_75 : dec 199 75 = some (.iload 6, 2, []) := rfl
theorem d199_77 : dec 199 77 = some (.istore 8, 2, []) := rfl
theorem d199_79 : dec 199 79 = some (.iload 8, 2, []) := rfl
theorem d199_81 : dec 199 81 = some (.ifCond .le 21, 3, [102]) := rfl
theorem d199_84 : dec 199 84 = some (.iload 7, 2, []) := rfl
theorem d199_86 : dec 199 86 = some (.iload 8, 2, []) := rfl
theorem d199_88 : dec 199 88 = some (.irem, 1, []) := rfl
theorem d199_89 : dec 199 89 = some (.istore 9, 2, []) := rfl
theorem d199_91 : dec 199 91 = some (.iload 8, 2, []) := rfl
theorem d199_93 : dec 199 93 = some (.istore 7, 2, []) := rfl
theorem d199_95 : dec 199 95 = some (.iload 9, 2, []) := rfl
theorem d199_97 : dec 199 97 = some (.istore 8, 2, []) := rfl
theorem d199_99 : dec 199 99 = some (.goto (-20), 3, [79]) := rfl
theorem d199_102 : dec 199 102 = some (.iload_n 3, 1, []) := rfl
theorem d199_103 : dec 199 103 = some (.ifCond .eq 11, 3, [114]) := rfl
theorem d199_106 : dec 199 106 = some (.iload 6, 2, []) := rfl
theorem d199_108 : dec 199 108 = some (.iload 7, 2, []) := rfl
theorem d199_110 : dec 199 110 = some (.idiv, 1, []) := rfl
theorem d199_111 : dec 199 111 = some (.goto 8, 3, [119]) := rfl
theorem d199_114 : dec 199 114 = some (.iload 5, 2, []) := rfl
theorem d199_116 : dec 199 116 = some (.iload 7, 2, []) := rfl
theorem d199_118 : dec 199 118 = some (.idiv, 1, []) := rfl
theorem d199_119 : dec 199 119 = some (.ireturn, 1, [0]) := rfl
theorem l199 : mL 199 = 10 := rfl
theorem f199 {d : Nat} {P : MP} {I : MI} {L : ML} {C : MC} {Q : QT} {x1 x2 x3 x4 x5 x6 : Int32} : ∀ b a (u : Value), a < 2147483648 → b < 2147483648 → ∃ v, X d 199 79 [.ref 150, .int x1, .int x2, .int x3, .int x4, .int x5, .int x6, .int (nI a), .int (nI b), u] [] P I L C Q = X d 199 102 [.ref 150, .int x1, .int x2, .int x3, .int x4, .int x5, .int x6, .int (nI (Nat.gcd a b)), .int (nI 0), v] [] P I L C Q := by
  intro b
  induction b using Nat.strongRecOn with
  | ind b ih =>
    intro a u ha hb
    by_cases z : b = 0
    · subst z
      refine ⟨u, ?_⟩
      rw [Nat.gcd_zero_right, X_go, d199_79]
      simp (disch := first | assumption | omega) only [Nat.reduceAdd, X_go, go2_some, stp, ldI, ldA, ldL, stI, stA, stL, o1I, o2I, o2L, brI, brII, gl, s1, s2, k1, sl, go_sN, go_sR, go_CT, go_sT, go_no, go_if, pops, bk_v, bk_0, d199_0, d199_1, d199_2, d199_3, d199_4, d199_7, d199_10, d199_11, d199_14, d199_15, d199_18, d199_21, d199_22, d199_23, d199_24, d199_25, d199_28, d199_30, d199_32, d199_34, d199_35, d199_36, d199_37, d199_38, d199_39, d199_40, d199_41, d199_44, d199_45, d199_48, d199_49, d199_52, d199_53, d199_54, d199_55, d199_56, d199_57, d199_60, d199_62, d199_63, d199_64, d199_66, d199_69, d199_71, d199_73, d199_75, d199_77, d199_81, d199_84, d199_86, d199_88, d199_89, d199_91, d199_93, d199_95, d199_97, d199_99, d199_103, d199_106, d199_108, d199_110, d199_111, d199_114, d199_116, d199_118, d199_119, n_lt, n_le, n_eq, n_lt0, n_ge0, n_gt0, n_le0, n_eq0, m_lt, m_le, m_gt, m_ge, m_eq, m_eq', m_lt0, m_ge0, m_gt0, m_le0, m_ltm, m_lem, n_in, m_in, n_cl, n_ti, n_div, n_rem', n_dec, n_l, nI_add, pk_mul, an0, an1, decide_eq_true_eq, if_true, if_false, ite_true, ite_false, and_true, true_and, and_false, false_and, not_true, not_false_iff, or_false, false_or, or_true, true_or, eq_self, va_some, Bool.false_eq_true, reduceIte, catS_n, catS_i, catS_r, catS_l, catS_d, Nat.zero_add, Nat.add_zero, decide_true, decide_false, Nat.reduceLeDiff, cat_r, cat_i, cat_l, nle_T, nle_F, nlt_T, nlt_F, neq_T, neq_F]
    · have hm := Nat.mod_lt a (show 0 < b by omega)
      obtain ⟨v, e⟩ := ih (a % b) hm b (.int (nI (a % b))) hb (by omega)
      refine ⟨v, ?_⟩
      have e1 : Nat.gcd a b = Nat.gcd b (a % b) := by rw [Nat.gcd_comm a b, Nat.gcd_rec b a, Nat.gcd_comm]
      rw [e1, ← e, X_go, d199_79]
      simp (disch := first | assumption | omega) only [Nat.reduceAdd, X_go, go2_some, stp, ldI, ldA, ldL, stI, stA, stL, o1I, o2I, o2L, brI, brII, gl, s1, s2, k1, sl, go_sN, go_sR, go_CT, go_sT, go_no, go_if, pops, bk_v, bk_0, d199_0, d199_1, d199_2, d199_3, d199_4, d199_7, d199_10, d199_11, d199_14, d199_15, d199_18, d199_21, d199_22, d199_23, d199_24, d199_25, d199_28, d199_30, d199_32, d199_34, d199_35, d199_36, d199_37, d199_38, d199_39, d199_40, d199_41, d199_44, d199_45, d199_48, d199_49, d199_52, d199_53, d199_54, d199_55, d199_56, d199_57, d199_60, d199_62, d199_63, d199_64, d199_66, d199_69, d199_71, d199_73, d199_75, d199_77, d199_81, d199_84, d199_86, d199_88, d199_89, d199_91, d199_93, d199_95, d199_97, d199_99, d199_103, d199_106, d199_108, d199_110, d199_111, d199_114, d199_116, d199_118, d199_119, n_lt, n_le, n_eq, n_lt0, n_ge0, n_gt0, n_le0, n_eq0, m_lt, m_le, m_gt, m_ge, m_eq, m_eq', m_lt0, m_ge0, m_gt0, m_le0, m_ltm, m_lem, n_in, m_in, n_cl, n_ti, n_div, n_rem', n_dec, n_l, nI_add, pk_mul, an0, an1, decide_eq_true_eq, if_true, if_false, ite_true, ite_false, and_true, true_and, and_false, false_and, not_true, not_false_iff, or_false, false_or, or_true, true_or, eq_self, va_some, Bool.false_eq_true, reduceIte, catS_n, catS_i, catS_r, catS_l, catS_d, Nat.zero_add, Nat.add_zero, decide_true, decide_false, Nat.reduceLeDiff, cat_r, cat_i, cat_l, nle_T, nle_F, nlt_T, nlt_F, neq_T, neq_F, z]
      done
theorem c199 {d : Nat} {P : MP} {I : MI} {L : ML} {C : MC} {Q : QT} {t e w : Nat} {B n len : Nat} {g : GS} {ps : Nat → GS} {tx : Nat → Nat} (hM : MB P) (hR : ZR I g n ps len tx) (hA : AV B g n ps len tx) (hd : 12 ≤ d) (ht : t < 3) (he : e < g (3 + t)) (hw : w ≤ 1) : CT d 199 [.ref 150, .int (nI t), .int (nI e), .int (nI w)] P I L C Q = Q (.inl (some (.int (nI (frV (fw g t e) (fs g t) w))))) P (xu I 150 4 (nI 0)) L C := by
  have hM' := hM
  obtain ⟨⟨k0, p0, p1, p2, p5, y1, y2, y3, y4⟩, _⟩ := hM'
  have hR' := hR
  obtain ⟨hN, h3, hps', h6, htx'⟩ := hR'
  have hA' := hA
  obtain ⟨hGV, hps, hn4, hlen, htx⟩ := hA'
  have h140 := GV_140 hGV
  have hv := hGV.1
  have hl := hGV.2.1
  have hFv := hGV.2.2
  have hR0 : ZR (xu I 150 4 (nI 0)) g n ps len tx := ZR_4 hR
  have hN0 := hR0.1
  have hc := hv.2.1 t ht
  have ht1 := b_tst (x := aset g (can g (fq g t) (spG g) noG)) (n := 6 * t + e) (by omega)
  rw [as_b ht (by omega), decide_eq_true he, Bool.true_and] at ht1
  have hb : fw g t e ≤ 102000 := wt_b (q := fq g t) (sp := spG g) (gr := noG) hv hl ht he
  have hsb : fs g t ≤ 612000 := sw_b (q := fq g t) (sp := spG g) (gr := noG) hv hl ht
  have hfs : sm (g (3 + t)) (wS g (can g (fq g t) (spG g) noG) t) = fs g t := rfl
  unfold frV
  rw [CT_e (mj := 199) (e := [.ref 150, .int (nI t), .int (nI e), .int (nI w), UN, UN, UN, UN, UN, UN]) (by omega) rfl (Nat.le_of_ble_eq_true rfl)]
  by_cases z : can g (fq g t) (spG g) noG t e = true
  · have e1 : fw g t e = pw g t e := if_pos z
    have hp := pw_b hv hl ht he
    rw [if_neg (show ¬ fw g t e = 0 by omega)]
    rw [if_pos z] at ht1
    have hgp : 0 < Nat.gcd (fw g t e) (fs g t) := Nat.gcd_pos_of_pos_left _ (by omega)
    have hgl : Nat.gcd (fw g t e) (fs g t) ≤ fw g t e := Nat.gcd_le_left _ (by omega)
    obtain ⟨v, hg⟩ := f199 (d := d - 1) (P := P) (I := xu I 150 4 (nI 0)) (L := L) (C := C) (Q := Q) (x1 := nI t) (x2 := nI e) (x3 := nI w) (x4 := aset g (can g (fq g t) (spG g) noG)) (x5 := nI (pw g t e)) (x6 := nI (fs g t)) (fs g t) (pw g t e) UN (by omega) (by omega)
    simp (disch := first | assumption | omega) only [Nat.reduceAdd, X_go, go2_some, stp, ldI, ldA, ldL, stI, stA, stL, o1I, o2I, o2L, brI, brII, gl, s1, s2, k1, sl, go_sN, go_sR, go_CT, go_sT, go_no, go_if, pops, bk_v, bk_0, d199_0, d199_1, d199_2, d199_3, d199_4, d199_7, d199_10, d199_11, d199_14, d199_15, d199_18, d199_21, d199_22, d199_23, d199_24, d199_25, d199_28, d199_30, d199_32, d199_34, d199_35, d199_36, d199_37, d199_38, d199_39, d199_40, d199_41, d199_44, d199_45, d199_48, d199_49, d199_52, d199_53, d199_54, d199_55, d199_56, d199_57, d199_60, d199_62, d199_63, d199_64, d199_66, d199_69, d199_71, d199_73, d199_75, d199_77, d199_81, d199_84, d199_86, d199_88, d199_89, d199_91, d199_93, d199_95, d199_97, d199_99, d199_103, d199_106, d199_108, d199_110, d199_111, d199_114, d199_116, d199_118, d199_119, n_lt, n_le, n_eq, n_lt0, n_ge0, n_gt0, n_le0, n_eq0, m_lt, m_le, m_gt, m_ge, m_eq, m_eq', m_lt0, m_ge0, m_gt0, m_le0, m_ltm, m_lem, n_in, m_in, n_cl, n_ti, n_div, n_rem', n_dec, n_l, nI_add, pk_mul, an0, an1, decide_eq_true_eq, if_true, if_false, ite_true, ite_false, and_true, true_and, and_false, false_and, not_true, not_false_iff, or_false, false_or, or_true, true_or, eq_self, va_some, Bool.false_eq_true, reduceIte, catS_n, catS_i, catS_r, catS_l, catS_d, Nat.zero_add, Nat.add_zero, decide_true, decide_false, Nat.reduceLeDiff, cat_r, cat_i, cat_l, nle_T, nle_F, nlt_T, nlt_F, neq_T, neq_F, k0, c165 hM hN hv, c153 hM, c173 hM hN0 hv hl, ht1, c172 hM hN0 hv hl, c180 hM hN0 hv hl, hfs]
    simp only [← X_go]
    rw [hg, X_go, d199_102]
    rw [← e1]
    by_cases y : w = 0
    · simp (disch := first | assumption | omega) only [Nat.reduceAdd, X_go, go2_some, stp, ldI, ldA, ldL, stI, stA, stL, o1I, o2I, o2L, brI, brII, gl, s1, s2, k1, sl, go_sN, go_sR, go_CT, go_sT, go_no, go_if, pops, bk_v, bk_0, d199_0, d199_1, d199_2, d199_3, d199_4, d199_7, d199_10, d199_11, d199_14, d199_15, d199_18, d199_21, d199_22, d199_23, d199_24, d199_25, d199_28, d199_30, d199_32, d199_34, d199_35, d199_36, d199_37, d199_38, d199_39, d199_40, d199_41, d199_44, d199_45, d199_48, d199_49, d199_52, d199_53, d199_54, d199_55, d199_56, d199_57, d199_60, d199_62, d199_63, d199_64, d199_66, d199_69, d199_71, d199_73, d199_75, d199_77, d199_81, d199_84, d199_86, d199_88, d199_89, d199_91, d199_93, d199_95, d199_97, d199_99, d199_103, d199_106, d199_108, d199_110, d199_111, d199_114, d199_116, d199_118, d199_119, n_lt, n_le, n_eq, n_lt0, n_ge0, n_gt0, n_le0, n_eq0, m_lt, m_le, m_gt, m_ge, m_eq, m_eq', m_lt0, m_ge0, m_gt0, m_le0, m_ltm, m_lem, n_in, m_in, n_cl, n_ti, n_div, n_rem', n_dec, n_l, nI_add, pk_mul, an0, an1, decide_eq_true_eq, if_true, if_false, ite_true, ite_false, and_true, true_and, and_false, false_and, not_true, not_false_iff, or_false, false_or, or_true, true_or, eq_self, va_some, Bool.false_eq_true, reduceIte, catS_n, catS_i, catS_r, catS_l, catS_d, Nat.zero_add, Nat.add_zero, decide_true, decide_false, Nat.reduceLeDiff, cat_r, cat_i, cat_l, nle_T, nle_F, nlt_T, nlt_F, neq_T, neq_F, y]
      done
    · simp (disch := first | assumption | omega) only [Nat.reduceAdd, X_go, go2_some, stp, ldI, ldA, ldL, stI, stA, stL, o1I, o2I, o2L, brI, brII, gl, s1, s2, k1, sl, go_sN, go_sR, go_CT, go_sT, go_no, go_if, pops, bk_v, bk_0, d199_0, d199_1, d199_2, d199_3, d199_4, d199_7, d199_10, d199_11, d199_14, d199_15, d199_18, d199_21, d199_22, d199_23, d199_24, d199_25, d199_28, d199_30, d199_32, d199_34, d199_35, d199_36, d199_37, d199_38, d199_39, d199_40, d199_41, d199_44, d199_45, d199_48, d199_49, d199_52, d199_53, d199_54, d199_55, d199_56, d199_57, d199_60, d199_62, d199_63, d199_64, d199_66, d199_69, d199_71, d199_73, d199_75, d199_77, d199_81, d199_84, d199_86, d199_88, d199_89, d199_91, d199_93, d199_95, d199_97, d199_99, d199_103, d199_106, d199_108, d199_110, d199_111, d199_114, d199_116, d199_118, d199_119, n_lt, n_le, n_eq, n_lt0, n_ge0, n_gt0, n_le0, n_eq0, m_lt, m_le, m_gt, m_ge, m_eq, m_eq', m_lt0, m_ge0, m_gt0, m_le0, m_ltm, m_lem, n_in, m_in, n_cl, n_ti, n_div, n_rem', n_dec, n_l, nI_add, pk_mul, an0, an1, decide_eq_true_eq, if_true, if_false, ite_true, ite_false, and_true, true_and, and_false, false_and, not_true, not_false_iff, or_false, false_or, or_true, true_or, eq_self, va_some, Bool.false_eq_true, reduceIte, catS_n, catS_i, catS_r, catS_l, catS_d, Nat.zero_add, Nat.add_zero, decide_true, decide_false, Nat.reduceLeDiff, cat_r, cat_i, cat_l, nle_T, nle_F, nlt_T, nlt_F, neq_T, neq_F, y]
      done
  · have e1 : fw g t e = 0 := if_neg z
    rw [if_pos e1]
    rw [if_neg z] at ht1
    by_cases y : w = 0
    · simp (disch := first | assumption | omega) only [Nat.reduceAdd, X_go, go2_some, stp, ldI, ldA, ldL, stI, stA, stL, o1I, o2I, o2L, brI, brII, gl, s1, s2, k1, sl, go_sN, go_sR, go_CT, go_sT, go_no, go_if, pops, bk_v, bk_0, d199_0, d199_1, d199_2, d199_3, d199_4, d199_7, d199_10, d199_11, d199_14, d199_15, d199_18, d199_21, d199_22, d199_23, d199_24, d199_25, d199_28, d199_30, d199_32, d199_34, d199_35, d199_36, d199_37, d199_38, d199_39, d199_40, d199_41, d199_44, d199_45, d199_48, d199_49, d199_52, d199_53, d199_54, d199_55, d199_56, d199_57, d199_60, d199_62, d199_63, d199_64, d199_66, d199_69, d199_71, d199_73, d199_75, d199_77, d199_81, d199_84, d199_86, d199_88, d199_89, d199_91, d199_93, d199_95, d199_97, d199_99, d199_103, d199_106, d199_108, d199_110, d199_111, d199_114, d199_116, d199_118, d199_119, n_lt, n_le, n_eq, n_lt0, n_ge0, n_gt0, n_le0, n_eq0, m_lt, m_le, m_gt, m_ge, m_eq, m_eq', m_lt0, m_ge0, m_gt0, m_le0, m_ltm, m_lem, n_in, m_in, n_cl, n_ti, n_div, n_rem', n_dec, n_l, nI_add, pk_mul, an0, an1, decide_eq_true_eq, if_true, if_false, ite_true, ite_false, and_true, true_and, and_false, false_and, not_true, not_false_iff, or_false, false_or, or_true, true_or, eq_self, va_some, Bool.false_eq_true, reduceIte, catS_n, catS_i, catS_r, catS_l, catS_d, Nat.zero_add, Nat.add_zero, decide_true, decide_false, Nat.reduceLeDiff, cat_r, cat_i, cat_l, nle_T, nle_F, nlt_T, nlt_F, neq_T, neq_F, k0, c165 hM hN hv, c153 hM, c173 hM hN0 hv hl, ht1, y]
      done
    · simp (disch := first | assumption | omega) only [Nat.reduceAdd, X_go, go2_some, stp, ldI, ldA, ldL, stI, stA, stL, o1I, o2I, o2L, brI, brII, gl, s1, s2, k1, sl, go_sN, go_sR, go_CT, go_sT, go_no, go_if, pops, bk_v, bk_0, d199_0, d199_1, d199_2, d199_3, d199_4, d199_7, d199_10, d199_11, d199_14, d199_15, d199_18, d199_21, d199_22, d199_23, d199_24, d199_25, d199_28, d199_30, d199_32, d199_34, d199_35, d199_36, d199_37, d199_38, d199_39, d199_40, d199_41, d199_44, d199_45, d199_48, d199_49, d199_52, d199_53, d199_54, d199_55, d199_56, d199_57, d199_60, d199_62, d199_63, d199_64, d199_66, d199_69, d199_71, d199_73, d199_75, d199_77, d199_81, d199_84, d199_86, d199_88, d199_89, d199_91, d199_93, d199_95, d199_97, d199_99, d199_103, d199_106, d199_108, d199_110, d199_111, d199_114, d199_116, d199_118, d199_119, n_lt, n_le, n_eq, n_lt0, n_ge0, n_gt0, n_le0, n_eq0, m_lt, m_le, m_gt, m_ge, m_eq, m_eq', m_lt0, m_ge0, m_gt0, m_le0, m_ltm, m_lem, n_in, m_in, n_cl, n_ti, n_div, n_rem', n_dec, n_l, nI_add, pk_mul, an0, an1, decide_eq_true_eq, if_true, if_false, ite_true, ite_false, and_true, true_and, and_false, false_and, not_true, not_false_iff, or_false, false_or, or_true, true_or, eq_self, va_some, Bool.false_eq_true, reduceIte, catS_n, catS_i, catS_r, catS_l, catS_d, Nat.zero_add, Nat.add_zero, decide_true, decide_false, Nat.reduceLeDiff, cat_r, cat_i, cat_l, nle_T, nle_F, nlt_T, nlt_F, neq_T, neq_F, k0, c165 hM hN hv, c153 hM, c173 hM hN0 hv hl, ht1, y]
      done
theorem c199b {d : Nat} {P : MP} {I : MI} {L : ML} {C : MC} {Q : QT} {x y z : Int32} (hM : MB P) (hd : 6 ≤ d) (hx : x < 0 ∨ nI 3 ≤ x) : CT d 199 [.ref 150, .int x, .int y, .int z] P I L C Q = Q (.inl (some (.int (nI 0)))) P (xu I 150 4 (nI 1)) L C := by
  have k0 := hM.1.1
  rw [CT_e (mj := 199) (e := [.ref 150, .int x, .int y, .int z, UN, UN, UN, UN, UN, UN]) (by omega) rfl (Nat.le_of_ble_eq_true rfl)]
  simp (disch := first | assumption | omega) only [Nat.reduceAdd, X_go, go2_some, stp, ldI, ldA, ldL, stI, stA, stL, o1I, o2I, o2L, brI, brII, gl, s1, s2, k1, sl, go_sN, go_sR, go_CT, go_sT, go_no, go_if, pops, bk_v, bk_0, d199_0, d199_1, d199_2, d199_3, d199_4, d199_7, d199_10, d199_11, d199_14, d199_15, d199_18, d199_21, d199_22, d199_23, d199_24, d199_25, d199_28, d199_30, d199_32, d199_34, d199_35, d199_36, d199_37, d199_38, d199_39, d199_40, d199_41, d199_44, d199_45, d199_48, d199_49, d199_52, d199_53, d199_54, d199_55, d199_56, d199_57, d199_60, d199_62, d199_63, d199_64, d199_66, d199_69, d199_71, d199_73, d199_75, d199_77, d199_79, d199_81, d199_84, d199_86, d199_88, d199_89, d199_91, d199_93, d199_95, d199_97, d199_99, d199_102, d199_103, d199_106, d199_108, d199_110, d199_111, d199_114, d199_116, d199_118, d199_119, n_lt, n_le, n_eq, n_lt0, n_ge0, n_gt0, n_le0, n_eq0, m_lt, m_le, m_gt, m_ge, m_eq, m_eq', m_lt0, m_ge0, m_gt0, m_le0, m_ltm, m_lem, n_in, m_in, n_cl, n_ti, n_div, n_rem', n_dec, n_l, nI_add, pk_mul, an0, an1, decide_eq_true_eq, if_true, if_false, ite_true, ite_false, and_true, true_and, and_false, false_and, not_true, not_false_iff, or_false, false_or, or_true, true_or, eq_self, va_some, Bool.false_eq_true, reduceIte, catS_n, catS_i, catS_r, catS_l, catS_d, Nat.zero_add, Nat.add_zero, decide_true, decide_false, Nat.reduceLeDiff, cat_r, cat_i, cat_l, nle_T, nle_F, nlt_T, nlt_F, neq_T, neq_F, k0, c165t, c153 hM]
  done
theorem c199c {d : Nat} {P : MP} {I : MI} {L : ML} {C : MC} {Q : QT} {t : Nat} {y z : Int32} {g : GS} (hM : MB P) (hN : NR I g) (hv : TV g) (hd : 6 ≤ d) (ht : t < 3) (hy : y < 0 ∨ nI (g (3 + t)) ≤ y) : CT d 199 [.ref 150, .int (nI t), .int y, .int z] P I L C Q = Q (.inl (some (.int (nI 0)))) P (xu I 150 4 (nI 1)) L C := by
  have k0 := hM.1.1
  rw [CT_e (mj := 199) (e := [.ref 150, .int (nI t), .int y, .int z, UN, UN, UN, UN, UN, UN]) (by omega) rfl (Nat.le_of_ble_eq_true rfl)]
  simp (disch := first | assumption | omega) only [Nat.reduceAdd, X_go, go2_some, stp, ldI, ldA, ldL, stI, stA, stL, o1I, o2I, o2L, brI, brII, gl, s1, s2, k1, sl, go_sN, go_sR, go_CT, go_sT, go_no, go_if, pops, bk_v, bk_0, d199_0, d199_1, d199_2, d199_3, d199_4, d199_7, d199_10, d199_11, d199_14, d199_15, d199_18, d199_21, d199_22, d199_23, d199_24, d199_25, d199_28, d199_30, d199_32, d199_34, d199_35, d199_36, d199_37, d199_38, d199_39, d199_40, d199_41, d199_44, d199_45, d199_48, d199_49, d199_52, d199_53, d199_54, d199_55, d199_56, d199_57, d199_60, d199_62, d199_63, d199_64, d199_66, d199_69, d199_71, d199_73, d199_75, d199_77, d199_79, d199_81, d199_84, d199_86, d199_88, d199_89, d199_91, d199_93, d199_95, d199_97, d199_99, d199_102, d199_103, d199_106, d199_108, d199_110, d199_111, d199_114, d199_116, d199_118, d199_119, n_lt, n_le, n_eq, n_lt0, n_ge0, n_gt0, n_le0, n_eq0, m_lt, m_le, m_gt, m_ge, m_eq, m_eq', m_lt0, m_ge0, m_gt0, m_le0, m_ltm, m_lem, n_in, m_in, n_cl, n_ti, n_div, n_rem', n_dec, n_l, nI_add, pk_mul, an0, an1, decide_eq_true_eq, if_true, if_false, ite_true, ite_false, and_true, true_and, and_false, false_and, not_true, not_false_iff, or_false, false_or, or_true, true_or, eq_self, va_some, Bool.false_eq_true, reduceIte, catS_n, catS_i, catS_r, catS_l, catS_d, Nat.zero_add, Nat.add_zero, decide_true, decide_false, Nat.reduceLeDiff, cat_r, cat_i, cat_l, nle_T, nle_F, nlt_T, nlt_F, neq_T, neq_F, k0, c165e hM hN hv, c153 hM]
  done
theorem d209_0 : dec 209 0 = some (.aload_n 0, 1, []) := rfl
theorem d209_1 : dec 209 1 = some (.iconst 0, 1, [0]) := rfl
theorem d209_2 : dec 209 2 = some (.putfield 65, 3, [1, 10, 4, 0, 0, 998]) := rfl
theorem d209_5 : dec 209 5 = some (.iconst 0, 1, [0]) := rfl
theorem d209_6 : dec 209 6 = some (.istore_n 1, 1, []) := rfl
theorem d209_7 : dec 209 7 = some (.iconst 0, 1, [0]) := rfl
theorem d209_8 : dec 209 8 = some (.istore_n 2, 1, []) := rfl
theorem d209_9 : dec 209 9 = some (.iload_n 2, 1, []) := rfl
theorem d209_10 : dec 209 10 = some (.aload_n 0, 1, []) := rfl
theorem d209_11 : dec 209 11 = some (.getfield 7, 3, [1, 10, 0, 2, 0, 994]) := rfl
theorem d209_14 : dec 209 14 = some (.sipush 140, 3, [140]) := rfl
theorem d209_17 : dec 209 17 = some (.iaload, 1, []) := rfl
theorem d209_18 : dec 209 18 = some (.if_icmp .ge 52, 3, [70]) := rfl
theorem d209_21 : dec 209 21 = some (.iload_n 1, 1, []) := rfl
theorem d209_22 : dec 209 22 = some (.iload_n 2, 1, []) := rfl
theorem d209_23 : dec 209 23 = some (.ifCond .eq 34, 3, [57]) := rfl
theorem d209_26 : dec 209 26 = some (.aload_n 0, 1, []) := rfl
theorem d209_27 : dec 209 27 = some (.getfield 7, 3, [1, 10, 0, 2, 0, 994]) := rfl
theorem d209_30 : dec 209 30 = some (.sipush 141, 3, [141]) := rfl
theorem d209_33 : dec 209 33 = some (.iconst 3, 1, [3]) := rfl
theorem d209_34 : dec 209 34 = some (.iload_n 2, 1, []) := rfl
theorem d209_35 : dec 209 35 = some (.imul, 1, []) := rfl
theorem d209_36 : dec 209 36 = some (.iadd, 1, []) := rfl
theorem d209_37 : dec 209 37 = some (.iconst 2, 1, [2]) := rfl
theorem d209_38 : dec 209 38 = some (.iadd, 1, []) := rfl
theorem d209_39 : dec 209 39 = some (.iaload, 1, []) := rfl
theorem d209_40 : dec 209 40 = some (.aload_n 0, 1, []) := rfl
theorem d209_41 : dec 209 41 = some (.getfield 7, 3, [1, 10, 0, 2, 0, 994]) := rfl
theorem d209_44 : dec 209 44 = some (.sipush 141, 3, [141]) := rfl
theorem d209_47 : dec 209 47 = some (.iconst 3, 1, [3]) := rfl
theorem d209_48 : dec 209 48 = some (.iload_n 2, 1, []) := rfl
theorem d209_49 : dec 209 49 = some (.imul, 1, []) := rfl
theorem d209_50 : dec 209 50 = some (.iadd, 1, []) := rfl
theorem d209_51 : dec 209 51 = some (.iconst 1, 1, [1]) := rfl
theorem d209_52 : dec 209 52 = some (.isub, 1, []) := rfl
theorem d209_53 : dec 209 53 = some (.iaload, 1, []) := rfl
theorem d209_54 : dec 209 54 = some (.if_icmp .eq 7, 3, [61]) := rfl
theorem d209_57 : dec 209 57 = some (.iconst 1, 1, [1]) := rfl
theorem d209_58 : dec 209 58 = some (.goto 4, 3, [62]) := rfl
theorem d209_61 : dec 209 61 = some (.iconst 0, 1, [0]) := rfl
theorem d209_62 : dec 209 62 = some (.iadd, 1, []) := rfl
theorem d209_63 : dec 209 63 = some (.istore_n 1, 1, []) := rfl
theorem d209_64 : dec 209 64 = some (.iinc 2 1, 3, [1]) := rfl
theorem d209_67 : dec 209 67 = some (.goto (-58), 3, [9]) := rfl
theorem d209_70 : dec 209 70 = some (.aload_n 0, 1, []) := rfl
theorem d209_71 : dec 209 71 = some (.getfield 7, 3, [1, 10, 0, 2, 0, 994]) := rfl
theorem d209_74 : dec 209 74 = some (.bipush 122, 2, [122]) := rfl
theorem d209_76 : dec 209 76 = some (.iaload, 1, []) := rfl
theorem d209_77 : dec 209 77 = some (.ifCond .ne 7, 3, [84]) := rfl
theorem d209_80 : dec 209 80 = some (.dconst 0, 1, []) := rfl
theorem d209_81 : dec 209 81 = some (.goto 14, 3, [95]) := rfl
theorem d209_84 : dec 209 84 = some (.iload_n 1, 1, []) := rfl
theorem d209_85 : dec 209 85 = some (.i2d, 1, []) := rfl
theorem d209_86 : dec 209 86 = some (.aload_n 0, 1, []) := rfl
theorem d209_87 : dec 209 87 = some (.getfield 7, 3, [1, 10, 0, 2, 0, 994]) := rfl
theorem d209_90 : dec 209 90 = some (.bipush 122, 2, [122]) := rfl
theorem d209_92 : dec 209 92 = some (.iaload, 1, []) := rfl
theorem d209_93 : dec 209 93 = some (.i2d, 1, []) := rfl
theorem d209_94 : dec 209 94 = some (.ddiv, 1, []) := rfl
theorem d209_95 : dec 209 95 = some (.dreturn, 1, []) := rfl
theorem l209 : mL 209 = 3 := rfl
theorem f209 {d : Nat} {P : MP} {I : MI} {L : ML} {C : MC} {Q : QT} {g : GS} {B : Nat} (hM : MB P) (hn : NR I g) (hGV : GV B g) (hB : B ≤ 1000000) (hd : 1 ≤ d) : ∀ m i, i + m = g 140 → X d 209 9 [.ref 150, .int (nI (difO g i)), .int (nI i)] [] P I L C Q = Q (.inl (some (.double (lsV g)))) P I L C := by
  obtain ⟨⟨k0, p0, p1, p2, p5, y1, _⟩, _⟩ := hM
  have h140 := GV_140 hGV
  have e140 := hn 140 (by omega)
  have e122 := hn 122 (by omega)
  have hF := hGV.2.2
  have hb122 := hF.1
  intro m
  induction m with
  | zero =>
    intro i h
    have : i = g 140 := by omega
    subst this
    have hb := difO_b (g := g) (n := g 140)
    unfold lsV
    rw [X_go, d209_9]
    by_cases z : g 122 = 0
    · simp (disch := first | assumption | omega) only [Nat.reduceAdd, X_go, go2_some, stp, ldI, ldA, ldL, stI, stA, stL, o1I, o2I, o2L, brI, brII, gl, s1, s2, k1, sl, go_sN, go_sR, go_CT, go_sT, go_no, go_if, pops, bk_v, bk_0, d209_0, d209_1, d209_2, d209_5, d209_6, d209_7, d209_8, d209_10, d209_11, d209_14, d209_17, d209_18, d209_21, d209_22, d209_23, d209_26, d209_27, d209_30, d209_33, d209_34, d209_35, d209_36, d209_37, d209_38, d209_39, d209_40, d209_41, d209_44, d209_47, d209_48, d209_49, d209_50, d209_51, d209_52, d209_53, d209_54, d209_57, d209_58, d209_61, d209_62, d209_63, d209_64, d209_67, d209_70, d209_71, d209_74, d209_76, d209_77, d209_80, d209_81, d209_84, d209_85, d209_86, d209_87, d209_90, d209_92, d209_93, d209_94, d209_95, n_lt, n_le, n_eq, n_lt0, n_ge0, n_gt0, n_le0, n_eq0, m_lt, m_le, m_gt, m_ge, m_eq, m_eq', m_lt0, m_ge0, m_gt0, m_le0, m_ltm, m_lem, n_in, m_in, n_cl, n_ti, n_div, n_rem', n_dec, n_l, nI_add, pk_mul, an0, an1, decide_eq_true_eq, if_true, if_false, ite_true, ite_false, and_true, true_and, and_false, false_and, not_true, not_false_iff, or_false, false_or, or_true, true_or, eq_self, va_some, Bool.false_eq_true, reduceIte, catS_n, catS_i, catS_r, catS_l, catS_d, Nat.zero_add, Nat.add_zero, decide_true, decide_false, Nat.reduceLeDiff, cat_r, cat_i, cat_l, nle_T, nle_F, nlt_T, nlt_F, neq_T, neq_F, k0, p0, y1, e140, e122, z]
      done
    · have hnn := dd_ok (a := difO g (g 140)) (b := g 122) (by omega) (by omega) (by omega)
      simp (disch := first | assumption | omega) only [Nat.reduceAdd, X_go, go2_some, stp, ldI, ldA, ldL, stI, stA, stL, o1I, o2I, o2L, brI, brII, gl, s1, s2, k1, sl, go_sN, go_sR, go_CT, go_sT, go_no, go_if, pops, bk_v, bk_0, d209_0, d209_1, d209_2, d209_5, d209_6, d209_7, d209_8, d209_10, d209_11, d209_14, d209_17, d209_18, d209_21, d209_22, d209_23, d209_26, d209_27, d209_30, d209_33, d209_34, d209_35, d209_36, d209_37, d209_38, d209_39, d209_40, d209_41, d209_44, d209_47, d209_48, d209_49, d209_50, d209_51, d209_52, d209_53, d209_54, d209_57, d209_58, d209_61, d209_62, d209_63, d209_64, d209_67, d209_70, d209_71, d209_74, d209_76, d209_77, d209_80, d209_81, d209_84, d209_85, d209_86, d209_87, d209_90, d209_92, d209_93, d209_94, d209_95, n_lt, n_le, n_eq, n_lt0, n_ge0, n_gt0, n_le0, n_eq0, m_lt, m_le, m_gt, m_ge, m_eq, m_eq', m_lt0, m_ge0, m_gt0, m_le0, m_ltm, m_lem, n_in, m_in, n_cl, n_ti, n_div, n_rem', n_dec, n_l, nI_add, pk_mul, an0, an1, decide_eq_true_eq, if_true, if_false, ite_true, ite_false, and_true, true_and, and_false, false_and, not_true, not_false_iff, or_false, false_or, or_true, true_or, eq_self, va_some, Bool.false_eq_true, reduceIte, catS_n, catS_i, catS_r, catS_l, catS_d, Nat.zero_add, Nat.add_zero, decide_true, decide_false, Nat.reduceLeDiff, cat_r, cat_i, cat_l, nle_T, nle_F, nlt_T, nlt_F, neq_T, neq_F, k0, p0, y1, e140, e122, z, hnn]
      done
  | succ m ih =>
    intro i h
    have hi : i < g 140 := by omega
    have c1 := hn (141 + 3 * i + 2) (by omega)
    have b1 := (hF.2.2.2.2 i hi).2.2
    have e1 : difO g (i + 1) = difO g i + (if i = 0 ∨ g (141 + 3 * i + 2) ≠ g (141 + 3 * (i - 1) + 2) then 1 else 0) := rfl
    rw [← ih (i + 1) (by omega), e1, X_go, d209_9]
    by_cases z : i = 0
    · subst z
      simp (disch := first | assumption | omega) only [Nat.reduceAdd, X_go, go2_some, stp, ldI, ldA, ldL, stI, stA, stL, o1I, o2I, o2L, brI, brII, gl, s1, s2, k1, sl, go_sN, go_sR, go_CT, go_sT, go_no, go_if, pops, bk_v, bk_0, d209_0, d209_1, d209_2, d209_5, d209_6, d209_7, d209_8, d209_10, d209_11, d209_14, d209_17, d209_18, d209_21, d209_22, d209_23, d209_26, d209_27, d209_30, d209_33, d209_34, d209_35, d209_36, d209_37, d209_38, d209_39, d209_40, d209_41, d209_44, d209_47, d209_48, d209_49, d209_50, d209_51, d209_52, d209_53, d209_54, d209_57, d209_58, d209_61, d209_62, d209_63, d209_64, d209_67, d209_70, d209_71, d209_74, d209_76, d209_77, d209_80, d209_81, d209_84, d209_85, d209_86, d209_87, d209_90, d209_92, d209_93, d209_94, d209_95, n_lt, n_le, n_eq, n_lt0, n_ge0, n_gt0, n_le0, n_eq0, m_lt, m_le, m_gt, m_ge, m_eq, m_eq', m_lt0, m_ge0, m_gt0, m_le0, m_ltm, m_lem, n_in, m_in, n_cl, n_ti, n_div, n_rem', n_dec, n_l, nI_add, pk_mul, an0, an1, decide_eq_true_eq, if_true, if_false, ite_true, ite_false, and_true, true_and, and_false, false_and, not_true, not_false_iff, or_false, false_or, or_true, true_or, eq_self, va_some, Bool.false_eq_true, reduceIte, catS_n, catS_i, catS_r, catS_l, catS_d, Nat.zero_add, Nat.add_zero, decide_true, decide_false, Nat.reduceLeDiff, cat_r, cat_i, cat_l, nle_T, nle_F, nlt_T, nlt_F, neq_T, neq_F, k0, p0, y1, e140]
      done
    · have c2 := hn (141 + 3 * (i - 1) + 2) (by omega)
      have b2 := (hF.2.2.2.2 (i - 1) (by omega)).2.2
      have e2 : 141 + 3 * i - 1 = 141 + 3 * (i - 1) + 2 := by omega
      by_cases y : g (141 + 3 * i + 2) = g (141 + 3 * (i - 1) + 2)
      · have y' : ¬ (i = 0 ∨ g (141 + 3 * i + 2) ≠ g (141 + 3 * (i - 1) + 2)) := by omega
        rw [if_neg y']
        rw [y] at c1
        simp (disch := first | assumption | omega) only [Nat.reduceAdd, X_go, go2_some, stp, ldI, ldA, ldL, stI, stA, stL, o1I, o2I, o2L, brI, brII, gl, s1, s2, k1, sl, go_sN, go_sR, go_CT, go_sT, go_no, go_if, pops, bk_v, bk_0, d209_0, d209_1, d209_2, d209_5, d209_6, d209_7, d209_8, d209_10, d209_11, d209_14, d209_17, d209_18, d209_21, d209_22, d209_23, d209_26, d209_27, d209_30, d209_33, d209_34, d209_35, d209_36, d209_37, d209_38, d209_39, d209_40, d209_41, d209_44, d209_47, d209_48, d209_49, d209_50, d209_51, d209_52, d209_53, d209_54, d209_57, d209_58, d209_61, d209_62, d209_63, d209_64, d209_67, d209_70, d209_71, d209_74, d209_76, d209_77, d209_80, d209_81, d209_84, d209_85, d209_86, d209_87, d209_90, d209_92, d209_93, d209_94, d209_95, n_lt, n_le, n_eq, n_lt0, n_ge0, n_gt0, n_le0, n_eq0, m_lt, m_le, m_gt, m_ge, m_eq, m_eq', m_lt0, m_ge0, m_gt0, m_le0, m_ltm, m_lem, n_in, m_in, n_cl, n_ti, n_div, n_rem', n_dec, n_l, nI_add, pk_mul, an0, an1, decide_eq_true_eq, if_true, if_false, ite_true, ite_false, and_true, true_and, and_false, false_and, not_true, not_false_iff, or_false, false_or, or_true, true_or, eq_self, va_some, Bool.false_eq_true, reduceIte, catS_n, catS_i, catS_r, catS_l, catS_d, Nat.zero_add, Nat.add_zero, decide_true, decide_false, Nat.reduceLeDiff, cat_r, cat_i, cat_l, nle_T, nle_F, nlt_T, nlt_F, neq_T, neq_F, k0, p0, y1, e140, z, n_sub, e2, c1, c2]
        done
      · have y' : i = 0 ∨ g (141 + 3 * i + 2) ≠ g (141 + 3 * (i - 1) + 2) := .inr y
        rw [if_pos y']
        simp (disch := first | assumption | omega) only [Nat.reduceAdd, X_go, go2_some, stp, ldI, ldA, ldL, stI, stA, stL, o1I, o2I, o2L, brI, brII, gl, s1, s2, k1, sl, go_sN, go_sR, go_CT, go_sT, go_no, go_if, pops, bk_v, bk_0, d209_0, d209_1, d209_2, d209_5, d209_6, d209_7, d209_8, d209_10, d209_11, d209_14, d209_17, d209_18, d209_21, d209_22, d209_23, d209_26, d209_27, d209_30, d209_33, d209_34, d209_35, d209_36, d209_37, d209_38, d209_39, d209_40, d209_41, d209_44, d209_47, d209_48, d209_49, d209_50, d209_51, d209_52, d209_53, d209_54, d209_57, d209_58, d209_61, d209_62, d209_63, d209_64, d209_67, d209_70, d209_71, d209_74, d209_76, d209_77, d209_80, d209_81, d209_84, d209_85, d209_86, d209_87, d209_90, d209_92, d209_93, d209_94, d209_95, n_lt, n_le, n_eq, n_lt0, n_ge0, n_gt0, n_le0, n_eq0, m_lt, m_le, m_gt, m_ge, m_eq, m_eq', m_lt0, m_ge0, m_gt0, m_le0, m_ltm, m_lem, n_in, m_in, n_cl, n_ti, n_div, n_rem', n_dec, n_l, nI_add, pk_mul, an0, an1, decide_eq_true_eq, if_true, if_false, ite_true, ite_false, and_true, true_and, and_false, false_and, not_true, not_false_iff, or_false, false_or, or_true, true_or, eq_self, va_some, Bool.false_eq_true, reduceIte, catS_n, catS_i, catS_r, catS_l, catS_d, Nat.zero_add, Nat.add_zero, decide_true, decide_false, Nat.reduceLeDiff, cat_r, cat_i, cat_l, nle_T, nle_F, nlt_T, nlt_F, neq_T, neq_F, k0, p0, y1, e140, z, n_sub, e2, c1, c2, y]
        done
theorem c209 {d : Nat} {P : MP} {I : MI} {L : ML} {C : MC} {Q : QT} {B n len : Nat} {g : GS} {ps : Nat → GS} {tx : Nat → Nat} (hM : MB P) (hR : ZR I g n ps len tx) (hA : AV B g n ps len tx) (hB : B ≤ 1000000) (hd : 6 ≤ d) : CT d 209 [.ref 150] P I L C Q = Q (.inl (some (.double (lsV g)))) P (xu I 150 4 (nI 0)) L C := by
  have hM' := hM
  obtain ⟨⟨k0, p0, p1, p2, p5, y1, y2, y3, y4⟩, _⟩ := hM'
  have hR' := hR
  obtain ⟨hN, h3, hps', h6, htx'⟩ := hR'
  have hA' := hA
  obtain ⟨hGV, hps, hn4, hlen, htx⟩ := hA'
  have h140 := GV_140 hGV
  have hv := hGV.1
  have hl := hGV.2.1
  have hFv := hGV.2.2
  have hR0 : ZR (xu I 150 4 (nI 0)) g n ps len tx := ZR_4 hR
  have hN0 := hR0.1
  have h := f209 (d := d - 1) (L := L) (C := C) (Q := Q) hM hN0 hGV hB (by omega) (g 140) 0 (by omega)
  rw [CT_e (mj := 209) (e := [.ref 150, UN, UN]) (by omega) rfl (Nat.le_of_ble_eq_true rfl)]
  simp (disch := first | assumption | omega) only [Nat.reduceAdd, X_go, go2_some, stp, ldI, ldA, ldL, stI, stA, stL, o1I, o2I, o2L, brI, brII, gl, s1, s2, k1, sl, go_sN, go_sR, go_CT, go_sT, go_no, go_if, pops, bk_v, bk_0, d209_0, d209_1, d209_2, d209_5, d209_6, d209_7, d209_8, d209_10, d209_11, d209_14, d209_17, d209_18, d209_21, d209_22, d209_23, d209_26, d209_27, d209_30, d209_33, d209_34, d209_35, d209_36, d209_37, d209_38, d209_39, d209_40, d209_41, d209_44, d209_47, d209_48, d209_49, d209_50, d209_51, d209_52, d209_53, d209_54, d209_57, d209_58, d209_61, d209_62, d209_63, d209_64, d209_67, d209_70, d209_71, d209_74, d209_76, d209_77, d209_80, d209_81, d209_84, d209_85, d209_86, d209_87, d209_90, d209_92, d209_93, d209_94, d209_95, n_lt, n_le, n_eq, n_lt0, n_ge0, n_gt0, n_le0, n_eq0, m_lt, m_le, m_gt, m_ge, m_eq, m_eq', m_lt0, m_ge0, m_gt0, m_le0, m_ltm, m_lem, n_in, m_in, n_cl, n_ti, n_div, n_rem', n_dec, n_l, nI_add, pk_mul, an0, an1, decide_eq_true_eq, if_true, if_false, ite_true, ite_false, and_true, true_and, and_false, false_and, not_true, not_false_iff, or_false, false_or, or_true, true_or, eq_self, va_some, Bool.false_eq_true, reduceIte, catS_n, catS_i, catS_r, catS_l, catS_d, Nat.zero_add, Nat.add_zero, decide_true, decide_false, Nat.reduceLeDiff, cat_r, cat_i, cat_l, nle_T, nle_F, nlt_T, nlt_F, neq_T, neq_F, k0]
  simp only [← X_go]
  exact h
/-- put aside -/
def KR (I : MI) (g : GS) : Prop := ∀ k, k < 201 → I 153 k = nI (g k)
theorem d211_0 : dec 211 0 = some (.iconst 0, 1, [0]) := rfl
theorem d211_1 : dec 211 1 = some (.istore_n 1, 1, []) := rfl
theorem d211_2 : dec 211 2 = some (.iload_n 1, 1, []) := rfl
theorem d211_3 : dec 211 3 = some (.sipush 201, 3, [201]) := rfl
theorem d211_6 : dec 211 6 = some (.if_icmp .ge 21, 3, [27]) := rfl
theorem d211_9 : dec 211 9 = some (.aload_n 0, 1, []) := rfl
theorem d211_10 : dec 211 10 = some (.getfield 16, 3, [1, 10, 2, 2, 0, 996]) := rfl
theorem d211_13 : dec 211 13 = some (.iload_n 1, 1, []) := rfl
theorem d211_14 : dec 211 14 = some (.aload_n 0, 1, []) := rfl
theorem d211_15 : dec 211 15 = some (.getfield 7, 3, [1, 10, 0, 2, 0, 994]) := rfl
theorem d211_18 : dec 211 18 = some (.iload_n 1, 1, []) := rfl
theorem d211_19 : dec 211 19 = some (.iaload, 1, []) := rfl
theorem d211_20 : dec 211 20 = some (.iastore, 1, []) := rfl
theorem d211_21 : dec 211 21 = some (.iinc 1 1, 3, [1]) := rfl
theorem d211_24 : dec 211 24 = some (.goto (-22), 3, [2]) := rfl
theorem d211_27 : dec 211 27 = some (.return_, 1, []) := rfl
theorem l211 : mL 211 = 2 := rfl
theorem f211 {d : Nat} {P : MP} {I : MI} {L : ML} {C : MC} {Q : QT} (hM : MB P) (hd : 1 ≤ d) : ∀ m k (R : Nat → Int32), k + m = 201 → X d 211 2 [.ref 150, .int (nI k)] [] P (xr I 153 R) L C Q = Q (.inl none) P (xr I 153 (fun j => if k ≤ j ∧ j < 201 then I 151 j else R j)) L C := by
  obtain ⟨⟨k0, p0, p1, p2, p5, y1, y2, y3, y4⟩, _⟩ := hM
  intro m
  induction m with
  | zero =>
    intro k R h
    have : k = 201 := by omega
    subst this
    have e : (fun j => if 201 ≤ j ∧ j < 201 then I 151 j else R j) = R := funext fun j => if_neg (by omega)
    rw [e, X_go, d211_2]
    simp (disch := first | assumption | omega) only [Nat.reduceAdd, X_go, go2_some, stp, ldI, ldA, ldL, stI, stA, stL, o1I, o2I, o2L, brI, brII, gl, s1, s2, k1, sl, go_sN, go_sR, go_CT, go_sT, go_no, go_if, pops, bk_v, bk_0, d211_0, d211_1, d211_3, d211_6, d211_9, d211_10, d211_13, d211_14, d211_15, d211_18, d211_19, d211_20, d211_21, d211_24, d211_27, n_lt, n_le, n_eq, n_lt0, n_ge0, n_gt0, n_le0, n_eq0, m_lt, m_le, m_gt, m_ge, m_eq, m_eq', m_lt0, m_ge0, m_gt0, m_le0, m_ltm, m_lem, n_in, m_in, n_cl, n_ti, n_div, n_rem', n_dec, n_l, nI_add, pk_mul, an0, an1, decide_eq_true_eq, if_true, if_false, ite_true, ite_false, and_true, true_and, and_false, false_and, not_true, not_false_iff, or_false, false_or, or_true, true_or, eq_self, va_some, Bool.false_eq_true, reduceIte, catS_n, catS_i, catS_r, catS_l, catS_d, Nat.zero_add, Nat.add_zero, decide_true, decide_false, Nat.reduceLeDiff, cat_r, cat_i, cat_l, nle_T, nle_F, nlt_T, nlt_F, neq_T, neq_F]
  | succ m ih =>
    intro k R h
    have e : (fun j => if k + 1 ≤ j ∧ j < 201 then I 151 j else (fun i => if i = k then I 151 k else R i) j) = (fun j => if k ≤ j ∧ j < 201 then I 151 j else R j) := by
      funext j
      dsimp only
      by_cases z : k + 1 ≤ j ∧ j < 201
      · rw [if_pos z, if_pos (by omega)]
      · rw [if_neg z]
        by_cases y : j = k
        · subst y
          rw [if_pos rfl, if_pos (by omega)]
        · rw [if_neg y, if_neg (by omega)]
    have h151 : xr I 153 R 151 = I 151 := xr_n _ _ (by omega)
    rw [← e, ← ih (k + 1) (fun i => if i = k then I 151 k else R i) (by omega), X_go, d211_2]
    simp (disch := first | assumption | omega) only [Nat.reduceAdd, X_go, go2_some, stp, ldI, ldA, ldL, stI, stA, stL, o1I, o2I, o2L, brI, brII, gl, s1, s2, k1, sl, go_sN, go_sR, go_CT, go_sT, go_no, go_if, pops, bk_v, bk_0, d211_0, d211_1, d211_3, d211_6, d211_9, d211_10, d211_13, d211_14, d211_15, d211_18, d211_19, d211_20, d211_21, d211_24, d211_27, n_lt, n_le, n_eq, n_lt0, n_ge0, n_gt0, n_le0, n_eq0, m_lt, m_le, m_gt, m_ge, m_eq, m_eq', m_lt0, m_ge0, m_gt0, m_le0, m_ltm, m_lem, n_in, m_in, n_cl, n_ti, n_div, n_rem', n_dec, n_l, nI_add, pk_mul, an0, an1, decide_eq_true_eq, if_true, if_false, ite_true, ite_false, and_true, true_and, and_false, false_and, not_true, not_false_iff, or_false, false_or, or_true, true_or, eq_self, va_some, Bool.false_eq_true, reduceIte, catS_n, catS_i, catS_r, catS_l, catS_d, Nat.zero_add, Nat.add_zero, decide_true, decide_false, Nat.reduceLeDiff, cat_r, cat_i, cat_l, nle_T, nle_F, nlt_T, nlt_F, neq_T, neq_F, k0, p0, p2, y1, y3, h151, xu_xr]
    done
theorem c211 {d : Nat} {P : MP} {I : MI} {L : ML} {C : MC} {g : GS} (hM : MB P) (hn : NR I g) (hd : 2 ≤ d) : ∃ I', KR I' g ∧ (∀ k j, k ≠ 153 → I' k j = I k j) ∧ ∀ Q, CT d 211 [.ref 150] P I L C Q = Q (.inl none) P I' L C := by
  refine ⟨xr I 153 (fun j => if 0 ≤ j ∧ j < 201 then I 151 j else I 153 j), fun k hk => ?_, fun k j h => by rw [xr_n _ _ h], fun Q => ?_⟩
  · rw [xr_s, if_pos (by omega)]; exact hn k hk
  · have h := f211 (d := d - 1) (I := I) (L := L) (C := C) (Q := Q) hM (by omega) 201 0 (I 153) (by omega)
    rw [xr_id] at h
    simp only [Nat.zero_le, true_and] at h
    rw [CT_e (mj := 211) (e := [.ref 150, UN]) (by omega) rfl (Nat.le_of_ble_eq_true rfl)]
    simp (disch := first | assumption | omega) only [Nat.reduceAdd, X_go, go2_some, stp, ldI, ldA, ldL, stI, stA, stL, o1I, o2I, o2L, brI, brII, gl, s1, s2, k1, sl, go_sN, go_sR, go_CT, go_sT, go_no, go_if, pops, bk_v, bk_0, d211_0, d211_1, d211_3, d211_6, d211_9, d211_10, d211_13, d211_14, d211_15, d211_18, d211_19, d211_20, d211_21, d211_24, d211_27, n_lt, n_le, n_eq, n_lt0, n_ge0, n_gt0, n_le0, n_eq0, m_lt, m_le, m_gt, m_ge, m_eq, m_eq', m_lt0, m_ge0, m_gt0, m_le0, m_ltm, m_lem, n_in, m_in, n_cl, n_ti, n_div, n_rem', n_dec, n_l, nI_add, pk_mul, an0, an1, decide_eq_true_eq, if_true, if_false, ite_true, ite_false, and_true, true_and, and_false, false_and, not_true, not_false_iff, or_false, false_or, or_true, true_or, eq_self, va_some, Bool.false_eq_true, reduceIte, catS_n, catS_i, catS_r, catS_l, catS_d, Nat.zero_add, Nat.add_zero, decide_true, decide_false, Nat.reduceLeDiff, cat_r, cat_i, cat_l, nle_T, nle_F, nlt_T, nlt_F, neq_T, neq_F]
    simp only [← X_go]
    exact h
theorem d212_0 : dec 212 0 = some (.iconst 0, 1, [0]) := rfl
theorem d212_1 : dec 212 1 = some (.istore_n 1, 1, []) := rfl
theorem d212_2 : dec 212 2 = some (.iload_n 1, 1, []) := rfl
theorem d212_3 : dec 212 3 = some (.sipush 201, 3, [201]) := rfl
theorem d212_6 : dec 212 6 = some (.if_icmp .ge 21, 3, [27]) := rfl
theorem d212_9 : dec 212 9 = some (.aload_n 0, 1, []) := rfl
theorem d212_10 : dec 212 10 = some (.getfield 7, 3, [1, 10, 0, 2, 0, 994]) := rfl
theorem d212_13 : dec 212 13 = some (.iload_n 1, 1, []) := rfl
theorem d212_14 : dec 212 14 = some (.aload_n 0, 1, []) := rfl
theorem d212_15 : dec 212 15 = some (.getfield 16, 3, [1, 10, 2, 2, 0, 996]) := rfl
theorem d212_18 : dec 212 18 = some (.iload_n 1, 1, []) := rfl
theorem d212_19 : dec 212 19 = some (.iaload, 1, []) := rfl
theorem d212_20 : dec 212 20 = some (.iastore, 1, []) := rfl
theorem d212_21 : dec 212 21 = some (.iinc 1 1, 3, [1]) := rfl
theorem d212_24 : dec 212 24 = some (.goto (-22), 3, [2]) := rfl
theorem d212_27 : dec 212 27 = some (.return_, 1, []) := rfl
theorem l212 : mL 212 = 2 := rfl
theorem f212 {d : Nat} {P : MP} {I : MI} {L : ML} {C : MC} {Q : QT} (hM : MB P) (hd : 1 ≤ d) : ∀ m k (R : Nat → Int32), k + m = 201 → X d 212 2 [.ref 150, .int (nI k)] [] P (xr I 151 R) L C Q = Q (.inl none) P (xr I 151 (fun j => if k ≤ j ∧ j < 201 then I 153 j else R j)) L C := by
  obtain ⟨⟨k0, p0, p1, p2, p5, y1, y2, y3, y4⟩, _⟩ := hM
  intro m
  induction m with
  | zero =>
    intro k R h
    have : k = 201 := by omega
    subst this
    have e : (fun j => if 201 ≤ j ∧ j < 201 then I 153 j else R j) = R := funext fun j => if_neg (by omega)
    rw [e, X_go, d212_2]
    simp (disch := first | assumption | omega) only [Nat.reduceAdd, X_go, go2_some, stp, ldI, ldA, ldL, stI, stA, stL, o1I, o2I, o2L, brI, brII, gl, s1, s2, k1, sl, go_sN, go_sR, go_CT, go_sT, go_no, go_if, pops, bk_v, bk_0, d212_0, d212_1, d212_3, d212_6, d212_9, d212_10, d212_13, d212_14, d212_15, d212_18, d212_19, d212_20, d212_21, d212_24, d212_27, n_lt, n_le, n_eq, n_lt0, n_ge0, n_gt0, n_le0, n_eq0, m_lt, m_le, m_gt, m_ge, m_eq, m_eq', m_lt0, m_ge0, m_gt0, m_le0, m_ltm, m_lem, n_in, m_in, n_cl, n_ti, n_div, n_rem', n_dec, n_l, nI_add, pk_mul, an0, an1, decide_eq_true_eq, if_true, if_false, ite_true, ite_false, and_true, true_and, and_false, false_and, not_true, not_false_iff, or_false, false_or, or_true, true_or, eq_self, va_some, Bool.false_eq_true, reduceIte, catS_n, catS_i, catS_r, catS_l, catS_d, Nat.zero_add, Nat.add_zero, decide_true, decide_false, Nat.reduceLeDiff, cat_r, cat_i, cat_l, nle_T, nle_F, nlt_T, nlt_F, neq_T, neq_F]
  | succ m ih =>
    intro k R h
    have e : (fun j => if k + 1 ≤ j ∧ j < 201 then I 153 j else (fun i => if i = k then I 153 k else R i) j) = (fun j => if k ≤ j ∧ j < 201 then I 153 j else R j) := by
      funext j
      dsimp only
      by_cases z : k + 1 ≤ j ∧ j < 201
      · rw [if_pos z, if_pos (by omega)]
      · rw [if_neg z]
        by_cases y : j = k
        · subst y
          rw [if_pos rfl, if_pos (by omega)]
        · rw [if_neg y, if_neg (by omega)]
    have h153 : xr I 151 R 153 = I 153 := xr_n _ _ (by omega)
    rw [← e, ← ih (k + 1) (fun i => if i = k then I 153 k else R i) (by omega), X_go, d212_2]
    simp (disch := first | assumption | omega) only [Nat.reduceAdd, X_go, go2_some, stp, ldI, ldA, ldL, stI, stA, stL, o1I, o2I, o2L, brI, brII, gl, s1, s2, k1, sl, go_sN, go_sR, go_CT, go_sT, go_no, go_if, pops, bk_v, bk_0, d212_0, d212_1, d212_3, d212_6, d212_9, d212_10, d212_13, d212_14, d212_15, d212_18, d212_19, d212_20, d212_21, d212_24, d212_27, n_lt, n_le, n_eq, n_lt0, n_ge0, n_gt0, n_le0, n_eq0, m_lt, m_le, m_gt, m_ge, m_eq, m_eq', m_lt0, m_ge0, m_gt0, m_le0, m_ltm, m_lem, n_in, m_in, n_cl, n_ti, n_div, n_rem', n_dec, n_l, nI_add, pk_mul, an0, an1, decide_eq_true_eq, if_true, if_false, ite_true, ite_false, and_true, true_and, and_false, false_and, not_true, not_false_iff, or_false, false_or, or_true, true_or, eq_self, va_some, Bool.false_eq_true, reduceIte, catS_n, catS_i, catS_r, catS_l, catS_d, Nat.zero_add, Nat.add_zero, decide_true, decide_false, Nat.reduceLeDiff, cat_r, cat_i, cat_l, nle_T, nle_F, nlt_T, nlt_F, neq_T, neq_F, k0, p0, p2, y1, y3, h153, xu_xr]
    done
theorem c212 {d : Nat} {P : MP} {I : MI} {L : ML} {C : MC} {g : GS} (hM : MB P) (hn : KR I g) (hd : 2 ≤ d) : ∃ I', NR I' g ∧ (∀ k j, k ≠ 151 → I' k j = I k j) ∧ ∀ Q, CT d 212 [.ref 150] P I L C Q = Q (.inl none) P I' L C := by
  refine ⟨xr I 151 (fun j => if 0 ≤ j ∧ j < 201 then I 153 j else I 151 j), fun k hk => ?_, fun k j h => by rw [xr_n _ _ h], fun Q => ?_⟩
  · rw [xr_s, if_pos (by omega)]; exact hn k hk
  · have h := f212 (d := d - 1) (I := I) (L := L) (C := C) (Q := Q) hM (by omega) 201 0 (I 151) (by omega)
    rw [xr_id] at h
    simp only [Nat.zero_le, true_and] at h
    rw [CT_e (mj := 212) (e := [.ref 150, UN]) (by omega) rfl (Nat.le_of_ble_eq_true rfl)]
    simp (disch := first | assumption | omega) only [Nat.reduceAdd, X_go, go2_some, stp, ldI, ldA, ldL, stI, stA, stL, o1I, o2I, o2L, brI, brII, gl, s1, s2, k1, sl, go_sN, go_sR, go_CT, go_sT, go_no, go_if, pops, bk_v, bk_0, d212_0, d212_1, d212_3, d212_6, d212_9, d212_10, d212_13, d212_14, d212_15, d212_18, d212_19, d212_20, d212_21, d212_24, d212_27, n_lt, n_le, n_eq, n_lt0, n_ge0, n_gt0, n_le0, n_eq0, m_lt, m_le, m_gt, m_ge, m_eq, m_eq', m_lt0, m_ge0, m_gt0, m_le0, m_ltm, m_lem, n_in, m_in, n_cl, n_ti, n_div, n_rem', n_dec, n_l, nI_add, pk_mul, an0, an1, decide_eq_true_eq, if_true, if_false, ite_true, ite_false, and_true, true_and, and_false, false_and, not_true, not_false_iff, or_false, false_or, or_true, true_or, eq_self, va_some, Bool.false_eq_true, reduceIte, catS_n, catS_i, catS_r, catS_l, catS_d, Nat.zero_add, Nat.add_zero, decide_true, decide_false, Nat.reduceLeDiff, cat_r, cat_i, cat_l, nle_T, nle_F, nlt_T, nlt_F, neq_T, neq_F]
    simp only [← X_go]
    exact h
theorem KR_fr {I I' : MI} {g : GS} (h : KR I g) (hf : ∀ j, I' 153 j = I 153 j) : KR I' g := fun k hk => by rw [hf]; exact h k hk
theorem d210_0 : dec 210 0 = some (.aload_n 0, 1, []) := rfl
theorem d210_1 : dec 210 1 = some (.iload_n 1, 1, []) := rfl
theorem d210_2 : dec 210 2 = some (.invokestatic 84, 3, [2, 155, 0, 10, 0, 1089, 0]) := rfl
theorem d210_5 : dec 210 5 = some (.ifCond .eq 14, 3, [19]) := rfl
theorem d210_8 : dec 210 8 = some (.iload_n 2, 1, []) := rfl
theorem d210_9 : dec 210 9 = some (.invokestatic 90, 3, [2, 160, 0, 10, 0, 1106, 0]) := rfl
theorem d210_12 : dec 210 12 = some (.ifCond .eq 7, 3, [19]) := rfl
theorem d210_15 : dec 210 15 = some (.iconst 0, 1, [0]) := rfl
theorem d210_16 : dec 210 16 = some (.goto 4, 3, [20]) := rfl
theorem d210_19 : dec 210 19 = some (.iconst 1, 1, [1]) := rfl
theorem d210_20 : dec 210 20 = some (.invokevirtual 72, 3, [2, 153, 2, 10, 0, 1081, 0]) := rfl
theorem d210_23 : dec 210 23 = some (.ifCond .eq 5, 3, [28]) := rfl
theorem d210_26 : dec 210 26 = some (.iconst 0, 1, [0]) := rfl
theorem d210_27 : dec 210 27 = some (.ireturn, 1, [0]) := rfl
theorem d210_28 : dec 210 28 = some (.aload_n 0, 1, []) := rfl
theorem d210_29 : dec 210 29 = some (.invokevirtual 210, 3, [2, 211, 2, 10, 0, 1311]) := rfl
theorem d210_32 : dec 210 32 = some (.aload_n 0, 1, []) := rfl
theorem d210_33 : dec 210 33 = some (.getfield 7, 3, [1, 10, 0, 2, 0, 994]) := rfl
theorem d210_36 : dec 210 36 = some (.bipush 124, 2, [124]) := rfl
theorem d210_38 : dec 210 38 = some (.iload_n 2, 1, []) := rfl
theorem d210_39 : dec 210 39 = some (.iadd, 1, []) := rfl
theorem d210_40 : dec 210 40 = some (.iaload, 1, []) := rfl
theorem d210_41 : dec 210 41 = some (.istore_n 3, 1, []) := rfl
theorem d210_42 : dec 210 42 = some (.iconst 0, 1, [0]) := rfl
theorem d210_43 : dec 210 43 = some (.istore 4, 2, []) := rfl
theorem d210_45 : dec 210 45 = some (.iload 4, 2, []) := rfl
theorem d210_47 : dec 210 47 = some (.sipush 300, 3, [300]) := rfl
theorem d210_50 : dec 210 50 = some (.if_icmp .ge 29, 3, [79]) := rfl
theorem d210_53 : dec 210 53 = some (.aload_n 0, 1, []) := rfl
theorem d210_54 : dec 210 54 = some (.getfield 7, 3, [1, 10, 0, 2, 0, 994]) := rfl
theorem d210_57 : dec 210 57 = some (.bipush 124, 2, [124]) := rfl
theorem d210_59 : dec 210 59 = some (.iload_n 2, 1, []) := rfl
theorem d210_60 : dec 210 60 = some (.iadd, 1, []) := rfl
theorem d210_61 : dec 210 61 = some (.iaload, 1, []) := rfl
theorem d210_62 : dec 210 62 = some (.iload_n 3, 1, []) := rfl
theorem d210_63 : dec 210 63 = some (.if_icmp .ne 16, 3, [79]) := rfl
theorem d210_66 : dec 210 66 = some (.aload_n 0, 1, []) := rfl
theorem d210_67 : dec 210 67 = some (.iload_n 1, 1, []) := rfl
theorem d210_68 : dec 210 68 = some (.invokevirtual 177, 3, [2, 191, 2, 10, 0, 1226, 0]) := rfl
theorem d210_71 : dec 210 71 = some (.istore 5, 2, []) := rfl
theorem d210_73 : dec 210 73 = some (.iinc 4 1, 3, [1]) := rfl
theorem d210_76 : dec 210 76 = some (.goto (-31), 3, [45]) := rfl
theorem d210_79 : dec 210 79 = some (.aload_n 0, 1, []) := rfl
theorem d210_80 : dec 210 80 = some (.getfield 7, 3, [1, 10, 0, 2, 0, 994]) := rfl
theorem d210_83 : dec 210 83 = some (.bipush 124, 2, [124]) := rfl
theorem d210_85 : dec 210 85 = some (.iload_n 2, 1, []) := rfl
theorem d210_86 : dec 210 86 = some (.iadd, 1, []) := rfl
theorem d210_87 : dec 210 87 = some (.iaload, 1, []) := rfl
theorem d210_88 : dec 210 88 = some (.iload_n 3, 1, []) := rfl
theorem d210_89 : dec 210 89 = some (.if_icmp .le 7, 3, [96]) := rfl
theorem d210_92 : dec 210 92 = some (.iconst 1, 1, [1]) := rfl
theorem d210_93 : dec 210 93 = some (.goto 4, 3, [97]) := rfl
theorem d210_96 : dec 210 96 = some (.iconst 0, 1, [0]) := rfl
theorem d210_97 : dec 210 97 = some (.istore 5, 2, []) := rfl
theorem d210_99 : dec 210 99 = some (.aload_n 0, 1, []) := rfl
theorem d210_100 : dec 210 100 = some (.invokevirtual 213, 3, [2, 212, 2, 10, 0, 1315]) := rfl
theorem d210_103 : dec 210 103 = some (.iload 5, 2, []) := rfl
theorem d210_105 : dec 210 105 = some (.ifCond .eq 8, 3, [113]) := rfl
theorem d210_108 : dec 210 108 = some (.iload 4, 2, []) := rfl
theorem d210_110 : dec 210 110 = some (.goto 4, 3, [114]) := rfl
theorem d210_113 : dec 210 113 = some (.iconst (-1), 1, [4294967295]) := rfl
theorem d210_114 : dec 210 114 = some (.ireturn, 1, [0]) := rfl
theorem l210 : mL 210 = 6 := rfl
theorem f210 {d : Nat} {P : MP} {L : ML} {C : MC} {t it had : Nat} (hM : MB P) (hd : 9 ≤ d) (ht : t < 3) (hit : it < 16) : ∀ m i B (g : GS) (I : MI) (u : Value), i + m = 300 → B + m < 1000000 → NR I g → GV B g → g (124 + it) = had → ∃ I' i' w, ((w = nI 1 ∧ i' ≤ 300 ∧ soV t it had m i g = nI i') ∨ (w = nI 0 ∧ i' ≤ 300 ∧ soV t it had m i g = nI 4294967295)) ∧ (∀ k j, k ≠ 151 → I' k j = I k j) ∧ ∀ Q, X d 210 45 [.ref 150, .int (nI t), .int (nI it), .int (nI had), .int (nI i), u] [] P I L C Q = X d 210 99 [.ref 150, .int (nI t), .int (nI it), .int (nI had), .int (nI i'), .int w] [] P I' L C Q := by
  have hM' := hM
  obtain ⟨⟨k0, p0, p1, p2, p5, y1, y2, y3, y4⟩, _⟩ := hM'
  intro m
  induction m with
  | zero =>
    intro i B g I u hi hB hn hGV hh
    have : i = 300 := by omega
    subst this
    have hc := hn (124 + it) (by omega)
    have hb1 := hGV.2.2.2.2.2.1 it hit
    have hb2 := hGV.2.2.2.1
    refine ⟨I, 300, nI 0, .inr ⟨rfl, Nat.le_refl _, rfl⟩, fun _ _ _ => rfl, fun Q => ?_⟩
    subst hh
    rw [X_go, d210_45]
    simp (disch := first | assumption | omega) only [Nat.reduceAdd, X_go, go2_some, stp, ldI, ldA, ldL, stI, stA, stL, o1I, o2I, o2L, brI, brII, gl, s1, s2, k1, sl, go_sN, go_sR, go_CT, go_sT, go_no, go_if, pops, bk_v, bk_0, d210_0, d210_1, d210_2, d210_5, d210_8, d210_9, d210_12, d210_15, d210_16, d210_19, d210_20, d210_23, d210_26, d210_27, d210_28, d210_29, d210_32, d210_33, d210_36, d210_38, d210_39, d210_40, d210_41, d210_42, d210_43, d210_47, d210_50, d210_53, d210_54, d210_57, d210_59, d210_60, d210_61, d210_62, d210_63, d210_66, d210_67, d210_68, d210_71, d210_73, d210_76, d210_79, d210_80, d210_83, d210_85, d210_86, d210_87, d210_88, d210_89, d210_92, d210_93, d210_96, d210_97, d210_100, d210_103, d210_105, d210_108, d210_110, d210_113, d210_114, n_lt, n_le, n_eq, n_lt0, n_ge0, n_gt0, n_le0, n_eq0, m_lt, m_le, m_gt, m_ge, m_eq, m_eq', m_lt0, m_ge0, m_gt0, m_le0, m_ltm, m_lem, n_in, m_in, n_cl, n_ti, n_div, n_rem', n_dec, n_l, nI_add, pk_mul, an0, an1, decide_eq_true_eq, if_true, if_false, ite_true, ite_false, and_true, true_and, and_false, false_and, not_true, not_false_iff, or_false, false_or, or_true, true_or, eq_self, va_some, Bool.false_eq_true, reduceIte, catS_n, catS_i, catS_r, catS_l, catS_d, Nat.zero_add, Nat.add_zero, decide_true, decide_false, Nat.reduceLeDiff, cat_r, cat_i, cat_l, nle_T, nle_F, nlt_T, nlt_F, neq_T, neq_F, k0, p0, y1, hc]
  | succ m ih =>
    intro i B g I u hi hB hn hGV hh
    have hc := hn (124 + it) (by omega)
    have hb1 := hGV.2.2.2.2.2.1 it hit
    have hb2 := hGV.2.2.2.1
    obtain ⟨J, i1, i2, ⟨i3, imono⟩, i4, i5⟩ := c191 (d := d) (L := L) (C := C) hM hn hGV.1 hGV.2.1 hGV.2.2 (by omega) ht
    have hcJ := i1 (124 + it) (by omega)
    have hb3 := i2.2.2.2.2.2.1 it hit
    have hb4 := i2.2.2.2.1
    have hm := imono it hit
    subst hh
    by_cases z : g (124 + it) < opn t g (124 + it)
    · have e : soV t it (g (124 + it)) (m + 1) i g = nI (i + 1) := if_pos z
      refine ⟨J, i + 1, nI 1, .inl ⟨rfl, by omega, e⟩, i4, fun Q => ?_⟩
      have q45 : X d 210 45 [.ref 150, .int (nI t), .int (nI it), .int (nI (g (124 + it))), .int (nI (i + 1)), .int (nI (opN t g))] [] P J L C Q = X d 210 99 [.ref 150, .int (nI t), .int (nI it), .int (nI (g (124 + it))), .int (nI (i + 1)), .int (nI 1)] [] P J L C Q := by
        rw [X_go, d210_45]
        by_cases w : i + 1 < 300
        · simp (disch := first | assumption | omega) only [Nat.reduceAdd, X_go, go2_some, stp, ldI, ldA, ldL, stI, stA, stL, o1I, o2I, o2L, brI, brII, gl, s1, s2, k1, sl, go_sN, go_sR, go_CT, go_sT, go_no, go_if, pops, bk_v, bk_0, d210_0, d210_1, d210_2, d210_5, d210_8, d210_9, d210_12, d210_15, d210_16, d210_19, d210_20, d210_23, d210_26, d210_27, d210_28, d210_29, d210_32, d210_33, d210_36, d210_38, d210_39, d210_40, d210_41, d210_42, d210_43, d210_47, d210_50, d210_53, d210_54, d210_57, d210_59, d210_60, d210_61, d210_62, d210_63, d210_66, d210_67, d210_68, d210_71, d210_73, d210_76, d210_79, d210_80, d210_83, d210_85, d210_86, d210_87, d210_88, d210_89, d210_92, d210_93, d210_96, d210_97, d210_100, d210_103, d210_105, d210_108, d210_110, d210_113, d210_114, n_lt, n_le, n_eq, n_lt0, n_ge0, n_gt0, n_le0, n_eq0, m_lt, m_le, m_gt, m_ge, m_eq, m_eq', m_lt0, m_ge0, m_gt0, m_le0, m_ltm, m_lem, n_in, m_in, n_cl, n_ti, n_div, n_rem', n_dec, n_l, nI_add, pk_mul, an0, an1, decide_eq_true_eq, if_true, if_false, ite_true, ite_false, and_true, true_and, and_false, false_and, not_true, not_false_iff, or_false, false_or, or_true, true_or, eq_self, va_some, Bool.false_eq_true, reduceIte, catS_n, catS_i, catS_r, catS_l, catS_d, Nat.zero_add, Nat.add_zero, decide_true, decide_false, Nat.reduceLeDiff, cat_r, cat_i, cat_l, nle_T, nle_F, nlt_T, nlt_F, neq_T, neq_F, k0, p0, y1, hcJ, w]
          done
        · simp (disch := first | assumption | omega) only [Nat.reduceAdd, X_go, go2_some, stp, ldI, ldA, ldL, stI, stA, stL, o1I, o2I, o2L, brI, brII, gl, s1, s2, k1, sl, go_sN, go_sR, go_CT, go_sT, go_no, go_if, pops, bk_v, bk_0, d210_0, d210_1, d210_2, d210_5, d210_8, d210_9, d210_12, d210_15, d210_16, d210_19, d210_20, d210_23, d210_26, d210_27, d210_28, d210_29, d210_32, d210_33, d210_36, d210_38, d210_39, d210_40, d210_41, d210_42, d210_43, d210_47, d210_50, d210_53, d210_54, d210_57, d210_59, d210_60, d210_61, d210_62, d210_63, d210_66, d210_67, d210_68, d210_71, d210_73, d210_76, d210_79, d210_80, d210_83, d210_85, d210_86, d210_87, d210_88, d210_89, d210_92, d210_93, d210_96, d210_97, d210_100, d210_103, d210_105, d210_108, d210_110, d210_113, d210_114, n_lt, n_le, n_eq, n_lt0, n_ge0, n_gt0, n_le0, n_eq0, m_lt, m_le, m_gt, m_ge, m_eq, m_eq', m_lt0, m_ge0, m_gt0, m_le0, m_ltm, m_lem, n_in, m_in, n_cl, n_ti, n_div, n_rem', n_dec, n_l, nI_add, pk_mul, an0, an1, decide_eq_true_eq, if_true, if_false, ite_true, ite_false, and_true, true_and, and_false, false_and, not_true, not_false_iff, or_false, false_or, or_true, true_or, eq_self, va_some, Bool.false_eq_true, reduceIte, catS_n, catS_i, catS_r, catS_l, catS_d, Nat.zero_add, Nat.add_zero, decide_true, decide_false, Nat.reduceLeDiff, cat_r, cat_i, cat_l, nle_T, nle_F, nlt_T, nlt_F, neq_T, neq_F, k0, p0, y1, hcJ, w]
          done
      rw [← q45, X_go, d210_45]
      simp (disch := first | assumption | omega) only [Nat.reduceAdd, X_go, go2_some, stp, ldI, ldA, ldL, stI, stA, stL, o1I, o2I, o2L, brI, brII, gl, s1, s2, k1, sl, go_sN, go_sR, go_CT, go_sT, go_no, go_if, pops, bk_v, bk_0, d210_0, d210_1, d210_2, d210_5, d210_8, d210_9, d210_12, d210_15, d210_16, d210_19, d210_20, d210_23, d210_26, d210_27, d210_28, d210_29, d210_32, d210_33, d210_36, d210_38, d210_39, d210_40, d210_41, d210_42, d210_43, d210_47, d210_50, d210_53, d210_54, d210_57, d210_59, d210_60, d210_61, d210_62, d210_63, d210_66, d210_67, d210_68, d210_71, d210_73, d210_76, d210_79, d210_80, d210_83, d210_85, d210_86, d210_87, d210_88, d210_89, d210_92, d210_93, d210_96, d210_97, d210_100, d210_103, d210_105, d210_108, d210_110, d210_113, d210_114, n_lt, n_le, n_eq, n_lt0, n_ge0, n_gt0, n_le0, n_eq0, m_lt, m_le, m_gt, m_ge, m_eq, m_eq', m_lt0, m_ge0, m_gt0, m_le0, m_ltm, m_lem, n_in, m_in, n_cl, n_ti, n_div, n_rem', n_dec, n_l, nI_add, pk_mul, an0, an1, decide_eq_true_eq, if_true, if_false, ite_true, ite_false, and_true, true_and, and_false, false_and, not_true, not_false_iff, or_false, false_or, or_true, true_or, eq_self, va_some, Bool.false_eq_true, reduceIte, catS_n, catS_i, catS_r, catS_l, catS_d, Nat.zero_add, Nat.add_zero, decide_true, decide_false, Nat.reduceLeDiff, cat_r, cat_i, cat_l, nle_T, nle_F, nlt_T, nlt_F, neq_T, neq_F, k0, p0, y1, hc, i5]
      done
    · have e : soV t it (g (124 + it)) (m + 1) i g = soV t it (g (124 + it)) m (i + 1) (opn t g) := if_neg z
      obtain ⟨I', i', w, a1, a2, a3⟩ := ih (i + 1) (B + 1) (opn t g) J (.int (nI (opN t g))) (by omega) (by omega) i1 i2 (by omega)
      rw [e]
      refine ⟨I', i', w, a1, fun k j h => by rw [a2 k j h, i4 k j h], fun Q => ?_⟩
      have a3 := a3 Q
      rw [← a3, X_go, d210_45]
      simp (disch := first | assumption | omega) only [Nat.reduceAdd, X_go, go2_some, stp, ldI, ldA, ldL, stI, stA, stL, o1I, o2I, o2L, brI, brII, gl, s1, s2, k1, sl, go_sN, go_sR, go_CT, go_sT, go_no, go_if, pops, bk_v, bk_0, d210_0, d210_1, d210_2, d210_5, d210_8, d210_9, d210_12, d210_15, d210_16, d210_19, d210_20, d210_23, d210_26, d210_27, d210_28, d210_29, d210_32, d210_33, d210_36, d210_38, d210_39, d210_40, d210_41, d210_42, d210_43, d210_47, d210_50, d210_53, d210_54, d210_57, d210_59, d210_60, d210_61, d210_62, d210_63, d210_66, d210_67, d210_68, d210_71, d210_73, d210_76, d210_79, d210_80, d210_83, d210_85, d210_86, d210_87, d210_88, d210_89, d210_92, d210_93, d210_96, d210_97, d210_100, d210_103, d210_105, d210_108, d210_110, d210_113, d210_114, n_lt, n_le, n_eq, n_lt0, n_ge0, n_gt0, n_le0, n_eq0, m_lt, m_le, m_gt, m_ge, m_eq, m_eq', m_lt0, m_ge0, m_gt0, m_le0, m_ltm, m_lem, n_in, m_in, n_cl, n_ti, n_div, n_rem', n_dec, n_l, nI_add, pk_mul, an0, an1, decide_eq_true_eq, if_true, if_false, ite_true, ite_false, and_true, true_and, and_false, false_and, not_true, not_false_iff, or_false, false_or, or_true, true_or, eq_self, va_some, Bool.false_eq_true, reduceIte, catS_n, catS_i, catS_r, catS_l, catS_d, Nat.zero_add, Nat.add_zero, decide_true, decide_false, Nat.reduceLeDiff, cat_r, cat_i, cat_l, nle_T, nle_F, nlt_T, nlt_F, neq_T, neq_F, k0, p0, y1, hc, i5]
      done
theorem c210 {d : Nat} {P : MP} {I : MI} {L : ML} {C : MC} {t it : Nat} {B n len : Nat} {g : GS} {ps : Nat → GS} {tx : Nat → Nat} (hM : MB P) (hR : ZR I g n ps len tx) (hA : AV B g n ps len tx) (hB : B + 300 < 1000000) (hd : 12 ≤ d) (ht : t < 3) (hit : it < 16) : ∃ I', ZR I' g n ps len tx ∧ I' 150 4 = nI 0 ∧ fm I I' ∧ ∀ Q, CT d 210 [.ref 150, .int (nI t), .int (nI it)] P I L C Q = Q (.inl (some (.int (soV t it (g (124 + it)) 300 0 g)))) P I' L C := by
  have hM' := hM
  obtain ⟨⟨k0, p0, p1, p2, p5, y1, y2, y3, y4⟩, _⟩ := hM'
  have hR' := hR
  obtain ⟨hN, h3, hps', h6, htx'⟩ := hR'
  have hA' := hA
  obtain ⟨hGV, hps, hn4, hlen, htx⟩ := hA'
  have h140 := GV_140 hGV
  have hv := hGV.1
  have hl := hGV.2.1
  have hFv := hGV.2.2
  have hR0 : ZR (xu I 150 4 (nI 0)) g n ps len tx := ZR_4 hR
  have hN0 := hR0.1
  obtain ⟨J, j1, j2, j3⟩ := c211 (d := d - 1) (L := L) (C := C) hM hN0 (by omega)
  have hNJ : NR J g := NR_fr hN0 fun j => j2 _ _ (by omega)
  have hc := hNJ (124 + it) (by omega)
  obtain ⟨J2, i', w, a1, a2, a3⟩ := f210 (d := d - 1) (L := L) (C := C) (had := g (124 + it)) hM (by omega) ht hit 300 0 B g J UN (by omega) hB hNJ hGV rfl
  obtain ⟨I', b1, b2, b3⟩ := c212 (d := d - 1) (L := L) (C := C) hM (KR_fr j1 fun j => a2 _ _ (by omega)) (by omega)
  obtain ⟨q1, q2, q3, q4, q5⟩ := hR0
  refine ⟨I', ⟨b1, by rw [b2 _ _ (by omega), a2 _ _ (by omega), j2 _ _ (by omega)]; exact q2, fun i k hi hk => by rw [b2 _ _ (by omega), a2 _ _ (by omega), j2 _ _ (by omega)]; exact q3 i k hi hk, by rw [b2 _ _ (by omega), a2 _ _ (by omega), j2 _ _ (by omega)]; exact q4, fun i hi => by rw [b2 _ _ (by omega), a2 _ _ (by omega), j2 _ _ (by omega)]; exact q5 i hi⟩, by rw [b2 _ _ (by omega), a2 _ _ (by omega), j2 _ _ (by omega), xu_s], fun k j h => by rw [b2 _ _ (by omega), a2 _ _ (by omega), j2 _ _ (by omega), xu_n _ _ (by omega)], fun Q => ?_⟩
  have hend : X (d - 1) 210 99 [.ref 150, .int (nI t), .int (nI it), .int (nI (g (124 + it))), .int (nI i'), .int w] [] P J2 L C Q = Q (.inl (some (.int (soV t it (g (124 + it)) 300 0 g)))) P I' L C := by
    rw [X_go, d210_99]
    rcases a1 with ⟨rfl, e1, e2⟩ | ⟨rfl, e1, e2⟩
    · rw [e2]
      simp (disch := first | assumption | omega) only [Nat.reduceAdd, X_go, go2_some, stp, ldI, ldA, ldL, stI, stA, stL, o1I, o2I, o2L, brI, brII, gl, s1, s2, k1, sl, go_sN, go_sR, go_CT, go_sT, go_no, go_if, pops, bk_v, bk_0, d210_0, d210_1, d210_2, d210_5, d210_8, d210_9, d210_12, d210_15, d210_16, d210_19, d210_20, d210_23, d210_26, d210_27, d210_28, d210_29, d210_32, d210_33, d210_36, d210_38, d210_39, d210_40, d210_41, d210_42, d210_43, d210_45, d210_47, d210_50, d210_53, d210_54, d210_57, d210_59, d210_60, d210_61, d210_62, d210_63, d210_66, d210_67, d210_68, d210_71, d210_73, d210_76, d210_79, d210_80, d210_83, d210_85, d210_86, d210_87, d210_88, d210_89, d210_92, d210_93, d210_96, d210_97, d210_100, d210_103, d210_105, d210_108, d210_110, d210_113, d210_114, n_lt, n_le, n_eq, n_lt0, n_ge0, n_gt0, n_le0, n_eq0, m_lt, m_le, m_gt, m_ge, m_eq, m_eq', m_lt0, m_ge0, m_gt0, m_le0, m_ltm, m_lem, n_in, m_in, n_cl, n_ti, n_div, n_rem', n_dec, n_l, nI_add, pk_mul, an0, an1, decide_eq_true_eq, if_true, if_false, ite_true, ite_false, and_true, true_and, and_false, false_and, not_true, not_false_iff, or_false, false_or, or_true, true_or, eq_self, va_some, Bool.false_eq_true, reduceIte, catS_n, catS_i, catS_r, catS_l, catS_d, Nat.zero_add, Nat.add_zero, decide_true, decide_false, Nat.reduceLeDiff, cat_r, cat_i, cat_l, nle_T, nle_F, nlt_T, nlt_F, neq_T, neq_F, k0, b3]
      done
    · rw [e2]
      simp (disch := first | assumption | omega) only [Nat.reduceAdd, X_go, go2_some, stp, ldI, ldA, ldL, stI, stA, stL, o1I, o2I, o2L, brI, brII, gl, s1, s2, k1, sl, go_sN, go_sR, go_CT, go_sT, go_no, go_if, pops, bk_v, bk_0, d210_0, d210_1, d210_2, d210_5, d210_8, d210_9, d210_12, d210_15, d210_16, d210_19, d210_20, d210_23, d210_26, d210_27, d210_28, d210_29, d210_32, d210_33, d210_36, d210_38, d210_39, d210_40, d210_41, d210_42, d210_43, d210_45, d210_47, d210_50, d210_53, d210_54, d210_57, d210_59, d210_60, d210_61, d210_62, d210_63, d210_66, d210_67, d210_68, d210_71, d210_73, d210_76, d210_79, d210_80, d210_83, d210_85, d210_86, d210_87, d210_88, d210_89, d210_92, d210_93, d210_96, d210_97, d210_100, d210_103, d210_105, d210_108, d210_110, d210_113, d210_114, n_lt, n_le, n_eq, n_lt0, n_ge0, n_gt0, n_le0, n_eq0, m_lt, m_le, m_gt, m_ge, m_eq, m_eq', m_lt0, m_ge0, m_gt0, m_le0, m_ltm, m_lem, n_in, m_in, n_cl, n_ti, n_div, n_rem', n_dec, n_l, nI_add, pk_mul, an0, an1, decide_eq_true_eq, if_true, if_false, ite_true, ite_false, and_true, true_and, and_false, false_and, not_true, not_false_iff, or_false, false_or, or_true, true_or, eq_self, va_some, Bool.false_eq_true, reduceIte, catS_n, catS_i, catS_r, catS_l, catS_d, Nat.zero_add, Nat.add_zero, decide_true, decide_false, Nat.reduceLeDiff, cat_r, cat_i, cat_l, nle_T, nle_F, nlt_T, nlt_F, neq_T, neq_F, k0, b3]
      done
  have a3 := a3 Q
  rw [← hend, ← a3]
  rw [CT_e (mj := 210) (e := [.ref 150, .int (nI t), .int (nI it), UN, UN, UN]) (by omega) rfl (Nat.le_of_ble_eq_true rfl)]
  simp (disch := first | assumption | omega) only [Nat.reduceAdd, X_go, go2_some, stp, ldI, ldA, ldL, stI, stA, stL, o1I, o2I, o2L, brI, brII, gl, s1, s2, k1, sl, go_sN, go_sR, go_CT, go_sT, go_no, go_if, pops, bk_v, bk_0, d210_0, d210_1, d210_2, d210_5, d210_8, d210_9, d210_12, d210_15, d210_16, d210_19, d210_20, d210_23, d210_26, d210_27, d210_28, d210_29, d210_32, d210_33, d210_36, d210_38, d210_39, d210_40, d210_41, d210_42, d210_43, d210_47, d210_50, d210_53, d210_54, d210_57, d210_59, d210_60, d210_61, d210_62, d210_63, d210_66, d210_67, d210_68, d210_71, d210_73, d210_76, d210_79, d210_80, d210_83, d210_85, d210_86, d210_87, d210_88, d210_89, d210_92, d210_93, d210_96, d210_97, d210_100, d210_103, d210_105, d210_108, d210_110, d210_113, d210_114, n_lt, n_le, n_eq, n_lt0, n_ge0, n_gt0, n_le0, n_eq0, m_lt, m_le, m_gt, m_ge, m_eq, m_eq', m_lt0, m_ge0, m_gt0, m_le0, m_ltm, m_lem, n_in, m_in, n_cl, n_ti, n_div, n_rem', n_dec, n_l, nI_add, pk_mul, an0, an1, decide_eq_true_eq, if_true, if_false, ite_true, ite_false, and_true, true_and, and_false, false_and, not_true, not_false_iff, or_false, false_or, or_true, true_or, eq_self, va_some, Bool.false_eq_true, reduceIte, catS_n, catS_i, catS_r, catS_l, catS_d, Nat.zero_add, Nat.add_zero, decide_true, decide_false, Nat.reduceLeDiff, cat_r, cat_i, cat_l, nle_T, nle_F, nlt_T, nlt_F, neq_T, neq_F, k0, p0, y1, c155, c160, c153 hM, j3, hc]
  done
theorem c210b {d : Nat} {P : MP} {I : MI} {L : ML} {C : MC} {Q : QT} {x y : Int32} (hM : MB P) (hd : 6 ≤ d) (hx : x < 0 ∨ nI 3 ≤ x) : CT d 210 [.ref 150, .int x, .int y] P I L C Q = Q (.inl (some (.int (nI 0)))) P (xu I 150 4 (nI 1)) L C := by
  have k0 := hM.1.1
  rw [CT_e (mj := 210) (e := [.ref 150, .int x, .int y, UN, UN, UN]) (by omega) rfl (Nat.le_of_ble_eq_true rfl)]
  simp (disch := first | assumption | omega) only [Nat.reduceAdd, X_go, go2_some, stp, ldI, ldA, ldL, stI, stA, stL, o1I, o2I, o2L, brI, brII, gl, s1, s2, k1, sl, go_sN, go_sR, go_CT, go_sT, go_no, go_if, pops, bk_v, bk_0, d210_0, d210_1, d210_2, d210_5, d210_8, d210_9, d210_12, d210_15, d210_16, d210_19, d210_20, d210_23, d210_26, d210_27, d210_28, d210_29, d210_32, d210_33, d210_36, d210_38, d210_39, d210_40, d210_41, d210_42, d210_43, d210_45, d210_47, d210_50, d210_53, d210_54, d210_57, d210_59, d210_60, d210_61, d210_62, d210_63, d210_66, d210_67, d210_68, d210_71, d210_73, d210_76, d210_79, d210_80, d210_83, d210_85, d210_86, d210_87, d210_88, d210_89, d210_92, d210_93, d210_96, d210_97, d210_99, d210_100, d210_103, d210_105, d210_108, d210_110, d210_113, d210_114, n_lt, n_le, n_eq, n_lt0, n_ge0, n_gt0, n_le0, n_eq0, m_lt, m_le, m_gt, m_ge, m_eq, m_eq', m_lt0, m_ge0, m_gt0, m_le0, m_ltm, m_lem, n_in, m_in, n_cl, n_ti, n_div, n_rem', n_dec, n_l, nI_add, pk_mul, an0, an1, decide_eq_true_eq, if_true, if_false, ite_true, ite_false, and_true, true_and, and_false, false_and, not_true, not_false_iff, or_false, false_or, or_true, true_or, eq_self, va_some, Bool.false_eq_true, reduceIte, catS_n, catS_i, catS_r, catS_l, catS_d, Nat.zero_add, Nat.add_zero, decide_true, decide_false, Nat.reduceLeDiff, cat_r, cat_i, cat_l, nle_T, nle_F, nlt_T, nlt_F, neq_T, neq_F, k0, c155b, c153 hM]
  done
theorem c210c {d : Nat} {P : MP} {I : MI} {L : ML} {C : MC} {Q : QT} {t : Nat} {y : Int32} (hM : MB P) (hd : 6 ≤ d) (ht : t < 3) (hy : y < 0 ∨ nI 16 ≤ y) : CT d 210 [.ref 150, .int (nI t), .int y] P I L C Q = Q (.inl (some (.int (nI 0)))) P (xu I 150 4 (nI 1)) L C := by
  have k0 := hM.1.1
  rw [CT_e (mj := 210) (e := [.ref 150, .int (nI t), .int y, UN, UN, UN]) (by omega) rfl (Nat.le_of_ble_eq_true rfl)]
  simp (disch := first | assumption | omega) only [Nat.reduceAdd, X_go, go2_some, stp, ldI, ldA, ldL, stI, stA, stL, o1I, o2I, o2L, brI, brII, gl, s1, s2, k1, sl, go_sN, go_sR, go_CT, go_sT, go_no, go_if, pops, bk_v, bk_0, d210_0, d210_1, d210_2, d210_5, d210_8, d210_9, d210_12, d210_15, d210_16, d210_19, d210_20, d210_23, d210_26, d210_27, d210_28, d210_29, d210_32, d210_33, d210_36, d210_38, d210_39, d210_40, d210_41, d210_42, d210_43, d210_45, d210_47, d210_50, d210_53, d210_54, d210_57, d210_59, d210_60, d210_61, d210_62, d210_63, d210_66, d210_67, d210_68, d210_71, d210_73, d210_76, d210_79, d210_80, d210_83, d210_85, d210_86, d210_87, d210_88, d210_89, d210_92, d210_93, d210_96, d210_97, d210_99, d210_100, d210_103, d210_105, d210_108, d210_110, d210_113, d210_114, n_lt, n_le, n_eq, n_lt0, n_ge0, n_gt0, n_le0, n_eq0, m_lt, m_le, m_gt, m_ge, m_eq, m_eq', m_lt0, m_ge0, m_gt0, m_le0, m_ltm, m_lem, n_in, m_in, n_cl, n_ti, n_div, n_rem', n_dec, n_l, nI_add, pk_mul, an0, an1, decide_eq_true_eq, if_true, if_false, ite_true, ite_false, and_true, true_and, and_false, false_and, not_true, not_false_iff, or_false, false_or, or_true, true_or, eq_self, va_some, Bool.false_eq_true, reduceIte, catS_n, catS_i, catS_r, catS_l, catS_d, Nat.zero_add, Nat.add_zero, decide_true, decide_false, Nat.reduceLeDiff, cat_r, cat_i, cat_l, nle_T, nle_F, nlt_T, nlt_F, neq_T, neq_F, k0, c155, c160b, c153 hM]
  done
