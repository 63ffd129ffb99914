/-! THE MODEL: going on -/
theorem d202_0 : dec 202 0 = some (.iload 4, 2, []) := rfl
theorem d202_2 : dec 202 2 = some (.istore 10, 2, []) := rfl
theorem d202_4 : dec 202 4 = some (.iload 10, 2, []) := rfl
theorem d202_6 : dec 202 6 = some (.aload_n 0, 1, []) := rfl
theorem d202_7 : dec 202 7 = some (.getfield 7, 3, [1, 10, 0, 2, 0, 994]) := rfl
theorem d202_10 : dec 202 10 = some (.iconst 0, 1, [0]) := rfl
theorem d202_11 : dec 202 11 = some (.iload_n 1, 1, []) := rfl
theorem d202_12 : dec 202 12 = some (.iadd, 1, []) := rfl
theorem d202_13 : dec 202 13 = some (.iaload, 1, []) := rfl
theorem d202_14 : dec 202 14 = some (.if_icmp .ge 105, 3, [119]) := rfl
theorem d202_17 : dec 202 17 = some (.aload_n 0, 1, []) := rfl
theorem d202_18 : dec 202 18 = some (.aload_n 0, 1, []) := rfl
theorem d202_19 : dec 202 19 = some (.iload_n 1, 1, []) := rfl
theorem d202_20 : dec 202 20 = some (.iload 5, 2, []) := rfl
theorem d202_22 : dec 202 22 = some (.iload 6, 2, []) := rfl
theorem d202_24 : dec 202 24 = some (.iload 8, 2, []) := rfl
theorem d202_26 : dec 202 26 = some (.invokevirtual 127, 3, [2, 175, 2, 10, 0, 1163, 0, 0, 0, 0]) := rfl
theorem d202_29 : dec 202 29 = some (.iload 5, 2, []) := rfl
theorem d202_31 : dec 202 31 = some (.iload 6, 2, []) := rfl
theorem d202_33 : dec 202 33 = some (.invokevirtual 115, 3, [2, 176, 2, 10, 0, 1167, 0, 0, 0]) := rfl
theorem d202_36 : dec 202 36 = some (.istore 11, 2, []) := rfl
theorem d202_38 : dec 202 38 = some (.iload 11, 2, []) := rfl
theorem d202_40 : dec 202 40 = some (.iload_n 1, 1, []) := rfl
theorem d202_41 : dec 202 41 = some (.invokestatic 118, 3, [2, 177, 0, 10, 0, 1171, 0, 0]) := rfl
theorem d202_44 : dec 202 44 = some (.ifCond .eq 69, 3, [113]) := rfl
theorem d202_47 : dec 202 47 = some (.aload_n 0, 1, []) := rfl
theorem d202_48 : dec 202 48 = some (.getfield 41, 3, [1, 10, 13, 2, 0, 1007]) := rfl
theorem d202_51 : dec 202 51 = some (.aload_n 0, 1, []) := rfl
theorem d202_52 : dec 202 52 = some (.getfield 180, 3, [1, 10, 18, 0, 0, 1012]) := rfl
theorem d202_55 : dec 202 55 = some (.iload 5, 2, []) := rfl
theorem d202_57 : dec 202 57 = some (.iastore, 1, []) := rfl
theorem d202_58 : dec 202 58 = some (.aload_n 0, 1, []) := rfl
theorem d202_59 : dec 202 59 = some (.getfield 44, 3, [1, 10, 14, 2, 0, 1008]) := rfl
theorem d202_62 : dec 202 62 = some (.aload_n 0, 1, []) := rfl
theorem d202_63 : dec 202 63 = some (.getfield 180, 3, [1, 10, 18, 0, 0, 1012]) := rfl
theorem d202_66 : dec 202 66 = some (.iload 6, 2, []) := rfl
theorem d202_68 : dec 202 68 = some (.iastore, 1, []) := rfl
theorem d202_69 : dec 202 69 = some (.aload_n 0, 1, []) := rfl
theorem d202_70 : dec 202 70 = some (.getfield 47, 3, [1, 10, 15, 2, 0, 1009]) := rfl
theorem d202_73 : dec 202 73 = some (.aload_n 0, 1, []) := rfl
theorem d202_74 : dec 202 74 = some (.getfield 180, 3, [1, 10, 18, 0, 0, 1012]) := rfl
theorem d202_77 : dec 202 77 = some (.iload 7, 2, []) := rfl
theorem d202_79 : dec 202 79 = some (.iastore, 1, []) := rfl
theorem d202_80 : dec 202 80 = some (.aload_n 0, 1, []) := rfl
theorem d202_81 : dec 202 81 = some (.getfield 50, 3, [1, 10, 16, 2, 0, 1010]) := rfl
theorem d202_84 : dec 202 84 = some (.aload_n 0, 1, []) := rfl
theorem d202_85 : dec 202 85 = some (.getfield 180, 3, [1, 10, 18, 0, 0, 1012]) := rfl
theorem d202_88 : dec 202 88 = some (.iload 8, 2, []) := rfl
theorem d202_90 : dec 202 90 = some (.iastore, 1, []) := rfl
theorem d202_91 : dec 202 91 = some (.aload_n 0, 1, []) := rfl
theorem d202_92 : dec 202 92 = some (.getfield 53, 3, [1, 10, 17, 2, 0, 1011]) := rfl
theorem d202_95 : dec 202 95 = some (.aload_n 0, 1, []) := rfl
theorem d202_96 : dec 202 96 = some (.getfield 180, 3, [1, 10, 18, 0, 0, 1012]) := rfl
theorem d202_99 : dec 202 99 = some (.iload 9, 2, []) := rfl
theorem d202_101 : dec 202 101 = some (.iastore, 1, []) := rfl
theorem d202_102 : dec 202 102 = some (.aload_n 0, 1, []) := rfl
theorem d202_103 : dec 202 103 = some (.iload_n 1, 1, []) := rfl
theorem d202_104 : dec 202 104 = some (.iload 11, 2, []) := rfl
theorem d202_106 : dec 202 106 = some (.lload_n 2, 1, []) := rfl
theorem d202_107 : dec 202 107 = some (.iload 10, 2, []) := rfl
theorem d202_109 : dec 202 109 = some (.invokevirtual 183, 3, [2, 203, 2, 10, 0, 1279, 0, 1, 0, 0]) := rfl
theorem d202_112 : dec 202 112 = some (.return_, 1, []) := rfl
theorem d202_113 : dec 202 113 = some (.iinc 10 1, 3, [1]) := rfl
theorem d202_116 : dec 202 116 = some (.goto (-112), 3, [4]) := rfl
theorem d202_119 : dec 202 119 = some (.iconst 0, 1, [0]) := rfl
theorem d202_120 : dec 202 120 = some (.istore 10, 2, []) := rfl
theorem d202_122 : dec 202 122 = some (.iload 10, 2, []) := rfl
theorem d202_124 : dec 202 124 = some (.bipush 16, 2, [16]) := rfl
theorem d202_126 : dec 202 126 = some (.if_icmp .ge 35, 3, [161]) := rfl
theorem d202_129 : dec 202 129 = some (.aload_n 0, 1, []) := rfl
theorem d202_130 : dec 202 130 = some (.getfield 56, 3, [1, 10, 19, 2, 0, 1013]) := rfl
theorem d202_133 : dec 202 133 = some (.iload 10, 2, []) := rfl
theorem d202_135 : dec 202 135 = some (.dup2, 1, []) := rfl
theorem d202_136 : dec 202 136 = some (.laload, 1, []) := rfl
theorem d202_137 : dec 202 137 = some (.iload 7, 2, []) := rfl
theorem d202_139 : dec 202 139 = some (.iload 10, 2, []) := rfl
theorem d202_141 : dec 202 141 = some (.ishr, 1, []) := rfl
theorem d202_142 : dec 202 142 = some (.iconst 1, 1, [1]) := rfl
theorem d202_143 : dec 202 143 = some (.iand, 1, []) := rfl
theorem d202_144 : dec 202 144 = some (.iconst 1, 1, [1]) := rfl
theorem d202_145 : dec 202 145 = some (.if_icmp .ne 7, 3, [152]) := rfl
theorem d202_148 : dec 202 148 = some (.lload_n 2, 1, []) := rfl
theorem d202_149 : dec 202 149 = some (.goto 4, 3, [153]) := rfl
theorem d202_152 : dec 202 152 = some (.lconst 0, 1, [0]) := rfl
theorem d202_153 : dec 202 153 = some (.ladd, 1, []) := rfl
theorem d202_154 : dec 202 154 = some (.lastore, 1, []) := rfl
theorem d202_155 : dec 202 155 = some (.iinc 10 1, 3, [1]) := rfl
theorem d202_158 : dec 202 158 = some (.goto (-36), 3, [122]) := rfl
theorem d202_161 : dec 202 161 = some (.iconst 0, 1, [0]) := rfl
theorem d202_162 : dec 202 162 = some (.istore 10, 2, []) := rfl
theorem d202_164 : dec 202 164 = some (.iload 10, 2, []) := rfl
theorem d202_166 : dec 202 166 = some (.iload 8, 2, []) := rfl
theorem d202_168 : dec 202 168 = some (.if_icmp .gt 20, 3, [188]) := rfl
theorem d202_171 : dec 202 171 = some (.aload_n 0, 1, []) := rfl
theorem d202_172 : dec 202 172 = some (.getfield 59, 3, [1, 10, 20, 2, 0, 1014]) := rfl
theorem d202_175 : dec 202 175 = some (.iload 10, 2, []) := rfl
theorem d202_177 : dec 202 177 = some (.dup2, 1, []) := rfl
theorem d202_178 : dec 202 178 = some (.laload, 1, []) := rfl
theorem d202_179 : dec 202 179 = some (.lload_n 2, 1, []) := rfl
theorem d202_180 : dec 202 180 = some (.ladd, 1, []) := rfl
theorem d202_181 : dec 202 181 = some (.lastore, 1, []) := rfl
theorem d202_182 : dec 202 182 = some (.iinc 10 1, 3, [1]) := rfl
theorem d202_185 : dec 202 185 = some (.goto (-21), 3, [164]) := rfl
theorem d202_188 : dec 202 188 = some (.aload_n 0, 1, []) := rfl
theorem d202_189 : dec 202 189 = some (.dup, 1, []) := rfl
theorem d202_190 : dec 202 190 = some (.getfield 187, 3, [1, 10, 21, 1, 0, 1015]) := rfl
theorem d202_193 : dec 202 193 = some (.lload_n 2, 1, []) := rfl
theorem d202_194 : dec 202 194 = some (.iload 9, 2, []) := rfl
theorem d202_196 : dec 202 196 = some (.i2l, 1, []) := rfl
theorem d202_197 : dec 202 197 = some (.lmul, 1, []) := rfl
theorem d202_198 : dec 202 198 = some (.ladd, 1, []) := rfl
theorem d202_199 : dec 202 199 = some (.putfield 187, 3, [1, 10, 21, 1, 0, 1015]) := rfl
theorem d202_202 : dec 202 202 = some (.return_, 1, []) := rfl
theorem l202 : mL 202 = 12 := rfl
theorem e202a {d : Nat} {P : MP} {I : MI} {C : MC} {Q : QT} {top s mn : Nat} {k0' xs ys its x8 : Int32} {u11 : Value} (hM : MB P) (hd : 1 ≤ d) : ∀ m i (L : ML) (R : Nat → Int64), i + m = 16 → X d 202 122 [.ref 150, .int (nI top), .long (lN s), UN, .int k0', .int xs, .int ys, .int its, .int x8, .int (nI mn), .int (nI i), u11] [] P I (xr L 166 R) C Q = X d 202 161 [.ref 150, .int (nI top), .long (lN s), UN, .int k0', .int xs, .int ys, .int its, .int x8, .int (nI mn), .int (nI 16), u11] [] P I (xr L 166 (fun j => if i ≤ j ∧ j < 16 then R j + (if bt its j = true then lN s else lN 0) else R j)) C Q := by
  obtain ⟨⟨k0, _⟩, _, _, r19, r20, r24, s19, s20, s24⟩ := hM
  intro m
  induction m with
  | zero =>
    intro i L R h
    have : i = 16 := by omega
    subst this
    have e : (fun j => if 16 ≤ j ∧ j < 16 then R j + (if bt its j = true then lN s else lN 0) else R j) = R := funext fun j => if_neg (by omega)
    rw [e, X_go, d202_122]
    simp (disch := first | assumption | omega) only [Nat.reduceAdd, X_go, go2_some, stp, ldI, ldA, ldL, stI, stA, stL, o1I, o2I, o2L, brI, brII, gl, s1, s2, k1, sl, go_sN, go_sR, go_CT, go_sT, go_no, go_if, pops, bk_v, bk_0, d202_0, d202_2, d202_4, d202_6, d202_7, d202_10, d202_11, d202_12, d202_13, d202_14, d202_17, d202_18, d202_19, d202_20, d202_22, d202_24, d202_26, d202_29, d202_31, d202_33, d202_36, d202_38, d202_40, d202_41, d202_44, d202_47, d202_48, d202_51, d202_52, d202_55, d202_57, d202_58, d202_59, d202_62, d202_63, d202_66, d202_68, d202_69, d202_70, d202_73, d202_74, d202_77, d202_79, d202_80, d202_81, d202_84, d202_85, d202_88, d202_90, d202_91, d202_92, d202_95, d202_96, d202_99, d202_101, d202_102, d202_103, d202_104, d202_106, d202_107, d202_109, d202_112, d202_113, d202_116, d202_119, d202_120, d202_124, d202_126, d202_129, d202_130, d202_133, d202_135, d202_136, d202_137, d202_139, d202_141, d202_142, d202_143, d202_144, d202_145, d202_148, d202_149, d202_152, d202_153, d202_154, d202_155, d202_158, d202_162, d202_164, d202_166, d202_168, d202_171, d202_172, d202_175, d202_177, d202_178, d202_179, d202_180, d202_181, d202_182, d202_185, d202_188, d202_189, d202_190, d202_193, d202_194, d202_196, d202_197, d202_198, d202_199, d202_202, n_lt, n_le, n_eq, n_lt0, n_ge0, n_gt0, n_le0, n_eq0, m_lt, m_le, m_gt, m_ge, m_eq, m_eq', m_lt0, m_ge0, m_gt0, m_le0, m_ltm, m_lem, n_in, m_in, n_cl, n_ti, n_div, n_rem', n_dec, n_l, nI_add, pk_mul, an0, an1, decide_eq_true_eq, if_true, if_false, ite_true, ite_false, and_true, true_and, and_false, false_and, not_true, not_false_iff, or_false, false_or, or_true, true_or, eq_self, va_some, Bool.false_eq_true, reduceIte, catS_n, catS_i, catS_r, catS_l, catS_d, Nat.zero_add, Nat.add_zero, decide_true, decide_false, Nat.reduceLeDiff, cat_r, cat_i, cat_l, nle_T, nle_F, nlt_T, nlt_F, neq_T, neq_F]
  | succ m ih =>
    intro i L R h
    have ht1 := b_tst (x := its) (n := i) (by omega)
    have e : (fun j => if i + 1 ≤ j ∧ j < 16 then (fun i' => if i' = i then R i + (if bt its i = true then lN s else lN 0) else R i') j + (if bt its j = true then lN s else lN 0) else (fun i' => if i' = i then R i + (if bt its i = true then lN s else lN 0) else R i') j) = (fun j => if i ≤ j ∧ j < 16 then R j + (if bt its j = true then lN s else lN 0) else R j) := by
      funext j
      dsimp only
      by_cases z : i + 1 ≤ j ∧ j < 16
      · rw [if_pos z, if_neg (show ¬ j = i by omega), if_pos (show i ≤ j ∧ j < 16 by omega)]
      · rw [if_neg z]
        by_cases y : j = i
        · subst y
          rw [if_pos rfl, if_pos (show j ≤ j ∧ j < 16 by omega)]
        · rw [if_neg y, if_neg (show ¬ (i ≤ j ∧ j < 16) by omega)]
    rw [← e, ← ih (i + 1) L (fun i' => if i' = i then R i + (if bt its i = true then lN s else lN 0) else R i') (by omega), X_go, d202_122]
    cases hb : bt its i
    · rw [hb] at ht1
      simp (disch := first | assumption | omega) only [Nat.reduceAdd, X_go, go2_some, stp, ldI, ldA, ldL, stI, stA, stL, o1I, o2I, o2L, brI, brII, gl, s1, s2, k1, sl, go_sN, go_sR, go_CT, go_sT, go_no, go_if, pops, bk_v, bk_0, d202_0, d202_2, d202_4, d202_6, d202_7, d202_10, d202_11, d202_12, d202_13, d202_14, d202_17, d202_18, d202_19, d202_20, d202_22, d202_24, d202_26, d202_29, d202_31, d202_33, d202_36, d202_38, d202_40, d202_41, d202_44, d202_47, d202_48, d202_51, d202_52, d202_55, d202_57, d202_58, d202_59, d202_62, d202_63, d202_66, d202_68, d202_69, d202_70, d202_73, d202_74, d202_77, d202_79, d202_80, d202_81, d202_84, d202_85, d202_88, d202_90, d202_91, d202_92, d202_95, d202_96, d202_99, d202_101, d202_102, d202_103, d202_104, d202_106, d202_107, d202_109, d202_112, d202_113, d202_116, d202_119, d202_120, d202_124, d202_126, d202_129, d202_130, d202_133, d202_135, d202_136, d202_137, d202_139, d202_141, d202_142, d202_143, d202_144, d202_145, d202_148, d202_149, d202_152, d202_153, d202_154, d202_155, d202_158, d202_162, d202_164, d202_166, d202_168, d202_171, d202_172, d202_175, d202_177, d202_178, d202_179, d202_180, d202_181, d202_182, d202_185, d202_188, d202_189, d202_190, d202_193, d202_194, d202_196, d202_197, d202_198, d202_199, d202_202, n_lt, n_le, n_eq, n_lt0, n_ge0, n_gt0, n_le0, n_eq0, m_lt, m_le, m_gt, m_ge, m_eq, m_eq', m_lt0, m_ge0, m_gt0, m_le0, m_ltm, m_lem, n_in, m_in, n_cl, n_ti, n_div, n_rem', n_dec, n_l, nI_add, pk_mul, an0, an1, decide_eq_true_eq, if_true, if_false, ite_true, ite_false, and_true, true_and, and_false, false_and, not_true, not_false_iff, or_false, false_or, or_true, true_or, eq_self, va_some, Bool.false_eq_true, reduceIte, catS_n, catS_i, catS_r, catS_l, catS_d, Nat.zero_add, Nat.add_zero, decide_true, decide_false, Nat.reduceLeDiff, cat_r, cat_i, cat_l, nle_T, nle_F, nlt_T, nlt_F, neq_T, neq_F, k0, r19, s19, ht1, xr_s, xu_xr]
      done
    · rw [hb] at ht1
      simp (disch := first | assumption | omega) only [Nat.reduceAdd, X_go, go2_some, stp, ldI, ldA, ldL, stI, stA, stL, o1I, o2I, o2L, brI, brII, gl, s1, s2, k1, sl, go_sN, go_sR, go_CT, go_sT, go_no, go_if, pops, bk_v, bk_0, d202_0, d202_2, d202_4, d202_6, d202_7, d202_10, d202_11, d202_12, d202_13, d202_14, d202_17, d202_18, d202_19, d202_20, d202_22, d202_24, d202_26, d202_29, d202_31, d202_33, d202_36, d202_38, d202_40, d202_41, d202_44, d202_47, d202_48, d202_51, d202_52, d202_55, d202_57, d202_58, d202_59, d202_62, d202_63, d202_66, d202_68, d202_69, d202_70, d202_73, d202_74, d202_77, d202_79, d202_80, d202_81, d202_84, d202_85, d202_88, d202_90, d202_91, d202_92, d202_95, d202_96, d202_99, d202_101, d202_102, d202_103, d202_104, d202_106, d202_107, d202_109, d202_112, d202_113, d202_116, d202_119, d202_120, d202_124, d202_126, d202_129, d202_130, d202_133, d202_135, d202_136, d202_137, d202_139, d202_141, d202_142, d202_143, d202_144, d202_145, d202_148, d202_149, d202_152, d202_153, d202_154, d202_155, d202_158, d202_162, d202_164, d202_166, d202_168, d202_171, d202_172, d202_175, d202_177, d202_178, d202_179, d202_180, d202_181, d202_182, d202_185, d202_188, d202_189, d202_190, d202_193, d202_194, d202_196, d202_197, d202_198, d202_199, d202_202, n_lt, n_le, n_eq, n_lt0, n_ge0, n_gt0, n_le0, n_eq0, m_lt, m_le, m_gt, m_ge, m_eq, m_eq', m_lt0, m_ge0, m_gt0, m_le0, m_ltm, m_lem, n_in, m_in, n_cl, n_ti, n_div, n_rem', n_dec, n_l, nI_add, pk_mul, an0, an1, decide_eq_true_eq, if_true, if_false, ite_true, ite_false, and_true, true_and, and_false, false_and, not_true, not_false_iff, or_false, false_or, or_true, true_or, eq_self, va_some, Bool.false_eq_true, reduceIte, catS_n, catS_i, catS_r, catS_l, catS_d, Nat.zero_add, Nat.add_zero, decide_true, decide_false, Nat.reduceLeDiff, cat_r, cat_i, cat_l, nle_T, nle_F, nlt_T, nlt_F, neq_T, neq_F, k0, r19, s19, ht1, xr_s, xu_xr]
      done
theorem e202b {d : Nat} {P : MP} {I : MI} {C : MC} {Q : QT} {top s mn fd : Nat} {k0' xs ys its : Int32} {u11 : Value} (hM : MB P) (hd : 1 ≤ d) (hf : fd ≤ 4) : ∀ m i (L : ML) (R : Nat → Int64), i + m = fd → X d 202 164 [.ref 150, .int (nI top), .long (lN s), UN, .int k0', .int xs, .int ys, .int its, .int (fI fd), .int (nI mn), .int (nI i), u11] [] P I (xr L 167 R) C Q = X d 202 188 [.ref 150, .int (nI top), .long (lN s), UN, .int k0', .int xs, .int ys, .int its, .int (fI fd), .int (nI mn), .int (nI fd), u11] [] P I (xr L 167 (fun j => if i ≤ j ∧ j < fd then R j + lN s else R j)) C Q := by
  obtain ⟨⟨k0, _⟩, _, _, r19, r20, r24, s19, s20, s24⟩ := hM
  intro m
  induction m with
  | zero =>
    intro i L R h
    have : i = fd := by omega
    subst this
    have hlt : (fI i < nI i) = True := by rw [fI_lt (by omega) (by omega)]; exact eq_true (Nat.le_refl i)
    have e : (fun j => if i ≤ j ∧ j < i then R j + lN s else R j) = R := funext fun j => if_neg (by omega)
    rw [e, X_go, d202_164]
    simp (disch := first | assumption | omega) only [Nat.reduceAdd, X_go, go2_some, stp, ldI, ldA, ldL, stI, stA, stL, o1I, o2I, o2L, brI, brII, gl, s1, s2, k1, sl, go_sN, go_sR, go_CT, go_sT, go_no, go_if, pops, bk_v, bk_0, d202_0, d202_2, d202_4, d202_6, d202_7, d202_10, d202_11, d202_12, d202_13, d202_14, d202_17, d202_18, d202_19, d202_20, d202_22, d202_24, d202_26, d202_29, d202_31, d202_33, d202_36, d202_38, d202_40, d202_41, d202_44, d202_47, d202_48, d202_51, d202_52, d202_55, d202_57, d202_58, d202_59, d202_62, d202_63, d202_66, d202_68, d202_69, d202_70, d202_73, d202_74, d202_77, d202_79, d202_80, d202_81, d202_84, d202_85, d202_88, d202_90, d202_91, d202_92, d202_95, d202_96, d202_99, d202_101, d202_102, d202_103, d202_104, d202_106, d202_107, d202_109, d202_112, d202_113, d202_116, d202_119, d202_120, d202_122, d202_124, d202_126, d202_129, d202_130, d202_133, d202_135, d202_136, d202_137, d202_139, d202_141, d202_142, d202_143, d202_144, d202_145, d202_148, d202_149, d202_152, d202_153, d202_154, d202_155, d202_158, d202_161, d202_162, d202_166, d202_168, d202_171, d202_172, d202_175, d202_177, d202_178, d202_179, d202_180, d202_181, d202_182, d202_185, d202_189, d202_190, d202_193, d202_194, d202_196, d202_197, d202_198, d202_199, d202_202, n_lt, n_le, n_eq, n_lt0, n_ge0, n_gt0, n_le0, n_eq0, m_lt, m_le, m_gt, m_ge, m_eq, m_eq', m_lt0, m_ge0, m_gt0, m_le0, m_ltm, m_lem, n_in, m_in, n_cl, n_ti, n_div, n_rem', n_dec, n_l, nI_add, pk_mul, an0, an1, decide_eq_true_eq, if_true, if_false, ite_true, ite_false, and_true, true_and, and_false, false_and, not_true, not_false_iff, or_false, false_or, or_true, true_or, eq_self, va_some, Bool.false_eq_true, reduceIte, catS_n, catS_i, catS_r, catS_l, catS_d, Nat.zero_add, Nat.add_zero, decide_true, decide_false, Nat.reduceLeDiff, cat_r, cat_i, cat_l, nle_T, nle_F, nlt_T, nlt_F, neq_T, neq_F, hlt]
  | succ m ih =>
    intro i L R h
    have hlt : (fI fd < nI i) = False := by rw [fI_lt (by omega) (by omega)]; exact eq_false (by omega)
    have e : (fun j => if i + 1 ≤ j ∧ j < fd then (fun i' => if i' = i then R i + lN s else R i') j + lN s else (fun i' => if i' = i then R i + lN s else R i') j) = (fun j => if i ≤ j ∧ j < fd then R j + lN s else R j) := by
      funext j
      dsimp only
      by_cases z : i + 1 ≤ j ∧ j < fd
      · rw [if_pos z, if_neg (by omega), if_pos (by omega)]
      · rw [if_neg z]
        by_cases y : j = i
        · subst y
          rw [if_pos rfl, if_pos (by omega)]
        · rw [if_neg y, if_neg (by omega)]
    rw [← e, ← ih (i + 1) L (fun i' => if i' = i then R i + lN s else R i') (by omega), X_go, d202_164]
    simp (disch := first | assumption | omega) only [Nat.reduceAdd, X_go, go2_some, stp, ldI, ldA, ldL, stI, stA, stL, o1I, o2I, o2L, brI, brII, gl, s1, s2, k1, sl, go_sN, go_sR, go_CT, go_sT, go_no, go_if, pops, bk_v, bk_0, d202_0, d202_2, d202_4, d202_6, d202_7, d202_10, d202_11, d202_12, d202_13, d202_14, d202_17, d202_18, d202_19, d202_20, d202_22, d202_24, d202_26, d202_29, d202_31, d202_33, d202_36, d202_38, d202_40, d202_41, d202_44, d202_47, d202_48, d202_51, d202_52, d202_55, d202_57, d202_58, d202_59, d202_62, d202_63, d202_66, d202_68, d202_69, d202_70, d202_73, d202_74, d202_77, d202_79, d202_80, d202_81, d202_84, d202_85, d202_88, d202_90, d202_91, d202_92, d202_95, d202_96, d202_99, d202_101, d202_102, d202_103, d202_104, d202_106, d202_107, d202_109, d202_112, d202_113, d202_116, d202_119, d202_120, d202_122, d202_124, d202_126, d202_129, d202_130, d202_133, d202_135, d202_136, d202_137, d202_139, d202_141, d202_142, d202_143, d202_144, d202_145, d202_148, d202_149, d202_152, d202_153, d202_154, d202_155, d202_158, d202_161, d202_162, d202_166, d202_168, d202_171, d202_172, d202_175, d202_177, d202_178, d202_179, d202_180, d202_181, d202_182, d202_185, d202_189, d202_190, d202_193, d202_194, d202_196, d202_197, d202_198, d202_199, d202_202, n_lt, n_le, n_eq, n_lt0, n_ge0, n_gt0, n_le0, n_eq0, m_lt, m_le, m_gt, m_ge, m_eq, m_eq', m_lt0, m_ge0, m_gt0, m_le0, m_ltm, m_lem, n_in, m_in, n_cl, n_ti, n_div, n_rem', n_dec, n_l, nI_add, pk_mul, an0, an1, decide_eq_true_eq, if_true, if_false, ite_true, ite_false, and_true, true_and, and_false, false_and, not_true, not_false_iff, or_false, false_or, or_true, true_or, eq_self, va_some, Bool.false_eq_true, reduceIte, catS_n, catS_i, catS_r, catS_l, catS_d, Nat.zero_add, Nat.add_zero, decide_true, decide_false, Nat.reduceLeDiff, cat_r, cat_i, cat_l, nle_T, nle_F, nlt_T, nlt_F, neq_T, neq_F, k0, r20, s20, hlt, xr_s, xu_xr]
    done
theorem e202 {d : Nat} {P : MP} {I : MI} {L : ML} {C : MC} {top s mn fd n w0 w1 : Nat} {k0' xs ys its : Int32} {u10 u11 : Value} (hM : MB P) (hd : 1 ≤ d) (hf : fd ≤ 4) (hit : ItR its n w0 w1) (hmn : mn = mnV n w0 w1) (h0 : w0 ≤ 16) (h1 : w1 ≤ 16) : ∃ L', (∀ k j, L' k j = L k j + dM (TM (endV n w0 w1 fd s)) k j) ∧ ∀ Q, X d 202 119 [.ref 150, .int (nI top), .long (lN s), UN, .int k0', .int xs, .int ys, .int its, .int (fI fd), .int (nI mn), u10, u11] [] P I L C Q = Q (.inl none) P I L' C := by
  have hM' := hM
  obtain ⟨⟨k0, _⟩, _, _, r19, r20, r24, s19, s20, s24⟩ := hM'
  have hb := mnV_b (k := n) (w0 := w0) (w1 := w1)
  obtain ⟨L1, hL1⟩ : ∃ L1, L1 = xr L 166 (fun j => if 0 ≤ j ∧ j < 16 then L 166 j + (if bt its j = true then lN s else lN 0) else L 166 j) := ⟨_, rfl⟩
  obtain ⟨L2, hL2⟩ : ∃ L2, L2 = xr L1 167 (fun j => if 0 ≤ j ∧ j < fd then L1 167 j + lN s else L1 167 j) := ⟨_, rfl⟩
  refine ⟨xu L2 150 21 (L2 150 21 + lN (s * mn)), fun k j => ?_, fun Q => ?_⟩
  · have te := TM_end (s := s) hit hmn h0 h1 hf
    have h150 : L2 150 = L 150 := by rw [hL2, xr_n _ _ (by omega), hL1, xr_n _ _ (by omega)]
    unfold dM
    by_cases a : k = 150 ∧ j = 21
    · rw [if_neg (by omega), if_neg (by omega), if_pos a, a.1, a.2, xu_s, te 20 (by omega), h150]
      rfl
    · rw [xu_n _ _ (by omega), if_neg (show ¬ (k = 150 ∧ j = 21) from a)]
      by_cases b : k = 166
      · subst b
        have e2 : L2 166 = L1 166 := by rw [hL2]; exact xr_n _ _ (by omega)
        rw [e2, hL1, xr_s]
        by_cases c : j < 16
        · rw [if_pos (show 0 ≤ j ∧ j < 16 from ⟨Nat.zero_le j, c⟩), if_pos (show 166 = 166 ∧ j < 16 from ⟨rfl, c⟩), te j (by omega)]
          unfold eM
          rw [if_pos c]
        · rw [if_neg (show ¬ (0 ≤ j ∧ j < 16) from fun q => c q.2), if_neg (show ¬ (166 = 166 ∧ j < 16) from fun q => c q.2), if_neg (show ¬ (166 = 167 ∧ j < 4) by omega), Int64.add_zero]
      · have e1 : L1 k = L k := by rw [hL1]; exact xr_n _ _ b
        rw [if_neg (fun q => b q.1)]
        by_cases c : k = 167
        · subst c
          rw [hL2, xr_s]
          rw [e1]
          by_cases c4 : j < 4
          · rw [if_pos (show (167 = 167 ∧ j < 4) from ⟨rfl, c4⟩), te (16 + j) (by omega)]
            unfold eM
            rw [if_neg (show ¬ 16 + j < 16 by omega), if_pos (show 16 + j < 20 by omega), show 16 + j - 16 = j by omega]
            by_cases cf : j < fd
            · rw [if_pos ⟨Nat.zero_le j, cf⟩, if_pos cf]
            · rw [if_neg (fun q => cf q.2), if_neg cf]
              exact (Int64.add_zero _).symm
          · rw [if_neg (show ¬ (0 ≤ j ∧ j < fd) by omega), if_neg (show ¬ (167 = 167 ∧ j < 4) by omega), Int64.add_zero]
        · have e2 : L2 k = L1 k := by rw [hL2]; exact xr_n _ _ c
          rw [e2, e1, if_neg (fun q => c q.1), Int64.add_zero]
  · have ha := e202a (d := d) (I := I) (C := C) (Q := Q) (top := top) (s := s) (mn := mn) (k0' := k0') (xs := xs) (ys := ys) (its := its) (x8 := fI fd) (u11 := u11) hM hd 16 0 L (L 166) (by omega)
    rw [xr_id, ← hL1] at ha
    have hbb := e202b (d := d) (I := I) (C := C) (Q := Q) (top := top) (s := s) (mn := mn) (k0' := k0') (xs := xs) (ys := ys) (its := its) (u11 := u11) hM hd hf fd 0 L1 (L1 167) (by omega)
    rw [xr_id, ← hL2] at hbb
    rw [X_go, d202_119]
    simp (disch := first | assumption | omega) only [Nat.reduceAdd, X_go, go2_some, stp, ldI, ldA, ldL, stI, stA, stL, o1I, o2I, o2L, brI, brII, gl, s1, s2, k1, sl, go_sN, go_sR, go_CT, go_sT, go_no, go_if, pops, bk_v, bk_0, d202_0, d202_2, d202_4, d202_6, d202_7, d202_10, d202_11, d202_12, d202_13, d202_14, d202_17, d202_18, d202_19, d202_20, d202_22, d202_24, d202_26, d202_29, d202_31, d202_33, d202_36, d202_38, d202_40, d202_41, d202_44, d202_47, d202_48, d202_51, d202_52, d202_55, d202_57, d202_58, d202_59, d202_62, d202_63, d202_66, d202_68, d202_69, d202_70, d202_73, d202_74, d202_77, d202_79, d202_80, d202_81, d202_84, d202_85, d202_88, d202_90, d202_91, d202_92, d202_95, d202_96, d202_99, d202_101, d202_102, d202_103, d202_104, d202_106, d202_107, d202_109, d202_112, d202_113, d202_116, d202_119, d202_120, d202_124, d202_126, d202_129, d202_130, d202_133, d202_135, d202_136, d202_137, d202_139, d202_141, d202_142, d202_143, d202_144, d202_145, d202_148, d202_149, d202_152, d202_153, d202_154, d202_155, d202_158, d202_162, d202_166, d202_168, d202_171, d202_172, d202_175, d202_177, d202_178, d202_179, d202_180, d202_181, d202_182, d202_185, d202_189, d202_190, d202_193, d202_194, d202_196, d202_197, d202_198, d202_199, d202_202, n_lt, n_le, n_eq, n_lt0, n_ge0, n_gt0, n_le0, n_eq0, m_lt, m_le, m_gt, m_ge, m_eq, m_eq', m_lt0, m_ge0, m_gt0, m_le0, m_ltm, m_lem, n_in, m_in, n_cl, n_ti, n_div, n_rem', n_dec, n_l, nI_add, pk_mul, an0, an1, decide_eq_true_eq, if_true, if_false, ite_true, ite_false, and_true, true_and, and_false, false_and, not_true, not_false_iff, or_false, false_or, or_true, true_or, eq_self, va_some, Bool.false_eq_true, reduceIte, catS_n, catS_i, catS_r, catS_l, catS_d, Nat.zero_add, Nat.add_zero, decide_true, decide_false, Nat.reduceLeDiff, cat_r, cat_i, cat_l, nle_T, nle_F, nlt_T, nlt_F, neq_T, neq_F]
    simp only [← X_go]
    rw [ha, X_go, d202_161]
    simp (disch := first | assumption | omega) only [Nat.reduceAdd, X_go, go2_some, stp, ldI, ldA, ldL, stI, stA, stL, o1I, o2I, o2L, brI, brII, gl, s1, s2, k1, sl, go_sN, go_sR, go_CT, go_sT, go_no, go_if, pops, bk_v, bk_0, d202_0, d202_2, d202_4, d202_6, d202_7, d202_10, d202_11, d202_12, d202_13, d202_14, d202_17, d202_18, d202_19, d202_20, d202_22, d202_24, d202_26, d202_29, d202_31, d202_33, d202_36, d202_38, d202_40, d202_41, d202_44, d202_47, d202_48, d202_51, d202_52, d202_55, d202_57, d202_58, d202_59, d202_62, d202_63, d202_66, d202_68, d202_69, d202_70, d202_73, d202_74, d202_77, d202_79, d202_80, d202_81, d202_84, d202_85, d202_88, d202_90, d202_91, d202_92, d202_95, d202_96, d202_99, d202_101, d202_102, d202_103, d202_104, d202_106, d202_107, d202_109, d202_112, d202_113, d202_116, d202_119, d202_120, d202_124, d202_126, d202_129, d202_130, d202_133, d202_135, d202_136, d202_137, d202_139, d202_141, d202_142, d202_143, d202_144, d202_145, d202_148, d202_149, d202_152, d202_153, d202_154, d202_155, d202_158, d202_162, d202_166, d202_168, d202_171, d202_172, d202_175, d202_177, d202_178, d202_179, d202_180, d202_181, d202_182, d202_185, d202_189, d202_190, d202_193, d202_194, d202_196, d202_197, d202_198, d202_199, d202_202, n_lt, n_le, n_eq, n_lt0, n_ge0, n_gt0, n_le0, n_eq0, m_lt, m_le, m_gt, m_ge, m_eq, m_eq', m_lt0, m_ge0, m_gt0, m_le0, m_ltm, m_lem, n_in, m_in, n_cl, n_ti, n_div, n_rem', n_dec, n_l, nI_add, pk_mul, an0, an1, decide_eq_true_eq, if_true, if_false, ite_true, ite_false, and_true, true_and, and_false, false_and, not_true, not_false_iff, or_false, false_or, or_true, true_or, eq_self, va_some, Bool.false_eq_true, reduceIte, catS_n, catS_i, catS_r, catS_l, catS_d, Nat.zero_add, Nat.add_zero, decide_true, decide_false, Nat.reduceLeDiff, cat_r, cat_i, cat_l, nle_T, nle_F, nlt_T, nlt_F, neq_T, neq_F]
    simp only [← X_go]
    rw [hbb, X_go, d202_188]
    simp (disch := first | assumption | omega) only [Nat.reduceAdd, X_go, go2_some, stp, ldI, ldA, ldL, stI, stA, stL, o1I, o2I, o2L, brI, brII, gl, s1, s2, k1, sl, go_sN, go_sR, go_CT, go_sT, go_no, go_if, pops, bk_v, bk_0, d202_0, d202_2, d202_4, d202_6, d202_7, d202_10, d202_11, d202_12, d202_13, d202_14, d202_17, d202_18, d202_19, d202_20, d202_22, d202_24, d202_26, d202_29, d202_31, d202_33, d202_36, d202_38, d202_40, d202_41, d202_44, d202_47, d202_48, d202_51, d202_52, d202_55, d202_57, d202_58, d202_59, d202_62, d202_63, d202_66, d202_68, d202_69, d202_70, d202_73, d202_74, d202_77, d202_79, d202_80, d202_81, d202_84, d202_85, d202_88, d202_90, d202_91, d202_92, d202_95, d202_96, d202_99, d202_101, d202_102, d202_103, d202_104, d202_106, d202_107, d202_109, d202_112, d202_113, d202_116, d202_119, d202_120, d202_124, d202_126, d202_129, d202_130, d202_133, d202_135, d202_136, d202_137, d202_139, d202_141, d202_142, d202_143, d202_144, d202_145, d202_148, d202_149, d202_152, d202_153, d202_154, d202_155, d202_158, d202_162, d202_166, d202_168, d202_171, d202_172, d202_175, d202_177, d202_178, d202_179, d202_180, d202_181, d202_182, d202_185, d202_189, d202_190, d202_193, d202_194, d202_196, d202_197, d202_198, d202_199, d202_202, n_lt, n_le, n_eq, n_lt0, n_ge0, n_gt0, n_le0, n_eq0, m_lt, m_le, m_gt, m_ge, m_eq, m_eq', m_lt0, m_ge0, m_gt0, m_le0, m_ltm, m_lem, n_in, m_in, n_cl, n_ti, n_div, n_rem', n_dec, n_l, nI_add, pk_mul, an0, an1, decide_eq_true_eq, if_true, if_false, ite_true, ite_false, and_true, true_and, and_false, false_and, not_true, not_false_iff, or_false, false_or, or_true, true_or, eq_self, va_some, Bool.false_eq_true, reduceIte, catS_n, catS_i, catS_r, catS_l, catS_d, Nat.zero_add, Nat.add_zero, decide_true, decide_false, Nat.reduceLeDiff, cat_r, cat_i, cat_l, nle_T, nle_F, nlt_T, nlt_F, neq_T, neq_F, k0, lN_mul]
    done
