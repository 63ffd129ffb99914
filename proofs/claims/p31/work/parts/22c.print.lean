/-! THE LAW: print, a number that the state alone decides -/
theorem e152_0 : dek 152 0 = some (.ldc2_w 99, 3, [9, 97, 424]) := rfl
theorem e152_3 : dek 152 3 = some (.lstore_n 1, 1, []) := rfl
theorem e152_4 : dek 152 4 = some (.iconst 0, 1, [0]) := rfl
theorem e152_5 : dek 152 5 = some (.istore_n 3, 1, []) := rfl
theorem e152_6 : dek 152 6 = some (.iload_n 3, 1, []) := rfl
theorem e152_7 : dek 152 7 = some (.bipush 8, 2, [8]) := rfl
theorem e152_9 : dek 152 9 = some (.if_icmp .ge 22, 3, [31]) := rfl
theorem e152_12 : dek 152 12 = some (.ldc2_w 101, 3, [9, 31, 425]) := rfl
theorem e152_15 : dek 152 15 = some (.lload_n 1, 1, []) := rfl
theorem e152_16 : dek 152 16 = some (.lmul, 1, []) := rfl
theorem e152_17 : dek 152 17 = some (.aload_n 0, 1, []) := rfl
theorem e152_18 : dek 152 18 = some (.iload_n 3, 1, []) := rfl
theorem e152_19 : dek 152 19 = some (.invokestatic 103, 3, [2, 111, 0, 14, 0, 426, 0, 2]) := rfl
theorem e152_22 : dek 152 22 = some (.i2l, 1, []) := rfl
theorem e152_23 : dek 152 23 = some (.ladd, 1, []) := rfl
theorem e152_24 : dek 152 24 = some (.lstore_n 1, 1, []) := rfl
theorem e152_25 : dek 152 25 = some (.iinc 3 1, 3, [1]) := rfl
theorem e152_28 : dek 152 28 = some (.goto (-22), 3, [6]) := rfl
theorem e152_31 : dek 152 31 = some (.iconst 0, 1, [0]) := rfl
theorem e152_32 : dek 152 32 = some (.istore_n 3, 1, []) := rfl
theorem e152_33 : dek 152 33 = some (.iload_n 3, 1, []) := rfl
theorem e152_34 : dek 152 34 = some (.iconst 3, 1, [3]) := rfl
theorem e152_35 : dek 152 35 = some (.if_icmp .ge 118, 3, [153]) := rfl
theorem e152_38 : dek 152 38 = some (.iconst 0, 1, [0]) := rfl
theorem e152_39 : dek 152 39 = some (.istore 4, 2, []) := rfl
theorem e152_41 : dek 152 41 = some (.iload 4, 2, []) := rfl
theorem e152_43 : dek 152 43 = some (.iconst 4, 1, [4]) := rfl
theorem e152_44 : dek 152 44 = some (.if_icmp .ge 24, 3, [68]) := rfl
theorem e152_47 : dek 152 47 = some (.ldc2_w 101, 3, [9, 31, 425]) := rfl
theorem e152_50 : dek 152 50 = some (.lload_n 1, 1, []) := rfl
theorem e152_51 : dek 152 51 = some (.lmul, 1, []) := rfl
theorem e152_52 : dek 152 52 = some (.aload_n 0, 1, []) := rfl
theorem e152_53 : dek 152 53 = some (.iload_n 3, 1, []) := rfl
theorem e152_54 : dek 152 54 = some (.iload 4, 2, []) := rfl
theorem e152_56 : dek 152 56 = some (.invokestatic 108, 3, [2, 100, 0, 14, 0, 499, 0, 0, 2]) := rfl
theorem e152_59 : dek 152 59 = some (.i2l, 1, []) := rfl
theorem e152_60 : dek 152 60 = some (.ladd, 1, []) := rfl
theorem e152_61 : dek 152 61 = some (.lstore_n 1, 1, []) := rfl
theorem e152_62 : dek 152 62 = some (.iinc 4 1, 3, [1]) := rfl
theorem e152_65 : dek 152 65 = some (.goto (-24), 3, [41]) := rfl
theorem e152_68 : dek 152 68 = some (.iconst 0, 1, [0]) := rfl
theorem e152_69 : dek 152 69 = some (.istore 4, 2, []) := rfl
theorem e152_71 : dek 152 71 = some (.iload 4, 2, []) := rfl
theorem e152_73 : dek 152 73 = some (.bipush 6, 2, [6]) := rfl
theorem e152_75 : dek 152 75 = some (.if_icmp .ge 42, 3, [117]) := rfl
theorem e152_78 : dek 152 78 = some (.iconst 0, 1, [0]) := rfl
theorem e152_79 : dek 152 79 = some (.istore 5, 2, []) := rfl
theorem e152_81 : dek 152 81 = some (.iload 5, 2, []) := rfl
theorem e152_83 : dek 152 83 = some (.bipush 8, 2, [8]) := rfl
theorem e152_85 : dek 152 85 = some (.if_icmp .ge 26, 3, [111]) := rfl
theorem e152_88 : dek 152 88 = some (.ldc2_w 101, 3, [9, 31, 425]) := rfl
theorem e152_91 : dek 152 91 = some (.lload_n 1, 1, []) := rfl
theorem e152_92 : dek 152 92 = some (.lmul, 1, []) := rfl
theorem e152_93 : dek 152 93 = some (.aload_n 0, 1, []) := rfl
theorem e152_94 : dek 152 94 = some (.iload_n 3, 1, []) := rfl
theorem e152_95 : dek 152 95 = some (.iload 4, 2, []) := rfl
theorem e152_97 : dek 152 97 = some (.iload 5, 2, []) := rfl
theorem e152_99 : dek 152 99 = some (.invokestatic 111, 3, [2, 98, 0, 14, 0, 583, 0, 0, 0, 2]) := rfl
theorem e152_102 : dek 152 102 = some (.i2l, 1, []) := rfl
theorem e152_103 : dek 152 103 = some (.ladd, 1, []) := rfl
theorem e152_104 : dek 152 104 = some (.lstore_n 1, 1, []) := rfl
theorem e152_105 : dek 152 105 = some (.iinc 5 1, 3, [1]) := rfl
theorem e152_108 : dek 152 108 = some (.goto (-27), 3, [81]) := rfl
theorem e152_111 : dek 152 111 = some (.iinc 4 1, 3, [1]) := rfl
theorem e152_114 : dek 152 114 = some (.goto (-43), 3, [71]) := rfl
theorem e152_117 : dek 152 117 = some (.ldc2_w 101, 3, [9, 31, 425]) := rfl
theorem e152_120 : dek 152 120 = some (.ldc2_w 101, 3, [9, 31, 425]) := rfl
theorem e152_123 : dek 152 123 = some (.lload_n 1, 1, []) := rfl
theorem e152_124 : dek 152 124 = some (.lmul, 1, []) := rfl
theorem e152_125 : dek 152 125 = some (.aload_n 0, 1, []) := rfl
theorem e152_126 : dek 152 126 = some (.iconst 1, 1, [1]) := rfl
theorem e152_127 : dek 152 127 = some (.iload_n 3, 1, []) := rfl
theorem e152_128 : dek 152 128 = some (.iadd, 1, []) := rfl
theorem e152_129 : dek 152 129 = some (.iconst 0, 1, [0]) := rfl
theorem e152_130 : dek 152 130 = some (.invokestatic 114, 3, [2, 109, 0, 14, 0, 606, 0, 0, 2]) := rfl
theorem e152_133 : dek 152 133 = some (.i2l, 1, []) := rfl
theorem e152_134 : dek 152 134 = some (.ladd, 1, []) := rfl
theorem e152_135 : dek 152 135 = some (.lmul, 1, []) := rfl
theorem e152_136 : dek 152 136 = some (.aload_n 0, 1, []) := rfl
theorem e152_137 : dek 152 137 = some (.iconst 1, 1, [1]) := rfl
theorem e152_138 : dek 152 138 = some (.iload_n 3, 1, []) := rfl
theorem e152_139 : dek 152 139 = some (.iadd, 1, []) := rfl
theorem e152_140 : dek 152 140 = some (.iconst 1, 1, [1]) := rfl
theorem e152_141 : dek 152 141 = some (.invokestatic 114, 3, [2, 109, 0, 14, 0, 606, 0, 0, 2]) := rfl
theorem e152_144 : dek 152 144 = some (.i2l, 1, []) := rfl
theorem e152_145 : dek 152 145 = some (.ladd, 1, []) := rfl
theorem e152_146 : dek 152 146 = some (.lstore_n 1, 1, []) := rfl
theorem e152_147 : dek 152 147 = some (.iinc 3 1, 3, [1]) := rfl
theorem e152_150 : dek 152 150 = some (.goto (-117), 3, [33]) := rfl
theorem e152_153 : dek 152 153 = some (.iconst 0, 1, [0]) := rfl
theorem e152_154 : dek 152 154 = some (.istore_n 3, 1, []) := rfl
theorem e152_155 : dek 152 155 = some (.iload_n 3, 1, []) := rfl
theorem e152_156 : dek 152 156 = some (.bipush 20, 2, [20]) := rfl
theorem e152_158 : dek 152 158 = some (.if_icmp .ge 47, 3, [205]) := rfl
theorem e152_161 : dek 152 161 = some (.ldc2_w 101, 3, [9, 31, 425]) := rfl
theorem e152_164 : dek 152 164 = some (.ldc2_w 101, 3, [9, 31, 425]) := rfl
theorem e152_167 : dek 152 167 = some (.ldc2_w 101, 3, [9, 31, 425]) := rfl
theorem e152_170 : dek 152 170 = some (.lload_n 1, 1, []) := rfl
theorem e152_171 : dek 152 171 = some (.lmul, 1, []) := rfl
theorem e152_172 : dek 152 172 = some (.aload_n 0, 1, []) := rfl
theorem e152_173 : dek 152 173 = some (.iload_n 3, 1, []) := rfl
theorem e152_174 : dek 152 174 = some (.iconst 0, 1, [0]) := rfl
theorem e152_175 : dek 152 175 = some (.invokestatic 117, 3, [2, 125, 0, 14, 0, 617, 0, 0, 2]) := rfl
theorem e152_178 : dek 152 178 = some (.i2l, 1, []) := rfl
theorem e152_179 : dek 152 179 = some (.ladd, 1, []) := rfl
theorem e152_180 : dek 152 180 = some (.lmul, 1, []) := rfl
theorem e152_181 : dek 152 181 = some (.aload_n 0, 1, []) := rfl
theorem e152_182 : dek 152 182 = some (.iload_n 3, 1, []) := rfl
theorem e152_183 : dek 152 183 = some (.iconst 1, 1, [1]) := rfl
theorem e152_184 : dek 152 184 = some (.invokestatic 117, 3, [2, 125, 0, 14, 0, 617, 0, 0, 2]) := rfl
theorem e152_187 : dek 152 187 = some (.i2l, 1, []) := rfl
theorem e152_188 : dek 152 188 = some (.ladd, 1, []) := rfl
theorem e152_189 : dek 152 189 = some (.lmul, 1, []) := rfl
theorem e152_190 : dek 152 190 = some (.aload_n 0, 1, []) := rfl
theorem e152_191 : dek 152 191 = some (.iload_n 3, 1, []) := rfl
theorem e152_192 : dek 152 192 = some (.iconst 2, 1, [2]) := rfl
theorem e152_193 : dek 152 193 = some (.invokestatic 117, 3, [2, 125, 0, 14, 0, 617, 0, 0, 2]) := rfl
theorem e152_196 : dek 152 196 = some (.i2l, 1, []) := rfl
theorem e152_197 : dek 152 197 = some (.ladd, 1, []) := rfl
theorem e152_198 : dek 152 198 = some (.lstore_n 1, 1, []) := rfl
theorem e152_199 : dek 152 199 = some (.iinc 3 1, 3, [1]) := rfl
theorem e152_202 : dek 152 202 = some (.goto (-47), 3, [155]) := rfl
theorem e152_205 : dek 152 205 = some (.lload_n 1, 1, []) := rfl
theorem e152_206 : dek 152 206 = some (.lreturn, 1, []) := rfl
theorem p152a {g : GS} : ∀ m w (h : Int64), w + m = 8 → ∃ h' : Int64, ∀ {z : SX} {d n k : Nat} {ps : Nat → GS} {Z : ZT} {u4 u5 : Value}, 31 ≤ d → X2 z d 152 6 [.ref 1, .long h, UN, .int (nI w), u4, u5] [] (g, n, ps, k) Z = X2 z d 152 33 [.ref 1, .long h', UN, .int (nI 0), u4, u5] [] (g, n, ps, k) Z := by
  intro m
  induction m with
  | zero =>
    intro w h hw
    have : w = 8 := by omega
    subst this
    refine ⟨h, fun {z d n k ps Z u4 u5} hd => ?_⟩
    rw [X2_go, e152_6]
    simp (disch := first | assumption | omega) only [Nat.reduceAdd, mP_1, mP_0, X2_go, g4_some, stp, ldI, ldA, ldL, stI, stA, stL, o1I, o2I, o2L, brI, brII, gl, s1, s2, k1, sl, g3_sN, g3_sR, g3_sC, g3_if, g3_no, pops, b2_v, e152_0, e152_3, e152_4, e152_5, e152_7, e152_9, e152_12, e152_15, e152_16, e152_17, e152_18, e152_19, e152_22, e152_23, e152_24, e152_25, e152_28, e152_31, e152_32, e152_34, e152_35, e152_38, e152_39, e152_43, e152_44, e152_47, e152_50, e152_51, e152_52, e152_53, e152_54, e152_56, e152_59, e152_60, e152_61, e152_62, e152_65, e152_68, e152_69, e152_73, e152_75, e152_78, e152_79, e152_83, e152_85, e152_88, e152_91, e152_92, e152_93, e152_94, e152_95, e152_97, e152_99, e152_102, e152_103, e152_104, e152_105, e152_108, e152_111, e152_114, e152_117, e152_120, e152_123, e152_124, e152_125, e152_126, e152_127, e152_128, e152_129, e152_130, e152_133, e152_134, e152_135, e152_136, e152_137, e152_138, e152_139, e152_140, e152_141, e152_144, e152_145, e152_146, e152_147, e152_150, e152_153, e152_154, e152_156, e152_158, e152_161, e152_164, e152_167, e152_170, e152_171, e152_172, e152_173, e152_174, e152_175, e152_178, e152_179, e152_180, e152_181, e152_182, e152_183, e152_184, e152_187, e152_188, e152_189, e152_190, e152_191, e152_192, e152_193, e152_196, e152_197, e152_198, e152_199, e152_202, e152_205, e152_206, n_lt, n_le, n_eq, n_lt0, n_ge0, n_gt0, n_le0, n_eq0, m_lt, m_le, m_gt, m_ge, m_eq, m_eq', m_lt0, m_ge0, m_gt0, m_le0, m_ltm, m_lem, n_in, m_in, n_cl, n_ti, n_div, n_rem', n_dec, n_l, nI_add, pk_mul, an0, an1, decide_eq_true_eq, if_true, if_false, ite_true, ite_false, and_true, true_and, and_false, false_and, not_true, not_false_iff, or_false, false_or, or_true, true_or, eq_self, va_some, Bool.false_eq_true, reduceIte, catS_n, catS_i, catS_r, catS_l, catS_d, Nat.zero_add, Nat.add_zero, decide_true, decide_false, Nat.reduceLeDiff, cat_r, cat_i, cat_l, nle_T, nle_F, nlt_T, nlt_F, neq_T, neq_F]
  | succ m ih =>
    intro w h hw
    obtain ⟨h', e⟩ := ih (w + 1) (lN 31 * h + (nI (vV g w)).toInt64) (by omega)
    refine ⟨h', fun {z d n k ps Z u4 u5} hd => ?_⟩
    rw [← e hd, X2_go, e152_6]
    simp (disch := first | assumption | omega) only [Nat.reduceAdd, mP_1, mP_0, X2_go, g4_some, stp, ldI, ldA, ldL, stI, stA, stL, o1I, o2I, o2L, brI, brII, gl, s1, s2, k1, sl, g3_sN, g3_sR, g3_sC, g3_if, g3_no, pops, b2_v, e152_0, e152_3, e152_4, e152_5, e152_7, e152_9, e152_12, e152_15, e152_16, e152_17, e152_18, e152_19, e152_22, e152_23, e152_24, e152_25, e152_28, e152_31, e152_32, e152_34, e152_35, e152_38, e152_39, e152_43, e152_44, e152_47, e152_50, e152_51, e152_52, e152_53, e152_54, e152_56, e152_59, e152_60, e152_61, e152_62, e152_65, e152_68, e152_69, e152_73, e152_75, e152_78, e152_79, e152_83, e152_85, e152_88, e152_91, e152_92, e152_93, e152_94, e152_95, e152_97, e152_99, e152_102, e152_103, e152_104, e152_105, e152_108, e152_111, e152_114, e152_117, e152_120, e152_123, e152_124, e152_125, e152_126, e152_127, e152_128, e152_129, e152_130, e152_133, e152_134, e152_135, e152_136, e152_137, e152_138, e152_139, e152_140, e152_141, e152_144, e152_145, e152_146, e152_147, e152_150, e152_153, e152_154, e152_156, e152_158, e152_161, e152_164, e152_167, e152_170, e152_171, e152_172, e152_173, e152_174, e152_175, e152_178, e152_179, e152_180, e152_181, e152_182, e152_183, e152_184, e152_187, e152_188, e152_189, e152_190, e152_191, e152_192, e152_193, e152_196, e152_197, e152_198, e152_199, e152_202, e152_205, e152_206, n_lt, n_le, n_eq, n_lt0, n_ge0, n_gt0, n_le0, n_eq0, m_lt, m_le, m_gt, m_ge, m_eq, m_eq', m_lt0, m_ge0, m_gt0, m_le0, m_ltm, m_lem, n_in, m_in, n_cl, n_ti, n_div, n_rem', n_dec, n_l, nI_add, pk_mul, an0, an1, decide_eq_true_eq, if_true, if_false, ite_true, ite_false, and_true, true_and, and_false, false_and, not_true, not_false_iff, or_false, false_or, or_true, true_or, eq_self, va_some, Bool.false_eq_true, reduceIte, catS_n, catS_i, catS_r, catS_l, catS_d, Nat.zero_add, Nat.add_zero, decide_true, decide_false, Nat.reduceLeDiff, cat_r, cat_i, cat_l, nle_T, nle_F, nlt_T, nlt_F, neq_T, neq_F, e111v]
theorem p152b {g : GS} {t : Nat} (ht : t < 3) : ∀ m w (h : Int64), w + m = 4 → ∃ h' : Int64, ∀ {z : SX} {d n k : Nat} {ps : Nat → GS} {Z : ZT} {u5 : Value}, 31 ≤ d → X2 z d 152 41 [.ref 1, .long h, UN, .int (nI t), .int (nI w), u5] [] (g, n, ps, k) Z = X2 z d 152 71 [.ref 1, .long h', UN, .int (nI t), .int (nI 0), u5] [] (g, n, ps, k) Z := by
  intro m
  induction m with
  | zero =>
    intro w h hw
    have : w = 4 := by omega
    subst this
    refine ⟨h, fun {z d n k ps Z u5} hd => ?_⟩
    rw [X2_go, e152_41]
    simp (disch := first | assumption | omega) only [Nat.reduceAdd, mP_1, mP_0, X2_go, g4_some, stp, ldI, ldA, ldL, stI, stA, stL, o1I, o2I, o2L, brI, brII, gl, s1, s2, k1, sl, g3_sN, g3_sR, g3_sC, g3_if, g3_no, pops, b2_v, e152_0, e152_3, e152_4, e152_5, e152_7, e152_9, e152_12, e152_15, e152_16, e152_17, e152_18, e152_19, e152_22, e152_23, e152_24, e152_25, e152_28, e152_31, e152_32, e152_34, e152_35, e152_38, e152_39, e152_43, e152_44, e152_47, e152_50, e152_51, e152_52, e152_53, e152_54, e152_56, e152_59, e152_60, e152_61, e152_62, e152_65, e152_68, e152_69, e152_73, e152_75, e152_78, e152_79, e152_83, e152_85, e152_88, e152_91, e152_92, e152_93, e152_94, e152_95, e152_97, e152_99, e152_102, e152_103, e152_104, e152_105, e152_108, e152_111, e152_114, e152_117, e152_120, e152_123, e152_124, e152_125, e152_126, e152_127, e152_128, e152_129, e152_130, e152_133, e152_134, e152_135, e152_136, e152_137, e152_138, e152_139, e152_140, e152_141, e152_144, e152_145, e152_146, e152_147, e152_150, e152_153, e152_154, e152_156, e152_158, e152_161, e152_164, e152_167, e152_170, e152_171, e152_172, e152_173, e152_174, e152_175, e152_178, e152_179, e152_180, e152_181, e152_182, e152_183, e152_184, e152_187, e152_188, e152_189, e152_190, e152_191, e152_192, e152_193, e152_196, e152_197, e152_198, e152_199, e152_202, e152_205, e152_206, n_lt, n_le, n_eq, n_lt0, n_ge0, n_gt0, n_le0, n_eq0, m_lt, m_le, m_gt, m_ge, m_eq, m_eq', m_lt0, m_ge0, m_gt0, m_le0, m_ltm, m_lem, n_in, m_in, n_cl, n_ti, n_div, n_rem', n_dec, n_l, nI_add, pk_mul, an0, an1, decide_eq_true_eq, if_true, if_false, ite_true, ite_false, and_true, true_and, and_false, false_and, not_true, not_false_iff, or_false, false_or, or_true, true_or, eq_self, va_some, Bool.false_eq_true, reduceIte, catS_n, catS_i, catS_r, catS_l, catS_d, Nat.zero_add, Nat.add_zero, decide_true, decide_false, Nat.reduceLeDiff, cat_r, cat_i, cat_l, nle_T, nle_F, nlt_T, nlt_F, neq_T, neq_F]
  | succ m ih =>
    intro w h hw
    obtain ⟨h', e⟩ := ih (w + 1) (lN 31 * h + (nI (tV g t w)).toInt64) (by omega)
    refine ⟨h', fun {z d n k ps Z u5} hd => ?_⟩
    rw [← e hd, X2_go, e152_41]
    simp (disch := first | assumption | omega) only [Nat.reduceAdd, mP_1, mP_0, X2_go, g4_some, stp, ldI, ldA, ldL, stI, stA, stL, o1I, o2I, o2L, brI, brII, gl, s1, s2, k1, sl, g3_sN, g3_sR, g3_sC, g3_if, g3_no, pops, b2_v, e152_0, e152_3, e152_4, e152_5, e152_7, e152_9, e152_12, e152_15, e152_16, e152_17, e152_18, e152_19, e152_22, e152_23, e152_24, e152_25, e152_28, e152_31, e152_32, e152_34, e152_35, e152_38, e152_39, e152_43, e152_44, e152_47, e152_50, e152_51, e152_52, e152_53, e152_54, e152_56, e152_59, e152_60, e152_61, e152_62, e152_65, e152_68, e152_69, e152_73, e152_75, e152_78, e152_79, e152_83, e152_85, e152_88, e152_91, e152_92, e152_93, e152_94, e152_95, e152_97, e152_99, e152_102, e152_103, e152_104, e152_105, e152_108, e152_111, e152_114, e152_117, e152_120, e152_123, e152_124, e152_125, e152_126, e152_127, e152_128, e152_129, e152_130, e152_133, e152_134, e152_135, e152_136, e152_137, e152_138, e152_139, e152_140, e152_141, e152_144, e152_145, e152_146, e152_147, e152_150, e152_153, e152_154, e152_156, e152_158, e152_161, e152_164, e152_167, e152_170, e152_171, e152_172, e152_173, e152_174, e152_175, e152_178, e152_179, e152_180, e152_181, e152_182, e152_183, e152_184, e152_187, e152_188, e152_189, e152_190, e152_191, e152_192, e152_193, e152_196, e152_197, e152_198, e152_199, e152_202, e152_205, e152_206, n_lt, n_le, n_eq, n_lt0, n_ge0, n_gt0, n_le0, n_eq0, m_lt, m_le, m_gt, m_ge, m_eq, m_eq', m_lt0, m_ge0, m_gt0, m_le0, m_ltm, m_lem, n_in, m_in, n_cl, n_ti, n_div, n_rem', n_dec, n_l, nI_add, pk_mul, an0, an1, decide_eq_true_eq, if_true, if_false, ite_true, ite_false, and_true, true_and, and_false, false_and, not_true, not_false_iff, or_false, false_or, or_true, true_or, eq_self, va_some, Bool.false_eq_true, reduceIte, catS_n, catS_i, catS_r, catS_l, catS_d, Nat.zero_add, Nat.add_zero, decide_true, decide_false, Nat.reduceLeDiff, cat_r, cat_i, cat_l, nle_T, nle_F, nlt_T, nlt_F, neq_T, neq_F, e100]
theorem p152c {g : GS} {t e : Nat} (ht : t < 3) (h6 : g (3 + t) ≤ 6) (he : e < 6) : ∀ m w (h : Int64), w + m = 8 → ∃ (h' : Int64) (kk : Nat), kk ≤ m ∧ ∀ {z : SX} {d n k : Nat} {ps : Nat → GS} {Z : ZT}, 31 ≤ d → X2 z d 152 81 [.ref 1, .long h, UN, .int (nI t), .int (nI e), .int (nI w)] [] (g, n, ps, k) Z = X2 z d 152 71 [.ref 1, .long h', UN, .int (nI t), .int (nI (e + 1)), .int (nI 8)] [] (g, n, ps, k + kk) Z := by
  intro m
  induction m with
  | zero =>
    intro w h hw
    have : w = 8 := by omega
    subst this
    refine ⟨h, 0, Nat.le_refl 0, fun {z d n k ps Z} hd => ?_⟩
    rw [X2_go, e152_81]
    simp (disch := first | assumption | omega) only [Nat.reduceAdd, mP_1, mP_0, X2_go, g4_some, stp, ldI, ldA, ldL, stI, stA, stL, o1I, o2I, o2L, brI, brII, gl, s1, s2, k1, sl, g3_sN, g3_sR, g3_sC, g3_if, g3_no, pops, b2_v, e152_0, e152_3, e152_4, e152_5, e152_7, e152_9, e152_12, e152_15, e152_16, e152_17, e152_18, e152_19, e152_22, e152_23, e152_24, e152_25, e152_28, e152_31, e152_32, e152_34, e152_35, e152_38, e152_39, e152_43, e152_44, e152_47, e152_50, e152_51, e152_52, e152_53, e152_54, e152_56, e152_59, e152_60, e152_61, e152_62, e152_65, e152_68, e152_69, e152_73, e152_75, e152_78, e152_79, e152_83, e152_85, e152_88, e152_91, e152_92, e152_93, e152_94, e152_95, e152_97, e152_99, e152_102, e152_103, e152_104, e152_105, e152_108, e152_111, e152_114, e152_117, e152_120, e152_123, e152_124, e152_125, e152_126, e152_127, e152_128, e152_129, e152_130, e152_133, e152_134, e152_135, e152_136, e152_137, e152_138, e152_139, e152_140, e152_141, e152_144, e152_145, e152_146, e152_147, e152_150, e152_153, e152_154, e152_156, e152_158, e152_161, e152_164, e152_167, e152_170, e152_171, e152_172, e152_173, e152_174, e152_175, e152_178, e152_179, e152_180, e152_181, e152_182, e152_183, e152_184, e152_187, e152_188, e152_189, e152_190, e152_191, e152_192, e152_193, e152_196, e152_197, e152_198, e152_199, e152_202, e152_205, e152_206, n_lt, n_le, n_eq, n_lt0, n_ge0, n_gt0, n_le0, n_eq0, m_lt, m_le, m_gt, m_ge, m_eq, m_eq', m_lt0, m_ge0, m_gt0, m_le0, m_ltm, m_lem, n_in, m_in, n_cl, n_ti, n_div, n_rem', n_dec, n_l, nI_add, pk_mul, an0, an1, decide_eq_true_eq, if_true, if_false, ite_true, ite_false, and_true, true_and, and_false, false_and, not_true, not_false_iff, or_false, false_or, or_true, true_or, eq_self, va_some, Bool.false_eq_true, reduceIte, catS_n, catS_i, catS_r, catS_l, catS_d, Nat.zero_add, Nat.add_zero, decide_true, decide_false, Nat.reduceLeDiff, cat_r, cat_i, cat_l, nle_T, nle_F, nlt_T, nlt_F, neq_T, neq_F]
  | succ m ih =>
    intro w h hw
    by_cases hc : e < g (3 + t)
    · obtain ⟨h', kk, hk, q⟩ := ih (w + 1) (lN 31 * h + (nI (eV g t e w)).toInt64) (by omega)
      refine ⟨h', kk, by omega, fun {z d n k ps Z} hd => ?_⟩
      rw [← q hd, X2_go, e152_81]
      simp (disch := first | assumption | omega) only [Nat.reduceAdd, mP_1, mP_0, X2_go, g4_some, stp, ldI, ldA, ldL, stI, stA, stL, o1I, o2I, o2L, brI, brII, gl, s1, s2, k1, sl, g3_sN, g3_sR, g3_sC, g3_if, g3_no, pops, b2_v, e152_0, e152_3, e152_4, e152_5, e152_7, e152_9, e152_12, e152_15, e152_16, e152_17, e152_18, e152_19, e152_22, e152_23, e152_24, e152_25, e152_28, e152_31, e152_32, e152_34, e152_35, e152_38, e152_39, e152_43, e152_44, e152_47, e152_50, e152_51, e152_52, e152_53, e152_54, e152_56, e152_59, e152_60, e152_61, e152_62, e152_65, e152_68, e152_69, e152_73, e152_75, e152_78, e152_79, e152_83, e152_85, e152_88, e152_91, e152_92, e152_93, e152_94, e152_95, e152_97, e152_99, e152_102, e152_103, e152_104, e152_105, e152_108, e152_111, e152_114, e152_117, e152_120, e152_123, e152_124, e152_125, e152_126, e152_127, e152_128, e152_129, e152_130, e152_133, e152_134, e152_135, e152_136, e152_137, e152_138, e152_139, e152_140, e152_141, e152_144, e152_145, e152_146, e152_147, e152_150, e152_153, e152_154, e152_156, e152_158, e152_161, e152_164, e152_167, e152_170, e152_171, e152_172, e152_173, e152_174, e152_175, e152_178, e152_179, e152_180, e152_181, e152_182, e152_183, e152_184, e152_187, e152_188, e152_189, e152_190, e152_191, e152_192, e152_193, e152_196, e152_197, e152_198, e152_199, e152_202, e152_205, e152_206, n_lt, n_le, n_eq, n_lt0, n_ge0, n_gt0, n_le0, n_eq0, m_lt, m_le, m_gt, m_ge, m_eq, m_eq', m_lt0, m_ge0, m_gt0, m_le0, m_ltm, m_lem, n_in, m_in, n_cl, n_ti, n_div, n_rem', n_dec, n_l, nI_add, pk_mul, an0, an1, decide_eq_true_eq, if_true, if_false, ite_true, ite_false, and_true, true_and, and_false, false_and, not_true, not_false_iff, or_false, false_or, or_true, true_or, eq_self, va_some, Bool.false_eq_true, reduceIte, catS_n, catS_i, catS_r, catS_l, catS_d, Nat.zero_add, Nat.add_zero, decide_true, decide_false, Nat.reduceLeDiff, cat_r, cat_i, cat_l, nle_T, nle_F, nlt_T, nlt_F, neq_T, neq_F, e98]
    · obtain ⟨h', kk, hk, q⟩ := ih (w + 1) (lN 31 * h + (nI 4289967293).toInt64) (by omega)
      refine ⟨h', kk + 1, by omega, fun {z d n k ps Z} hd => ?_⟩
      rw [show k + (kk + 1) = k + 1 + kk by omega, ← q hd, X2_go, e152_81]
      simp (disch := first | assumption | omega) only [Nat.reduceAdd, mP_1, mP_0, X2_go, g4_some, stp, ldI, ldA, ldL, stI, stA, stL, o1I, o2I, o2L, brI, brII, gl, s1, s2, k1, sl, g3_sN, g3_sR, g3_sC, g3_if, g3_no, pops, b2_v, e152_0, e152_3, e152_4, e152_5, e152_7, e152_9, e152_12, e152_15, e152_16, e152_17, e152_18, e152_19, e152_22, e152_23, e152_24, e152_25, e152_28, e152_31, e152_32, e152_34, e152_35, e152_38, e152_39, e152_43, e152_44, e152_47, e152_50, e152_51, e152_52, e152_53, e152_54, e152_56, e152_59, e152_60, e152_61, e152_62, e152_65, e152_68, e152_69, e152_73, e152_75, e152_78, e152_79, e152_83, e152_85, e152_88, e152_91, e152_92, e152_93, e152_94, e152_95, e152_97, e152_99, e152_102, e152_103, e152_104, e152_105, e152_108, e152_111, e152_114, e152_117, e152_120, e152_123, e152_124, e152_125, e152_126, e152_127, e152_128, e152_129, e152_130, e152_133, e152_134, e152_135, e152_136, e152_137, e152_138, e152_139, e152_140, e152_141, e152_144, e152_145, e152_146, e152_147, e152_150, e152_153, e152_154, e152_156, e152_158, e152_161, e152_164, e152_167, e152_170, e152_171, e152_172, e152_173, e152_174, e152_175, e152_178, e152_179, e152_180, e152_181, e152_182, e152_183, e152_184, e152_187, e152_188, e152_189, e152_190, e152_191, e152_192, e152_193, e152_196, e152_197, e152_198, e152_199, e152_202, e152_205, e152_206, n_lt, n_le, n_eq, n_lt0, n_ge0, n_gt0, n_le0, n_eq0, m_lt, m_le, m_gt, m_ge, m_eq, m_eq', m_lt0, m_ge0, m_gt0, m_le0, m_ltm, m_lem, n_in, m_in, n_cl, n_ti, n_div, n_rem', n_dec, n_l, nI_add, pk_mul, an0, an1, decide_eq_true_eq, if_true, if_false, ite_true, ite_false, and_true, true_and, and_false, false_and, not_true, not_false_iff, or_false, false_or, or_true, true_or, eq_self, va_some, Bool.false_eq_true, reduceIte, catS_n, catS_i, catS_r, catS_l, catS_d, Nat.zero_add, Nat.add_zero, decide_true, decide_false, Nat.reduceLeDiff, cat_r, cat_i, cat_l, nle_T, nle_F, nlt_T, nlt_F, neq_T, neq_F, e98n]
theorem p152d {g : GS} {t : Nat} (ht : t < 3) (h6 : g (3 + t) ≤ 6) : ∀ m e (h : Int64), e + m = 6 → ∃ (h' : Int64) (kk : Nat), kk ≤ 8 * m ∧ ∀ {z : SX} {d n k : Nat} {ps : Nat → GS} {Z : ZT} {u5 : Value}, 31 ≤ d → ∃ v5 : Value, X2 z d 152 71 [.ref 1, .long h, UN, .int (nI t), .int (nI e), u5] [] (g, n, ps, k) Z = X2 z d 152 33 [.ref 1, .long h', UN, .int (nI (t + 1)), .int (nI 6), v5] [] (g, n, ps, k + kk) Z := by
  intro m
  induction m with
  | zero =>
    intro e h hw
    have : e = 6 := by omega
    subst this
    refine ⟨lN 31 * (lN 31 * h + (nI (g (113 + (1 + t)))).toInt64) + (nI (g (116 + (1 + t)))).toInt64, 0, Nat.zero_le _, fun {z d n k ps Z u5} hd => ⟨u5, ?_⟩⟩
    rw [X2_go, e152_71]
    simp (disch := first | assumption | omega) only [Nat.reduceAdd, mP_1, mP_0, X2_go, g4_some, stp, ldI, ldA, ldL, stI, stA, stL, o1I, o2I, o2L, brI, brII, gl, s1, s2, k1, sl, g3_sN, g3_sR, g3_sC, g3_if, g3_no, pops, b2_v, e152_0, e152_3, e152_4, e152_5, e152_7, e152_9, e152_12, e152_15, e152_16, e152_17, e152_18, e152_19, e152_22, e152_23, e152_24, e152_25, e152_28, e152_31, e152_32, e152_34, e152_35, e152_38, e152_39, e152_43, e152_44, e152_47, e152_50, e152_51, e152_52, e152_53, e152_54, e152_56, e152_59, e152_60, e152_61, e152_62, e152_65, e152_68, e152_69, e152_73, e152_75, e152_78, e152_79, e152_83, e152_85, e152_88, e152_91, e152_92, e152_93, e152_94, e152_95, e152_97, e152_99, e152_102, e152_103, e152_104, e152_105, e152_108, e152_111, e152_114, e152_117, e152_120, e152_123, e152_124, e152_125, e152_126, e152_127, e152_128, e152_129, e152_130, e152_133, e152_134, e152_135, e152_136, e152_137, e152_138, e152_139, e152_140, e152_141, e152_144, e152_145, e152_146, e152_147, e152_150, e152_153, e152_154, e152_156, e152_158, e152_161, e152_164, e152_167, e152_170, e152_171, e152_172, e152_173, e152_174, e152_175, e152_178, e152_179, e152_180, e152_181, e152_182, e152_183, e152_184, e152_187, e152_188, e152_189, e152_190, e152_191, e152_192, e152_193, e152_196, e152_197, e152_198, e152_199, e152_202, e152_205, e152_206, n_lt, n_le, n_eq, n_lt0, n_ge0, n_gt0, n_le0, n_eq0, m_lt, m_le, m_gt, m_ge, m_eq, m_eq', m_lt0, m_ge0, m_gt0, m_le0, m_ltm, m_lem, n_in, m_in, n_cl, n_ti, n_div, n_rem', n_dec, n_l, nI_add, pk_mul, an0, an1, decide_eq_true_eq, if_true, if_false, ite_true, ite_false, and_true, true_and, and_false, false_and, not_true, not_false_iff, or_false, false_or, or_true, true_or, eq_self, va_some, Bool.false_eq_true, reduceIte, catS_n, catS_i, catS_r, catS_l, catS_d, Nat.zero_add, Nat.add_zero, decide_true, decide_false, Nat.reduceLeDiff, cat_r, cat_i, cat_l, nle_T, nle_F, nlt_T, nlt_F, neq_T, neq_F, e109c, e109l]
  | succ m ih =>
    intro e h hw
    obtain ⟨h1, kA, hkA, q1⟩ := p152c (g := g) (e := e) ht h6 (by omega) 8 0 h rfl
    obtain ⟨h', kk, hk, q⟩ := ih (e + 1) h1 (by omega)
    refine ⟨h', kA + kk, by omega, fun {z d n k ps Z u5} hd => ?_⟩
    obtain ⟨v5, q⟩ := q (z := z) (n := n) (k := k + kA) (ps := ps) (Z := Z) (u5 := .int (nI 8)) hd
    refine ⟨v5, ?_⟩
    rw [← Nat.add_assoc, ← q, ← q1 hd, X2_go, e152_71]
    simp (disch := first | assumption | omega) only [Nat.reduceAdd, mP_1, mP_0, X2_go, g4_some, stp, ldI, ldA, ldL, stI, stA, stL, o1I, o2I, o2L, brI, brII, gl, s1, s2, k1, sl, g3_sN, g3_sR, g3_sC, g3_if, g3_no, pops, b2_v, e152_0, e152_3, e152_4, e152_5, e152_7, e152_9, e152_12, e152_15, e152_16, e152_17, e152_18, e152_19, e152_22, e152_23, e152_24, e152_25, e152_28, e152_31, e152_32, e152_34, e152_35, e152_38, e152_39, e152_43, e152_44, e152_47, e152_50, e152_51, e152_52, e152_53, e152_54, e152_56, e152_59, e152_60, e152_61, e152_62, e152_65, e152_68, e152_69, e152_73, e152_75, e152_78, e152_79, e152_83, e152_85, e152_88, e152_91, e152_92, e152_93, e152_94, e152_95, e152_97, e152_99, e152_102, e152_103, e152_104, e152_105, e152_108, e152_111, e152_114, e152_117, e152_120, e152_123, e152_124, e152_125, e152_126, e152_127, e152_128, e152_129, e152_130, e152_133, e152_134, e152_135, e152_136, e152_137, e152_138, e152_139, e152_140, e152_141, e152_144, e152_145, e152_146, e152_147, e152_150, e152_153, e152_154, e152_156, e152_158, e152_161, e152_164, e152_167, e152_170, e152_171, e152_172, e152_173, e152_174, e152_175, e152_178, e152_179, e152_180, e152_181, e152_182, e152_183, e152_184, e152_187, e152_188, e152_189, e152_190, e152_191, e152_192, e152_193, e152_196, e152_197, e152_198, e152_199, e152_202, e152_205, e152_206, n_lt, n_le, n_eq, n_lt0, n_ge0, n_gt0, n_le0, n_eq0, m_lt, m_le, m_gt, m_ge, m_eq, m_eq', m_lt0, m_ge0, m_gt0, m_le0, m_ltm, m_lem, n_in, m_in, n_cl, n_ti, n_div, n_rem', n_dec, n_l, nI_add, pk_mul, an0, an1, decide_eq_true_eq, if_true, if_false, ite_true, ite_false, and_true, true_and, and_false, false_and, not_true, not_false_iff, or_false, false_or, or_true, true_or, eq_self, va_some, Bool.false_eq_true, reduceIte, catS_n, catS_i, catS_r, catS_l, catS_d, Nat.zero_add, Nat.add_zero, decide_true, decide_false, Nat.reduceLeDiff, cat_r, cat_i, cat_l, nle_T, nle_F, nlt_T, nlt_F, neq_T, neq_F]
theorem p152e {g : GS} (h6 : ∀ t, t < 3 → g (3 + t) ≤ 6) : ∀ m t (h : Int64), t + m = 3 → ∃ (h' : Int64) (kk : Nat), kk ≤ 48 * m ∧ ∀ {z : SX} {d n k : Nat} {ps : Nat → GS} {Z : ZT} {u4 u5 : Value}, 31 ≤ d → ∃ v4 v5 : Value, X2 z d 152 33 [.ref 1, .long h, UN, .int (nI t), u4, u5] [] (g, n, ps, k) Z = X2 z d 152 155 [.ref 1, .long h', UN, .int (nI 0), v4, v5] [] (g, n, ps, k + kk) Z := by
  intro m
  induction m with
  | zero =>
    intro t h hw
    have : t = 3 := by omega
    subst this
    refine ⟨h, 0, Nat.zero_le _, fun {z d n k ps Z u4 u5} hd => ⟨u4, u5, ?_⟩⟩
    rw [X2_go, e152_33]
    simp (disch := first | assumption | omega) only [Nat.reduceAdd, mP_1, mP_0, X2_go, g4_some, stp, ldI, ldA, ldL, stI, stA, stL, o1I, o2I, o2L, brI, brII, gl, s1, s2, k1, sl, g3_sN, g3_sR, g3_sC, g3_if, g3_no, pops, b2_v, e152_0, e152_3, e152_4, e152_5, e152_7, e152_9, e152_12, e152_15, e152_16, e152_17, e152_18, e152_19, e152_22, e152_23, e152_24, e152_25, e152_28, e152_31, e152_32, e152_34, e152_35, e152_38, e152_39, e152_43, e152_44, e152_47, e152_50, e152_51, e152_52, e152_53, e152_54, e152_56, e152_59, e152_60, e152_61, e152_62, e152_65, e152_68, e152_69, e152_73, e152_75, e152_78, e152_79, e152_83, e152_85, e152_88, e152_91, e152_92, e152_93, e152_94, e152_95, e152_97, e152_99, e152_102, e152_103, e152_104, e152_105, e152_108, e152_111, e152_114, e152_117, e152_120, e152_123, e152_124, e152_125, e152_126, e152_127, e152_128, e152_129, e152_130, e152_133, e152_134, e152_135, e152_136, e152_137, e152_138, e152_139, e152_140, e152_141, e152_144, e152_145, e152_146, e152_147, e152_150, e152_153, e152_154, e152_156, e152_158, e152_161, e152_164, e152_167, e152_170, e152_171, e152_172, e152_173, e152_174, e152_175, e152_178, e152_179, e152_180, e152_181, e152_182, e152_183, e152_184, e152_187, e152_188, e152_189, e152_190, e152_191, e152_192, e152_193, e152_196, e152_197, e152_198, e152_199, e152_202, e152_205, e152_206, n_lt, n_le, n_eq, n_lt0, n_ge0, n_gt0, n_le0, n_eq0, m_lt, m_le, m_gt, m_ge, m_eq, m_eq', m_lt0, m_ge0, m_gt0, m_le0, m_ltm, m_lem, n_in, m_in, n_cl, n_ti, n_div, n_rem', n_dec, n_l, nI_add, pk_mul, an0, an1, decide_eq_true_eq, if_true, if_false, ite_true, ite_false, and_true, true_and, and_false, false_and, not_true, not_false_iff, or_false, false_or, or_true, true_or, eq_self, va_some, Bool.false_eq_true, reduceIte, catS_n, catS_i, catS_r, catS_l, catS_d, Nat.zero_add, Nat.add_zero, decide_true, decide_false, Nat.reduceLeDiff, cat_r, cat_i, cat_l, nle_T, nle_F, nlt_T, nlt_F, neq_T, neq_F]
  | succ m ih =>
    intro t h hw
    obtain ⟨h1, q1⟩ := p152b (g := g) (show t < 3 by omega) 4 0 h rfl
    obtain ⟨h2, k2, hk2, q2⟩ := p152d (g := g) (show t < 3 by omega) (h6 t (by omega)) 6 0 h1 rfl
    obtain ⟨h', kk, hk, q⟩ := ih (t + 1) h2 (by omega)
    refine ⟨h', k2 + kk, by omega, fun {z d n k ps Z u4 u5} hd => ?_⟩
    obtain ⟨w5, q2⟩ := q2 (z := z) (n := n) (k := k) (ps := ps) (Z := Z) (u5 := u5) hd
    obtain ⟨v4, v5, q⟩ := q (z := z) (n := n) (k := k + k2) (ps := ps) (Z := Z) (u4 := .int (nI 6)) (u5 := w5) hd
    refine ⟨v4, v5, ?_⟩
    rw [← Nat.add_assoc, ← q, ← q2, ← q1 hd, X2_go, e152_33]
    simp (disch := first | assumption | omega) only [Nat.reduceAdd, mP_1, mP_0, X2_go, g4_some, stp, ldI, ldA, ldL, stI, stA, stL, o1I, o2I, o2L, brI, brII, gl, s1, s2, k1, sl, g3_sN, g3_sR, g3_sC, g3_if, g3_no, pops, b2_v, e152_0, e152_3, e152_4, e152_5, e152_7, e152_9, e152_12, e152_15, e152_16, e152_17, e152_18, e152_19, e152_22, e152_23, e152_24, e152_25, e152_28, e152_31, e152_32, e152_34, e152_35, e152_38, e152_39, e152_43, e152_44, e152_47, e152_50, e152_51, e152_52, e152_53, e152_54, e152_56, e152_59, e152_60, e152_61, e152_62, e152_65, e152_68, e152_69, e152_73, e152_75, e152_78, e152_79, e152_83, e152_85, e152_88, e152_91, e152_92, e152_93, e152_94, e152_95, e152_97, e152_99, e152_102, e152_103, e152_104, e152_105, e152_108, e152_111, e152_114, e152_117, e152_120, e152_123, e152_124, e152_125, e152_126, e152_127, e152_128, e152_129, e152_130, e152_133, e152_134, e152_135, e152_136, e152_137, e152_138, e152_139, e152_140, e152_141, e152_144, e152_145, e152_146, e152_147, e152_150, e152_153, e152_154, e152_156, e152_158, e152_161, e152_164, e152_167, e152_170, e152_171, e152_172, e152_173, e152_174, e152_175, e152_178, e152_179, e152_180, e152_181, e152_182, e152_183, e152_184, e152_187, e152_188, e152_189, e152_190, e152_191, e152_192, e152_193, e152_196, e152_197, e152_198, e152_199, e152_202, e152_205, e152_206, n_lt, n_le, n_eq, n_lt0, n_ge0, n_gt0, n_le0, n_eq0, m_lt, m_le, m_gt, m_ge, m_eq, m_eq', m_lt0, m_ge0, m_gt0, m_le0, m_ltm, m_lem, n_in, m_in, n_cl, n_ti, n_div, n_rem', n_dec, n_l, nI_add, pk_mul, an0, an1, decide_eq_true_eq, if_true, if_false, ite_true, ite_false, and_true, true_and, and_false, false_and, not_true, not_false_iff, or_false, false_or, or_true, true_or, eq_self, va_some, Bool.false_eq_true, reduceIte, catS_n, catS_i, catS_r, catS_l, catS_d, Nat.zero_add, Nat.add_zero, decide_true, decide_false, Nat.reduceLeDiff, cat_r, cat_i, cat_l, nle_T, nle_F, nlt_T, nlt_F, neq_T, neq_F]
theorem p152f {g : GS} : ∀ m i (h : Int64), i + m = 20 → ∃ (h' : Int64), ∀ {z : SX} {d n k : Nat} {ps : Nat → GS} {Z : ZT} {u4 u5 : Value}, 31 ≤ d → X2 z d 152 155 [.ref 1, .long h, UN, .int (nI i), u4, u5] [] (g, n, ps, k) Z = Z (.inl (some (.long h'))) (g, n, ps, k) := by
  intro m
  induction m with
  | zero =>
    intro i h hw
    have : i = 20 := by omega
    subst this
    refine ⟨h, fun {z d n k ps Z u4 u5} hd => ?_⟩
    rw [X2_go, e152_155]
    simp (disch := first | assumption | omega) only [Nat.reduceAdd, mP_1, mP_0, X2_go, g4_some, stp, ldI, ldA, ldL, stI, stA, stL, o1I, o2I, o2L, brI, brII, gl, s1, s2, k1, sl, g3_sN, g3_sR, g3_sC, g3_if, g3_no, pops, b2_v, e152_0, e152_3, e152_4, e152_5, e152_7, e152_9, e152_12, e152_15, e152_16, e152_17, e152_18, e152_19, e152_22, e152_23, e152_24, e152_25, e152_28, e152_31, e152_32, e152_34, e152_35, e152_38, e152_39, e152_43, e152_44, e152_47, e152_50, e152_51, e152_52, e152_53, e152_54, e152_56, e152_59, e152_60, e152_61, e152_62, e152_65, e152_68, e152_69, e152_73, e152_75, e152_78, e152_79, e152_83, e152_85, e152_88, e152_91, e152_92, e152_93, e152_94, e152_95, e152_97, e152_99, e152_102, e152_103, e152_104, e152_105, e152_108, e152_111, e152_114, e152_117, e152_120, e152_123, e152_124, e152_125, e152_126, e152_127, e152_128, e152_129, e152_130, e152_133, e152_134, e152_135, e152_136, e152_137, e152_138, e152_139, e152_140, e152_141, e152_144, e152_145, e152_146, e152_147, e152_150, e152_153, e152_154, e152_156, e152_158, e152_161, e152_164, e152_167, e152_170, e152_171, e152_172, e152_173, e152_174, e152_175, e152_178, e152_179, e152_180, e152_181, e152_182, e152_183, e152_184, e152_187, e152_188, e152_189, e152_190, e152_191, e152_192, e152_193, e152_196, e152_197, e152_198, e152_199, e152_202, e152_205, e152_206, n_lt, n_le, n_eq, n_lt0, n_ge0, n_gt0, n_le0, n_eq0, m_lt, m_le, m_gt, m_ge, m_eq, m_eq', m_lt0, m_ge0, m_gt0, m_le0, m_ltm, m_lem, n_in, m_in, n_cl, n_ti, n_div, n_rem', n_dec, n_l, nI_add, pk_mul, an0, an1, decide_eq_true_eq, if_true, if_false, ite_true, ite_false, and_true, true_and, and_false, false_and, not_true, not_false_iff, or_false, false_or, or_true, true_or, eq_self, va_some, Bool.false_eq_true, reduceIte, catS_n, catS_i, catS_r, catS_l, catS_d, Nat.zero_add, Nat.add_zero, decide_true, decide_false, Nat.reduceLeDiff, cat_r, cat_i, cat_l, nle_T, nle_F, nlt_T, nlt_F, neq_T, neq_F]
  | succ m ih =>
    intro i h hw
    obtain ⟨h', q⟩ := ih (i + 1) (lN 31 * (lN 31 * (lN 31 * h + (tellG g i 0).toInt64) + (tellG g i 1).toInt64) + (tellG g i 2).toInt64) (by omega)
    refine ⟨h', fun {z d n k ps Z u4 u5} hd => ?_⟩
    rw [← q (z := z) (n := n) (k := k) (ps := ps) (Z := Z) (u4 := u4) (u5 := u5) hd, X2_go, e152_155]
    simp (disch := first | assumption | omega) only [Nat.reduceAdd, mP_1, mP_0, X2_go, g4_some, stp, ldI, ldA, ldL, stI, stA, stL, o1I, o2I, o2L, brI, brII, gl, s1, s2, k1, sl, g3_sN, g3_sR, g3_sC, g3_if, g3_no, pops, b2_v, e152_0, e152_3, e152_4, e152_5, e152_7, e152_9, e152_12, e152_15, e152_16, e152_17, e152_18, e152_19, e152_22, e152_23, e152_24, e152_25, e152_28, e152_31, e152_32, e152_34, e152_35, e152_38, e152_39, e152_43, e152_44, e152_47, e152_50, e152_51, e152_52, e152_53, e152_54, e152_56, e152_59, e152_60, e152_61, e152_62, e152_65, e152_68, e152_69, e152_73, e152_75, e152_78, e152_79, e152_83, e152_85, e152_88, e152_91, e152_92, e152_93, e152_94, e152_95, e152_97, e152_99, e152_102, e152_103, e152_104, e152_105, e152_108, e152_111, e152_114, e152_117, e152_120, e152_123, e152_124, e152_125, e152_126, e152_127, e152_128, e152_129, e152_130, e152_133, e152_134, e152_135, e152_136, e152_137, e152_138, e152_139, e152_140, e152_141, e152_144, e152_145, e152_146, e152_147, e152_150, e152_153, e152_154, e152_156, e152_158, e152_161, e152_164, e152_167, e152_170, e152_171, e152_172, e152_173, e152_174, e152_175, e152_178, e152_179, e152_180, e152_181, e152_182, e152_183, e152_184, e152_187, e152_188, e152_189, e152_190, e152_191, e152_192, e152_193, e152_196, e152_197, e152_198, e152_199, e152_202, e152_205, e152_206, n_lt, n_le, n_eq, n_lt0, n_ge0, n_gt0, n_le0, n_eq0, m_lt, m_le, m_gt, m_ge, m_eq, m_eq', m_lt0, m_ge0, m_gt0, m_le0, m_ltm, m_lem, n_in, m_in, n_cl, n_ti, n_div, n_rem', n_dec, n_l, nI_add, pk_mul, an0, an1, decide_eq_true_eq, if_true, if_false, ite_true, ite_false, and_true, true_and, and_false, false_and, not_true, not_false_iff, or_false, false_or, or_true, true_or, eq_self, va_some, Bool.false_eq_true, reduceIte, catS_n, catS_i, catS_r, catS_l, catS_d, Nat.zero_add, Nat.add_zero, decide_true, decide_false, Nat.reduceLeDiff, cat_r, cat_i, cat_l, nle_T, nle_F, nlt_T, nlt_F, neq_T, neq_F, e125]
/-- print's number and what it costs -/
def prP (g : GS) (q : Int64 × Nat) : Prop := q.2 ≤ 144 ∧ ∀ {z : SX} {d n k : Nat} {ps : Nat → GS} {Z : ZT}, 32 ≤ d → C2 z d 152 [.ref 1] (g, n, ps, k) Z = Z (.inl (some (.long q.1))) (g, n, ps, k + q.2)
theorem pr_ex {g : GS} (hv : TV g) : ∃ q, prP g q := by
  obtain ⟨h1, q1⟩ := p152a (g := g) 8 0 (lN 97) rfl
  obtain ⟨h2, k2, hk2, q2⟩ := p152e (g := g) hv.2.1 3 0 h1 rfl
  obtain ⟨h3, q3⟩ := p152f (g := g) 20 0 h2 rfl
  refine ⟨(h3, k2), hk2, fun {z d n k ps Z} hd => ?_⟩
  obtain ⟨v4, v5, q2⟩ := q2 (z := z) (d := d - 1) (n := n) (k := k) (ps := ps) (Z := Z) (u4 := UN) (u5 := UN) (by omega)
  rw [← q3 (z := z) (d := d - 1) (n := n) (k := k + k2) (ps := ps) (Z := Z) (u4 := v4) (u5 := v5) (by omega), ← q2, ← q1 (by omega)]
  rw [C2_e (mj := 152) (e := [.ref 1, UN, UN, UN, UN, UN]) rfl (by omega) rfl (Nat.le_of_ble_eq_true rfl)]
  simp (disch := first | assumption | omega) only [Nat.reduceAdd, mP_1, mP_0, X2_go, g4_some, stp, ldI, ldA, ldL, stI, stA, stL, o1I, o2I, o2L, brI, brII, gl, s1, s2, k1, sl, g3_sN, g3_sR, g3_sC, g3_if, g3_no, pops, b2_v, e152_0, e152_3, e152_4, e152_5, e152_7, e152_9, e152_12, e152_15, e152_16, e152_17, e152_18, e152_19, e152_22, e152_23, e152_24, e152_25, e152_28, e152_31, e152_32, e152_34, e152_35, e152_38, e152_39, e152_43, e152_44, e152_47, e152_50, e152_51, e152_52, e152_53, e152_54, e152_56, e152_59, e152_60, e152_61, e152_62, e152_65, e152_68, e152_69, e152_73, e152_75, e152_78, e152_79, e152_83, e152_85, e152_88, e152_91, e152_92, e152_93, e152_94, e152_95, e152_97, e152_99, e152_102, e152_103, e152_104, e152_105, e152_108, e152_111, e152_114, e152_117, e152_120, e152_123, e152_124, e152_125, e152_126, e152_127, e152_128, e152_129, e152_130, e152_133, e152_134, e152_135, e152_136, e152_137, e152_138, e152_139, e152_140, e152_141, e152_144, e152_145, e152_146, e152_147, e152_150, e152_153, e152_154, e152_156, e152_158, e152_161, e152_164, e152_167, e152_170, e152_171, e152_172, e152_173, e152_174, e152_175, e152_178, e152_179, e152_180, e152_181, e152_182, e152_183, e152_184, e152_187, e152_188, e152_189, e152_190, e152_191, e152_192, e152_193, e152_196, e152_197, e152_198, e152_199, e152_202, e152_205, e152_206, n_lt, n_le, n_eq, n_lt0, n_ge0, n_gt0, n_le0, n_eq0, m_lt, m_le, m_gt, m_ge, m_eq, m_eq', m_lt0, m_ge0, m_gt0, m_le0, m_ltm, m_lem, n_in, m_in, n_cl, n_ti, n_div, n_rem', n_dec, n_l, nI_add, pk_mul, an0, an1, decide_eq_true_eq, if_true, if_false, ite_true, ite_false, and_true, true_and, and_false, false_and, not_true, not_false_iff, or_false, false_or, or_true, true_or, eq_self, va_some, Bool.false_eq_true, reduceIte, catS_n, catS_i, catS_r, catS_l, catS_d, Nat.zero_add, Nat.add_zero, decide_true, decide_false, Nat.reduceLeDiff, cat_r, cat_i, cat_l, nle_T, nle_F, nlt_T, nlt_F, neq_T, neq_F]
noncomputable def prV (g : GS) : Int64 := (Classical.epsilon (prP g)).1
noncomputable def prK (g : GS) : Nat := (Classical.epsilon (prP g)).2
theorem prK_b {g : GS} (hv : TV g) : prK g ≤ 144 := (Classical.epsilon_spec (pr_ex hv)).1
theorem e152 {z : SX} {d : Nat} {g : GS} {n k : Nat} {ps : Nat → GS} {Z : ZT} (hv : TV g) (hd : 32 ≤ d) : C2 z d 152 [.ref 1] (g, n, ps, k) Z = Z (.inl (some (.long (prV g)))) (g, n, ps, k + prK g) := (Classical.epsilon_spec (pr_ex hv)).2 hd
