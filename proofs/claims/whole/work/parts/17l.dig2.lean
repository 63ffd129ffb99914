/-! CALLS of the class: the digest -/
theorem d57_0 : dec 57 0 = some (.ldc2_w 266, 3, [9, 3361, 491]) := rfl
theorem d57_3 : dec 57 3 = some (.aload_n 0, 1, []) := rfl
theorem d57_4 : dec 57 4 = some (.getfield 29, 3, [1, 9, 3, 2, 0, 274]) := rfl
theorem d57_7 : dec 57 7 = some (.getfield 240, 3, [1, 8, 1, 0, 1, 185]) := rfl
theorem d57_10 : dec 57 10 = some (.i2l, 1, []) := rfl
theorem d57_11 : dec 57 11 = some (.invokestatic 268, 3, [2, 58, 0, 9, 0, 492, 1, 1]) := rfl
theorem d57_14 : dec 57 14 = some (.lstore_n 1, 1, []) := rfl
theorem d57_15 : dec 57 15 = some (.iconst 0, 1, [0]) := rfl
theorem d57_16 : dec 57 16 = some (.istore_n 3, 1, []) := rfl
theorem d57_17 : dec 57 17 = some (.iload_n 3, 1, []) := rfl
theorem d57_18 : dec 57 18 = some (.bipush 8, 2, [8]) := rfl
theorem d57_20 : dec 57 20 = some (.if_icmp .ge 20, 3, [40]) := rfl
theorem d57_23 : dec 57 23 = some (.lload_n 1, 1, []) := rfl
theorem d57_24 : dec 57 24 = some (.aload_n 0, 1, []) := rfl
theorem d57_25 : dec 57 25 = some (.iload_n 3, 1, []) := rfl
theorem d57_26 : dec 57 26 = some (.invokevirtual 165, 3, [2, 59, 2, 9, 0, 496, 0]) := rfl
theorem d57_29 : dec 57 29 = some (.i2l, 1, []) := rfl
theorem d57_30 : dec 57 30 = some (.invokestatic 268, 3, [2, 58, 0, 9, 0, 492, 1, 1]) := rfl
theorem d57_33 : dec 57 33 = some (.lstore_n 1, 1, []) := rfl
theorem d57_34 : dec 57 34 = some (.iinc 3 1, 3, [1]) := rfl
theorem d57_37 : dec 57 37 = some (.goto (-20), 3, [17]) := rfl
theorem d57_40 : dec 57 40 = some (.iconst 1, 1, [1]) := rfl
theorem d57_41 : dec 57 41 = some (.istore_n 3, 1, []) := rfl
theorem d57_42 : dec 57 42 = some (.iload_n 3, 1, []) := rfl
theorem d57_43 : dec 57 43 = some (.iconst 3, 1, [3]) := rfl
theorem d57_44 : dec 57 44 = some (.if_icmp .gt 49, 3, [93]) := rfl
theorem d57_47 : dec 57 47 = some (.lload_n 1, 1, []) := rfl
theorem d57_48 : dec 57 48 = some (.aload_n 0, 1, []) := rfl
theorem d57_49 : dec 57 49 = some (.getfield 12, 3, [1, 9, 0, 2, 0, 271]) := rfl
theorem d57_52 : dec 57 52 = some (.getfield 141, 3, [1, 6, 1, 2, 1, 146]) := rfl
theorem d57_55 : dec 57 55 = some (.getfield 145, 3, [1, 3, 0, 2, 1, 93]) := rfl
theorem d57_58 : dec 57 58 = some (.iload_n 3, 1, []) := rfl
theorem d57_59 : dec 57 59 = some (.invokestatic 161, 3, [2, 26, 0, 9, 0, 506, 0, 2]) := rfl
theorem d57_62 : dec 57 62 = some (.i2l, 1, []) := rfl
theorem d57_63 : dec 57 63 = some (.invokestatic 268, 3, [2, 58, 0, 9, 0, 492, 1, 1]) := rfl
theorem d57_66 : dec 57 66 = some (.lstore_n 1, 1, []) := rfl
theorem d57_67 : dec 57 67 = some (.lload_n 1, 1, []) := rfl
theorem d57_68 : dec 57 68 = some (.aload_n 0, 1, []) := rfl
theorem d57_69 : dec 57 69 = some (.getfield 12, 3, [1, 9, 0, 2, 0, 271]) := rfl
theorem d57_72 : dec 57 72 = some (.getfield 141, 3, [1, 6, 1, 2, 1, 146]) := rfl
theorem d57_75 : dec 57 75 = some (.getfield 150, 3, [1, 3, 1, 2, 1, 95]) := rfl
theorem d57_78 : dec 57 78 = some (.iload_n 3, 1, []) := rfl
theorem d57_79 : dec 57 79 = some (.invokestatic 161, 3, [2, 26, 0, 9, 0, 506, 0, 2]) := rfl
theorem d57_82 : dec 57 82 = some (.i2l, 1, []) := rfl
theorem d57_83 : dec 57 83 = some (.invokestatic 268, 3, [2, 58, 0, 9, 0, 492, 1, 1]) := rfl
theorem d57_86 : dec 57 86 = some (.lstore_n 1, 1, []) := rfl
theorem d57_87 : dec 57 87 = some (.iinc 3 1, 3, [1]) := rfl
theorem d57_90 : dec 57 90 = some (.goto (-48), 3, [42]) := rfl
theorem d57_93 : dec 57 93 = some (.iconst 0, 1, [0]) := rfl
theorem d57_94 : dec 57 94 = some (.istore_n 3, 1, []) := rfl
theorem d57_95 : dec 57 95 = some (.iload_n 3, 1, []) := rfl
theorem d57_96 : dec 57 96 = some (.iconst 3, 1, [3]) := rfl
theorem d57_97 : dec 57 97 = some (.if_icmp .ge 57, 3, [154]) := rfl
theorem d57_100 : dec 57 100 = some (.aload_n 0, 1, []) := rfl
theorem d57_101 : dec 57 101 = some (.lload_n 1, 1, []) := rfl
theorem d57_102 : dec 57 102 = some (.iload_n 3, 1, []) := rfl
theorem d57_103 : dec 57 103 = some (.invokevirtual 272, 3, [2, 61, 2, 9, 0, 507, 0, 1]) := rfl
theorem d57_106 : dec 57 106 = some (.lstore_n 1, 1, []) := rfl
theorem d57_107 : dec 57 107 = some (.aload_n 0, 1, []) := rfl
theorem d57_108 : dec 57 108 = some (.getfield 57, 3, [1, 9, 7, 2, 0, 278]) := rfl
theorem d57_111 : dec 57 111 = some (.aload_n 0, 1, []) := rfl
theorem d57_112 : dec 57 112 = some (.getfield 12, 3, [1, 9, 0, 2, 0, 271]) := rfl
theorem d57_115 : dec 57 115 = some (.iload_n 3, 1, []) := rfl
theorem d57_116 : dec 57 116 = some (.invokevirtual 201, 3, [2, 75, 2, 0, 0, 573, 0, 2]) := rfl
theorem d57_119 : dec 57 119 = some (.iconst 0, 1, [0]) := rfl
theorem d57_120 : dec 57 120 = some (.istore 4, 2, []) := rfl
theorem d57_122 : dec 57 122 = some (.iload 4, 2, []) := rfl
theorem d57_124 : dec 57 124 = some (.iconst 3, 1, [3]) := rfl
theorem d57_125 : dec 57 125 = some (.if_icmp .gt 23, 3, [148]) := rfl
theorem d57_128 : dec 57 128 = some (.lload_n 1, 1, []) := rfl
theorem d57_129 : dec 57 129 = some (.aload_n 0, 1, []) := rfl
theorem d57_130 : dec 57 130 = some (.getfield 57, 3, [1, 9, 7, 2, 0, 278]) := rfl
theorem d57_133 : dec 57 133 = some (.iload 4, 2, []) := rfl
theorem d57_135 : dec 57 135 = some (.invokevirtual 209, 3, [2, 82, 2, 0, 0, 610, 0]) := rfl
theorem d57_138 : dec 57 138 = some (.invokestatic 268, 3, [2, 58, 0, 9, 0, 492, 1, 1]) := rfl
theorem d57_141 : dec 57 141 = some (.lstore_n 1, 1, []) := rfl
theorem d57_142 : dec 57 142 = some (.iinc 4 1, 3, [1]) := rfl
theorem d57_145 : dec 57 145 = some (.goto (-23), 3, [122]) := rfl
theorem d57_148 : dec 57 148 = some (.iinc 3 1, 3, [1]) := rfl
theorem d57_151 : dec 57 151 = some (.goto (-56), 3, [95]) := rfl
theorem d57_154 : dec 57 154 = some (.iconst 0, 1, [0]) := rfl
theorem d57_155 : dec 57 155 = some (.istore_n 3, 1, []) := rfl
theorem d57_156 : dec 57 156 = some (.iload_n 3, 1, []) := rfl
theorem d57_157 : dec 57 157 = some (.bipush 16, 2, [16]) := rfl
theorem d57_159 : dec 57 159 = some (.if_icmp .ge 29, 3, [188]) := rfl
theorem d57_162 : dec 57 162 = some (.lload_n 1, 1, []) := rfl
theorem d57_163 : dec 57 163 = some (.aload_n 0, 1, []) := rfl
theorem d57_164 : dec 57 164 = some (.getfield 12, 3, [1, 9, 0, 2, 0, 271]) := rfl
theorem d57_167 : dec 57 167 = some (.getfield 174, 3, [1, 6, 2, 2, 1, 149]) := rfl
theorem d57_170 : dec 57 170 = some (.getfield 186, 3, [1, 2, 0, 2, 1, 116]) := rfl
theorem d57_173 : dec 57 173 = some (.iload_n 3, 1, []) := rfl
theorem d57_174 : dec 57 174 = some (.invokestatic 161, 3, [2, 26, 0, 9, 0, 506, 0, 2]) := rfl
theorem d57_177 : dec 57 177 = some (.i2l, 1, []) := rfl
theorem d57_178 : dec 57 178 = some (.invokestatic 268, 3, [2, 58, 0, 9, 0, 492, 1, 1]) := rfl
theorem d57_181 : dec 57 181 = some (.lstore_n 1, 1, []) := rfl
theorem d57_182 : dec 57 182 = some (.iinc 3 1, 3, [1]) := rfl
theorem d57_185 : dec 57 185 = some (.goto (-29), 3, [156]) := rfl
theorem d57_188 : dec 57 188 = some (.iconst 0, 1, [0]) := rfl
theorem d57_189 : dec 57 189 = some (.istore_n 3, 1, []) := rfl
theorem d57_190 : dec 57 190 = some (.iload_n 3, 1, []) := rfl
theorem d57_191 : dec 57 191 = some (.aload_n 0, 1, []) := rfl
theorem d57_192 : dec 57 192 = some (.getfield 12, 3, [1, 9, 0, 2, 0, 271]) := rfl
theorem d57_195 : dec 57 195 = some (.getfield 174, 3, [1, 6, 2, 2, 1, 149]) := rfl
theorem d57_198 : dec 57 198 = some (.invokevirtual 276, 3, [2, 33, 2, 2, 0, 500]) := rfl
theorem d57_201 : dec 57 201 = some (.if_icmp .ge 43, 3, [244]) := rfl
theorem d57_204 : dec 57 204 = some (.iconst 0, 1, [0]) := rfl
theorem d57_205 : dec 57 205 = some (.istore 4, 2, []) := rfl
theorem d57_207 : dec 57 207 = some (.iload 4, 2, []) := rfl
theorem d57_209 : dec 57 209 = some (.iconst 3, 1, [3]) := rfl
theorem d57_210 : dec 57 210 = some (.if_icmp .ge 28, 3, [238]) := rfl
theorem d57_213 : dec 57 213 = some (.lload_n 1, 1, []) := rfl
theorem d57_214 : dec 57 214 = some (.aload_n 0, 1, []) := rfl
theorem d57_215 : dec 57 215 = some (.getfield 12, 3, [1, 9, 0, 2, 0, 271]) := rfl
theorem d57_218 : dec 57 218 = some (.getfield 174, 3, [1, 6, 2, 2, 1, 149]) := rfl
theorem d57_221 : dec 57 221 = some (.iload_n 3, 1, []) := rfl
theorem d57_222 : dec 57 222 = some (.iload 4, 2, []) := rfl
theorem d57_224 : dec 57 224 = some (.invokevirtual 178, 3, [2, 34, 2, 2, 0, 617, 0, 0]) := rfl
theorem d57_227 : dec 57 227 = some (.i2l, 1, []) := rfl
theorem d57_228 : dec 57 228 = some (.invokestatic 268, 3, [2, 58, 0, 9, 0, 492, 1, 1]) := rfl
theorem d57_231 : dec 57 231 = some (.lstore_n 1, 1, []) := rfl
theorem d57_232 : dec 57 232 = some (.iinc 4 1, 3, [1]) := rfl
theorem d57_235 : dec 57 235 = some (.goto (-28), 3, [207]) := rfl
theorem d57_238 : dec 57 238 = some (.iinc 3 1, 3, [1]) := rfl
theorem d57_241 : dec 57 241 = some (.goto (-51), 3, [190]) := rfl
theorem d57_244 : dec 57 244 = some (.lload_n 1, 1, []) := rfl
theorem d57_245 : dec 57 245 = some (.aload_n 0, 1, []) := rfl
theorem d57_246 : dec 57 246 = some (.getfield 22, 3, [1, 9, 2, 2, 0, 273]) := rfl
theorem d57_249 : dec 57 249 = some (.getfield 258, 3, [1, 5, 2, 0, 1, 169]) := rfl
theorem d57_252 : dec 57 252 = some (.i2l, 1, []) := rfl
theorem d57_253 : dec 57 253 = some (.invokestatic 268, 3, [2, 58, 0, 9, 0, 492, 1, 1]) := rfl
theorem d57_256 : dec 57 256 = some (.lreturn, 1, []) := rfl
theorem l57 : mL 57 = 5 := rfl
theorem f57a {d : Nat} {P : MP} {L : ML} {C : MC} {h : Int64} {Q : QT} {B n len : Nat} {g : GS} {ps : Nat → GS} {tx : Nat → Nat} {u : Value} {I : MI} (hX : XB P) (hR : XR I L g n ps len tx) (hA : AV B g n ps len tx) (hB : B ≤ 1000000) (hd : 11 ≤ d) : ∀ m w, w + m = 8 → X d 57 17 [.ref 1, .long (mxs (vF g) w h), UN, .int (nI w), u] [] P I L C Q = X d 57 40 [.ref 1, .long (mxs (vF g) 8 h), UN, .int (nI 8), u] [] P I L C Q := by
  have k0 := hX.1
  intro m
  induction m with
  | zero =>
    intro w hw
    have : w = 8 := by omega
    subst this
    rw [X_go, d57_17]
    simp (disch := first | assumption | omega) only [Nat.reduceAdd, X_go, go2_some, stp, ldI, ldA, ldL, stI, stA, stL, o1I, o2I, o2L, brI, brII, gl, s1, s2, k1, sl, go_sN, go_sR, go_CT, go_sT, go_no, go_if, pops, bk_v, bk_0, d57_0, d57_3, d57_4, d57_7, d57_10, d57_11, d57_14, d57_15, d57_16, d57_18, d57_20, d57_23, d57_24, d57_25, d57_26, d57_29, d57_30, d57_33, d57_34, d57_37, d57_41, d57_42, d57_43, d57_44, d57_47, d57_48, d57_49, d57_52, d57_55, d57_58, d57_59, d57_62, d57_63, d57_66, d57_67, d57_68, d57_69, d57_72, d57_75, d57_78, d57_79, d57_82, d57_83, d57_86, d57_87, d57_90, d57_93, d57_94, d57_95, d57_96, d57_97, d57_100, d57_101, d57_102, d57_103, d57_106, d57_107, d57_108, d57_111, d57_112, d57_115, d57_116, d57_119, d57_120, d57_122, d57_124, d57_125, d57_128, d57_129, d57_130, d57_133, d57_135, d57_138, d57_141, d57_142, d57_145, d57_148, d57_151, d57_154, d57_155, d57_156, d57_157, d57_159, d57_162, d57_163, d57_164, d57_167, d57_170, d57_173, d57_174, d57_177, d57_178, d57_181, d57_182, d57_185, d57_188, d57_189, d57_190, d57_191, d57_192, d57_195, d57_198, d57_201, d57_204, d57_205, d57_207, d57_209, d57_210, d57_213, d57_214, d57_215, d57_218, d57_221, d57_222, d57_224, d57_227, d57_228, d57_231, d57_232, d57_235, d57_238, d57_241, d57_244, d57_245, d57_246, d57_249, d57_252, d57_253, d57_256, n_lt, n_le, n_eq, n_lt0, n_ge0, n_gt0, n_le0, n_eq0, m_lt, m_le, m_gt, m_ge, m_eq, m_eq', m_lt0, m_ge0, m_gt0, m_le0, m_ltm, m_lem, n_in, m_in, n_cl, n_ti, n_div, n_rem', n_dec, n_l, nI_add, pk_mul, an0, an1, decide_eq_true_eq, if_true, if_false, ite_true, ite_false, and_true, true_and, and_false, false_and, not_true, not_false_iff, or_false, false_or, or_true, true_or, eq_self, va_some, Bool.false_eq_true, reduceIte, catS_n, catS_i, catS_r, catS_l, catS_d, Nat.zero_add, Nat.add_zero, decide_true, decide_false, Nat.reduceLeDiff, cat_r, cat_i, cat_l, nle_T, nle_F, nlt_T, nlt_F, neq_T, neq_F]
  | succ m ih =>
    intro w hw
    have e1 : (nI (vV g w)).toInt64 = vF g w := rfl
    rw [← ih (w + 1) (by omega), mxs_s, X_go, d57_17]
    simp (disch := first | assumption | omega) only [Nat.reduceAdd, X_go, go2_some, stp, ldI, ldA, ldL, stI, stA, stL, o1I, o2I, o2L, brI, brII, gl, s1, s2, k1, sl, go_sN, go_sR, go_CT, go_sT, go_no, go_if, pops, bk_v, bk_0, d57_0, d57_3, d57_4, d57_7, d57_10, d57_11, d57_14, d57_15, d57_16, d57_18, d57_20, d57_23, d57_24, d57_25, d57_26, d57_29, d57_30, d57_33, d57_34, d57_37, d57_41, d57_42, d57_43, d57_44, d57_47, d57_48, d57_49, d57_52, d57_55, d57_58, d57_59, d57_62, d57_63, d57_66, d57_67, d57_68, d57_69, d57_72, d57_75, d57_78, d57_79, d57_82, d57_83, d57_86, d57_87, d57_90, d57_93, d57_94, d57_95, d57_96, d57_97, d57_100, d57_101, d57_102, d57_103, d57_106, d57_107, d57_108, d57_111, d57_112, d57_115, d57_116, d57_119, d57_120, d57_122, d57_124, d57_125, d57_128, d57_129, d57_130, d57_133, d57_135, d57_138, d57_141, d57_142, d57_145, d57_148, d57_151, d57_154, d57_155, d57_156, d57_157, d57_159, d57_162, d57_163, d57_164, d57_167, d57_170, d57_173, d57_174, d57_177, d57_178, d57_181, d57_182, d57_185, d57_188, d57_189, d57_190, d57_191, d57_192, d57_195, d57_198, d57_201, d57_204, d57_205, d57_207, d57_209, d57_210, d57_213, d57_214, d57_215, d57_218, d57_221, d57_222, d57_224, d57_227, d57_228, d57_231, d57_232, d57_235, d57_238, d57_241, d57_244, d57_245, d57_246, d57_249, d57_252, d57_253, d57_256, n_lt, n_le, n_eq, n_lt0, n_ge0, n_gt0, n_le0, n_eq0, m_lt, m_le, m_gt, m_ge, m_eq, m_eq', m_lt0, m_ge0, m_gt0, m_le0, m_ltm, m_lem, n_in, m_in, n_cl, n_ti, n_div, n_rem', n_dec, n_l, nI_add, pk_mul, an0, an1, decide_eq_true_eq, if_true, if_false, ite_true, ite_false, and_true, true_and, and_false, false_and, not_true, not_false_iff, or_false, false_or, or_true, true_or, eq_self, va_some, Bool.false_eq_true, reduceIte, catS_n, catS_i, catS_r, catS_l, catS_d, Nat.zero_add, Nat.add_zero, decide_true, decide_false, Nat.reduceLeDiff, cat_r, cat_i, cat_l, nle_T, nle_F, nlt_T, nlt_F, neq_T, neq_F, k0, c59 hX hR hA hB, e1, c58]
    done
theorem f57b {d : Nat} {P : MP} {L : ML} {C : MC} {h : Int64} {Q : QT} {B n len : Nat} {g : GS} {ps : Nat → GS} {tx : Nat → Nat} {u : Value} {I : MI} (hX : XB P) (hR : XR I L g n ps len tx) (hA : AV B g n ps len tx) (hd : 11 ≤ d) : ∀ m i, i + m = 3 → X d 57 42 [.ref 1, .long (mxs (coF g) (2 * i) h), UN, .int (nI (i + 1)), u] [] P I L C Q = X d 57 93 [.ref 1, .long (mxs (coF g) 6 h), UN, .int (nI 4), u] [] P I L C Q := by
  have hX' := hX
  obtain ⟨k0, ⟨p0, p1, p2, p3, p4, p5, p6, p7, p8⟩, hS, hS2, hV, ⟨x0, x1, x2⟩, hT2, hO, hD, hH, hH2⟩ := hX'
  have hS' := hS
  obtain ⟨l0, r0, r1, r2, hT, hK, hF⟩ := hS'
  have hT' := hT
  have hK' := hK
  have hF' := hF
  have hR' := hR
  have hA' := hA
  obtain ⟨⟨m0, q0, q1, q2, q3, q4, q5, q6, q7⟩, z1, z2, z3, z4, z5, z6, z7, z8⟩ := hT'
  obtain ⟨w0, w1, w2, w3, w4⟩ := hK'
  obtain ⟨f0, f1, f2, f3, f4, f5, f6, f7, f8⟩ := hF'
  obtain ⟨hg, hVR, hXT, hCC⟩ := hR'
  obtain ⟨hGV, hps, hn4, hlen, htx⟩ := hA'
  have h140 := GV_140 hGV
  have hv := hGV.1
  have hl := hGV.2.1
  have hFv := hGV.2.2
  intro m
  induction m with
  | zero =>
    intro i hi
    have : i = 3 := by omega
    subst this
    rw [X_go, d57_42]
    simp (disch := first | assumption | omega) only [Nat.reduceAdd, X_go, go2_some, stp, ldI, ldA, ldL, stI, stA, stL, o1I, o2I, o2L, brI, brII, gl, s1, s2, k1, sl, go_sN, go_sR, go_CT, go_sT, go_no, go_if, pops, bk_v, bk_0, d57_0, d57_3, d57_4, d57_7, d57_10, d57_11, d57_14, d57_15, d57_16, d57_17, d57_18, d57_20, d57_23, d57_24, d57_25, d57_26, d57_29, d57_30, d57_33, d57_34, d57_37, d57_40, d57_41, d57_43, d57_44, d57_47, d57_48, d57_49, d57_52, d57_55, d57_58, d57_59, d57_62, d57_63, d57_66, d57_67, d57_68, d57_69, d57_72, d57_75, d57_78, d57_79, d57_82, d57_83, d57_86, d57_87, d57_90, d57_94, d57_95, d57_96, d57_97, d57_100, d57_101, d57_102, d57_103, d57_106, d57_107, d57_108, d57_111, d57_112, d57_115, d57_116, d57_119, d57_120, d57_122, d57_124, d57_125, d57_128, d57_129, d57_130, d57_133, d57_135, d57_138, d57_141, d57_142, d57_145, d57_148, d57_151, d57_154, d57_155, d57_156, d57_157, d57_159, d57_162, d57_163, d57_164, d57_167, d57_170, d57_173, d57_174, d57_177, d57_178, d57_181, d57_182, d57_185, d57_188, d57_189, d57_190, d57_191, d57_192, d57_195, d57_198, d57_201, d57_204, d57_205, d57_207, d57_209, d57_210, d57_213, d57_214, d57_215, d57_218, d57_221, d57_222, d57_224, d57_227, d57_228, d57_231, d57_232, d57_235, d57_238, d57_241, d57_244, d57_245, d57_246, d57_249, d57_252, d57_253, d57_256, n_lt, n_le, n_eq, n_lt0, n_ge0, n_gt0, n_le0, n_eq0, m_lt, m_le, m_gt, m_ge, m_eq, m_eq', m_lt0, m_ge0, m_gt0, m_le0, m_ltm, m_lem, n_in, m_in, n_cl, n_ti, n_div, n_rem', n_dec, n_l, nI_add, pk_mul, an0, an1, decide_eq_true_eq, if_true, if_false, ite_true, ite_false, and_true, true_and, and_false, false_and, not_true, not_false_iff, or_false, false_or, or_true, true_or, eq_self, va_some, Bool.false_eq_true, reduceIte, catS_n, catS_i, catS_r, catS_l, catS_d, Nat.zero_add, Nat.add_zero, decide_true, decide_false, Nat.reduceLeDiff, cat_r, cat_i, cat_l, nle_T, nle_F, nlt_T, nlt_F, neq_T, neq_F]
  | succ m ih =>
    intro i hi
    have a1 : I 13 (i + 1) = nI (g (114 + i)) := by
      have := (hg.2.1.1 (i + 1) (by omega) (by omega)).1
      rw [show 113 + (i + 1) = 114 + i by omega] at this
      exact this
    have a2 : I 14 (i + 1) = nI (g (117 + i)) := by
      have := (hg.2.1.1 (i + 1) (by omega) (by omega)).2
      rw [show 116 + (i + 1) = 117 + i by omega] at this
      exact this
    have e1 : (nI (g (114 + i))).toInt64 = coF g (2 * i) := by
      unfold coF
      rw [if_pos (by omega), show 2 * i / 2 = i by omega]
    have e2 : (nI (g (117 + i))).toInt64 = coF g (2 * i + 1) := by
      unfold coF
      rw [if_neg (by omega), show (2 * i + 1) / 2 = i by omega]
    rw [← ih (i + 1) (by omega), show 2 * (i + 1) = 2 * i + 1 + 1 by omega, mxs_s, mxs_s, X_go, d57_42]
    simp (disch := first | assumption | omega) only [Nat.reduceAdd, X_go, go2_some, stp, ldI, ldA, ldL, stI, stA, stL, o1I, o2I, o2L, brI, brII, gl, s1, s2, k1, sl, go_sN, go_sR, go_CT, go_sT, go_no, go_if, pops, bk_v, bk_0, d57_0, d57_3, d57_4, d57_7, d57_10, d57_11, d57_14, d57_15, d57_16, d57_17, d57_18, d57_20, d57_23, d57_24, d57_25, d57_26, d57_29, d57_30, d57_33, d57_34, d57_37, d57_40, d57_41, d57_43, d57_44, d57_47, d57_48, d57_49, d57_52, d57_55, d57_58, d57_59, d57_62, d57_63, d57_66, d57_67, d57_68, d57_69, d57_72, d57_75, d57_78, d57_79, d57_82, d57_83, d57_86, d57_87, d57_90, d57_94, d57_95, d57_96, d57_97, d57_100, d57_101, d57_102, d57_103, d57_106, d57_107, d57_108, d57_111, d57_112, d57_115, d57_116, d57_119, d57_120, d57_122, d57_124, d57_125, d57_128, d57_129, d57_130, d57_133, d57_135, d57_138, d57_141, d57_142, d57_145, d57_148, d57_151, d57_154, d57_155, d57_156, d57_157, d57_159, d57_162, d57_163, d57_164, d57_167, d57_170, d57_173, d57_174, d57_177, d57_178, d57_181, d57_182, d57_185, d57_188, d57_189, d57_190, d57_191, d57_192, d57_195, d57_198, d57_201, d57_204, d57_205, d57_207, d57_209, d57_210, d57_213, d57_214, d57_215, d57_218, d57_221, d57_222, d57_224, d57_227, d57_228, d57_231, d57_232, d57_235, d57_238, d57_241, d57_244, d57_245, d57_246, d57_249, d57_252, d57_253, d57_256, n_lt, n_le, n_eq, n_lt0, n_ge0, n_gt0, n_le0, n_eq0, m_lt, m_le, m_gt, m_ge, m_eq, m_eq', m_lt0, m_ge0, m_gt0, m_le0, m_ltm, m_lem, n_in, m_in, n_cl, n_ti, n_div, n_rem', n_dec, n_l, nI_add, pk_mul, an0, an1, decide_eq_true_eq, if_true, if_false, ite_true, ite_false, and_true, true_and, and_false, false_and, not_true, not_false_iff, or_false, false_or, or_true, true_or, eq_self, va_some, Bool.false_eq_true, reduceIte, catS_n, catS_i, catS_r, catS_l, catS_d, Nat.zero_add, Nat.add_zero, decide_true, decide_false, Nat.reduceLeDiff, cat_r, cat_i, cat_l, nle_T, nle_F, nlt_T, nlt_F, neq_T, neq_F, k0, p0, p1, p2, p3, p4, p5, p6, p7, p8, x0, x1, x2, l0, r0, r1, r2, m0, q0, q1, q2, q3, q4, q5, q6, q7, w0, w1, w2, f0, f1, f2, f3, f4, c26 w3, c26 w4, a1, a2, e1, e2, c58]
    done
theorem f57c {d : Nat} {P : MP} {L : ML} {C : MC} {h : Int64} {Q : QT} {V : CV} {t : Nat} {I : MI} (hX : XB P) (hcl : CL L 130 V) (hd : 11 ≤ d) : ∀ m r, r + m = 4 → X d 57 122 [.ref 1, .long (mxs (raV V) r h), UN, .int (nI t), .int (nI r)] [] P I L C Q = X d 57 148 [.ref 1, .long (mxs (raV V) 4 h), UN, .int (nI t), .int (nI 4)] [] P I L C Q := by
  have hX' := hX
  obtain ⟨k0, ⟨p0, p1, p2, p3, p4, p5, p6, p7, p8⟩, hS, hS2, hV, ⟨x0, x1, x2⟩, hT2, hO, hD, hH, hH2⟩ := hX'
  have hH0 := hH.1
  intro m
  induction m with
  | zero =>
    intro r hr
    have : r = 4 := by omega
    subst this
    rw [X_go, d57_122]
    simp (disch := first | assumption | omega) only [Nat.reduceAdd, X_go, go2_some, stp, ldI, ldA, ldL, stI, stA, stL, o1I, o2I, o2L, brI, brII, gl, s1, s2, k1, sl, go_sN, go_sR, go_CT, go_sT, go_no, go_if, pops, bk_v, bk_0, d57_0, d57_3, d57_4, d57_7, d57_10, d57_11, d57_14, d57_15, d57_16, d57_17, d57_18, d57_20, d57_23, d57_24, d57_25, d57_26, d57_29, d57_30, d57_33, d57_34, d57_37, d57_40, d57_41, d57_42, d57_43, d57_44, d57_47, d57_48, d57_49, d57_52, d57_55, d57_58, d57_59, d57_62, d57_63, d57_66, d57_67, d57_68, d57_69, d57_72, d57_75, d57_78, d57_79, d57_82, d57_83, d57_86, d57_87, d57_90, d57_93, d57_94, d57_95, d57_96, d57_97, d57_100, d57_101, d57_102, d57_103, d57_106, d57_107, d57_108, d57_111, d57_112, d57_115, d57_116, d57_119, d57_120, d57_124, d57_125, d57_128, d57_129, d57_130, d57_133, d57_135, d57_138, d57_141, d57_142, d57_145, d57_151, d57_154, d57_155, d57_156, d57_157, d57_159, d57_162, d57_163, d57_164, d57_167, d57_170, d57_173, d57_174, d57_177, d57_178, d57_181, d57_182, d57_185, d57_188, d57_189, d57_190, d57_191, d57_192, d57_195, d57_198, d57_201, d57_204, d57_205, d57_207, d57_209, d57_210, d57_213, d57_214, d57_215, d57_218, d57_221, d57_222, d57_224, d57_227, d57_228, d57_231, d57_232, d57_235, d57_238, d57_241, d57_244, d57_245, d57_246, d57_249, d57_252, d57_253, d57_256, n_lt, n_le, n_eq, n_lt0, n_ge0, n_gt0, n_le0, n_eq0, m_lt, m_le, m_gt, m_ge, m_eq, m_eq', m_lt0, m_ge0, m_gt0, m_le0, m_ltm, m_lem, n_in, m_in, n_cl, n_ti, n_div, n_rem', n_dec, n_l, nI_add, pk_mul, an0, an1, decide_eq_true_eq, if_true, if_false, ite_true, ite_false, and_true, true_and, and_false, false_and, not_true, not_false_iff, or_false, false_or, or_true, true_or, eq_self, va_some, Bool.false_eq_true, reduceIte, catS_n, catS_i, catS_r, catS_l, catS_d, Nat.zero_add, Nat.add_zero, decide_true, decide_false, Nat.reduceLeDiff, cat_r, cat_i, cat_l, nle_T, nle_F, nlt_T, nlt_F, neq_T, neq_F]
  | succ m ih =>
    intro r hr
    rw [← ih (r + 1) (by omega), mxs_s, X_go, d57_122]
    simp (disch := first | assumption | omega) only [Nat.reduceAdd, X_go, go2_some, stp, ldI, ldA, ldL, stI, stA, stL, o1I, o2I, o2L, brI, brII, gl, s1, s2, k1, sl, go_sN, go_sR, go_CT, go_sT, go_no, go_if, pops, bk_v, bk_0, d57_0, d57_3, d57_4, d57_7, d57_10, d57_11, d57_14, d57_15, d57_16, d57_17, d57_18, d57_20, d57_23, d57_24, d57_25, d57_26, d57_29, d57_30, d57_33, d57_34, d57_37, d57_40, d57_41, d57_42, d57_43, d57_44, d57_47, d57_48, d57_49, d57_52, d57_55, d57_58, d57_59, d57_62, d57_63, d57_66, d57_67, d57_68, d57_69, d57_72, d57_75, d57_78, d57_79, d57_82, d57_83, d57_86, d57_87, d57_90, d57_93, d57_94, d57_95, d57_96, d57_97, d57_100, d57_101, d57_102, d57_103, d57_106, d57_107, d57_108, d57_111, d57_112, d57_115, d57_116, d57_119, d57_120, d57_124, d57_125, d57_128, d57_129, d57_130, d57_133, d57_135, d57_138, d57_141, d57_142, d57_145, d57_151, d57_154, d57_155, d57_156, d57_157, d57_159, d57_162, d57_163, d57_164, d57_167, d57_170, d57_173, d57_174, d57_177, d57_178, d57_181, d57_182, d57_185, d57_188, d57_189, d57_190, d57_191, d57_192, d57_195, d57_198, d57_201, d57_204, d57_205, d57_207, d57_209, d57_210, d57_213, d57_214, d57_215, d57_218, d57_221, d57_222, d57_224, d57_227, d57_228, d57_231, d57_232, d57_235, d57_238, d57_241, d57_244, d57_245, d57_246, d57_249, d57_252, d57_253, d57_256, n_lt, n_le, n_eq, n_lt0, n_ge0, n_gt0, n_le0, n_eq0, m_lt, m_le, m_gt, m_ge, m_eq, m_eq', m_lt0, m_ge0, m_gt0, m_le0, m_ltm, m_lem, n_in, m_in, n_cl, n_ti, n_div, n_rem', n_dec, n_l, nI_add, pk_mul, an0, an1, decide_eq_true_eq, if_true, if_false, ite_true, ite_false, and_true, true_and, and_false, false_and, not_true, not_false_iff, or_false, false_or, or_true, true_or, eq_self, va_some, Bool.false_eq_true, reduceIte, catS_n, catS_i, catS_r, catS_l, catS_d, Nat.zero_add, Nat.add_zero, decide_true, decide_false, Nat.reduceLeDiff, cat_r, cat_i, cat_l, nle_T, nle_F, nlt_T, nlt_F, neq_T, neq_F, k0, p7, hH0, c82 hH hcl, c58]
    done
theorem f57d {d : Nat} {P : MP} {C : MC} {h : Int64} {B n len : Nat} {g : GS} {ps : Nat → GS} {tx : Nat → Nat} (hX : XB P) (hA : AV B g n ps len tx) (hd : 21 ≤ d) : ∀ m t (I : MI) (L : ML) (u : Value), t + m = 3 → XR I L g n ps len tx → ∃ I' L' v, XR I' L' g n ps len tx ∧ fo I I' ∧ fo L L' ∧ ∀ Q, X d 57 95 [.ref 1, .long (dgT g t h), UN, .int (nI t), u] [] P I L C Q = X d 57 154 [.ref 1, .long (dgT g 3 h), UN, .int (nI 3), v] [] P I' L' C Q := by
  have hX' := hX
  obtain ⟨k0, ⟨p0, p1, p2, p3, p4, p5, p6, p7, p8⟩, hS, hS2, hV, ⟨x0, x1, x2⟩, hT2, hO, hD, hH, hH2⟩ := hX'
  have hH0 := hH.1
  have l0 := hS.1
  have hGV := hA.1
  intro m
  induction m with
  | zero =>
    intro t I L u ht hR
    have : t = 3 := by omega
    subst this
    refine ⟨I, L, u, hR, fo_r, fo_r, fun Q => ?_⟩
    rw [X_go, d57_95]
    simp (disch := first | assumption | omega) only [Nat.reduceAdd, X_go, go2_some, stp, ldI, ldA, ldL, stI, stA, stL, o1I, o2I, o2L, brI, brII, gl, s1, s2, k1, sl, go_sN, go_sR, go_CT, go_sT, go_no, go_if, pops, bk_v, bk_0, d57_0, d57_3, d57_4, d57_7, d57_10, d57_11, d57_14, d57_15, d57_16, d57_17, d57_18, d57_20, d57_23, d57_24, d57_25, d57_26, d57_29, d57_30, d57_33, d57_34, d57_37, d57_40, d57_41, d57_42, d57_43, d57_44, d57_47, d57_48, d57_49, d57_52, d57_55, d57_58, d57_59, d57_62, d57_63, d57_66, d57_67, d57_68, d57_69, d57_72, d57_75, d57_78, d57_79, d57_82, d57_83, d57_86, d57_87, d57_90, d57_93, d57_94, d57_96, d57_97, d57_100, d57_101, d57_102, d57_103, d57_106, d57_107, d57_108, d57_111, d57_112, d57_115, d57_116, d57_119, d57_120, d57_122, d57_124, d57_125, d57_128, d57_129, d57_130, d57_133, d57_135, d57_138, d57_141, d57_142, d57_145, d57_148, d57_151, d57_155, d57_156, d57_157, d57_159, d57_162, d57_163, d57_164, d57_167, d57_170, d57_173, d57_174, d57_177, d57_178, d57_181, d57_182, d57_185, d57_188, d57_189, d57_190, d57_191, d57_192, d57_195, d57_198, d57_201, d57_204, d57_205, d57_207, d57_209, d57_210, d57_213, d57_214, d57_215, d57_218, d57_221, d57_222, d57_224, d57_227, d57_228, d57_231, d57_232, d57_235, d57_238, d57_241, d57_244, d57_245, d57_246, d57_249, d57_252, d57_253, d57_256, n_lt, n_le, n_eq, n_lt0, n_ge0, n_gt0, n_le0, n_eq0, m_lt, m_le, m_gt, m_ge, m_eq, m_eq', m_lt0, m_ge0, m_gt0, m_le0, m_ltm, m_lem, n_in, m_in, n_cl, n_ti, n_div, n_rem', n_dec, n_l, nI_add, pk_mul, an0, an1, decide_eq_true_eq, if_true, if_false, ite_true, ite_false, and_true, true_and, and_false, false_and, not_true, not_false_iff, or_false, false_or, or_true, true_or, eq_self, va_some, Bool.false_eq_true, reduceIte, catS_n, catS_i, catS_r, catS_l, catS_d, Nat.zero_add, Nat.add_zero, decide_true, decide_false, Nat.reduceLeDiff, cat_r, cat_i, cat_l, nle_T, nle_F, nlt_T, nlt_F, neq_T, neq_F]
  | succ m ih =>
    intro t I L u ht hR
    obtain ⟨J, i1, i2, i3⟩ := c61 (d := d) (C := C) (h := dgT g t h) hX hR hA (by omega) (show t < 3 by omega)
    obtain ⟨J2, L2, b1, b2, b3, b4, b5⟩ := c75 (d := d) (C := C) hH hS i1.1 hGV.1 hGV.2.1 i1.2.2.2 (by omega) (show t < 3 by omega) (by omega)
    have hR2 := XR_ch i1 (by omega) b1 b2 b3
    obtain ⟨I', L', v, a1, a2, a3, a4⟩ := ih (t + 1) J2 L2 (.int (nI 4)) (by omega) hR2
    refine ⟨I', L', v, a1, fun k j q => by rw [a2 k j q, b3 k j (by omega), i2 k j q], fun k j q => by rw [a3 k j q, b4 k j (by omega)], fun Q => ?_⟩
    have a4 := a4 Q
    have q1 : X d 57 148 [.ref 1, .long (mxs (raV (chV g t)) 4 (tabM g t (dgT g t h))), UN, .int (nI t), .int (nI 4)] [] P J2 L2 C Q = X d 57 95 [.ref 1, .long (dgT g (t + 1) h), UN, .int (nI (t + 1)), .int (nI 4)] [] P J2 L2 C Q := by
      rw [X_go, d57_148]
      simp (disch := first | assumption | omega) only [Nat.reduceAdd, X_go, go2_some, stp, ldI, ldA, ldL, stI, stA, stL, o1I, o2I, o2L, brI, brII, gl, s1, s2, k1, sl, go_sN, go_sR, go_CT, go_sT, go_no, go_if, pops, bk_v, bk_0, d57_0, d57_3, d57_4, d57_7, d57_10, d57_11, d57_14, d57_15, d57_16, d57_17, d57_18, d57_20, d57_23, d57_24, d57_25, d57_26, d57_29, d57_30, d57_33, d57_34, d57_37, d57_40, d57_41, d57_42, d57_43, d57_44, d57_47, d57_48, d57_49, d57_52, d57_55, d57_58, d57_59, d57_62, d57_63, d57_66, d57_67, d57_68, d57_69, d57_72, d57_75, d57_78, d57_79, d57_82, d57_83, d57_86, d57_87, d57_90, d57_93, d57_94, d57_96, d57_97, d57_100, d57_101, d57_102, d57_103, d57_106, d57_107, d57_108, d57_111, d57_112, d57_115, d57_116, d57_119, d57_120, d57_122, d57_124, d57_125, d57_128, d57_129, d57_130, d57_133, d57_135, d57_138, d57_141, d57_142, d57_145, d57_151, d57_154, d57_155, d57_156, d57_157, d57_159, d57_162, d57_163, d57_164, d57_167, d57_170, d57_173, d57_174, d57_177, d57_178, d57_181, d57_182, d57_185, d57_188, d57_189, d57_190, d57_191, d57_192, d57_195, d57_198, d57_201, d57_204, d57_205, d57_207, d57_209, d57_210, d57_213, d57_214, d57_215, d57_218, d57_221, d57_222, d57_224, d57_227, d57_228, d57_231, d57_232, d57_235, d57_238, d57_241, d57_244, d57_245, d57_246, d57_249, d57_252, d57_253, d57_256, n_lt, n_le, n_eq, n_lt0, n_ge0, n_gt0, n_le0, n_eq0, m_lt, m_le, m_gt, m_ge, m_eq, m_eq', m_lt0, m_ge0, m_gt0, m_le0, m_ltm, m_lem, n_in, m_in, n_cl, n_ti, n_div, n_rem', n_dec, n_l, nI_add, pk_mul, an0, an1, decide_eq_true_eq, if_true, if_false, ite_true, ite_false, and_true, true_and, and_false, false_and, not_true, not_false_iff, or_false, false_or, or_true, true_or, eq_self, va_some, Bool.false_eq_true, reduceIte, catS_n, catS_i, catS_r, catS_l, catS_d, Nat.zero_add, Nat.add_zero, decide_true, decide_false, Nat.reduceLeDiff, cat_r, cat_i, cat_l, nle_T, nle_F, nlt_T, nlt_F, neq_T, neq_F]
      rfl
    have e0 : mxs (raV (chV g t)) 0 (tabM g t (dgT g t h)) = tabM g t (dgT g t h) := rfl
    have q2 := f57c (d := d) (I := J2) (C := C) (Q := Q) (h := tabM g t (dgT g t h)) (t := t) hX b2 (by omega) 4 0 (by omega)
    rw [e0] at q2
    rw [← a4, ← q1, ← q2, X_go, d57_95]
    simp (disch := first | assumption | omega) only [Nat.reduceAdd, X_go, go2_some, stp, ldI, ldA, ldL, stI, stA, stL, o1I, o2I, o2L, brI, brII, gl, s1, s2, k1, sl, go_sN, go_sR, go_CT, go_sT, go_no, go_if, pops, bk_v, bk_0, d57_0, d57_3, d57_4, d57_7, d57_10, d57_11, d57_14, d57_15, d57_16, d57_17, d57_18, d57_20, d57_23, d57_24, d57_25, d57_26, d57_29, d57_30, d57_33, d57_34, d57_37, d57_40, d57_41, d57_42, d57_43, d57_44, d57_47, d57_48, d57_49, d57_52, d57_55, d57_58, d57_59, d57_62, d57_63, d57_66, d57_67, d57_68, d57_69, d57_72, d57_75, d57_78, d57_79, d57_82, d57_83, d57_86, d57_87, d57_90, d57_93, d57_94, d57_96, d57_97, d57_100, d57_101, d57_102, d57_103, d57_106, d57_107, d57_108, d57_111, d57_112, d57_115, d57_116, d57_119, d57_120, d57_124, d57_125, d57_128, d57_129, d57_130, d57_133, d57_135, d57_138, d57_141, d57_142, d57_145, d57_151, d57_154, d57_155, d57_156, d57_157, d57_159, d57_162, d57_163, d57_164, d57_167, d57_170, d57_173, d57_174, d57_177, d57_178, d57_181, d57_182, d57_185, d57_188, d57_189, d57_190, d57_191, d57_192, d57_195, d57_198, d57_201, d57_204, d57_205, d57_207, d57_209, d57_210, d57_213, d57_214, d57_215, d57_218, d57_221, d57_222, d57_224, d57_227, d57_228, d57_231, d57_232, d57_235, d57_238, d57_241, d57_244, d57_245, d57_246, d57_249, d57_252, d57_253, d57_256, n_lt, n_le, n_eq, n_lt0, n_ge0, n_gt0, n_le0, n_eq0, m_lt, m_le, m_gt, m_ge, m_eq, m_eq', m_lt0, m_ge0, m_gt0, m_le0, m_ltm, m_lem, n_in, m_in, n_cl, n_ti, n_div, n_rem', n_dec, n_l, nI_add, pk_mul, an0, an1, decide_eq_true_eq, if_true, if_false, ite_true, ite_false, and_true, true_and, and_false, false_and, not_true, not_false_iff, or_false, false_or, or_true, true_or, eq_self, va_some, Bool.false_eq_true, reduceIte, catS_n, catS_i, catS_r, catS_l, catS_d, Nat.zero_add, Nat.add_zero, decide_true, decide_false, Nat.reduceLeDiff, cat_r, cat_i, cat_l, nle_T, nle_F, nlt_T, nlt_F, neq_T, neq_F, k0, p0, p7, hH0, i3, b5]
    done
theorem f57e {d : Nat} {P : MP} {L : ML} {C : MC} {h : Int64} {Q : QT} {B n len : Nat} {g : GS} {ps : Nat → GS} {tx : Nat → Nat} {u : Value} {I : MI} (hX : XB P) (hR : XR I L g n ps len tx) (hA : AV B g n ps len tx) (hd : 11 ≤ d) : ∀ m i, i + m = 16 → X d 57 156 [.ref 1, .long (mxs (oF g) i h), UN, .int (nI i), u] [] P I L C Q = X d 57 188 [.ref 1, .long (mxs (oF g) 16 h), UN, .int (nI 16), u] [] P I L C Q := by
  have hX' := hX
  obtain ⟨k0, ⟨p0, p1, p2, p3, p4, p5, p6, p7, p8⟩, hS, hS2, hV, ⟨x0, x1, x2⟩, hT2, hO, hD, hH, hH2⟩ := hX'
  have hS' := hS
  obtain ⟨l0, r0, r1, r2, hT, hK, hF⟩ := hS'
  have hT' := hT
  have hK' := hK
  have hF' := hF
  have hR' := hR
  have hA' := hA
  obtain ⟨⟨m0, q0, q1, q2, q3, q4, q5, q6, q7⟩, z1, z2, z3, z4, z5, z6, z7, z8⟩ := hT'
  obtain ⟨w0, w1, w2, w3, w4⟩ := hK'
  obtain ⟨f0, f1, f2, f3, f4, f5, f6, f7, f8⟩ := hF'
  obtain ⟨hg, hVR, hXT, hCC⟩ := hR'
  obtain ⟨hGV, hps, hn4, hlen, htx⟩ := hA'
  have h140 := GV_140 hGV
  have hv := hGV.1
  have hl := hGV.2.1
  have hFv := hGV.2.2
  intro m
  induction m with
  | zero =>
    intro i hi
    have : i = 16 := by omega
    subst this
    rw [X_go, d57_156]
    simp (disch := first | assumption | omega) only [Nat.reduceAdd, X_go, go2_some, stp, ldI, ldA, ldL, stI, stA, stL, o1I, o2I, o2L, brI, brII, gl, s1, s2, k1, sl, go_sN, go_sR, go_CT, go_sT, go_no, go_if, pops, bk_v, bk_0, d57_0, d57_3, d57_4, d57_7, d57_10, d57_11, d57_14, d57_15, d57_16, d57_17, d57_18, d57_20, d57_23, d57_24, d57_25, d57_26, d57_29, d57_30, d57_33, d57_34, d57_37, d57_40, d57_41, d57_42, d57_43, d57_44, d57_47, d57_48, d57_49, d57_52, d57_55, d57_58, d57_59, d57_62, d57_63, d57_66, d57_67, d57_68, d57_69, d57_72, d57_75, d57_78, d57_79, d57_82, d57_83, d57_86, d57_87, d57_90, d57_93, d57_94, d57_95, d57_96, d57_97, d57_100, d57_101, d57_102, d57_103, d57_106, d57_107, d57_108, d57_111, d57_112, d57_115, d57_116, d57_119, d57_120, d57_122, d57_124, d57_125, d57_128, d57_129, d57_130, d57_133, d57_135, d57_138, d57_141, d57_142, d57_145, d57_148, d57_151, d57_154, d57_155, d57_157, d57_159, d57_162, d57_163, d57_164, d57_167, d57_170, d57_173, d57_174, d57_177, d57_178, d57_181, d57_182, d57_185, d57_189, d57_190, d57_191, d57_192, d57_195, d57_198, d57_201, d57_204, d57_205, d57_207, d57_209, d57_210, d57_213, d57_214, d57_215, d57_218, d57_221, d57_222, d57_224, d57_227, d57_228, d57_231, d57_232, d57_235, d57_238, d57_241, d57_244, d57_245, d57_246, d57_249, d57_252, d57_253, d57_256, n_lt, n_le, n_eq, n_lt0, n_ge0, n_gt0, n_le0, n_eq0, m_lt, m_le, m_gt, m_ge, m_eq, m_eq', m_lt0, m_ge0, m_gt0, m_le0, m_ltm, m_lem, n_in, m_in, n_cl, n_ti, n_div, n_rem', n_dec, n_l, nI_add, pk_mul, an0, an1, decide_eq_true_eq, if_true, if_false, ite_true, ite_false, and_true, true_and, and_false, false_and, not_true, not_false_iff, or_false, false_or, or_true, true_or, eq_self, va_some, Bool.false_eq_true, reduceIte, catS_n, catS_i, catS_r, catS_l, catS_d, Nat.zero_add, Nat.add_zero, decide_true, decide_false, Nat.reduceLeDiff, cat_r, cat_i, cat_l, nle_T, nle_F, nlt_T, nlt_F, neq_T, neq_F]
  | succ m ih =>
    intro i hi
    have a1 : I 16 i = nI (g (124 + i)) := hg.2.2.1 i (by omega)
    have e1 : (nI (g (124 + i))).toInt64 = oF g i := rfl
    rw [← ih (i + 1) (by omega), mxs_s, X_go, d57_156]
    simp (disch := first | assumption | omega) only [Nat.reduceAdd, X_go, go2_some, stp, ldI, ldA, ldL, stI, stA, stL, o1I, o2I, o2L, brI, brII, gl, s1, s2, k1, sl, go_sN, go_sR, go_CT, go_sT, go_no, go_if, pops, bk_v, bk_0, d57_0, d57_3, d57_4, d57_7, d57_10, d57_11, d57_14, d57_15, d57_16, d57_17, d57_18, d57_20, d57_23, d57_24, d57_25, d57_26, d57_29, d57_30, d57_33, d57_34, d57_37, d57_40, d57_41, d57_42, d57_43, d57_44, d57_47, d57_48, d57_49, d57_52, d57_55, d57_58, d57_59, d57_62, d57_63, d57_66, d57_67, d57_68, d57_69, d57_72, d57_75, d57_78, d57_79, d57_82, d57_83, d57_86, d57_87, d57_90, d57_93, d57_94, d57_95, d57_96, d57_97, d57_100, d57_101, d57_102, d57_103, d57_106, d57_107, d57_108, d57_111, d57_112, d57_115, d57_116, d57_119, d57_120, d57_122, d57_124, d57_125, d57_128, d57_129, d57_130, d57_133, d57_135, d57_138, d57_141, d57_142, d57_145, d57_148, d57_151, d57_154, d57_155, d57_157, d57_159, d57_162, d57_163, d57_164, d57_167, d57_170, d57_173, d57_174, d57_177, d57_178, d57_181, d57_182, d57_185, d57_189, d57_190, d57_191, d57_192, d57_195, d57_198, d57_201, d57_204, d57_205, d57_207, d57_209, d57_210, d57_213, d57_214, d57_215, d57_218, d57_221, d57_222, d57_224, d57_227, d57_228, d57_231, d57_232, d57_235, d57_238, d57_241, d57_244, d57_245, d57_246, d57_249, d57_252, d57_253, d57_256, n_lt, n_le, n_eq, n_lt0, n_ge0, n_gt0, n_le0, n_eq0, m_lt, m_le, m_gt, m_ge, m_eq, m_eq', m_lt0, m_ge0, m_gt0, m_le0, m_ltm, m_lem, n_in, m_in, n_cl, n_ti, n_div, n_rem', n_dec, n_l, nI_add, pk_mul, an0, an1, decide_eq_true_eq, if_true, if_false, ite_true, ite_false, and_true, true_and, and_false, false_and, not_true, not_false_iff, or_false, false_or, or_true, true_or, eq_self, va_some, Bool.false_eq_true, reduceIte, catS_n, catS_i, catS_r, catS_l, catS_d, Nat.zero_add, Nat.add_zero, decide_true, decide_false, Nat.reduceLeDiff, cat_r, cat_i, cat_l, nle_T, nle_F, nlt_T, nlt_F, neq_T, neq_F, k0, p0, p1, p2, p3, p4, p5, p6, p7, p8, x0, x1, x2, l0, r0, r1, r2, m0, q0, q1, q2, q3, q4, q5, q6, q7, w0, w1, w2, f0, f1, f2, f3, f4, c26 f5, a1, e1, c58]
    done
theorem f57f {d : Nat} {P : MP} {L : ML} {C : MC} {h : Int64} {Q : QT} {i B n len : Nat} {g : GS} {ps : Nat → GS} {tx : Nat → Nat} {I : MI} (hX : XB P) (hR : XR I L g n ps len tx) (hA : AV B g n ps len tx) (hB : B ≤ 1000000) (hd : 11 ≤ d) (hi : i < g 140) : ∀ m w, w + m = 3 → X d 57 207 [.ref 1, .long (mxs (kF g) (3 * i + w) h), UN, .int (nI i), .int (nI w)] [] P I L C Q = X d 57 238 [.ref 1, .long (mxs (kF g) (3 * i + 3) h), UN, .int (nI i), .int (nI 3)] [] P I L C Q := by
  have hX' := hX
  obtain ⟨k0, ⟨p0, p1, p2, p3, p4, p5, p6, p7, p8⟩, hS, hS2, hV, ⟨x0, x1, x2⟩, hT2, hO, hD, hH, hH2⟩ := hX'
  have hS' := hS
  obtain ⟨l0, r0, r1, r2, hT, hK, hF⟩ := hS'
  have hT' := hT
  have hK' := hK
  have hF' := hF
  have hR' := hR
  have hA' := hA
  obtain ⟨⟨m0, q0, q1, q2, q3, q4, q5, q6, q7⟩, z1, z2, z3, z4, z5, z6, z7, z8⟩ := hT'
  obtain ⟨w0, w1, w2, w3, w4⟩ := hK'
  obtain ⟨f0, f1, f2, f3, f4, f5, f6, f7, f8⟩ := hF'
  obtain ⟨hg, hVR, hXT, hCC⟩ := hR'
  obtain ⟨hGV, hps, hn4, hlen, htx⟩ := hA'
  have h140 := GV_140 hGV
  have hv := hGV.1
  have hl := hGV.2.1
  have hFv := hGV.2.2
  intro m
  induction m with
  | zero =>
    intro w hw
    have : w = 3 := by omega
    subst this
    rw [X_go, d57_207]
    simp (disch := first | assumption | omega) only [Nat.reduceAdd, X_go, go2_some, stp, ldI, ldA, ldL, stI, stA, stL, o1I, o2I, o2L, brI, brII, gl, s1, s2, k1, sl, go_sN, go_sR, go_CT, go_sT, go_no, go_if, pops, bk_v, bk_0, d57_0, d57_3, d57_4, d57_7, d57_10, d57_11, d57_14, d57_15, d57_16, d57_17, d57_18, d57_20, d57_23, d57_24, d57_25, d57_26, d57_29, d57_30, d57_33, d57_34, d57_37, d57_40, d57_41, d57_42, d57_43, d57_44, d57_47, d57_48, d57_49, d57_52, d57_55, d57_58, d57_59, d57_62, d57_63, d57_66, d57_67, d57_68, d57_69, d57_72, d57_75, d57_78, d57_79, d57_82, d57_83, d57_86, d57_87, d57_90, d57_93, d57_94, d57_95, d57_96, d57_97, d57_100, d57_101, d57_102, d57_103, d57_106, d57_107, d57_108, d57_111, d57_112, d57_115, d57_116, d57_119, d57_120, d57_122, d57_124, d57_125, d57_128, d57_129, d57_130, d57_133, d57_135, d57_138, d57_141, d57_142, d57_145, d57_148, d57_151, d57_154, d57_155, d57_156, d57_157, d57_159, d57_162, d57_163, d57_164, d57_167, d57_170, d57_173, d57_174, d57_177, d57_178, d57_181, d57_182, d57_185, d57_188, d57_189, d57_190, d57_191, d57_192, d57_195, d57_198, d57_201, d57_204, d57_205, d57_209, d57_210, d57_213, d57_214, d57_215, d57_218, d57_221, d57_222, d57_224, d57_227, d57_228, d57_231, d57_232, d57_235, d57_241, d57_244, d57_245, d57_246, d57_249, d57_252, d57_253, d57_256, n_lt, n_le, n_eq, n_lt0, n_ge0, n_gt0, n_le0, n_eq0, m_lt, m_le, m_gt, m_ge, m_eq, m_eq', m_lt0, m_ge0, m_gt0, m_le0, m_ltm, m_lem, n_in, m_in, n_cl, n_ti, n_div, n_rem', n_dec, n_l, nI_add, pk_mul, an0, an1, decide_eq_true_eq, if_true, if_false, ite_true, ite_false, and_true, true_and, and_false, false_and, not_true, not_false_iff, or_false, false_or, or_true, true_or, eq_self, va_some, Bool.false_eq_true, reduceIte, catS_n, catS_i, catS_r, catS_l, catS_d, Nat.zero_add, Nat.add_zero, decide_true, decide_false, Nat.reduceLeDiff, cat_r, cat_i, cat_l, nle_T, nle_F, nlt_T, nlt_F, neq_T, neq_F]
  | succ m ih =>
    intro w hw
    have e1 : (tellG g i w).toInt64 = kF g (3 * i + w) := by
      unfold tellG kF
      rw [if_pos hi, show 141 + 3 * i + w = 141 + (3 * i + w) by omega]
    rw [← ih (w + 1) (by omega), show 3 * i + (w + 1) = 3 * i + w + 1 by omega, mxs_s, X_go, d57_207]
    simp (disch := first | assumption | omega) only [Nat.reduceAdd, X_go, go2_some, stp, ldI, ldA, ldL, stI, stA, stL, o1I, o2I, o2L, brI, brII, gl, s1, s2, k1, sl, go_sN, go_sR, go_CT, go_sT, go_no, go_if, pops, bk_v, bk_0, d57_0, d57_3, d57_4, d57_7, d57_10, d57_11, d57_14, d57_15, d57_16, d57_17, d57_18, d57_20, d57_23, d57_24, d57_25, d57_26, d57_29, d57_30, d57_33, d57_34, d57_37, d57_40, d57_41, d57_42, d57_43, d57_44, d57_47, d57_48, d57_49, d57_52, d57_55, d57_58, d57_59, d57_62, d57_63, d57_66, d57_67, d57_68, d57_69, d57_72, d57_75, d57_78, d57_79, d57_82, d57_83, d57_86, d57_87, d57_90, d57_93, d57_94, d57_95, d57_96, d57_97, d57_100, d57_101, d57_102, d57_103, d57_106, d57_107, d57_108, d57_111, d57_112, d57_115, d57_116, d57_119, d57_120, d57_122, d57_124, d57_125, d57_128, d57_129, d57_130, d57_133, d57_135, d57_138, d57_141, d57_142, d57_145, d57_148, d57_151, d57_154, d57_155, d57_156, d57_157, d57_159, d57_162, d57_163, d57_164, d57_167, d57_170, d57_173, d57_174, d57_177, d57_178, d57_181, d57_182, d57_185, d57_188, d57_189, d57_190, d57_191, d57_192, d57_195, d57_198, d57_201, d57_204, d57_205, d57_209, d57_210, d57_213, d57_214, d57_215, d57_218, d57_221, d57_222, d57_224, d57_227, d57_228, d57_231, d57_232, d57_235, d57_241, d57_244, d57_245, d57_246, d57_249, d57_252, d57_253, d57_256, n_lt, n_le, n_eq, n_lt0, n_ge0, n_gt0, n_le0, n_eq0, m_lt, m_le, m_gt, m_ge, m_eq, m_eq', m_lt0, m_ge0, m_gt0, m_le0, m_ltm, m_lem, n_in, m_in, n_cl, n_ti, n_div, n_rem', n_dec, n_l, nI_add, pk_mul, an0, an1, decide_eq_true_eq, if_true, if_false, ite_true, ite_false, and_true, true_and, and_false, false_and, not_true, not_false_iff, or_false, false_or, or_true, true_or, eq_self, va_some, Bool.false_eq_true, reduceIte, catS_n, catS_i, catS_r, catS_l, catS_d, Nat.zero_add, Nat.add_zero, decide_true, decide_false, Nat.reduceLeDiff, cat_r, cat_i, cat_l, nle_T, nle_F, nlt_T, nlt_F, neq_T, neq_F, k0, p0, p1, p2, p3, p4, p5, p6, p7, p8, x0, x1, x2, l0, r0, r1, r2, m0, q0, q1, q2, q3, q4, q5, q6, q7, w0, w1, w2, f0, f1, f2, f3, f4, c34 hF hg.2.2 hFv hB, e1, c58]
    done
theorem f57g {d : Nat} {P : MP} {L : ML} {C : MC} {h : Int64} {Q : QT} {B n len : Nat} {g : GS} {ps : Nat → GS} {tx : Nat → Nat} {I : MI} (hX : XB P) (hR : XR I L g n ps len tx) (hA : AV B g n ps len tx) (hB : B ≤ 1000000) (hd : 11 ≤ d) : ∀ m i (u : Value), i + m = g 140 → X d 57 190 [.ref 1, .long (mxs (kF g) (3 * i) h), UN, .int (nI i), u] [] P I L C Q = Q (.inl (some (.long (mx (mxs (kF g) (3 * g 140) h) (nI n).toInt64)))) P I L C := by
  have hX' := hX
  obtain ⟨k0, ⟨p0, p1, p2, p3, p4, p5, p6, p7, p8⟩, hS, hS2, hV, ⟨x0, x1, x2⟩, hT2, hO, hD, hH, hH2⟩ := hX'
  have hS' := hS
  obtain ⟨l0, r0, r1, r2, hT, hK, hF⟩ := hS'
  have hT' := hT
  have hK' := hK
  have hF' := hF
  have hR' := hR
  have hA' := hA
  obtain ⟨⟨m0, q0, q1, q2, q3, q4, q5, q6, q7⟩, z1, z2, z3, z4, z5, z6, z7, z8⟩ := hT'
  obtain ⟨w0, w1, w2, w3, w4⟩ := hK'
  obtain ⟨f0, f1, f2, f3, f4, f5, f6, f7, f8⟩ := hF'
  obtain ⟨hg, hVR, hXT, hCC⟩ := hR'
  obtain ⟨hGV, hps, hn4, hlen, htx⟩ := hA'
  have h140 := GV_140 hGV
  have hv := hGV.1
  have hl := hGV.2.1
  have hFv := hGV.2.2
  have hn := hVR
  obtain ⟨o, o1, o2, o3, o4, o5⟩ := hn
  have hV0 := hV.1
  intro m
  induction m with
  | zero =>
    intro i u hi
    have : i = g 140 := by omega
    subst this
    unfold mx
    rw [X_go, d57_190]
    simp (disch := first | assumption | omega) only [Nat.reduceAdd, X_go, go2_some, stp, ldI, ldA, ldL, stI, stA, stL, o1I, o2I, o2L, brI, brII, gl, s1, s2, k1, sl, go_sN, go_sR, go_CT, go_sT, go_no, go_if, pops, bk_v, bk_0, d57_0, d57_3, d57_4, d57_7, d57_10, d57_11, d57_14, d57_15, d57_16, d57_17, d57_18, d57_20, d57_23, d57_24, d57_25, d57_26, d57_29, d57_30, d57_33, d57_34, d57_37, d57_40, d57_41, d57_42, d57_43, d57_44, d57_47, d57_48, d57_49, d57_52, d57_55, d57_58, d57_59, d57_62, d57_63, d57_66, d57_67, d57_68, d57_69, d57_72, d57_75, d57_78, d57_79, d57_82, d57_83, d57_86, d57_87, d57_90, d57_93, d57_94, d57_95, d57_96, d57_97, d57_100, d57_101, d57_102, d57_103, d57_106, d57_107, d57_108, d57_111, d57_112, d57_115, d57_116, d57_119, d57_120, d57_122, d57_124, d57_125, d57_128, d57_129, d57_130, d57_133, d57_135, d57_138, d57_141, d57_142, d57_145, d57_148, d57_151, d57_154, d57_155, d57_156, d57_157, d57_159, d57_162, d57_163, d57_164, d57_167, d57_170, d57_173, d57_174, d57_177, d57_178, d57_181, d57_182, d57_185, d57_188, d57_189, d57_191, d57_192, d57_195, d57_198, d57_201, d57_204, d57_205, d57_207, d57_209, d57_210, d57_213, d57_214, d57_215, d57_218, d57_221, d57_222, d57_224, d57_227, d57_228, d57_231, d57_232, d57_235, d57_238, d57_241, d57_244, d57_245, d57_246, d57_249, d57_252, d57_253, d57_256, n_lt, n_le, n_eq, n_lt0, n_ge0, n_gt0, n_le0, n_eq0, m_lt, m_le, m_gt, m_ge, m_eq, m_eq', m_lt0, m_ge0, m_gt0, m_le0, m_ltm, m_lem, n_in, m_in, n_cl, n_ti, n_div, n_rem', n_dec, n_l, nI_add, pk_mul, an0, an1, decide_eq_true_eq, if_true, if_false, ite_true, ite_false, and_true, true_and, and_false, false_and, not_true, not_false_iff, or_false, false_or, or_true, true_or, eq_self, va_some, Bool.false_eq_true, reduceIte, catS_n, catS_i, catS_r, catS_l, catS_d, Nat.zero_add, Nat.add_zero, decide_true, decide_false, Nat.reduceLeDiff, cat_r, cat_i, cat_l, nle_T, nle_F, nlt_T, nlt_F, neq_T, neq_F, k0, p0, p1, p2, p3, p4, p5, p6, p7, p8, x0, x1, x2, l0, r0, r1, r2, m0, q0, q1, q2, q3, q4, q5, q6, q7, w0, w1, w2, f0, f1, f2, f3, f4, c33 hF hg.2.2 hFv hB, hV0, o3, c58]
  | succ m ih =>
    intro i u hi
    have hlt : i < g 140 := by omega
    have ih := ih (i + 1) (.int (nI 3)) (by omega)
    rw [show 3 * (i + 1) = 3 * i + 3 by omega] at ih
    have q1 : X d 57 238 [.ref 1, .long (mxs (kF g) (3 * i + 3) h), UN, .int (nI i), .int (nI 3)] [] P I L C Q = X d 57 190 [.ref 1, .long (mxs (kF g) (3 * i + 3) h), UN, .int (nI (i + 1)), .int (nI 3)] [] P I L C Q := by
      rw [X_go, d57_238]
      simp (disch := first | assumption | omega) only [Nat.reduceAdd, X_go, go2_some, stp, ldI, ldA, ldL, stI, stA, stL, o1I, o2I, o2L, brI, brII, gl, s1, s2, k1, sl, go_sN, go_sR, go_CT, go_sT, go_no, go_if, pops, bk_v, bk_0, d57_0, d57_3, d57_4, d57_7, d57_10, d57_11, d57_14, d57_15, d57_16, d57_17, d57_18, d57_20, d57_23, d57_24, d57_25, d57_26, d57_29, d57_30, d57_33, d57_34, d57_37, d57_40, d57_41, d57_42, d57_43, d57_44, d57_47, d57_48, d57_49, d57_52, d57_55, d57_58, d57_59, d57_62, d57_63, d57_66, d57_67, d57_68, d57_69, d57_72, d57_75, d57_78, d57_79, d57_82, d57_83, d57_86, d57_87, d57_90, d57_93, d57_94, d57_95, d57_96, d57_97, d57_100, d57_101, d57_102, d57_103, d57_106, d57_107, d57_108, d57_111, d57_112, d57_115, d57_116, d57_119, d57_120, d57_122, d57_124, d57_125, d57_128, d57_129, d57_130, d57_133, d57_135, d57_138, d57_141, d57_142, d57_145, d57_148, d57_151, d57_154, d57_155, d57_156, d57_157, d57_159, d57_162, d57_163, d57_164, d57_167, d57_170, d57_173, d57_174, d57_177, d57_178, d57_181, d57_182, d57_185, d57_188, d57_189, d57_191, d57_192, d57_195, d57_198, d57_201, d57_204, d57_205, d57_207, d57_209, d57_210, d57_213, d57_214, d57_215, d57_218, d57_221, d57_222, d57_224, d57_227, d57_228, d57_231, d57_232, d57_235, d57_241, d57_244, d57_245, d57_246, d57_249, d57_252, d57_253, d57_256, n_lt, n_le, n_eq, n_lt0, n_ge0, n_gt0, n_le0, n_eq0, m_lt, m_le, m_gt, m_ge, m_eq, m_eq', m_lt0, m_ge0, m_gt0, m_le0, m_ltm, m_lem, n_in, m_in, n_cl, n_ti, n_div, n_rem', n_dec, n_l, nI_add, pk_mul, an0, an1, decide_eq_true_eq, if_true, if_false, ite_true, ite_false, and_true, true_and, and_false, false_and, not_true, not_false_iff, or_false, false_or, or_true, true_or, eq_self, va_some, Bool.false_eq_true, reduceIte, catS_n, catS_i, catS_r, catS_l, catS_d, Nat.zero_add, Nat.add_zero, decide_true, decide_false, Nat.reduceLeDiff, cat_r, cat_i, cat_l, nle_T, nle_F, nlt_T, nlt_F, neq_T, neq_F]
    have q2 := f57f (d := d) (C := C) (Q := Q) (h := h) hX hR hA hB hd hlt 3 0 (by omega)
    rw [Nat.add_zero] at q2
    rw [← ih, ← q1, ← q2, X_go, d57_190]
    simp (disch := first | assumption | omega) only [Nat.reduceAdd, X_go, go2_some, stp, ldI, ldA, ldL, stI, stA, stL, o1I, o2I, o2L, brI, brII, gl, s1, s2, k1, sl, go_sN, go_sR, go_CT, go_sT, go_no, go_if, pops, bk_v, bk_0, d57_0, d57_3, d57_4, d57_7, d57_10, d57_11, d57_14, d57_15, d57_16, d57_17, d57_18, d57_20, d57_23, d57_24, d57_25, d57_26, d57_29, d57_30, d57_33, d57_34, d57_37, d57_40, d57_41, d57_42, d57_43, d57_44, d57_47, d57_48, d57_49, d57_52, d57_55, d57_58, d57_59, d57_62, d57_63, d57_66, d57_67, d57_68, d57_69, d57_72, d57_75, d57_78, d57_79, d57_82, d57_83, d57_86, d57_87, d57_90, d57_93, d57_94, d57_95, d57_96, d57_97, d57_100, d57_101, d57_102, d57_103, d57_106, d57_107, d57_108, d57_111, d57_112, d57_115, d57_116, d57_119, d57_120, d57_122, d57_124, d57_125, d57_128, d57_129, d57_130, d57_133, d57_135, d57_138, d57_141, d57_142, d57_145, d57_148, d57_151, d57_154, d57_155, d57_156, d57_157, d57_159, d57_162, d57_163, d57_164, d57_167, d57_170, d57_173, d57_174, d57_177, d57_178, d57_181, d57_182, d57_185, d57_188, d57_189, d57_191, d57_192, d57_195, d57_198, d57_201, d57_204, d57_205, d57_209, d57_210, d57_213, d57_214, d57_215, d57_218, d57_221, d57_222, d57_224, d57_227, d57_228, d57_231, d57_232, d57_235, d57_241, d57_244, d57_245, d57_246, d57_249, d57_252, d57_253, d57_256, n_lt, n_le, n_eq, n_lt0, n_ge0, n_gt0, n_le0, n_eq0, m_lt, m_le, m_gt, m_ge, m_eq, m_eq', m_lt0, m_ge0, m_gt0, m_le0, m_ltm, m_lem, n_in, m_in, n_cl, n_ti, n_div, n_rem', n_dec, n_l, nI_add, pk_mul, an0, an1, decide_eq_true_eq, if_true, if_false, ite_true, ite_false, and_true, true_and, and_false, false_and, not_true, not_false_iff, or_false, false_or, or_true, true_or, eq_self, va_some, Bool.false_eq_true, reduceIte, catS_n, catS_i, catS_r, catS_l, catS_d, Nat.zero_add, Nat.add_zero, decide_true, decide_false, Nat.reduceLeDiff, cat_r, cat_i, cat_l, nle_T, nle_F, nlt_T, nlt_F, neq_T, neq_F, k0, p0, p1, p2, p3, p4, p5, p6, p7, p8, x0, x1, x2, l0, r0, r1, r2, m0, q0, q1, q2, q3, q4, q5, q6, q7, w0, w1, w2, f0, f1, f2, f3, f4, c33 hF hg.2.2 hFv hB]
    done
theorem c57 {d : Nat} {P : MP} {I : MI} {L : ML} {C : MC} {B n len : Nat} {g : GS} {ps : Nat → GS} {tx : Nat → Nat} (hX : XB P) (hR : XR I L g n ps len tx) (hA : AV B g n ps len tx) (hB : B ≤ 1000000) (hd : 23 ≤ d) : ∃ I' L', XR I' L' g n ps len tx ∧ fo I I' ∧ fo L L' ∧ ∀ Q, CT d 57 [.ref 1] P I L C Q = Q (.inl (some (.long (digV g n len)))) P I' L' C := by
  have hX' := hX
  obtain ⟨k0, ⟨p0, p1, p2, p3, p4, p5, p6, p7, p8⟩, hS, hS2, hV, ⟨x0, x1, x2⟩, hT2, hO, hD, hH, hH2⟩ := hX'
  have hS' := hS
  obtain ⟨l0, r0, r1, r2, hT, hK, hF⟩ := hS'
  have hT' := hT
  have hK' := hK
  have hF' := hF
  have hR' := hR
  have hA' := hA
  obtain ⟨⟨m0, q0, q1, q2, q3, q4, q5, q6, q7⟩, z1, z2, z3, z4, z5, z6, z7, z8⟩ := hT'
  obtain ⟨w0, w1, w2, w3, w4⟩ := hK'
  obtain ⟨f0, f1, f2, f3, f4, f5, f6, f7, f8⟩ := hF'
  obtain ⟨hg, hVR, hXT, hCC⟩ := hR'
  obtain ⟨hGV, hps, hn4, hlen, htx⟩ := hA'
  have h140 := GV_140 hGV
  have hv := hGV.1
  have hl := hGV.2.1
  have hFv := hGV.2.2
  have hlx := hXT.1
  obtain ⟨I', L', v, a1, a2, a3, a4⟩ := f57d (d := d - 1) (C := C) (h := mxs (coF g) 6 (mxs (vF g) 8 (mx (lN 3361) (nI len).toInt64))) hX hA (by omega) 3 0 I L UN (by omega) hR
  refine ⟨I', L', a1, a2, a3, fun Q => ?_⟩
  have a4 := a4 Q
  have s5 := f57g (d := d - 1) (C := C) (Q := Q) (h := mxs (oF g) 16 (dgT g 3 (mxs (coF g) 6 (mxs (vF g) 8 (mx (lN 3361) (nI len).toInt64))))) hX a1 hA hB (by omega) (g 140) 0 v (by omega)
  have s4 := f57e (d := d - 1) (C := C) (Q := Q) (u := v) (h := dgT g 3 (mxs (coF g) 6 (mxs (vF g) 8 (mx (lN 3361) (nI len).toInt64)))) hX a1 hA (by omega) 16 0 (by omega)
  have s2' := f57b (d := d - 1) (C := C) (Q := Q) (u := UN) (h := mxs (vF g) 8 (mx (lN 3361) (nI len).toInt64)) hX hR hA (by omega) 3 0 (by omega)
  have s1' := f57a (d := d - 1) (C := C) (Q := Q) (u := UN) (h := mx (lN 3361) (nI len).toInt64) hX hR hA hB (by omega) 8 0 (by omega)
  have e0 : ∀ (f : Nat → Int64) h, mxs f 0 h = h := fun _ _ => rfl
  have e1 : ∀ (f : Nat → Int64) h, mxs f (3 * 0) h = h := fun _ _ => rfl
  have e2 : ∀ (f : Nat → Int64) h, mxs f (2 * 0) h = h := fun _ _ => rfl
  have e3 : ∀ h, dgT g 0 h = h := fun _ => rfl
  rw [e1] at s5
  rw [e0] at s4 s1'
  rw [e2] at s2'
  rw [e3] at a4
  unfold digV
  rw [← s5]
  generalize hq5 : dgT g 3 (mxs (coF g) 6 (mxs (vF g) 8 (mx (lN 3361) (nI len).toInt64))) = h5 at *
  have r4 : X (d - 1) 57 188 [.ref 1, .long (mxs (oF g) 16 h5), UN, .int (nI 16), v] [] P I' L' C Q = X (d - 1) 57 190 [.ref 1, .long (mxs (oF g) 16 h5), UN, .int (nI 0), v] [] P I' L' C Q := by
    rw [X_go, d57_188]
    simp (disch := first | assumption | omega) only [Nat.reduceAdd, X_go, go2_some, stp, ldI, ldA, ldL, stI, stA, stL, o1I, o2I, o2L, brI, brII, gl, s1, s2, k1, sl, go_sN, go_sR, go_CT, go_sT, go_no, go_if, pops, bk_v, bk_0, d57_0, d57_3, d57_4, d57_7, d57_10, d57_11, d57_14, d57_15, d57_16, d57_17, d57_18, d57_20, d57_23, d57_24, d57_25, d57_26, d57_29, d57_30, d57_33, d57_34, d57_37, d57_40, d57_41, d57_42, d57_43, d57_44, d57_47, d57_48, d57_49, d57_52, d57_55, d57_58, d57_59, d57_62, d57_63, d57_66, d57_67, d57_68, d57_69, d57_72, d57_75, d57_78, d57_79, d57_82, d57_83, d57_86, d57_87, d57_90, d57_93, d57_94, d57_95, d57_96, d57_97, d57_100, d57_101, d57_102, d57_103, d57_106, d57_107, d57_108, d57_111, d57_112, d57_115, d57_116, d57_119, d57_120, d57_122, d57_124, d57_125, d57_128, d57_129, d57_130, d57_133, d57_135, d57_138, d57_141, d57_142, d57_145, d57_148, d57_151, d57_154, d57_155, d57_156, d57_157, d57_159, d57_162, d57_163, d57_164, d57_167, d57_170, d57_173, d57_174, d57_177, d57_178, d57_181, d57_182, d57_185, d57_189, d57_191, d57_192, d57_195, d57_198, d57_201, d57_204, d57_205, d57_207, d57_209, d57_210, d57_213, d57_214, d57_215, d57_218, d57_221, d57_222, d57_224, d57_227, d57_228, d57_231, d57_232, d57_235, d57_238, d57_241, d57_244, d57_245, d57_246, d57_249, d57_252, d57_253, d57_256, n_lt, n_le, n_eq, n_lt0, n_ge0, n_gt0, n_le0, n_eq0, m_lt, m_le, m_gt, m_ge, m_eq, m_eq', m_lt0, m_ge0, m_gt0, m_le0, m_ltm, m_lem, n_in, m_in, n_cl, n_ti, n_div, n_rem', n_dec, n_l, nI_add, pk_mul, an0, an1, decide_eq_true_eq, if_true, if_false, ite_true, ite_false, and_true, true_and, and_false, false_and, not_true, not_false_iff, or_false, false_or, or_true, true_or, eq_self, va_some, Bool.false_eq_true, reduceIte, catS_n, catS_i, catS_r, catS_l, catS_d, Nat.zero_add, Nat.add_zero, decide_true, decide_false, Nat.reduceLeDiff, cat_r, cat_i, cat_l, nle_T, nle_F, nlt_T, nlt_F, neq_T, neq_F]
  have r3 : X (d - 1) 57 154 [.ref 1, .long h5, UN, .int (nI 3), v] [] P I' L' C Q = X (d - 1) 57 156 [.ref 1, .long h5, UN, .int (nI 0), v] [] P I' L' C Q := by
    rw [X_go, d57_154]
    simp (disch := first | assumption | omega) only [Nat.reduceAdd, X_go, go2_some, stp, ldI, ldA, ldL, stI, stA, stL, o1I, o2I, o2L, brI, brII, gl, s1, s2, k1, sl, go_sN, go_sR, go_CT, go_sT, go_no, go_if, pops, bk_v, bk_0, d57_0, d57_3, d57_4, d57_7, d57_10, d57_11, d57_14, d57_15, d57_16, d57_17, d57_18, d57_20, d57_23, d57_24, d57_25, d57_26, d57_29, d57_30, d57_33, d57_34, d57_37, d57_40, d57_41, d57_42, d57_43, d57_44, d57_47, d57_48, d57_49, d57_52, d57_55, d57_58, d57_59, d57_62, d57_63, d57_66, d57_67, d57_68, d57_69, d57_72, d57_75, d57_78, d57_79, d57_82, d57_83, d57_86, d57_87, d57_90, d57_93, d57_94, d57_95, d57_96, d57_97, d57_100, d57_101, d57_102, d57_103, d57_106, d57_107, d57_108, d57_111, d57_112, d57_115, d57_116, d57_119, d57_120, d57_122, d57_124, d57_125, d57_128, d57_129, d57_130, d57_133, d57_135, d57_138, d57_141, d57_142, d57_145, d57_148, d57_151, d57_155, d57_157, d57_159, d57_162, d57_163, d57_164, d57_167, d57_170, d57_173, d57_174, d57_177, d57_178, d57_181, d57_182, d57_185, d57_188, d57_189, d57_190, d57_191, d57_192, d57_195, d57_198, d57_201, d57_204, d57_205, d57_207, d57_209, d57_210, d57_213, d57_214, d57_215, d57_218, d57_221, d57_222, d57_224, d57_227, d57_228, d57_231, d57_232, d57_235, d57_238, d57_241, d57_244, d57_245, d57_246, d57_249, d57_252, d57_253, d57_256, n_lt, n_le, n_eq, n_lt0, n_ge0, n_gt0, n_le0, n_eq0, m_lt, m_le, m_gt, m_ge, m_eq, m_eq', m_lt0, m_ge0, m_gt0, m_le0, m_ltm, m_lem, n_in, m_in, n_cl, n_ti, n_div, n_rem', n_dec, n_l, nI_add, pk_mul, an0, an1, decide_eq_true_eq, if_true, if_false, ite_true, ite_false, and_true, true_and, and_false, false_and, not_true, not_false_iff, or_false, false_or, or_true, true_or, eq_self, va_some, Bool.false_eq_true, reduceIte, catS_n, catS_i, catS_r, catS_l, catS_d, Nat.zero_add, Nat.add_zero, decide_true, decide_false, Nat.reduceLeDiff, cat_r, cat_i, cat_l, nle_T, nle_F, nlt_T, nlt_F, neq_T, neq_F]
  rw [← r4, ← s4, ← r3, ← a4]
  generalize hq2 : mxs (vF g) 8 (mx (lN 3361) (nI len).toInt64) = h2 at *
  have r2' : X (d - 1) 57 93 [.ref 1, .long (mxs (coF g) 6 h2), UN, .int (nI 4), UN] [] P I L C Q = X (d - 1) 57 95 [.ref 1, .long (mxs (coF g) 6 h2), UN, .int (nI 0), UN] [] P I L C Q := by
    rw [X_go, d57_93]
    simp (disch := first | assumption | omega) only [Nat.reduceAdd, X_go, go2_some, stp, ldI, ldA, ldL, stI, stA, stL, o1I, o2I, o2L, brI, brII, gl, s1, s2, k1, sl, go_sN, go_sR, go_CT, go_sT, go_no, go_if, pops, bk_v, bk_0, d57_0, d57_3, d57_4, d57_7, d57_10, d57_11, d57_14, d57_15, d57_16, d57_17, d57_18, d57_20, d57_23, d57_24, d57_25, d57_26, d57_29, d57_30, d57_33, d57_34, d57_37, d57_40, d57_41, d57_42, d57_43, d57_44, d57_47, d57_48, d57_49, d57_52, d57_55, d57_58, d57_59, d57_62, d57_63, d57_66, d57_67, d57_68, d57_69, d57_72, d57_75, d57_78, d57_79, d57_82, d57_83, d57_86, d57_87, d57_90, d57_94, d57_96, d57_97, d57_100, d57_101, d57_102, d57_103, d57_106, d57_107, d57_108, d57_111, d57_112, d57_115, d57_116, d57_119, d57_120, d57_122, d57_124, d57_125, d57_128, d57_129, d57_130, d57_133, d57_135, d57_138, d57_141, d57_142, d57_145, d57_148, d57_151, d57_154, d57_155, d57_156, d57_157, d57_159, d57_162, d57_163, d57_164, d57_167, d57_170, d57_173, d57_174, d57_177, d57_178, d57_181, d57_182, d57_185, d57_188, d57_189, d57_190, d57_191, d57_192, d57_195, d57_198, d57_201, d57_204, d57_205, d57_207, d57_209, d57_210, d57_213, d57_214, d57_215, d57_218, d57_221, d57_222, d57_224, d57_227, d57_228, d57_231, d57_232, d57_235, d57_238, d57_241, d57_244, d57_245, d57_246, d57_249, d57_252, d57_253, d57_256, n_lt, n_le, n_eq, n_lt0, n_ge0, n_gt0, n_le0, n_eq0, m_lt, m_le, m_gt, m_ge, m_eq, m_eq', m_lt0, m_ge0, m_gt0, m_le0, m_ltm, m_lem, n_in, m_in, n_cl, n_ti, n_div, n_rem', n_dec, n_l, nI_add, pk_mul, an0, an1, decide_eq_true_eq, if_true, if_false, ite_true, ite_false, and_true, true_and, and_false, false_and, not_true, not_false_iff, or_false, false_or, or_true, true_or, eq_self, va_some, Bool.false_eq_true, reduceIte, catS_n, catS_i, catS_r, catS_l, catS_d, Nat.zero_add, Nat.add_zero, decide_true, decide_false, Nat.reduceLeDiff, cat_r, cat_i, cat_l, nle_T, nle_F, nlt_T, nlt_F, neq_T, neq_F]
  have r1' : X (d - 1) 57 40 [.ref 1, .long h2, UN, .int (nI 8), UN] [] P I L C Q = X (d - 1) 57 42 [.ref 1, .long h2, UN, .int (nI (0 + 1)), UN] [] P I L C Q := by
    rw [X_go, d57_40]
    simp (disch := first | assumption | omega) only [Nat.reduceAdd, X_go, go2_some, stp, ldI, ldA, ldL, stI, stA, stL, o1I, o2I, o2L, brI, brII, gl, s1, s2, k1, sl, go_sN, go_sR, go_CT, go_sT, go_no, go_if, pops, bk_v, bk_0, d57_0, d57_3, d57_4, d57_7, d57_10, d57_11, d57_14, d57_15, d57_16, d57_17, d57_18, d57_20, d57_23, d57_24, d57_25, d57_26, d57_29, d57_30, d57_33, d57_34, d57_37, d57_41, d57_43, d57_44, d57_47, d57_48, d57_49, d57_52, d57_55, d57_58, d57_59, d57_62, d57_63, d57_66, d57_67, d57_68, d57_69, d57_72, d57_75, d57_78, d57_79, d57_82, d57_83, d57_86, d57_87, d57_90, d57_93, d57_94, d57_95, d57_96, d57_97, d57_100, d57_101, d57_102, d57_103, d57_106, d57_107, d57_108, d57_111, d57_112, d57_115, d57_116, d57_119, d57_120, d57_122, d57_124, d57_125, d57_128, d57_129, d57_130, d57_133, d57_135, d57_138, d57_141, d57_142, d57_145, d57_148, d57_151, d57_154, d57_155, d57_156, d57_157, d57_159, d57_162, d57_163, d57_164, d57_167, d57_170, d57_173, d57_174, d57_177, d57_178, d57_181, d57_182, d57_185, d57_188, d57_189, d57_190, d57_191, d57_192, d57_195, d57_198, d57_201, d57_204, d57_205, d57_207, d57_209, d57_210, d57_213, d57_214, d57_215, d57_218, d57_221, d57_222, d57_224, d57_227, d57_228, d57_231, d57_232, d57_235, d57_238, d57_241, d57_244, d57_245, d57_246, d57_249, d57_252, d57_253, d57_256, n_lt, n_le, n_eq, n_lt0, n_ge0, n_gt0, n_le0, n_eq0, m_lt, m_le, m_gt, m_ge, m_eq, m_eq', m_lt0, m_ge0, m_gt0, m_le0, m_ltm, m_lem, n_in, m_in, n_cl, n_ti, n_div, n_rem', n_dec, n_l, nI_add, pk_mul, an0, an1, decide_eq_true_eq, if_true, if_false, ite_true, ite_false, and_true, true_and, and_false, false_and, not_true, not_false_iff, or_false, false_or, or_true, true_or, eq_self, va_some, Bool.false_eq_true, reduceIte, catS_n, catS_i, catS_r, catS_l, catS_d, Nat.zero_add, Nat.add_zero, decide_true, decide_false, Nat.reduceLeDiff, cat_r, cat_i, cat_l, nle_T, nle_F, nlt_T, nlt_F, neq_T, neq_F]
  rw [← r2', ← s2', ← r1', ← s1']
  unfold mx
  rw [CT_e (mj := 57) (e := [.ref 1, UN, UN, UN, UN]) (by omega) rfl (Nat.le_of_ble_eq_true rfl)]
  simp (disch := first | assumption | omega) only [Nat.reduceAdd, X_go, go2_some, stp, ldI, ldA, ldL, stI, stA, stL, o1I, o2I, o2L, brI, brII, gl, s1, s2, k1, sl, go_sN, go_sR, go_CT, go_sT, go_no, go_if, pops, bk_v, bk_0, d57_0, d57_3, d57_4, d57_7, d57_10, d57_11, d57_14, d57_15, d57_16, d57_18, d57_20, d57_23, d57_24, d57_25, d57_26, d57_29, d57_30, d57_33, d57_34, d57_37, d57_40, d57_41, d57_42, d57_43, d57_44, d57_47, d57_48, d57_49, d57_52, d57_55, d57_58, d57_59, d57_62, d57_63, d57_66, d57_67, d57_68, d57_69, d57_72, d57_75, d57_78, d57_79, d57_82, d57_83, d57_86, d57_87, d57_90, d57_93, d57_94, d57_95, d57_96, d57_97, d57_100, d57_101, d57_102, d57_103, d57_106, d57_107, d57_108, d57_111, d57_112, d57_115, d57_116, d57_119, d57_120, d57_122, d57_124, d57_125, d57_128, d57_129, d57_130, d57_133, d57_135, d57_138, d57_141, d57_142, d57_145, d57_148, d57_151, d57_154, d57_155, d57_156, d57_157, d57_159, d57_162, d57_163, d57_164, d57_167, d57_170, d57_173, d57_174, d57_177, d57_178, d57_181, d57_182, d57_185, d57_188, d57_189, d57_190, d57_191, d57_192, d57_195, d57_198, d57_201, d57_204, d57_205, d57_207, d57_209, d57_210, d57_213, d57_214, d57_215, d57_218, d57_221, d57_222, d57_224, d57_227, d57_228, d57_231, d57_232, d57_235, d57_238, d57_241, d57_244, d57_245, d57_246, d57_249, d57_252, d57_253, d57_256, n_lt, n_le, n_eq, n_lt0, n_ge0, n_gt0, n_le0, n_eq0, m_lt, m_le, m_gt, m_ge, m_eq, m_eq', m_lt0, m_ge0, m_gt0, m_le0, m_ltm, m_lem, n_in, m_in, n_cl, n_ti, n_div, n_rem', n_dec, n_l, nI_add, pk_mul, an0, an1, decide_eq_true_eq, if_true, if_false, ite_true, ite_false, and_true, true_and, and_false, false_and, not_true, not_false_iff, or_false, false_or, or_true, true_or, eq_self, va_some, Bool.false_eq_true, reduceIte, catS_n, catS_i, catS_r, catS_l, catS_d, Nat.zero_add, Nat.add_zero, decide_true, decide_false, Nat.reduceLeDiff, cat_r, cat_i, cat_l, nle_T, nle_F, nlt_T, nlt_F, neq_T, neq_F, k0, p0, p1, p2, p3, p4, p5, p6, p7, p8, x0, x1, x2, l0, r0, r1, r2, m0, q0, q1, q2, q3, q4, q5, q6, q7, w0, w1, w2, f0, f1, f2, f3, f4, hlx, c58]
  done
