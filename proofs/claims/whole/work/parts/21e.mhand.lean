/-! THE MODEL: handing on -/
theorem c202 {d : Nat} {P : MP} {I : MI} {L : ML} {C : MC} {top p s fd mn r k w0 w1 : Nat} {x y its : Int32} {sp gr : SP} {g : GS} (hM : MB P) (hn : NR I g) (hv : TV g) (hl : LV g) (hx : MSp g x sp) (hy : MGr y gr) (hp : I 150 18 = nI p) (hp8 : p < 8) (hd : 10 ≤ d) (ht : top < 3) (hf : fd ≤ 4) (hk : k + r = g top) (hit : ItR its k w0 w1) (hmn : mn = mnV k w0 w1) (h0 : w0 ≤ 16) (h1 : w1 ≤ 16) : GoA (fun Q => CT d 202 [.ref 150, .int (nI top), .long (lN s), .int (nI k), .int x, .int y, .int its, .int (fI fd), .int (nI mn)] P I L C Q) P I L C (goV g top r k w0 w1 sp gr fd s) ∨ GoB (fun Q => CT d 202 [.ref 150, .int (nI top), .long (lN s), .int (nI k), .int x, .int y, .int its, .int (fI fd), .int (nI mn)] P I L C Q) P I L C g top p r k x y its sp gr fd mn s (goV g top r k w0 w1 sp gr fd s) := by
  have h := f202 (d := d - 1) (L := L) (C := C) (s := s) hM hn hv hl hx hy hp hp8 (by omega) ht hf r k w0 w1 (nI k) UN hk hit hmn h0 h1
  have q1 : ∀ Q, CT d 202 [.ref 150, .int (nI top), .long (lN s), .int (nI k), .int x, .int y, .int its, .int (fI fd), .int (nI mn)] P I L C Q = X (d - 1) 202 4 [.ref 150, .int (nI top), .long (lN s), UN, .int (nI k), .int x, .int y, .int its, .int (fI fd), .int (nI mn), .int (nI k), UN] [] P I L C Q := fun Q => by
    rw [CT_e (mj := 202) (e := [.ref 150, .int (nI top), .long (lN s), UN, .int (nI k), .int x, .int y, .int its, .int (fI fd), .int (nI mn), UN, UN]) (by omega) rfl (Nat.le_of_ble_eq_true rfl), X_go]
    simp (disch := first | assumption | omega) only [Nat.reduceAdd, X_go, go2_some, stp, ldI, ldA, ldL, stI, stA, stL, o1I, o2I, o2L, brI, brII, gl, s1, s2, k1, sl, go_sN, go_sR, go_CT, go_sT, go_no, go_if, pops, bk_v, bk_0, d202_0, d202_2, d202_6, d202_7, d202_10, d202_11, d202_12, d202_13, d202_14, d202_17, d202_18, d202_19, d202_20, d202_22, d202_24, d202_26, d202_29, d202_31, d202_33, d202_36, d202_38, d202_40, d202_41, d202_44, d202_47, d202_48, d202_51, d202_52, d202_55, d202_57, d202_58, d202_59, d202_62, d202_63, d202_66, d202_68, d202_69, d202_70, d202_73, d202_74, d202_77, d202_79, d202_80, d202_81, d202_84, d202_85, d202_88, d202_90, d202_91, d202_92, d202_95, d202_96, d202_99, d202_101, d202_102, d202_103, d202_104, d202_106, d202_107, d202_109, d202_112, d202_113, d202_116, d202_119, d202_120, d202_122, d202_124, d202_126, d202_129, d202_130, d202_133, d202_135, d202_136, d202_137, d202_139, d202_141, d202_142, d202_143, d202_144, d202_145, d202_148, d202_149, d202_152, d202_153, d202_154, d202_155, d202_158, d202_161, d202_162, d202_164, d202_166, d202_168, d202_171, d202_172, d202_175, d202_177, d202_178, d202_179, d202_180, d202_181, d202_182, d202_185, d202_188, d202_189, d202_190, d202_193, d202_194, d202_196, d202_197, d202_198, d202_199, d202_202, n_lt, n_le, n_eq, n_lt0, n_ge0, n_gt0, n_le0, n_eq0, m_lt, m_le, m_gt, m_ge, m_eq, m_eq', m_lt0, m_ge0, m_gt0, m_le0, m_ltm, m_lem, n_in, m_in, n_cl, n_ti, n_div, n_rem', n_dec, n_l, nI_add, pk_mul, an0, an1, decide_eq_true_eq, if_true, if_false, ite_true, ite_false, and_true, true_and, and_false, false_and, not_true, not_false_iff, or_false, false_or, or_true, true_or, eq_self, va_some, Bool.false_eq_true, reduceIte, catS_n, catS_i, catS_r, catS_l, catS_d, Nat.zero_add, Nat.add_zero, decide_true, decide_false, Nat.reduceLeDiff, cat_r, cat_i, cat_l, nle_T, nle_F, nlt_T, nlt_F, neq_T, neq_F]
    done
  simp only [q1]
  exact h
def xsW (g : GS) (xs : Int32) (t j : Nat) : Int32 := if g (cl t j 4) = 0 then xs else xs ||| (nI 1 <<< (nI (6 * t + j) &&& 31))
def ysW (g : GS) (ys : Int32) (t j : Nat) : Int32 := if g (cl t j 3) = 0 then ys else ys ||| (nI 1 <<< (nI (3 * t + g (cl t j 3) - 1) &&& 31))
theorem d205_0 : dec 205 0 = some (.aload_n 0, 1, []) := rfl
theorem d205_1 : dec 205 1 = some (.getfield 180, 3, [1, 10, 18, 0, 0, 1012]) := rfl
theorem d205_4 : dec 205 4 = some (.iconst 1, 1, [1]) := rfl
theorem d205_5 : dec 205 5 = some (.isub, 1, []) := rfl
theorem d205_6 : dec 205 6 = some (.istore_n 3, 1, []) := rfl
theorem d205_7 : dec 205 7 = some (.aload_n 0, 1, []) := rfl
theorem d205_8 : dec 205 8 = some (.getfield 22, 3, [1, 10, 7, 2, 0, 1001]) := rfl
theorem d205_11 : dec 205 11 = some (.iload_n 3, 1, []) := rfl
theorem d205_12 : dec 205 12 = some (.iaload, 1, []) := rfl
theorem d205_13 : dec 205 13 = some (.istore 4, 2, []) := rfl
theorem d205_15 : dec 205 15 = some (.aload_n 0, 1, []) := rfl
theorem d205_16 : dec 205 16 = some (.getfield 34, 3, [1, 10, 11, 2, 0, 1005]) := rfl
theorem d205_19 : dec 205 19 = some (.iload_n 3, 1, []) := rfl
theorem d205_20 : dec 205 20 = some (.laload, 1, []) := rfl
theorem d205_21 : dec 205 21 = some (.aload_n 0, 1, []) := rfl
theorem d205_22 : dec 205 22 = some (.iload 4, 2, []) := rfl
theorem d205_24 : dec 205 24 = some (.iload_n 2, 1, []) := rfl
theorem d205_25 : dec 205 25 = some (.invokevirtual 121, 3, [2, 172, 2, 10, 0, 1151, 0, 0]) := rfl
theorem d205_28 : dec 205 28 = some (.i2l, 1, []) := rfl
theorem d205_29 : dec 205 29 = some (.lmul, 1, []) := rfl
theorem d205_30 : dec 205 30 = some (.aload_n 0, 1, []) := rfl
theorem d205_31 : dec 205 31 = some (.getfield 31, 3, [1, 10, 10, 2, 0, 1004]) := rfl
theorem d205_34 : dec 205 34 = some (.iload_n 3, 1, []) := rfl
theorem d205_35 : dec 205 35 = some (.iaload, 1, []) := rfl
theorem d205_36 : dec 205 36 = some (.i2l, 1, []) := rfl
theorem d205_37 : dec 205 37 = some (.ldiv, 1, []) := rfl
theorem d205_38 : dec 205 38 = some (.lstore 5, 2, []) := rfl
theorem d205_40 : dec 205 40 = some (.lload 5, 2, []) := rfl
theorem d205_42 : dec 205 42 = some (.lconst 0, 1, [0]) := rfl
theorem d205_43 : dec 205 43 = some (.lcmp, 1, []) := rfl
theorem d205_44 : dec 205 44 = some (.ifCond .ne 4, 3, [48]) := rfl
theorem d205_47 : dec 205 47 = some (.return_, 1, []) := rfl
theorem d205_48 : dec 205 48 = some (.aload_n 0, 1, []) := rfl
theorem d205_49 : dec 205 49 = some (.aload_n 0, 1, []) := rfl
theorem d205_50 : dec 205 50 = some (.getfield 41, 3, [1, 10, 13, 2, 0, 1007]) := rfl
theorem d205_53 : dec 205 53 = some (.iload_n 3, 1, []) := rfl
theorem d205_54 : dec 205 54 = some (.iaload, 1, []) := rfl
theorem d205_55 : dec 205 55 = some (.iload 4, 2, []) := rfl
theorem d205_57 : dec 205 57 = some (.iload_n 2, 1, []) := rfl
theorem d205_58 : dec 205 58 = some (.invokevirtual 191, 3, [2, 206, 2, 10, 0, 1291, 0, 0, 0]) := rfl
theorem d205_61 : dec 205 61 = some (.istore 7, 2, []) := rfl
theorem d205_63 : dec 205 63 = some (.aload_n 0, 1, []) := rfl
theorem d205_64 : dec 205 64 = some (.aload_n 0, 1, []) := rfl
theorem d205_65 : dec 205 65 = some (.getfield 44, 3, [1, 10, 14, 2, 0, 1008]) := rfl
theorem d205_68 : dec 205 68 = some (.iload_n 3, 1, []) := rfl
theorem d205_69 : dec 205 69 = some (.iaload, 1, []) := rfl
theorem d205_70 : dec 205 70 = some (.iload 4, 2, []) := rfl
theorem d205_72 : dec 205 72 = some (.iload_n 2, 1, []) := rfl
theorem d205_73 : dec 205 73 = some (.invokevirtual 170, 3, [2, 194, 2, 10, 0, 1242, 0, 0, 0]) := rfl
theorem d205_76 : dec 205 76 = some (.istore 8, 2, []) := rfl
theorem d205_78 : dec 205 78 = some (.aload_n 0, 1, []) := rfl
theorem d205_79 : dec 205 79 = some (.iload 4, 2, []) := rfl
theorem d205_81 : dec 205 81 = some (.iload_n 2, 1, []) := rfl
theorem d205_82 : dec 205 82 = some (.iconst 0, 1, [0]) := rfl
theorem d205_83 : dec 205 83 = some (.invokevirtual 107, 3, [2, 167, 2, 10, 0, 1131, 0, 0, 0]) := rfl
theorem d205_86 : dec 205 86 = some (.istore 9, 2, []) := rfl
theorem d205_88 : dec 205 88 = some (.iload 9, 2, []) := rfl
theorem d205_90 : dec 205 90 = some (.invokestatic 90, 3, [2, 160, 0, 10, 0, 1106, 0]) := rfl
theorem d205_93 : dec 205 93 = some (.ifCond .eq 80, 3, [173]) := rfl
theorem d205_96 : dec 205 96 = some (.aload_n 0, 1, []) := rfl
theorem d205_97 : dec 205 97 = some (.iload 4, 2, []) := rfl
theorem d205_99 : dec 205 99 = some (.iload_n 2, 1, []) := rfl
theorem d205_100 : dec 205 100 = some (.iconst 2, 1, [2]) := rfl
theorem d205_101 : dec 205 101 = some (.invokevirtual 107, 3, [2, 167, 2, 10, 0, 1131, 0, 0, 0]) := rfl
theorem d205_104 : dec 205 104 = some (.istore 10, 2, []) := rfl
theorem d205_106 : dec 205 106 = some (.iload 10, 2, []) := rfl
theorem d205_108 : dec 205 108 = some (.aload_n 0, 1, []) := rfl
theorem d205_109 : dec 205 109 = some (.getfield 50, 3, [1, 10, 16, 2, 0, 1010]) := rfl
theorem d205_112 : dec 205 112 = some (.iload_n 3, 1, []) := rfl
theorem d205_113 : dec 205 113 = some (.iaload, 1, []) := rfl
theorem d205_114 : dec 205 114 = some (.if_icmp .le 8, 3, [122]) := rfl
theorem d205_117 : dec 205 117 = some (.iload 10, 2, []) := rfl
theorem d205_119 : dec 205 119 = some (.goto 9, 3, [128]) := rfl
theorem d205_122 : dec 205 122 = some (.aload_n 0, 1, []) := rfl
theorem d205_123 : dec 205 123 = some (.getfield 50, 3, [1, 10, 16, 2, 0, 1010]) := rfl
theorem d205_126 : dec 205 126 = some (.iload_n 3, 1, []) := rfl
theorem d205_127 : dec 205 127 = some (.iaload, 1, []) := rfl
theorem d205_128 : dec 205 128 = some (.istore 11, 2, []) := rfl
theorem d205_130 : dec 205 130 = some (.aload_n 0, 1, []) := rfl
theorem d205_131 : dec 205 131 = some (.iload_n 1, 1, []) := rfl
theorem d205_132 : dec 205 132 = some (.lload 5, 2, []) := rfl
theorem d205_134 : dec 205 134 = some (.aload_n 0, 1, []) := rfl
theorem d205_135 : dec 205 135 = some (.getfield 38, 3, [1, 10, 12, 2, 0, 1006]) := rfl
theorem d205_138 : dec 205 138 = some (.iload_n 3, 1, []) := rfl
theorem d205_139 : dec 205 139 = some (.iaload, 1, []) := rfl
theorem d205_140 : dec 205 140 = some (.iconst 1, 1, [1]) := rfl
theorem d205_141 : dec 205 141 = some (.iadd, 1, []) := rfl
theorem d205_142 : dec 205 142 = some (.iload 7, 2, []) := rfl
theorem d205_144 : dec 205 144 = some (.iload 8, 2, []) := rfl
theorem d205_146 : dec 205 146 = some (.aload_n 0, 1, []) := rfl
theorem d205_147 : dec 205 147 = some (.getfield 47, 3, [1, 10, 15, 2, 0, 1009]) := rfl
theorem d205_150 : dec 205 150 = some (.iload_n 3, 1, []) := rfl
theorem d205_151 : dec 205 151 = some (.iaload, 1, []) := rfl
theorem d205_152 : dec 205 152 = some (.iconst 1, 1, [1]) := rfl
theorem d205_153 : dec 205 153 = some (.iload 9, 2, []) := rfl
theorem d205_155 : dec 205 155 = some (.ishl, 1, []) := rfl
theorem d205_156 : dec 205 156 = some (.ior, 1, []) := rfl
theorem d205_157 : dec 205 157 = some (.iload 11, 2, []) := rfl
theorem d205_159 : dec 205 159 = some (.aload_n 0, 1, []) := rfl
theorem d205_160 : dec 205 160 = some (.getfield 53, 3, [1, 10, 17, 2, 0, 1011]) := rfl
theorem d205_163 : dec 205 163 = some (.iload_n 3, 1, []) := rfl
theorem d205_164 : dec 205 164 = some (.iaload, 1, []) := rfl
theorem d205_165 : dec 205 165 = some (.iconst 1, 1, [1]) := rfl
theorem d205_166 : dec 205 166 = some (.iadd, 1, []) := rfl
theorem d205_167 : dec 205 167 = some (.invokevirtual 194, 3, [2, 202, 2, 10, 0, 1275, 0, 0, 0, 0, 0, 0, 1, 0]) := rfl
theorem d205_170 : dec 205 170 = some (.goto 93, 3, [263]) := rfl
theorem d205_173 : dec 205 173 = some (.aload_n 0, 1, []) := rfl
theorem d205_174 : dec 205 174 = some (.getfield 41, 3, [1, 10, 13, 2, 0, 1007]) := rfl
theorem d205_177 : dec 205 177 = some (.aload_n 0, 1, []) := rfl
theorem d205_178 : dec 205 178 = some (.getfield 180, 3, [1, 10, 18, 0, 0, 1012]) := rfl
theorem d205_181 : dec 205 181 = some (.iload 7, 2, []) := rfl
theorem d205_183 : dec 205 183 = some (.iastore, 1, []) := rfl
theorem d205_184 : dec 205 184 = some (.aload_n 0, 1, []) := rfl
theorem d205_185 : dec 205 185 = some (.getfield 44, 3, [1, 10, 14, 2, 0, 1008]) := rfl
theorem d205_188 : dec 205 188 = some (.aload_n 0, 1, []) := rfl
theorem d205_189 : dec 205 189 = some (.getfield 180, 3, [1, 10, 18, 0, 0, 1012]) := rfl
theorem d205_192 : dec 205 192 = some (.iload 8, 2, []) := rfl
theorem d205_194 : dec 205 194 = some (.iastore, 1, []) := rfl
theorem d205_195 : dec 205 195 = some (.aload_n 0, 1, []) := rfl
theorem d205_196 : dec 205 196 = some (.getfield 47, 3, [1, 10, 15, 2, 0, 1009]) := rfl
theorem d205_199 : dec 205 199 = some (.aload_n 0, 1, []) := rfl
theorem d205_200 : dec 205 200 = some (.getfield 180, 3, [1, 10, 18, 0, 0, 1012]) := rfl
theorem d205_203 : dec 205 203 = some (.aload_n 0, 1, []) := rfl
theorem d205_204 : dec 205 204 = some (.getfield 47, 3, [1, 10, 15, 2, 0, 1009]) := rfl
theorem d205_207 : dec 205 207 = some (.iload_n 3, 1, []) := rfl
theorem d205_208 : dec 205 208 = some (.iaload, 1, []) := rfl
theorem d205_209 : dec 205 209 = some (.iastore, 1, []) := rfl
theorem d205_210 : dec 205 210 = some (.aload_n 0, 1, []) := rfl
theorem d205_211 : dec 205 211 = some (.getfield 50, 3, [1, 10, 16, 2, 0, 1010]) := rfl
theorem d205_214 : dec 205 214 = some (.aload_n 0, 1, []) := rfl
theorem d205_215 : dec 205 215 = some (.getfield 180, 3, [1, 10, 18, 0, 0, 1012]) := rfl
theorem d205_218 : dec 205 218 = some (.aload_n 0, 1, []) := rfl
theorem d205_219 : dec 205 219 = some (.getfield 50, 3, [1, 10, 16, 2, 0, 1010]) := rfl
theorem d205_222 : dec 205 222 = some (.iload_n 3, 1, []) := rfl
theorem d205_223 : dec 205 223 = some (.iaload, 1, []) := rfl
theorem d205_224 : dec 205 224 = some (.iastore, 1, []) := rfl
theorem d205_225 : dec 205 225 = some (.aload_n 0, 1, []) := rfl
theorem d205_226 : dec 205 226 = some (.getfield 53, 3, [1, 10, 17, 2, 0, 1011]) := rfl
theorem d205_229 : dec 205 229 = some (.aload_n 0, 1, []) := rfl
theorem d205_230 : dec 205 230 = some (.getfield 180, 3, [1, 10, 18, 0, 0, 1012]) := rfl
theorem d205_233 : dec 205 233 = some (.aload_n 0, 1, []) := rfl
theorem d205_234 : dec 205 234 = some (.getfield 53, 3, [1, 10, 17, 2, 0, 1011]) := rfl
theorem d205_237 : dec 205 237 = some (.iload_n 3, 1, []) := rfl
theorem d205_238 : dec 205 238 = some (.iaload, 1, []) := rfl
theorem d205_239 : dec 205 239 = some (.iastore, 1, []) := rfl
theorem d205_240 : dec 205 240 = some (.aload_n 0, 1, []) := rfl
theorem d205_241 : dec 205 241 = some (.iload 9, 2, []) := rfl
theorem d205_243 : dec 205 243 = some (.bipush 16, 2, [16]) := rfl
theorem d205_245 : dec 205 245 = some (.isub, 1, []) := rfl
theorem d205_246 : dec 205 246 = some (.aload_n 0, 1, []) := rfl
theorem d205_247 : dec 205 247 = some (.getfield 28, 3, [1, 10, 9, 2, 0, 1003]) := rfl
theorem d205_250 : dec 205 250 = some (.iload_n 3, 1, []) := rfl
theorem d205_251 : dec 205 251 = some (.iaload, 1, []) := rfl
theorem d205_252 : dec 205 252 = some (.lload 5, 2, []) := rfl
theorem d205_254 : dec 205 254 = some (.aload_n 0, 1, []) := rfl
theorem d205_255 : dec 205 255 = some (.getfield 38, 3, [1, 10, 12, 2, 0, 1006]) := rfl
theorem d205_258 : dec 205 258 = some (.iload_n 3, 1, []) := rfl
theorem d205_259 : dec 205 259 = some (.iaload, 1, []) := rfl
theorem d205_260 : dec 205 260 = some (.invokevirtual 183, 3, [2, 203, 2, 10, 0, 1279, 0, 1, 0, 0]) := rfl
theorem d205_263 : dec 205 263 = some (.return_, 1, []) := rfl
theorem l205 : mL 205 = 12 := rfl
theorem c205z {d : Nat} {P : MP} {I : MI} {L : ML} {C : MC} {Q : QT} {top p t e j x s sM k fd mn : Nat} {x' xs ys its : Int32} {g : GS} (hM : MB P) (hn : NR I g) (hv : TV g) (hl : LV g) (hp : I 150 18 = nI (p + 1)) (hF : FrS I L p t e x' sM s k xs ys its fd mn) (hd : 5 ≤ d) (hp8 : p < 8) (ht : t < 3) (hj : j < g (3 + t)) (hs : s ≤ 1000000000) (h0 : 0 < sM) (hsM : sM ≤ 612000) (hz : s * pw g t j / sM = 0) : CT d 205 [.ref 150, .int (nI top), .int (nI j)] P I L C Q = Q (.inl none) P I L C := by
  have hM' := hM
  obtain ⟨⟨k0, _⟩, ⟨a7, a8, a9, a10, a11, a12, a13, a14, a15, a16, a17⟩, ⟨b7, b8, b9, b10, b11, b12, b13, b14, b15, b16, b17⟩, _⟩ := hM'
  obtain ⟨f1, f2, f3, f4, f5, f6, f7, f8, f9, f10, f11⟩ := hF
  have hpw := pw_b hv hl ht hj
  have hmul : s * pw g t j ≤ 1000000000 * 102000 := Nat.mul_le_mul hs hpw.2
  have hdiv : lN (s * pw g t j) / lN sM = lN (s * pw g t j / sM) := pk_lDiv (by omega) h0 (by omega)
  have hl0 : (lN sM = 0) = False := eq_false fun q => by have := (lN_eq (b := 0) (by omega) (by omega)).mp q; omega
  have hc : (lg_cmp (lN 0) (lN 0) = 0) = True := eq_true ((lg_cmp_eq _ _).mpr rfl)
  rw [hz] at hdiv
  rw [CT_e (mj := 205) (e := [.ref 150, .int (nI top), .int (nI j), UN, UN, UN, UN, UN, UN, UN, UN, UN]) (by omega) rfl (Nat.le_of_ble_eq_true rfl)]
  simp (disch := first | assumption | omega) only [Nat.reduceAdd, X_go, go2_some, stp, ldI, ldA, ldL, stI, stA, stL, o1I, o2I, o2L, brI, brII, gl, s1, s2, k1, sl, go_sN, go_sR, go_CT, go_sT, go_no, go_if, pops, bk_v, bk_0, d205_0, d205_1, d205_4, d205_5, d205_6, d205_7, d205_8, d205_11, d205_12, d205_13, d205_15, d205_16, d205_19, d205_20, d205_21, d205_22, d205_24, d205_25, d205_28, d205_29, d205_30, d205_31, d205_34, d205_35, d205_36, d205_37, d205_38, d205_40, d205_42, d205_43, d205_44, d205_47, d205_48, d205_49, d205_50, d205_53, d205_54, d205_55, d205_57, d205_58, d205_61, d205_63, d205_64, d205_65, d205_68, d205_69, d205_70, d205_72, d205_73, d205_76, d205_78, d205_79, d205_81, d205_82, d205_83, d205_86, d205_88, d205_90, d205_93, d205_96, d205_97, d205_99, d205_100, d205_101, d205_104, d205_106, d205_108, d205_109, d205_112, d205_113, d205_114, d205_117, d205_119, d205_122, d205_123, d205_126, d205_127, d205_128, d205_130, d205_131, d205_132, d205_134, d205_135, d205_138, d205_139, d205_140, d205_141, d205_142, d205_144, d205_146, d205_147, d205_150, d205_151, d205_152, d205_153, d205_155, d205_156, d205_157, d205_159, d205_160, d205_163, d205_164, d205_165, d205_166, d205_167, d205_170, d205_173, d205_174, d205_177, d205_178, d205_181, d205_183, d205_184, d205_185, d205_188, d205_189, d205_192, d205_194, d205_195, d205_196, d205_199, d205_200, d205_203, d205_204, d205_207, d205_208, d205_209, d205_210, d205_211, d205_214, d205_215, d205_218, d205_219, d205_222, d205_223, d205_224, d205_225, d205_226, d205_229, d205_230, d205_233, d205_234, d205_237, d205_238, d205_239, d205_240, d205_241, d205_243, d205_245, d205_246, d205_247, d205_250, d205_251, d205_252, d205_254, d205_255, d205_258, d205_259, d205_260, d205_263, n_lt, n_le, n_eq, n_lt0, n_ge0, n_gt0, n_le0, n_eq0, m_lt, m_le, m_gt, m_ge, m_eq, m_eq', m_lt0, m_ge0, m_gt0, m_le0, m_ltm, m_lem, n_in, m_in, n_cl, n_ti, n_div, n_rem', n_dec, n_l, nI_add, pk_mul, an0, an1, decide_eq_true_eq, if_true, if_false, ite_true, ite_false, and_true, true_and, and_false, false_and, not_true, not_false_iff, or_false, false_or, or_true, true_or, eq_self, va_some, Bool.false_eq_true, reduceIte, catS_n, catS_i, catS_r, catS_l, catS_d, Nat.zero_add, Nat.add_zero, decide_true, decide_false, Nat.reduceLeDiff, cat_r, cat_i, cat_l, nle_T, nle_F, nlt_T, nlt_F, neq_T, neq_F, n_sub, Nat.add_sub_cancel, k0, a7, a10, a11, b7, b10, b11, hp, f1, f4, f5, c172 hM hn hv hl, lN_mul, hdiv, hl0, hc]
  done
theorem h205 {d : Nat} {P : MP} {I : MI} {L : ML} {C : MC} {Q : QT} {top p t e j s sM k fd mn : Nat} {x' xs ys its : Int32} {g : GS} (hM : MB P) (hn : NR I g) (hv : TV g) (hl : LV g) (hp : I 150 18 = nI (p + 1)) (hF : FrS I L p t e x' sM s k xs ys its fd mn) (hd : 5 ≤ d) (hp8 : p < 8) (ht : t < 3) (hj : j < g (3 + t)) (hs : s ≤ 1000000000) (h0 : 0 < sM) (hsM : sM ≤ 612000) (hz : s * pw g t j / sM ≠ 0) : ∃ u10 u11, CT d 205 [.ref 150, .int (nI top), .int (nI j)] P I L C Q = X (d - 1) 205 (if g (cl t j 0) < 16 then 96 else 173) [.ref 150, .int (nI top), .int (nI j), .int (nI p), .int (nI t), .long (lN (s * pw g t j / sM)), UN, .int (xsW g xs t j), .int (ysW g ys t j), .int (nI (g (cl t j 0))), u10, u11] [] P I L C Q := by
  have hM' := hM
  obtain ⟨⟨k0, _⟩, ⟨a7, a8, a9, a10, a11, a12, a13, a14, a15, a16, a17⟩, ⟨b7, b8, b9, b10, b11, b12, b13, b14, b15, b16, b17⟩, _⟩ := hM'
  obtain ⟨f1, f2, f3, f4, f5, f6, f7, f8, f9, f10, f11⟩ := hF
  have hcc := hv.2.1 t ht
  obtain ⟨E0, E1, E2, E3, E4, E5, E6, E7⟩ := hv.2.2 t j ht hj
  have hpw := pw_b hv hl ht hj
  have hmul : s * pw g t j ≤ 1000000000 * 102000 := Nat.mul_le_mul hs hpw.2
  have hdle : s * pw g t j / sM ≤ s * pw g t j := Nat.div_le_self _ _
  have hdiv : lN (s * pw g t j) / lN sM = lN (s * pw g t j / sM) := pk_lDiv (by omega) h0 (by omega)
  have hl0 : (lN sM = 0) = False := eq_false fun q => by have := (lN_eq (b := 0) (by omega) (by omega)).mp q; omega
  have hc : (lg_cmp (lN (s * pw g t j / sM)) (lN 0) = 0) = False := eq_false fun q => hz ((pk_lEQ (b := 0) (by omega) (by omega)).mp ((lg_cmp_eq _ _).mp q))
  refine ⟨UN, UN, ?_⟩
  unfold xsW ysW
  rw [CT_e (mj := 205) (e := [.ref 150, .int (nI top), .int (nI j), UN, UN, UN, UN, UN, UN, UN, UN, UN]) (by omega) rfl (Nat.le_of_ble_eq_true rfl)]
  by_cases w : g (cl t j 0) < 16
  · rw [if_pos w]
    simp (disch := first | assumption | omega) only [Nat.reduceAdd, X_go, go2_some, stp, ldI, ldA, ldL, stI, stA, stL, o1I, o2I, o2L, brI, brII, gl, s1, s2, k1, sl, go_sN, go_sR, go_CT, go_sT, go_no, go_if, pops, bk_v, bk_0, d205_0, d205_1, d205_4, d205_5, d205_6, d205_7, d205_8, d205_11, d205_12, d205_13, d205_15, d205_16, d205_19, d205_20, d205_21, d205_22, d205_24, d205_25, d205_28, d205_29, d205_30, d205_31, d205_34, d205_35, d205_36, d205_37, d205_38, d205_40, d205_42, d205_43, d205_44, d205_47, d205_48, d205_49, d205_50, d205_53, d205_54, d205_55, d205_57, d205_58, d205_61, d205_63, d205_64, d205_65, d205_68, d205_69, d205_70, d205_72, d205_73, d205_76, d205_78, d205_79, d205_81, d205_82, d205_83, d205_86, d205_88, d205_90, d205_93, d205_97, d205_99, d205_100, d205_101, d205_104, d205_106, d205_108, d205_109, d205_112, d205_113, d205_114, d205_117, d205_119, d205_122, d205_123, d205_126, d205_127, d205_128, d205_130, d205_131, d205_132, d205_134, d205_135, d205_138, d205_139, d205_140, d205_141, d205_142, d205_144, d205_146, d205_147, d205_150, d205_151, d205_152, d205_153, d205_155, d205_156, d205_157, d205_159, d205_160, d205_163, d205_164, d205_165, d205_166, d205_167, d205_170, d205_174, d205_177, d205_178, d205_181, d205_183, d205_184, d205_185, d205_188, d205_189, d205_192, d205_194, d205_195, d205_196, d205_199, d205_200, d205_203, d205_204, d205_207, d205_208, d205_209, d205_210, d205_211, d205_214, d205_215, d205_218, d205_219, d205_222, d205_223, d205_224, d205_225, d205_226, d205_229, d205_230, d205_233, d205_234, d205_237, d205_238, d205_239, d205_240, d205_241, d205_243, d205_245, d205_246, d205_247, d205_250, d205_251, d205_252, d205_254, d205_255, d205_258, d205_259, d205_260, d205_263, n_lt, n_le, n_eq, n_lt0, n_ge0, n_gt0, n_le0, n_eq0, m_lt, m_le, m_gt, m_ge, m_eq, m_eq', m_lt0, m_ge0, m_gt0, m_le0, m_ltm, m_lem, n_in, m_in, n_cl, n_ti, n_div, n_rem', n_dec, n_l, nI_add, pk_mul, an0, an1, decide_eq_true_eq, if_true, if_false, ite_true, ite_false, and_true, true_and, and_false, false_and, not_true, not_false_iff, or_false, false_or, or_true, true_or, eq_self, va_some, Bool.false_eq_true, reduceIte, catS_n, catS_i, catS_r, catS_l, catS_d, Nat.zero_add, Nat.add_zero, decide_true, decide_false, Nat.reduceLeDiff, cat_r, cat_i, cat_l, nle_T, nle_F, nlt_T, nlt_F, neq_T, neq_F, n_sub, Nat.add_sub_cancel, k0, a7, a10, a11, a13, a14, b7, b10, b11, b13, b14, hp, f1, f4, f5, f7, f8, c172 hM hn hv hl, lN_mul, hdiv, hl0, hc, c206 hM hn, c194 hM hn, c167 hM hn, c160, w]
    done
  · rw [if_neg w]
    simp (disch := first | assumption | omega) only [Nat.reduceAdd, X_go, go2_some, stp, ldI, ldA, ldL, stI, stA, stL, o1I, o2I, o2L, brI, brII, gl, s1, s2, k1, sl, go_sN, go_sR, go_CT, go_sT, go_no, go_if, pops, bk_v, bk_0, d205_0, d205_1, d205_4, d205_5, d205_6, d205_7, d205_8, d205_11, d205_12, d205_13, d205_15, d205_16, d205_19, d205_20, d205_21, d205_22, d205_24, d205_25, d205_28, d205_29, d205_30, d205_31, d205_34, d205_35, d205_36, d205_37, d205_38, d205_40, d205_42, d205_43, d205_44, d205_47, d205_48, d205_49, d205_50, d205_53, d205_54, d205_55, d205_57, d205_58, d205_61, d205_63, d205_64, d205_65, d205_68, d205_69, d205_70, d205_72, d205_73, d205_76, d205_78, d205_79, d205_81, d205_82, d205_83, d205_86, d205_88, d205_90, d205_93, d205_97, d205_99, d205_100, d205_101, d205_104, d205_106, d205_108, d205_109, d205_112, d205_113, d205_114, d205_117, d205_119, d205_122, d205_123, d205_126, d205_127, d205_128, d205_130, d205_131, d205_132, d205_134, d205_135, d205_138, d205_139, d205_140, d205_141, d205_142, d205_144, d205_146, d205_147, d205_150, d205_151, d205_152, d205_153, d205_155, d205_156, d205_157, d205_159, d205_160, d205_163, d205_164, d205_165, d205_166, d205_167, d205_170, d205_174, d205_177, d205_178, d205_181, d205_183, d205_184, d205_185, d205_188, d205_189, d205_192, d205_194, d205_195, d205_196, d205_199, d205_200, d205_203, d205_204, d205_207, d205_208, d205_209, d205_210, d205_211, d205_214, d205_215, d205_218, d205_219, d205_222, d205_223, d205_224, d205_225, d205_226, d205_229, d205_230, d205_233, d205_234, d205_237, d205_238, d205_239, d205_240, d205_241, d205_243, d205_245, d205_246, d205_247, d205_250, d205_251, d205_252, d205_254, d205_255, d205_258, d205_259, d205_260, d205_263, n_lt, n_le, n_eq, n_lt0, n_ge0, n_gt0, n_le0, n_eq0, m_lt, m_le, m_gt, m_ge, m_eq, m_eq', m_lt0, m_ge0, m_gt0, m_le0, m_ltm, m_lem, n_in, m_in, n_cl, n_ti, n_div, n_rem', n_dec, n_l, nI_add, pk_mul, an0, an1, decide_eq_true_eq, if_true, if_false, ite_true, ite_false, and_true, true_and, and_false, false_and, not_true, not_false_iff, or_false, false_or, or_true, true_or, eq_self, va_some, Bool.false_eq_true, reduceIte, catS_n, catS_i, catS_r, catS_l, catS_d, Nat.zero_add, Nat.add_zero, decide_true, decide_false, Nat.reduceLeDiff, cat_r, cat_i, cat_l, nle_T, nle_F, nlt_T, nlt_F, neq_T, neq_F, n_sub, Nat.add_sub_cancel, k0, a7, a10, a11, a13, a14, b7, b10, b11, b13, b14, hp, f1, f4, f5, f7, f8, c172 hM hn hv hl, lN_mul, hdiv, hl0, hc, c206 hM hn, c194 hM hn, c167 hM hn, c160, w]
    done
theorem c205i {d : Nat} {P : MP} {I : MI} {L : ML} {C : MC} {Q : QT} {top p t e j s sM k fd mn : Nat} {x' xs ys its : Int32} {g : GS} {I2 : MI} {L2 : ML} (hM : MB P) (hn : NR I g) (hv : TV g) (hl : LV g) (hp : I 150 18 = nI (p + 1)) (hF : FrS I L p t e x' sM s k xs ys its fd mn) (hd : 5 ≤ d) (hp8 : p < 8) (ht : t < 3) (hj : j < g (3 + t)) (hs : s ≤ 1000000000) (h0 : 0 < sM) (hsM : sM ≤ 612000) (hz : s * pw g t j / sM ≠ 0) (hw : g (cl t j 0) < 16) (hf : fd ≤ 4) (hkk : k ≤ 2) (hmm : mn ≤ 2) (h : ∀ Q, CT (d - 1) 202 [.ref 150, .int (nI top), .long (lN (s * pw g t j / sM)), .int (nI (k + 1)), .int (xsW g xs t j), .int (ysW g ys t j), .int (its ||| (nI 1 <<< (nI (g (cl t j 0)) &&& 31))), .int (fI (max fd (g (cl t j 2) + 1))), .int (nI (mn + 1))] P I L C Q = Q (.inl none) P I2 L2 C) : CT d 205 [.ref 150, .int (nI top), .int (nI j)] P I L C Q = Q (.inl none) P I2 L2 C := by
  obtain ⟨u10, u11, e1⟩ := h205 (d := d) (C := C) (Q := Q) (top := top) hM hn hv hl hp hF hd hp8 ht hj hs h0 hsM hz
  have hM' := hM
  obtain ⟨⟨k0, _⟩, ⟨a7, a8, a9, a10, a11, a12, a13, a14, a15, a16, a17⟩, ⟨b7, b8, b9, b10, b11, b12, b13, b14, b15, b16, b17⟩, _⟩ := hM'
  obtain ⟨f1, f2, f3, f4, f5, f6, f7, f8, f9, f10, f11⟩ := hF
  have hcc := hv.2.1 t ht
  obtain ⟨E0, E1, E2, E3, E4, E5, E6, E7⟩ := hv.2.2 t j ht hj
  have hr3 := E1 hw
  have hle : (nI (g (cl t j 2)) ≤ fI fd) = (g (cl t j 2) < fd) := fI_le (by omega) (by omega)
  rw [e1, if_pos hw, X_go, d205_96]
  by_cases hm : g (cl t j 2) < fd
  · have hmx : max fd (g (cl t j 2) + 1) = fd := Nat.max_eq_left (by omega)
    rw [hmx] at h
    simp (disch := first | assumption | omega) only [Nat.reduceAdd, X_go, go2_some, stp, ldI, ldA, ldL, stI, stA, stL, o1I, o2I, o2L, brI, brII, gl, s1, s2, k1, sl, go_sN, go_sR, go_CT, go_sT, go_no, go_if, pops, bk_v, bk_0, d205_0, d205_1, d205_4, d205_5, d205_6, d205_7, d205_8, d205_11, d205_12, d205_13, d205_15, d205_16, d205_19, d205_20, d205_21, d205_22, d205_24, d205_25, d205_28, d205_29, d205_30, d205_31, d205_34, d205_35, d205_36, d205_37, d205_38, d205_40, d205_42, d205_43, d205_44, d205_47, d205_48, d205_49, d205_50, d205_53, d205_54, d205_55, d205_57, d205_58, d205_61, d205_63, d205_64, d205_65, d205_68, d205_69, d205_70, d205_72, d205_73, d205_76, d205_78, d205_79, d205_81, d205_82, d205_83, d205_86, d205_88, d205_90, d205_93, d205_97, d205_99, d205_100, d205_101, d205_104, d205_106, d205_108, d205_109, d205_112, d205_113, d205_114, d205_117, d205_119, d205_122, d205_123, d205_126, d205_127, d205_128, d205_130, d205_131, d205_132, d205_134, d205_135, d205_138, d205_139, d205_140, d205_141, d205_142, d205_144, d205_146, d205_147, d205_150, d205_151, d205_152, d205_153, d205_155, d205_156, d205_157, d205_159, d205_160, d205_163, d205_164, d205_165, d205_166, d205_167, d205_170, d205_174, d205_177, d205_178, d205_181, d205_183, d205_184, d205_185, d205_188, d205_189, d205_192, d205_194, d205_195, d205_196, d205_199, d205_200, d205_203, d205_204, d205_207, d205_208, d205_209, d205_210, d205_211, d205_214, d205_215, d205_218, d205_219, d205_222, d205_223, d205_224, d205_225, d205_226, d205_229, d205_230, d205_233, d205_234, d205_237, d205_238, d205_239, d205_240, d205_241, d205_243, d205_245, d205_246, d205_247, d205_250, d205_251, d205_252, d205_254, d205_255, d205_258, d205_259, d205_260, d205_263, n_lt, n_le, n_eq, n_lt0, n_ge0, n_gt0, n_le0, n_eq0, m_lt, m_le, m_gt, m_ge, m_eq, m_eq', m_lt0, m_ge0, m_gt0, m_le0, m_ltm, m_lem, n_in, m_in, n_cl, n_ti, n_div, n_rem', n_dec, n_l, nI_add, pk_mul, an0, an1, decide_eq_true_eq, if_true, if_false, ite_true, ite_false, and_true, true_and, and_false, false_and, not_true, not_false_iff, or_false, false_or, or_true, true_or, eq_self, va_some, Bool.false_eq_true, reduceIte, catS_n, catS_i, catS_r, catS_l, catS_d, Nat.zero_add, Nat.add_zero, decide_true, decide_false, Nat.reduceLeDiff, cat_r, cat_i, cat_l, nle_T, nle_F, nlt_T, nlt_F, neq_T, neq_F, k0, a12, a15, a16, a17, b12, b15, b16, b17, f6, f9, f10, f11, c167 hM hn, hle, hm, h]
    done
  · have hmx : max fd (g (cl t j 2) + 1) = g (cl t j 2) + 1 := Nat.max_eq_right (by omega)
    rw [hmx, fI_s] at h
    simp (disch := first | assumption | omega) only [Nat.reduceAdd, X_go, go2_some, stp, ldI, ldA, ldL, stI, stA, stL, o1I, o2I, o2L, brI, brII, gl, s1, s2, k1, sl, go_sN, go_sR, go_CT, go_sT, go_no, go_if, pops, bk_v, bk_0, d205_0, d205_1, d205_4, d205_5, d205_6, d205_7, d205_8, d205_11, d205_12, d205_13, d205_15, d205_16, d205_19, d205_20, d205_21, d205_22, d205_24, d205_25, d205_28, d205_29, d205_30, d205_31, d205_34, d205_35, d205_36, d205_37, d205_38, d205_40, d205_42, d205_43, d205_44, d205_47, d205_48, d205_49, d205_50, d205_53, d205_54, d205_55, d205_57, d205_58, d205_61, d205_63, d205_64, d205_65, d205_68, d205_69, d205_70, d205_72, d205_73, d205_76, d205_78, d205_79, d205_81, d205_82, d205_83, d205_86, d205_88, d205_90, d205_93, d205_97, d205_99, d205_100, d205_101, d205_104, d205_106, d205_108, d205_109, d205_112, d205_113, d205_114, d205_117, d205_119, d205_122, d205_123, d205_126, d205_127, d205_128, d205_130, d205_131, d205_132, d205_134, d205_135, d205_138, d205_139, d205_140, d205_141, d205_142, d205_144, d205_146, d205_147, d205_150, d205_151, d205_152, d205_153, d205_155, d205_156, d205_157, d205_159, d205_160, d205_163, d205_164, d205_165, d205_166, d205_167, d205_170, d205_174, d205_177, d205_178, d205_181, d205_183, d205_184, d205_185, d205_188, d205_189, d205_192, d205_194, d205_195, d205_196, d205_199, d205_200, d205_203, d205_204, d205_207, d205_208, d205_209, d205_210, d205_211, d205_214, d205_215, d205_218, d205_219, d205_222, d205_223, d205_224, d205_225, d205_226, d205_229, d205_230, d205_233, d205_234, d205_237, d205_238, d205_239, d205_240, d205_241, d205_243, d205_245, d205_246, d205_247, d205_250, d205_251, d205_252, d205_254, d205_255, d205_258, d205_259, d205_260, d205_263, n_lt, n_le, n_eq, n_lt0, n_ge0, n_gt0, n_le0, n_eq0, m_lt, m_le, m_gt, m_ge, m_eq, m_eq', m_lt0, m_ge0, m_gt0, m_le0, m_ltm, m_lem, n_in, m_in, n_cl, n_ti, n_div, n_rem', n_dec, n_l, nI_add, pk_mul, an0, an1, decide_eq_true_eq, if_true, if_false, ite_true, ite_false, and_true, true_and, and_false, false_and, not_true, not_false_iff, or_false, false_or, or_true, true_or, eq_self, va_some, Bool.false_eq_true, reduceIte, catS_n, catS_i, catS_r, catS_l, catS_d, Nat.zero_add, Nat.add_zero, decide_true, decide_false, Nat.reduceLeDiff, cat_r, cat_i, cat_l, nle_T, nle_F, nlt_T, nlt_F, neq_T, neq_F, k0, a12, a15, a16, a17, b12, b15, b16, b17, f6, f9, f10, f11, c167 hM hn, hle, hm, h]
    done
theorem c205l {d : Nat} {P : MP} {I : MI} {L : ML} {C : MC} {Q : QT} {top p t e j s sM k fd mn : Nat} {c : Nat → Nat → Bool} {xs ys its : Int32} {g : GS} (hM : MB P) (hn : NR I g) (hv : TV g) (hl : LV g) (hp : I 150 18 = nI (p + 1)) (hF : FrS I L p t e (aset g c) sM s k xs ys its fd mn) (hd : 8 ≤ d) (hp8 : p + 1 < 8) (ht : t < 3) (hj : j < g (3 + t)) (hs : s ≤ 1000000000) (h0 : 0 < sM) (hsM : sM ≤ 612000) (hz : s * pw g t j / sM ≠ 0) (hw : 16 ≤ g (cl t j 0)) (hkk : k ≤ 2) (hmm : mn ≤ 2) : CT d 205 [.ref 150, .int (nI top), .int (nI j)] P I L C Q = Q (.inl none) P (pu6 (pu5 I (p + 1) (xsW g xs t j) (ysW g ys t j) its fd mn) (p + 1) (g (cl t j 0) - 16) (sm (g (3 + (g (cl t j 0) - 16))) (wS g c (g (cl t j 0) - 16))) k (aset g c)) (xu L 159 (p + 1) (lN (s * pw g t j / sM))) C := by
  obtain ⟨u10, u11, e1⟩ := h205 (d := d) (C := C) (Q := Q) (top := top) hM hn hv hl hp hF (by omega) (by omega) ht hj hs h0 hsM hz
  have hM' := hM
  obtain ⟨⟨k0, _⟩, ⟨a7, a8, a9, a10, a11, a12, a13, a14, a15, a16, a17⟩, ⟨b7, b8, b9, b10, b11, b12, b13, b14, b15, b16, b17⟩, _⟩ := hM'
  obtain ⟨f1, f2, f3, f4, f5, f6, f7, f8, f9, f10, f11⟩ := hF
  have hcc := hv.2.1 t ht
  obtain ⟨E0, E1, E2, E3, E4, E5, E6, E7⟩ := hv.2.2 t j ht hj
  have h5n : ∀ kk j', (kk < 161 ∨ 165 < kk) ∨ j' ≠ p + 1 → pu5 I (p + 1) (xsW g xs t j) (ysW g ys t j) its fd mn kk j' = I kk j' := fun kk j' h => by unfold pu5; simp (disch := omega) only [xu_n]
  have h203 := fun Q => c203 (d := d - 1) (P := P) (I := pu5 I (p + 1) (xsW g xs t j) (ysW g ys t j) its fd mn) (L := L) (C := C) (Q := Q) (s := s * pw g t j / sM) (k := k) (t := g (cl t j 0) - 16) (x := aset g c) hM (NR_fr hn fun j' => h5n _ _ (by omega)) hv hl (by rw [h5n _ _ (by omega)]; exact hp) rfl (by omega) (by have := (E2 hw).1; omega) hp8
  have q1 : X (d - 1) 205 173 [.ref 150, .int (nI top), .int (nI j), .int (nI p), .int (nI t), .long (lN (s * pw g t j / sM)), UN, .int (xsW g xs t j), .int (ysW g ys t j), .int (nI (g (cl t j 0))), u10, u11] [] P I L C Q = CT (d - 1) 203 [.ref 150, .int (nI (g (cl t j 0) - 16)), .int (aset g c), .long (lN (s * pw g t j / sM)), .int (nI k)] P (pu5 I (p + 1) (xsW g xs t j) (ysW g ys t j) its fd mn) L C (bk (d - 1) 205 260 [.ref 150, .int (nI top), .int (nI j), .int (nI p), .int (nI t), .long (lN (s * pw g t j / sM)), UN, .int (xsW g xs t j), .int (ysW g ys t j), .int (nI (g (cl t j 0))), u10, u11] [] Q) := by
    rw [X_go, d205_173]
    unfold pu5
    simp (disch := first | assumption | omega) only [Nat.reduceAdd, X_go, go2_some, stp, ldI, ldA, ldL, stI, stA, stL, o1I, o2I, o2L, brI, brII, gl, s1, s2, k1, sl, go_sN, go_sR, go_CT, go_sT, go_no, go_if, pops, bk_v, bk_0, d205_0, d205_1, d205_4, d205_5, d205_6, d205_7, d205_8, d205_11, d205_12, d205_13, d205_15, d205_16, d205_19, d205_20, d205_21, d205_22, d205_24, d205_25, d205_28, d205_29, d205_30, d205_31, d205_34, d205_35, d205_36, d205_37, d205_38, d205_40, d205_42, d205_43, d205_44, d205_47, d205_48, d205_49, d205_50, d205_53, d205_54, d205_55, d205_57, d205_58, d205_61, d205_63, d205_64, d205_65, d205_68, d205_69, d205_70, d205_72, d205_73, d205_76, d205_78, d205_79, d205_81, d205_82, d205_83, d205_86, d205_88, d205_90, d205_93, d205_97, d205_99, d205_100, d205_101, d205_104, d205_106, d205_108, d205_109, d205_112, d205_113, d205_114, d205_117, d205_119, d205_122, d205_123, d205_126, d205_127, d205_128, d205_130, d205_131, d205_132, d205_134, d205_135, d205_138, d205_139, d205_140, d205_141, d205_142, d205_144, d205_146, d205_147, d205_150, d205_151, d205_152, d205_153, d205_155, d205_156, d205_157, d205_159, d205_160, d205_163, d205_164, d205_165, d205_166, d205_167, d205_170, d205_174, d205_177, d205_178, d205_181, d205_183, d205_184, d205_185, d205_188, d205_189, d205_192, d205_194, d205_195, d205_196, d205_199, d205_200, d205_203, d205_204, d205_207, d205_208, d205_209, d205_210, d205_211, d205_214, d205_215, d205_218, d205_219, d205_222, d205_223, d205_224, d205_225, d205_226, d205_229, d205_230, d205_233, d205_234, d205_237, d205_238, d205_239, d205_240, d205_241, d205_243, d205_245, d205_246, d205_247, d205_250, d205_251, d205_252, d205_254, d205_255, d205_258, d205_259, d205_260, d205_263, n_lt, n_le, n_eq, n_lt0, n_ge0, n_gt0, n_le0, n_eq0, m_lt, m_le, m_gt, m_ge, m_eq, m_eq', m_lt0, m_ge0, m_gt0, m_le0, m_ltm, m_lem, n_in, m_in, n_cl, n_ti, n_div, n_rem', n_dec, n_l, nI_add, pk_mul, an0, an1, decide_eq_true_eq, if_true, if_false, ite_true, ite_false, and_true, true_and, and_false, false_and, not_true, not_false_iff, or_false, false_or, or_true, true_or, eq_self, va_some, Bool.false_eq_true, reduceIte, catS_n, catS_i, catS_r, catS_l, catS_d, Nat.zero_add, Nat.add_zero, decide_true, decide_false, Nat.reduceLeDiff, cat_r, cat_i, cat_l, nle_T, nle_F, nlt_T, nlt_F, neq_T, neq_F, k0, n_sub, a9, a12, a13, a14, a15, a16, a17, b9, b12, b13, b14, b15, b16, b17, hp, f3, f6, f9, f10, f11, xu_n]
    done
  rw [e1, if_neg (by omega), q1, h203]
  unfold pu6
  simp (disch := first | assumption | omega) only [Nat.reduceAdd, X_go, go2_some, stp, ldI, ldA, ldL, stI, stA, stL, o1I, o2I, o2L, brI, brII, gl, s1, s2, k1, sl, go_sN, go_sR, go_CT, go_sT, go_no, go_if, pops, bk_v, bk_0, d205_0, d205_1, d205_4, d205_5, d205_6, d205_7, d205_8, d205_11, d205_12, d205_13, d205_15, d205_16, d205_19, d205_20, d205_21, d205_22, d205_24, d205_25, d205_28, d205_29, d205_30, d205_31, d205_34, d205_35, d205_36, d205_37, d205_38, d205_40, d205_42, d205_43, d205_44, d205_47, d205_48, d205_49, d205_50, d205_53, d205_54, d205_55, d205_57, d205_58, d205_61, d205_63, d205_64, d205_65, d205_68, d205_69, d205_70, d205_72, d205_73, d205_76, d205_78, d205_79, d205_81, d205_82, d205_83, d205_86, d205_88, d205_90, d205_93, d205_97, d205_99, d205_100, d205_101, d205_104, d205_106, d205_108, d205_109, d205_112, d205_113, d205_114, d205_117, d205_119, d205_122, d205_123, d205_126, d205_127, d205_128, d205_130, d205_131, d205_132, d205_134, d205_135, d205_138, d205_139, d205_140, d205_141, d205_142, d205_144, d205_146, d205_147, d205_150, d205_151, d205_152, d205_153, d205_155, d205_156, d205_157, d205_159, d205_160, d205_163, d205_164, d205_165, d205_166, d205_167, d205_170, d205_174, d205_177, d205_178, d205_181, d205_183, d205_184, d205_185, d205_188, d205_189, d205_192, d205_194, d205_195, d205_196, d205_199, d205_200, d205_203, d205_204, d205_207, d205_208, d205_209, d205_210, d205_211, d205_214, d205_215, d205_218, d205_219, d205_222, d205_223, d205_224, d205_225, d205_226, d205_229, d205_230, d205_233, d205_234, d205_237, d205_238, d205_239, d205_240, d205_241, d205_243, d205_245, d205_246, d205_247, d205_250, d205_251, d205_252, d205_254, d205_255, d205_258, d205_259, d205_260, d205_263, n_lt, n_le, n_eq, n_lt0, n_ge0, n_gt0, n_le0, n_eq0, m_lt, m_le, m_gt, m_ge, m_eq, m_eq', m_lt0, m_ge0, m_gt0, m_le0, m_ltm, m_lem, n_in, m_in, n_cl, n_ti, n_div, n_rem', n_dec, n_l, nI_add, pk_mul, an0, an1, decide_eq_true_eq, if_true, if_false, ite_true, ite_false, and_true, true_and, and_false, false_and, not_true, not_false_iff, or_false, false_or, or_true, true_or, eq_self, va_some, Bool.false_eq_true, reduceIte, catS_n, catS_i, catS_r, catS_l, catS_d, Nat.zero_add, Nat.add_zero, decide_true, decide_false, Nat.reduceLeDiff, cat_r, cat_i, cat_l, nle_T, nle_F, nlt_T, nlt_F, neq_T, neq_F]
  done
