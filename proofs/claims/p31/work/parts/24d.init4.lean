/-! THE START: the law up to the new object, and from there -/
theorem GV_0 : GV 0 g0 := by
  refine ⟨⟨fun t ht => ?_, fun t ht => ?_, fun t e ht he => ?_⟩, ⟨fun r h1 h3 => ⟨?_, ?_⟩, ?_, ?_⟩, ?_, ?_, ?_, fun i hi => ?_, fun i hi => ?_⟩
  · rw [g0_1 (by omega)]; omega
  · rw [g0_0 (by omega)]; omega
  · rw [g0_0 (by omega)] at he; omega
  · rw [g0_0 (by omega)]; omega
  · rw [g0_0 (by omega)]; omega
  · rw [g0_0 (by omega)]; omega
  · rw [g0_1 (by omega)]; omega
  · rw [g0_0 (by omega)]; omega
  · rw [g0_0 (by omega)]; omega
  · rw [g0_0 (by omega), g0_0 (by omega)]; rfl
  · rw [g0_0 (by omega)]; omega
  · rw [g0_0 (by omega)] at hi; omega
theorem d226_0 : dec 226 0 = some (.new 10, 3, [5, 9, 21, 22, 1]) := rfl
theorem d226_3 : dec 226 3 = some (.dup, 1, []) := rfl
theorem d226_4 : dec 226 4 = some (.invokespecial 177, 3, [2, 0, 1, 9, 0, 23]) := rfl
theorem d226_7 : dec 226 7 = some (.astore_n 1, 1, []) := rfl
theorem d226_8 : dec 226 8 = some (.aload_n 1, 1, []) := rfl
theorem d226_9 : dec 226 9 = some (.invokestatic 168, 3, [2, 147, 0, 14, 0, 303, 2]) := rfl
theorem d226_12 : dec 226 12 = some (.ldc 27, 2, [8, 4289967294, 420]) := rfl
theorem d226_14 : dec 226 14 = some (.if_icmp .ne 28, 3, [42]) := rfl
theorem d226_17 : dec 226 17 = some (.aload_n 1, 1, []) := rfl
theorem d226_18 : dec 226 18 = some (.invokestatic 178, 3, [2, 153, 0, 14, 0, 631, 2]) := rfl
theorem d226_21 : dec 226 21 = some (.ifCond .eq 21, 3, [42]) := rfl
theorem d226_24 : dec 226 24 = some (.aload_n 1, 1, []) := rfl
theorem d226_25 : dec 226 25 = some (.invokestatic 182, 3, [2, 154, 0, 14, 0, 905, 2]) := rfl
theorem d226_28 : dec 226 28 = some (.ifCond .eq 14, 3, [42]) := rfl
theorem d226_31 : dec 226 31 = some (.aload_n 1, 1, []) := rfl
theorem d226_32 : dec 226 32 = some (.invokestatic 185, 3, [2, 155, 0, 14, 0, 908, 2]) := rfl
theorem d226_35 : dec 226 35 = some (.ifCond .eq 7, 3, [42]) := rfl
theorem d226_38 : dec 226 38 = some (.iconst 1, 1, [1]) := rfl
theorem d226_39 : dec 226 39 = some (.goto 4, 3, [43]) := rfl
theorem d226_42 : dec 226 42 = some (.iconst 0, 1, [0]) := rfl
theorem d226_43 : dec 226 43 = some (.istore_n 2, 1, []) := rfl
theorem d226_44 : dec 226 44 = some (.iconst 0, 1, [0]) := rfl
theorem d226_45 : dec 226 45 = some (.istore_n 3, 1, []) := rfl
theorem d226_46 : dec 226 46 = some (.iload_n 3, 1, []) := rfl
theorem d226_47 : dec 226 47 = some (.bipush 46, 2, [46]) := rfl
theorem d226_49 : dec 226 49 = some (.if_icmp .ge 278, 3, [327]) := rfl
theorem d226_52 : dec 226 52 = some (.iload_n 2, 1, []) := rfl
theorem d226_53 : dec 226 53 = some (.ifCond .eq 274, 3, [327]) := rfl
theorem d226_56 : dec 226 56 = some (.aload_n 0, 1, []) := rfl
theorem d226_57 : dec 226 57 = some (.iconst 2, 1, [2]) := rfl
theorem d226_58 : dec 226 58 = some (.iload_n 3, 1, []) := rfl
theorem d226_59 : dec 226 59 = some (.imul, 1, []) := rfl
theorem d226_60 : dec 226 60 = some (.invokestatic 188, 3, [2, 150, 0, 14, 0, 295, 0, 2]) := rfl
theorem d226_63 : dec 226 63 = some (.istore 4, 2, []) := rfl
theorem d226_65 : dec 226 65 = some (.aload_n 0, 1, []) := rfl
theorem d226_66 : dec 226 66 = some (.iconst 2, 1, [2]) := rfl
theorem d226_67 : dec 226 67 = some (.iload_n 3, 1, []) := rfl
theorem d226_68 : dec 226 68 = some (.imul, 1, []) := rfl
theorem d226_69 : dec 226 69 = some (.iconst 1, 1, [1]) := rfl
theorem d226_70 : dec 226 70 = some (.iadd, 1, []) := rfl
theorem d226_71 : dec 226 71 = some (.invokestatic 188, 3, [2, 150, 0, 14, 0, 295, 0, 2]) := rfl
theorem d226_74 : dec 226 74 = some (.ldc 192, 2, [8, 1000000, 947]) := rfl
theorem d226_76 : dec 226 76 = some (.invokestatic 171, 3, [2, 151, 0, 14, 0, 299, 0, 0]) := rfl
theorem d226_79 : dec 226 79 = some (.istore 5, 2, []) := rfl
theorem d226_81 : dec 226 81 = some (.aload_n 1, 1, []) := rfl
theorem d226_82 : dec 226 82 = some (.invokestatic 119, 3, [2, 152, 0, 14, 0, 421, 2]) := rfl
theorem d226_85 : dec 226 85 = some (.lstore 6, 2, []) := rfl
theorem d226_87 : dec 226 87 = some (.iload_n 3, 1, []) := rfl
theorem d226_88 : dec 226 88 = some (.bipush 12, 2, [12]) := rfl
theorem d226_90 : dec 226 90 = some (.if_icmp .ge 7, 3, [97]) := rfl
theorem d226_93 : dec 226 93 = some (.iconst 0, 1, [0]) := rfl
theorem d226_94 : dec 226 94 = some (.goto 10, 3, [104]) := rfl
theorem d226_97 : dec 226 97 = some (.iload 4, 2, []) := rfl
theorem d226_99 : dec 226 99 = some (.bipush 18, 2, [18]) := rfl
theorem d226_101 : dec 226 101 = some (.invokestatic 171, 3, [2, 151, 0, 14, 0, 299, 0, 0]) := rfl
theorem d226_104 : dec 226 104 = some (.istore 8, 2, []) := rfl
theorem d226_106 : dec 226 106 = some (.aload_n 1, 1, []) := rfl
theorem d226_107 : dec 226 107 = some (.bipush 18, 2, [18]) := rfl
theorem d226_109 : dec 226 109 = some (.iload 4, 2, []) := rfl
theorem d226_111 : dec 226 111 = some (.iconst 4, 1, [4]) := rfl
theorem d226_112 : dec 226 112 = some (.ishr, 1, []) := rfl
theorem d226_113 : dec 226 113 = some (.ldc 193, 2, [8, 99999, 948]) := rfl
theorem d226_115 : dec 226 115 = some (.invokestatic 171, 3, [2, 151, 0, 14, 0, 299, 0, 0]) := rfl
theorem d226_118 : dec 226 118 = some (.imul, 1, []) := rfl
theorem d226_119 : dec 226 119 = some (.iload 8, 2, []) := rfl
theorem d226_121 : dec 226 121 = some (.iadd, 1, []) := rfl
theorem d226_122 : dec 226 122 = some (.iload 5, 2, []) := rfl
theorem d226_124 : dec 226 124 = some (.invokestatic 194, 3, [2, 159, 0, 14, 0, 932, 0, 0, 2]) := rfl
theorem d226_127 : dec 226 127 = some (.istore 9, 2, []) := rfl
theorem d226_129 : dec 226 129 = some (.iload 9, 2, []) := rfl
theorem d226_131 : dec 226 131 = some (.ifCond .ge 24, 3, [155]) := rfl
theorem d226_134 : dec 226 134 = some (.iload 9, 2, []) := rfl
theorem d226_136 : dec 226 136 = some (.ldc 27, 2, [8, 4289967294, 420]) := rfl
theorem d226_138 : dec 226 138 = some (.if_icmp .eq 17, 3, [155]) := rfl
theorem d226_141 : dec 226 141 = some (.iload 9, 2, []) := rfl
theorem d226_143 : dec 226 143 = some (.ldc 20, 2, [8, 4289967295, 498]) := rfl
theorem d226_145 : dec 226 145 = some (.if_icmp .eq 10, 3, [155]) := rfl
theorem d226_148 : dec 226 148 = some (.iload 9, 2, []) := rfl
theorem d226_150 : dec 226 150 = some (.ldc 17, 2, [8, 4289967293, 582]) := rfl
theorem d226_152 : dec 226 152 = some (.if_icmp .ne 7, 3, [159]) := rfl
theorem d226_155 : dec 226 155 = some (.iconst 1, 1, [1]) := rfl
theorem d226_156 : dec 226 156 = some (.goto 4, 3, [160]) := rfl
theorem d226_159 : dec 226 159 = some (.iconst 0, 1, [0]) := rfl
theorem d226_160 : dec 226 160 = some (.istore_n 2, 1, []) := rfl
theorem d226_161 : dec 226 161 = some (.iload_n 2, 1, []) := rfl
theorem d226_162 : dec 226 162 = some (.ifCond .eq 41, 3, [203]) := rfl
theorem d226_165 : dec 226 165 = some (.iload 9, 2, []) := rfl
theorem d226_167 : dec 226 167 = some (.ifCond .lt 36, 3, [203]) := rfl
theorem d226_170 : dec 226 170 = some (.iload 4, 2, []) := rfl
theorem d226_172 : dec 226 172 = some (.bipush 25, 2, [25]) := rfl
theorem d226_174 : dec 226 174 = some (.ishr, 1, []) := rfl
theorem d226_175 : dec 226 175 = some (.iconst 3, 1, [3]) := rfl
theorem d226_176 : dec 226 176 = some (.iand, 1, []) := rfl
theorem d226_177 : dec 226 177 = some (.ifCond .ne 26, 3, [203]) := rfl
theorem d226_180 : dec 226 180 = some (.aload_n 1, 1, []) := rfl
theorem d226_181 : dec 226 181 = some (.invokestatic 168, 3, [2, 147, 0, 14, 0, 303, 2]) := rfl
theorem d226_184 : dec 226 184 = some (.ifCond .lt 17, 3, [201]) := rfl
theorem d226_187 : dec 226 187 = some (.aload_n 1, 1, []) := rfl
theorem d226_188 : dec 226 188 = some (.invokestatic 119, 3, [2, 152, 0, 14, 0, 421, 2]) := rfl
theorem d226_191 : dec 226 191 = some (.lload 6, 2, []) := rfl
theorem d226_193 : dec 226 193 = some (.lcmp, 1, []) := rfl
theorem d226_194 : dec 226 194 = some (.ifCond .ne 7, 3, [201]) := rfl
theorem d226_197 : dec 226 197 = some (.iconst 1, 1, [1]) := rfl
theorem d226_198 : dec 226 198 = some (.goto 4, 3, [202]) := rfl
theorem d226_201 : dec 226 201 = some (.iconst 0, 1, [0]) := rfl
theorem d226_202 : dec 226 202 = some (.istore_n 2, 1, []) := rfl
theorem d226_203 : dec 226 203 = some (.iload_n 2, 1, []) := rfl
theorem d226_204 : dec 226 204 = some (.ifCond .eq 115, 3, [319]) := rfl
theorem d226_207 : dec 226 207 = some (.aload_n 1, 1, []) := rfl
theorem d226_208 : dec 226 208 = some (.invokestatic 182, 3, [2, 154, 0, 14, 0, 905, 2]) := rfl
theorem d226_211 : dec 226 211 = some (.ifCond .eq 108, 3, [319]) := rfl
theorem d226_214 : dec 226 214 = some (.iload_n 3, 1, []) := rfl
theorem d226_215 : dec 226 215 = some (.iconst 2, 1, [2]) := rfl
theorem d226_216 : dec 226 216 = some (.irem, 1, []) := rfl
theorem d226_217 : dec 226 217 = some (.ifCond .eq 10, 3, [227]) := rfl
theorem d226_220 : dec 226 220 = some (.aload_n 1, 1, []) := rfl
theorem d226_221 : dec 226 221 = some (.invokestatic 185, 3, [2, 155, 0, 14, 0, 908, 2]) := rfl
theorem d226_224 : dec 226 224 = some (.ifCond .eq 95, 3, [319]) := rfl
theorem d226_227 : dec 226 227 = some (.iload_n 3, 1, []) := rfl
theorem d226_228 : dec 226 228 = some (.bipush 9, 2, [9]) := rfl
theorem d226_230 : dec 226 230 = some (.irem, 1, []) := rfl
theorem d226_231 : dec 226 231 = some (.bipush 8, 2, [8]) := rfl
theorem d226_233 : dec 226 233 = some (.if_icmp .ne 21, 3, [254]) := rfl
theorem d226_236 : dec 226 236 = some (.aload_n 1, 1, []) := rfl
theorem d226_237 : dec 226 237 = some (.iload 5, 2, []) := rfl
theorem d226_239 : dec 226 239 = some (.iconst 3, 1, [3]) := rfl
theorem d226_240 : dec 226 240 = some (.irem, 1, []) := rfl
theorem d226_241 : dec 226 241 = some (.iload 5, 2, []) := rfl
theorem d226_243 : dec 226 243 = some (.iconst 3, 1, [3]) := rfl
theorem d226_244 : dec 226 244 = some (.idiv, 1, []) := rfl
theorem d226_245 : dec 226 245 = some (.bipush 8, 2, [8]) := rfl
theorem d226_247 : dec 226 247 = some (.irem, 1, []) := rfl
theorem d226_248 : dec 226 248 = some (.invokestatic 197, 3, [2, 156, 0, 14, 0, 920, 0, 0, 2]) := rfl
theorem d226_251 : dec 226 251 = some (.ifCond .eq 68, 3, [319]) := rfl
theorem d226_254 : dec 226 254 = some (.iload_n 3, 1, []) := rfl
theorem d226_255 : dec 226 255 = some (.bipush 6, 2, [6]) := rfl
theorem d226_257 : dec 226 257 = some (.irem, 1, []) := rfl
theorem d226_258 : dec 226 258 = some (.iconst 5, 1, [5]) := rfl
theorem d226_259 : dec 226 259 = some (.if_icmp .ne 14, 3, [273]) := rfl
theorem d226_262 : dec 226 262 = some (.aload_n 1, 1, []) := rfl
theorem d226_263 : dec 226 263 = some (.iload 5, 2, []) := rfl
theorem d226_265 : dec 226 265 = some (.iconst 3, 1, [3]) := rfl
theorem d226_266 : dec 226 266 = some (.irem, 1, []) := rfl
theorem d226_267 : dec 226 267 = some (.invokestatic 201, 3, [2, 158, 0, 14, 0, 929, 0, 2]) := rfl
theorem d226_270 : dec 226 270 = some (.ifCond .eq 49, 3, [319]) := rfl
theorem d226_273 : dec 226 273 = some (.iload_n 3, 1, []) := rfl
theorem d226_274 : dec 226 274 = some (.bipush 10, 2, [10]) := rfl
theorem d226_276 : dec 226 276 = some (.irem, 1, []) := rfl
theorem d226_277 : dec 226 277 = some (.bipush 9, 2, [9]) := rfl
theorem d226_279 : dec 226 279 = some (.if_icmp .ne 21, 3, [300]) := rfl
theorem d226_282 : dec 226 282 = some (.aload_n 1, 1, []) := rfl
theorem d226_283 : dec 226 283 = some (.iload 5, 2, []) := rfl
theorem d226_285 : dec 226 285 = some (.iconst 3, 1, [3]) := rfl
theorem d226_286 : dec 226 286 = some (.irem, 1, []) := rfl
theorem d226_287 : dec 226 287 = some (.iload 5, 2, []) := rfl
theorem d226_289 : dec 226 289 = some (.iconst 3, 1, [3]) := rfl
theorem d226_290 : dec 226 290 = some (.idiv, 1, []) := rfl
theorem d226_291 : dec 226 291 = some (.bipush 8, 2, [8]) := rfl
theorem d226_293 : dec 226 293 = some (.irem, 1, []) := rfl
theorem d226_294 : dec 226 294 = some (.invokestatic 205, 3, [2, 157, 0, 14, 0, 926, 0, 0, 2]) := rfl
theorem d226_297 : dec 226 297 = some (.ifCond .eq 22, 3, [319]) := rfl
theorem d226_300 : dec 226 300 = some (.iload_n 3, 1, []) := rfl
theorem d226_301 : dec 226 301 = some (.bipush 11, 2, [11]) := rfl
theorem d226_303 : dec 226 303 = some (.irem, 1, []) := rfl
theorem d226_304 : dec 226 304 = some (.iconst 5, 1, [5]) := rfl
theorem d226_305 : dec 226 305 = some (.if_icmp .ne 10, 3, [315]) := rfl
theorem d226_308 : dec 226 308 = some (.aload_n 1, 1, []) := rfl
theorem d226_309 : dec 226 309 = some (.invokestatic 178, 3, [2, 153, 0, 14, 0, 631, 2]) := rfl
theorem d226_312 : dec 226 312 = some (.ifCond .eq 7, 3, [319]) := rfl
theorem d226_315 : dec 226 315 = some (.iconst 1, 1, [1]) := rfl
theorem d226_316 : dec 226 316 = some (.goto 4, 3, [320]) := rfl
theorem d226_319 : dec 226 319 = some (.iconst 0, 1, [0]) := rfl
theorem d226_320 : dec 226 320 = some (.istore_n 2, 1, []) := rfl
theorem d226_321 : dec 226 321 = some (.iinc 3 1, 3, [1]) := rfl
theorem d226_324 : dec 226 324 = some (.goto (-278), 3, [46]) := rfl
theorem d226_327 : dec 226 327 = some (.iload_n 2, 1, []) := rfl
theorem d226_328 : dec 226 328 = some (.ifCond .eq 21, 3, [349]) := rfl
theorem d226_331 : dec 226 331 = some (.aload_n 1, 1, []) := rfl
theorem d226_332 : dec 226 332 = some (.invokestatic 178, 3, [2, 153, 0, 14, 0, 631, 2]) := rfl
theorem d226_335 : dec 226 335 = some (.ifCond .eq 14, 3, [349]) := rfl
theorem d226_338 : dec 226 338 = some (.aload_n 1, 1, []) := rfl
theorem d226_339 : dec 226 339 = some (.invokestatic 185, 3, [2, 155, 0, 14, 0, 908, 2]) := rfl
theorem d226_342 : dec 226 342 = some (.ifCond .eq 7, 3, [349]) := rfl
theorem d226_345 : dec 226 345 = some (.iconst 1, 1, [1]) := rfl
theorem d226_346 : dec 226 346 = some (.goto 4, 3, [350]) := rfl
theorem d226_349 : dec 226 349 = some (.iconst 0, 1, [0]) := rfl
theorem d226_350 : dec 226 350 = some (.ireturn, 1, [1]) := rfl
theorem l226 : mL 226 = 10 := rfl
theorem PV_0 : PV g0 := by
  refine ⟨fun t e ht he => ?_, ⟨?_, fun i hi => ?_⟩, fun i hi => ?_, ?_⟩
  · rw [g0_0 (by omega)] at he; omega
  · rw [g0_0 (k := 123) (by omega)]
    exact (sm_c fun i hi => g0_0 (by omega)).trans sm_z
  · rw [g0_0 (by omega)] at hi; omega
  · rw [g0_0 (by omega)] at hi; omega
  · rw [g0_0 (by omega)]; exact Nat.zero_le _
theorem law_go {len : Nat} {xs : Nat → Int32} (hl : len ≤ 100000) : X 100 226 0 [.ref 0, UN, UN, UN, UN, UN, UN, UN, UN, UN] [] (fun k => if k = 0 then (30, len) else (0, 0), fun _ _ => none, 0) (fun k => if k = 0 then xs else fun _ => 0) (fun _ _ => 0) (0, 0) (fun r _ _ _ C => r = .inl (some (.int (nI 1))) ∧ C.1 ≤ 300000 ∧ C.2 ≤ 2000000) := by
  obtain ⟨P0, hP0⟩ : ∃ P0 : MP, P0 = (fun k => if k = 0 then (30, len) else (0, 0), fun _ _ => none, 0) := ⟨_, rfl⟩
  obtain ⟨I0, hI0⟩ : ∃ I0 : MI, I0 = (fun k => if k = 0 then xs else fun _ => 0) := ⟨_, rfl⟩
  obtain ⟨L0, hL0⟩ : ∃ L0 : ML, L0 = (fun _ _ => 0) := ⟨_, rfl⟩
  obtain ⟨Q, hQ⟩ : ∃ Q : QT, Q = (fun r _ _ _ C => r = .inl (some (.int (nI 1))) ∧ C.1 ≤ 300000 ∧ C.2 ≤ 2000000) := ⟨_, rfl⟩
  rw [← hP0, ← hI0, ← hL0, ← hQ]
  have hb : P0.2.2 = 0 := by rw [hP0]
  have h0 : P0.1 0 = (30, len) := by rw [hP0]; rfl
  have hx0 : ∀ j, I0 0 j = xs j := fun j => by rw [hI0]; rfl
  obtain ⟨P1, I1, L1, C1, ⟨a1, b1, c1, x1, y1⟩, hX, hRC, ⟨ho, hn⟩, h112, h130, q1⟩ := n0 (d := 100) (P := (xr P0.1 1 (10, 0), xr P0.2.1 1 (fun _ => none), 1)) (I := xr I0 1 (fun _ => 0)) (L := xr L0 1 (fun _ => 0)) (C := (1, fN 9)) rfl (by dsimp only; rw [xr_e rfl]) (by omega)
  dsimp only at b1 c1 x1 y1
  have f9 : fN 9 = 9 := rfl
  have hq : X 100 226 0 [.ref 0, UN, UN, UN, UN, UN, UN, UN, UN, UN] [] P0 I0 L0 (0, 0) Q = X 100 226 8 [.ref 0, .ref 1, UN, UN, UN, UN, UN, UN, UN, UN] [] P1 I1 L1 C1 Q := by
    simp (disch := first | assumption | omega) only [Nat.reduceAdd, X_go, go2_some, stp, ldI, ldA, ldL, stI, stA, stL, o1I, o2I, o2L, brI, brII, gl, s1, s2, k1, sl, go_sN, go_sR, go_CT, go_sT, go_no, go_if, pops, bk_v, bk_0, d226_0, d226_3, d226_4, d226_7, n_lt, n_le, n_eq, n_lt0, n_ge0, n_gt0, n_le0, n_eq0, m_lt, m_le, m_gt, m_ge, m_eq, m_eq', m_lt0, m_ge0, m_gt0, m_le0, m_ltm, m_lem, n_in, m_in, n_cl, n_ti, n_div, n_rem', n_dec, n_l, nI_add, pk_mul, an0, an1, decide_eq_true_eq, if_true, if_false, ite_true, ite_false, and_true, true_and, and_false, false_and, not_true, not_false_iff, or_false, false_or, or_true, true_or, eq_self, va_some, Bool.false_eq_true, reduceIte, catS_n, catS_i, catS_r, catS_l, catS_d, Nat.zero_add, Nat.add_zero, decide_true, decide_false, Nat.reduceLeDiff, cat_r, cat_i, cat_l, nle_T, nle_F, nlt_T, nlt_F, neq_T, neq_F, mk, mkP, xr_e, xr_m, le1, hb, q1]
    done
  rw [hq]
  have hO : OKM (len, xs) C1 P1 I1 L1 C1 (g0, 0, fun _ => g0, 0) := by
    refine ⟨hX, ⟨?_, fun j => ?_⟩, ⟨hRC, ⟨0, by omega, ho, hn, (show 0 ≤ 4 by omega), fun i hi => absurd hi (Nat.not_lt_zero i)⟩, ⟨h112, fun i hi => absurd hi (Nat.not_lt_zero i)⟩, CC_no h130⟩, ⟨GV_0, fun i hi => absurd hi (Nat.not_lt_zero i), (show 0 ≤ 4 by omega), (show 0 ≤ 160 by omega), fun i hi => absurd hi (Nat.not_lt_zero i)⟩, Nat.le_refl _, Nat.le_refl _⟩
    · rw [b1 0 (by omega), xr_m (by omega)]; exact h0
    · rw [(c1 0 j (by omega)).2.1, xr_m (by omega)]; exact hx0 j
  refine X_mono (X2_X (p226z (xs := xs) (N := len) (d := 100) (ps := fun _ => g0) (by omega) (by omega) GV_0 PV_0) (fun r S' h => by have := h.2; omega) hO) fun r P I L C h => ?_
  obtain ⟨_, S', ⟨h1, h2⟩, h3⟩ := h
  have z1 := h3.2.2.2.2.1
  have z2 := h3.2.2.2.2.2
  rw [hQ]
  exact ⟨h1, by omega, by omega⟩
