/-! THE LAW: what is found -/
theorem cmp_ii (a : Int) : compare a a = .eq := by
  show compareOfLessAndEq a a = _
  unfold compareOfLessAndEq
  rw [if_neg (Int.lt_irrefl a), if_pos rfl]
theorem dec_nn {x : Nat} (h : x ≤ 9218868437227405312) : FP.Core.decode FP.Core.b64 x ≠ .nan := by
  unfold FP.Core.decode
  rw [b_ex]
  by_cases h1 : FP.Core.fieldE FP.Core.b64 x = 2048 - 1
  · rw [if_pos h1]
    have hT : FP.Core.fieldT FP.Core.b64 x = 0 := by
      unfold FP.Core.fieldE at h1
      unfold FP.Core.fieldT
      rw [b_tl, b_ex] at h1
      rw [b_tl]
      omega
    rw [if_pos hT]
    exact fun q => nomatch q
  · rw [if_neg h1]
    split
    · exact fun q => nomatch q
    · exact fun q => nomatch q
theorem ord_eq {d : FP.Core.Datum} (h : d ≠ .nan) : FP.Core.order d d = some .eq := by
  cases d with
  | nan => exact absurd rfl h
  | inf s => exact congrArg some (cmp_ii _)
  | fin s c q => exact congrArg some (cmp_ii _)
theorem dcmp_eq {x : UInt64} (h : x.toNat ≤ 9218868437227405312) : (Op.cmpValue (FP.dcmp x x) .l = 0) = True := by
  have e : FP.dcmp x x = some .eq := ord_eq (dec_nn h)
  rw [e]
  exact eq_true rfl
theorem dd_nn {a b : Nat} (ha : a < 2147483648) (hb : b < 2147483648) (h0 : 0 < b) : (FP.ddiv (FP.i2d (nI a)) (FP.i2d (nI b))).toNat ≤ 9218868437227405312 := by
  obtain ⟨c, q, h1, _, _⟩ := fi_dec (m := a) (by omega)
  obtain ⟨c', q', h1', h2', _⟩ := fi_dec (m := b) (by omega)
  have hd := div_ok h1 h1' (h2' h0)
  show (UInt64.ofNat (FP.Core.div FP.Core.b64 (FP.i2d (nI a)).toNat (FP.i2d (nI b)).toNat)).toNat ≤ 9218868437227405312
  rw [UInt64.toNat_ofNat', i2d_n ha, i2d_n hb]
  exact Nat.le_trans (Nat.mod_le _ _) hd
theorem C2_31 {z : SX} {d : Nat} {S : LW} {Z : ZT} (hd : 30 ≤ d) : C2 z d 31 [.ref 1] S Z = run2 (q31 S) Z := C2_sp (by decide) hd (Nat.le_of_ble_eq_true rfl)
theorem e31 {z : SX} {d : Nat} {g : GS} {n k : Nat} {ps : Nat → GS} {Z : ZT} (hd : 30 ≤ d) : C2 z d 31 [.ref 1] (g, n, ps, k) Z = Z (.inl (some (.double (lsV g)))) (g, n, ps, k) := C2_31 hd
theorem e155_0 : dek 155 0 = some (.iconst 0, 1, [0]) := rfl
theorem e155_1 : dek 155 1 = some (.istore_n 1, 1, []) := rfl
theorem e155_2 : dek 155 2 = some (.iconst 0, 1, [0]) := rfl
theorem e155_3 : dek 155 3 = some (.istore_n 2, 1, []) := rfl
theorem e155_4 : dek 155 4 = some (.aload_n 0, 1, []) := rfl
theorem e155_5 : dek 155 5 = some (.iconst 4, 1, [4]) := rfl
theorem e155_6 : dek 155 6 = some (.invokestatic 103, 3, [2, 111, 0, 14, 0, 426, 0, 2]) := rfl
theorem e155_9 : dek 155 9 = some (.aload_n 0, 1, []) := rfl
theorem e155_10 : dek 155 10 = some (.iconst 3, 1, [3]) := rfl
theorem e155_11 : dek 155 11 = some (.invokestatic 103, 3, [2, 111, 0, 14, 0, 426, 0, 2]) := rfl
theorem e155_14 : dek 155 14 = some (.bipush 20, 2, [20]) := rfl
theorem e155_16 : dek 155 16 = some (.if_icmp .ge 11, 3, [27]) := rfl
theorem e155_19 : dek 155 19 = some (.aload_n 0, 1, []) := rfl
theorem e155_20 : dek 155 20 = some (.iconst 3, 1, [3]) := rfl
theorem e155_21 : dek 155 21 = some (.invokestatic 103, 3, [2, 111, 0, 14, 0, 426, 0, 2]) := rfl
theorem e155_24 : dek 155 24 = some (.goto 5, 3, [29]) := rfl
theorem e155_27 : dek 155 27 = some (.bipush 20, 2, [20]) := rfl
theorem e155_29 : dek 155 29 = some (.if_icmp .ne 21, 3, [50]) := rfl
theorem e155_32 : dek 155 32 = some (.aload_n 0, 1, []) := rfl
theorem e155_33 : dek 155 33 = some (.aload_n 0, 1, []) := rfl
theorem e155_34 : dek 155 34 = some (.iconst 4, 1, [4]) := rfl
theorem e155_35 : dek 155 35 = some (.invokestatic 103, 3, [2, 111, 0, 14, 0, 426, 0, 2]) := rfl
theorem e155_38 : dek 155 38 = some (.iconst 0, 1, [0]) := rfl
theorem e155_39 : dek 155 39 = some (.invokestatic 117, 3, [2, 125, 0, 14, 0, 617, 0, 0, 2]) := rfl
theorem e155_42 : dek 155 42 = some (.iconst (-1), 1, [4294967295]) := rfl
theorem e155_43 : dek 155 43 = some (.if_icmp .ne 7, 3, [50]) := rfl
theorem e155_46 : dek 155 46 = some (.iconst 1, 1, [1]) := rfl
theorem e155_47 : dek 155 47 = some (.goto 4, 3, [51]) := rfl
theorem e155_50 : dek 155 50 = some (.iconst 0, 1, [0]) := rfl
theorem e155_51 : dek 155 51 = some (.istore_n 3, 1, []) := rfl
theorem e155_52 : dek 155 52 = some (.iconst 0, 1, [0]) := rfl
theorem e155_53 : dek 155 53 = some (.istore 4, 2, []) := rfl
theorem e155_55 : dek 155 55 = some (.iload 4, 2, []) := rfl
theorem e155_57 : dek 155 57 = some (.bipush 16, 2, [16]) := rfl
theorem e155_59 : dek 155 59 = some (.if_icmp .ge 35, 3, [94]) := rfl
theorem e155_62 : dek 155 62 = some (.iload_n 1, 1, []) := rfl
theorem e155_63 : dek 155 63 = some (.aload_n 0, 1, []) := rfl
theorem e155_64 : dek 155 64 = some (.iload 4, 2, []) := rfl
theorem e155_66 : dek 155 66 = some (.invokestatic 142, 3, [2, 127, 0, 14, 0, 791, 0, 2]) := rfl
theorem e155_69 : dek 155 69 = some (.iadd, 1, []) := rfl
theorem e155_70 : dek 155 70 = some (.istore_n 1, 1, []) := rfl
theorem e155_71 : dek 155 71 = some (.iload_n 2, 1, []) := rfl
theorem e155_72 : dek 155 72 = some (.aload_n 0, 1, []) := rfl
theorem e155_73 : dek 155 73 = some (.iload 4, 2, []) := rfl
theorem e155_75 : dek 155 75 = some (.invokestatic 142, 3, [2, 127, 0, 14, 0, 791, 0, 2]) := rfl
theorem e155_78 : dek 155 78 = some (.ifCond .le 7, 3, [85]) := rfl
theorem e155_81 : dek 155 81 = some (.iconst 1, 1, [1]) := rfl
theorem e155_82 : dek 155 82 = some (.goto 4, 3, [86]) := rfl
theorem e155_85 : dek 155 85 = some (.iconst 0, 1, [0]) := rfl
theorem e155_86 : dek 155 86 = some (.iadd, 1, []) := rfl
theorem e155_87 : dek 155 87 = some (.istore_n 2, 1, []) := rfl
theorem e155_88 : dek 155 88 = some (.iinc 4 1, 3, [1]) := rfl
theorem e155_91 : dek 155 91 = some (.goto (-36), 3, [55]) := rfl
theorem e155_94 : dek 155 94 = some (.iconst 0, 1, [0]) := rfl
theorem e155_95 : dek 155 95 = some (.istore 4, 2, []) := rfl
theorem e155_97 : dek 155 97 = some (.iconst 0, 1, [0]) := rfl
theorem e155_98 : dek 155 98 = some (.istore 5, 2, []) := rfl
theorem e155_100 : dek 155 100 = some (.iload 5, 2, []) := rfl
theorem e155_102 : dek 155 102 = some (.aload_n 0, 1, []) := rfl
theorem e155_103 : dek 155 103 = some (.iconst 4, 1, [4]) := rfl
theorem e155_104 : dek 155 104 = some (.invokestatic 103, 3, [2, 111, 0, 14, 0, 426, 0, 2]) := rfl
theorem e155_107 : dek 155 107 = some (.if_icmp .ge 174, 3, [281]) := rfl
theorem e155_110 : dek 155 110 = some (.iload_n 3, 1, []) := rfl
theorem e155_111 : dek 155 111 = some (.ifCond .eq 170, 3, [281]) := rfl
theorem e155_114 : dek 155 114 = some (.iload 5, 2, []) := rfl
theorem e155_116 : dek 155 116 = some (.ifCond .eq 22, 3, [138]) := rfl
theorem e155_119 : dek 155 119 = some (.aload_n 0, 1, []) := rfl
theorem e155_120 : dek 155 120 = some (.iload 5, 2, []) := rfl
theorem e155_122 : dek 155 122 = some (.iconst 2, 1, [2]) := rfl
theorem e155_123 : dek 155 123 = some (.invokestatic 117, 3, [2, 125, 0, 14, 0, 617, 0, 0, 2]) := rfl
theorem e155_126 : dek 155 126 = some (.aload_n 0, 1, []) := rfl
theorem e155_127 : dek 155 127 = some (.iload 5, 2, []) := rfl
theorem e155_129 : dek 155 129 = some (.iconst 1, 1, [1]) := rfl
theorem e155_130 : dek 155 130 = some (.isub, 1, []) := rfl
theorem e155_131 : dek 155 131 = some (.iconst 2, 1, [2]) := rfl
theorem e155_132 : dek 155 132 = some (.invokestatic 117, 3, [2, 125, 0, 14, 0, 617, 0, 0, 2]) := rfl
theorem e155_135 : dek 155 135 = some (.if_icmp .ge 7, 3, [142]) := rfl
theorem e155_138 : dek 155 138 = some (.iconst 1, 1, [1]) := rfl
theorem e155_139 : dek 155 139 = some (.goto 4, 3, [143]) := rfl
theorem e155_142 : dek 155 142 = some (.iconst 0, 1, [0]) := rfl
theorem e155_143 : dek 155 143 = some (.istore 6, 2, []) := rfl
theorem e155_145 : dek 155 145 = some (.iload 4, 2, []) := rfl
theorem e155_147 : dek 155 147 = some (.iload 6, 2, []) := rfl
theorem e155_149 : dek 155 149 = some (.ifCond .eq 7, 3, [156]) := rfl
theorem e155_152 : dek 155 152 = some (.iconst 1, 1, [1]) := rfl
theorem e155_153 : dek 155 153 = some (.goto 4, 3, [157]) := rfl
theorem e155_156 : dek 155 156 = some (.iconst 0, 1, [0]) := rfl
theorem e155_157 : dek 155 157 = some (.iadd, 1, []) := rfl
theorem e155_158 : dek 155 158 = some (.istore 4, 2, []) := rfl
theorem e155_160 : dek 155 160 = some (.aload_n 0, 1, []) := rfl
theorem e155_161 : dek 155 161 = some (.aload_n 0, 1, []) := rfl
theorem e155_162 : dek 155 162 = some (.iload 5, 2, []) := rfl
theorem e155_164 : dek 155 164 = some (.iconst 0, 1, [0]) := rfl
theorem e155_165 : dek 155 165 = some (.invokestatic 117, 3, [2, 125, 0, 14, 0, 617, 0, 0, 2]) := rfl
theorem e155_168 : dek 155 168 = some (.invokestatic 142, 3, [2, 127, 0, 14, 0, 791, 0, 2]) := rfl
theorem e155_171 : dek 155 171 = some (.ifCond .le 102, 3, [273]) := rfl
theorem e155_174 : dek 155 174 = some (.aload_n 0, 1, []) := rfl
theorem e155_175 : dek 155 175 = some (.iload 5, 2, []) := rfl
theorem e155_177 : dek 155 177 = some (.iconst 1, 1, [1]) := rfl
theorem e155_178 : dek 155 178 = some (.invokestatic 117, 3, [2, 125, 0, 14, 0, 617, 0, 0, 2]) := rfl
theorem e155_181 : dek 155 181 = some (.ifCond .lt 92, 3, [273]) := rfl
theorem e155_184 : dek 155 184 = some (.aload_n 0, 1, []) := rfl
theorem e155_185 : dek 155 185 = some (.iload 5, 2, []) := rfl
theorem e155_187 : dek 155 187 = some (.iconst 1, 1, [1]) := rfl
theorem e155_188 : dek 155 188 = some (.invokestatic 117, 3, [2, 125, 0, 14, 0, 617, 0, 0, 2]) := rfl
theorem e155_191 : dek 155 191 = some (.iconst 4, 1, [4]) := rfl
theorem e155_192 : dek 155 192 = some (.if_icmp .ge 81, 3, [273]) := rfl
theorem e155_195 : dek 155 195 = some (.aload_n 0, 1, []) := rfl
theorem e155_196 : dek 155 196 = some (.iload 5, 2, []) := rfl
theorem e155_198 : dek 155 198 = some (.iconst 2, 1, [2]) := rfl
theorem e155_199 : dek 155 199 = some (.invokestatic 117, 3, [2, 125, 0, 14, 0, 617, 0, 0, 2]) := rfl
theorem e155_202 : dek 155 202 = some (.ifCond .le 71, 3, [273]) := rfl
theorem e155_205 : dek 155 205 = some (.aload_n 0, 1, []) := rfl
theorem e155_206 : dek 155 206 = some (.iload 5, 2, []) := rfl
theorem e155_208 : dek 155 208 = some (.iconst 2, 1, [2]) := rfl
theorem e155_209 : dek 155 209 = some (.invokestatic 117, 3, [2, 125, 0, 14, 0, 617, 0, 0, 2]) := rfl
theorem e155_212 : dek 155 212 = some (.aload_n 0, 1, []) := rfl
theorem e155_213 : dek 155 213 = some (.iconst 2, 1, [2]) := rfl
theorem e155_214 : dek 155 214 = some (.invokestatic 103, 3, [2, 111, 0, 14, 0, 426, 0, 2]) := rfl
theorem e155_217 : dek 155 217 = some (.if_icmp .gt 56, 3, [273]) := rfl
theorem e155_220 : dek 155 220 = some (.iload 6, 2, []) := rfl
theorem e155_222 : dek 155 222 = some (.ifCond .ne 22, 3, [244]) := rfl
theorem e155_225 : dek 155 225 = some (.aload_n 0, 1, []) := rfl
theorem e155_226 : dek 155 226 = some (.iload 5, 2, []) := rfl
theorem e155_228 : dek 155 228 = some (.iconst 2, 1, [2]) := rfl
theorem e155_229 : dek 155 229 = some (.invokestatic 117, 3, [2, 125, 0, 14, 0, 617, 0, 0, 2]) := rfl
theorem e155_232 : dek 155 232 = some (.aload_n 0, 1, []) := rfl
theorem e155_233 : dek 155 233 = some (.iload 5, 2, []) := rfl
theorem e155_235 : dek 155 235 = some (.iconst 1, 1, [1]) := rfl
theorem e155_236 : dek 155 236 = some (.isub, 1, []) := rfl
theorem e155_237 : dek 155 237 = some (.iconst 2, 1, [2]) := rfl
theorem e155_238 : dek 155 238 = some (.invokestatic 117, 3, [2, 125, 0, 14, 0, 617, 0, 0, 2]) := rfl
theorem e155_241 : dek 155 241 = some (.if_icmp .ne 32, 3, [273]) := rfl
theorem e155_244 : dek 155 244 = some (.iload 5, 2, []) := rfl
theorem e155_246 : dek 155 246 = some (.iconst 2, 1, [2]) := rfl
theorem e155_247 : dek 155 247 = some (.if_icmp .lt 22, 3, [269]) := rfl
theorem e155_250 : dek 155 250 = some (.aload_n 0, 1, []) := rfl
theorem e155_251 : dek 155 251 = some (.iload 5, 2, []) := rfl
theorem e155_253 : dek 155 253 = some (.iconst 2, 1, [2]) := rfl
theorem e155_254 : dek 155 254 = some (.invokestatic 117, 3, [2, 125, 0, 14, 0, 617, 0, 0, 2]) := rfl
theorem e155_257 : dek 155 257 = some (.aload_n 0, 1, []) := rfl
theorem e155_258 : dek 155 258 = some (.iload 5, 2, []) := rfl
theorem e155_260 : dek 155 260 = some (.iconst 2, 1, [2]) := rfl
theorem e155_261 : dek 155 261 = some (.isub, 1, []) := rfl
theorem e155_262 : dek 155 262 = some (.iconst 2, 1, [2]) := rfl
theorem e155_263 : dek 155 263 = some (.invokestatic 117, 3, [2, 125, 0, 14, 0, 617, 0, 0, 2]) := rfl
theorem e155_266 : dek 155 266 = some (.if_icmp .ge 7, 3, [273]) := rfl
theorem e155_269 : dek 155 269 = some (.iconst 1, 1, [1]) := rfl
theorem e155_270 : dek 155 270 = some (.goto 4, 3, [274]) := rfl
theorem e155_273 : dek 155 273 = some (.iconst 0, 1, [0]) := rfl
theorem e155_274 : dek 155 274 = some (.istore_n 3, 1, []) := rfl
theorem e155_275 : dek 155 275 = some (.iinc 5 1, 3, [1]) := rfl
theorem e155_278 : dek 155 278 = some (.goto (-178), 3, [100]) := rfl
theorem e155_281 : dek 155 281 = some (.iload_n 3, 1, []) := rfl
theorem e155_282 : dek 155 282 = some (.ifCond .eq 71, 3, [353]) := rfl
theorem e155_285 : dek 155 285 = some (.iload_n 1, 1, []) := rfl
theorem e155_286 : dek 155 286 = some (.aload_n 0, 1, []) := rfl
theorem e155_287 : dek 155 287 = some (.iconst 3, 1, [3]) := rfl
theorem e155_288 : dek 155 288 = some (.invokestatic 103, 3, [2, 111, 0, 14, 0, 426, 0, 2]) := rfl
theorem e155_291 : dek 155 291 = some (.if_icmp .ne 62, 3, [353]) := rfl
theorem e155_294 : dek 155 294 = some (.iload_n 2, 1, []) := rfl
theorem e155_295 : dek 155 295 = some (.aload_n 0, 1, []) := rfl
theorem e155_296 : dek 155 296 = some (.bipush 7, 2, [7]) := rfl
theorem e155_298 : dek 155 298 = some (.invokestatic 103, 3, [2, 111, 0, 14, 0, 426, 0, 2]) := rfl
theorem e155_301 : dek 155 301 = some (.if_icmp .ne 52, 3, [353]) := rfl
theorem e155_304 : dek 155 304 = some (.aload_n 0, 1, []) := rfl
theorem e155_305 : dek 155 305 = some (.invokevirtual 160, 3, [2, 31, 2, 9, 0, 911]) := rfl
theorem e155_308 : dek 155 308 = some (.aload_n 0, 1, []) := rfl
theorem e155_309 : dek 155 309 = some (.iconst 2, 1, [2]) := rfl
theorem e155_310 : dek 155 310 = some (.invokestatic 103, 3, [2, 111, 0, 14, 0, 426, 0, 2]) := rfl
theorem e155_313 : dek 155 313 = some (.ifCond .ne 7, 3, [320]) := rfl
theorem e155_316 : dek 155 316 = some (.dconst 0, 1, []) := rfl
theorem e155_317 : dek 155 317 = some (.goto 13, 3, [330]) := rfl
theorem e155_320 : dek 155 320 = some (.iload 4, 2, []) := rfl
theorem e155_322 : dek 155 322 = some (.i2d, 1, []) := rfl
theorem e155_323 : dek 155 323 = some (.aload_n 0, 1, []) := rfl
theorem e155_324 : dek 155 324 = some (.iconst 2, 1, [2]) := rfl
theorem e155_325 : dek 155 325 = some (.invokestatic 103, 3, [2, 111, 0, 14, 0, 426, 0, 2]) := rfl
theorem e155_328 : dek 155 328 = some (.i2d, 1, []) := rfl
theorem e155_329 : dek 155 329 = some (.ddiv, 1, []) := rfl
theorem e155_330 : dek 155 330 = some (.dcmp .l, 1, []) := rfl
theorem e155_331 : dek 155 331 = some (.ifCond .ne 22, 3, [353]) := rfl
theorem e155_334 : dek 155 334 = some (.aload_n 0, 1, []) := rfl
theorem e155_335 : dek 155 335 = some (.iconst 3, 1, [3]) := rfl
theorem e155_336 : dek 155 336 = some (.invokestatic 103, 3, [2, 111, 0, 14, 0, 426, 0, 2]) := rfl
theorem e155_339 : dek 155 339 = some (.iconst 2, 1, [2]) := rfl
theorem e155_340 : dek 155 340 = some (.aload_n 0, 1, []) := rfl
theorem e155_341 : dek 155 341 = some (.iconst 2, 1, [2]) := rfl
theorem e155_342 : dek 155 342 = some (.invokestatic 103, 3, [2, 111, 0, 14, 0, 426, 0, 2]) := rfl
theorem e155_345 : dek 155 345 = some (.imul, 1, []) := rfl
theorem e155_346 : dek 155 346 = some (.if_icmp .gt 7, 3, [353]) := rfl
theorem e155_349 : dek 155 349 = some (.iconst 1, 1, [1]) := rfl
theorem e155_350 : dek 155 350 = some (.goto 4, 3, [354]) := rfl
theorem e155_353 : dek 155 353 = some (.iconst 0, 1, [0]) := rfl
theorem e155_354 : dek 155 354 = some (.ireturn, 1, [1]) := rfl
theorem p155a {B : Nat} {g : GS} (hF : FV B g) (hB : B ≤ 1000000) : ∀ m i, i + m = 16 → ∀ {z : SX} {d n k : Nat} {ps : Nat → GS} {Z : ZT} {u5 u6 : Value}, 32 ≤ d → X2 z d 155 55 [.ref 1, .int (nI (sm i (fun j => g (124 + j)))), .int (nI (dif g i)), .int (nI 1), .int (nI i), u5, u6] [] (g, n, ps, k) Z = X2 z d 155 100 [.ref 1, .int (nI (sm 16 (fun j => g (124 + j)))), .int (nI (dif g 16)), .int (nI 1), .int (nI 0), .int (nI 0), u6] [] (g, n, ps, k) Z := by
  intro m
  induction m with
  | zero =>
    intro i hi z d n k ps Z u5 u6 hd
    have : i = 16 := by omega
    subst this
    rw [X2_go, e155_55]
    simp (disch := first | assumption | omega) only [Nat.reduceAdd, mP_1, mP_0, X2_go, g4_some, stp, ldI, ldA, ldL, stI, stA, stL, o1I, o2I, o2L, brI, brII, gl, s1, s2, k1, sl, g3_sN, g3_sR, g3_sC, g3_if, g3_no, pops, b2_v, e155_0, e155_1, e155_2, e155_3, e155_4, e155_5, e155_6, e155_9, e155_10, e155_11, e155_14, e155_16, e155_19, e155_20, e155_21, e155_24, e155_27, e155_29, e155_32, e155_33, e155_34, e155_35, e155_38, e155_39, e155_42, e155_43, e155_46, e155_47, e155_50, e155_51, e155_52, e155_53, e155_57, e155_59, e155_62, e155_63, e155_64, e155_66, e155_69, e155_70, e155_71, e155_72, e155_73, e155_75, e155_78, e155_81, e155_82, e155_85, e155_86, e155_87, e155_88, e155_91, e155_94, e155_95, e155_97, e155_98, e155_102, e155_103, e155_104, e155_107, e155_110, e155_111, e155_114, e155_116, e155_119, e155_120, e155_122, e155_123, e155_126, e155_127, e155_129, e155_130, e155_131, e155_132, e155_135, e155_138, e155_139, e155_142, e155_143, e155_145, e155_147, e155_149, e155_152, e155_153, e155_156, e155_157, e155_158, e155_160, e155_161, e155_162, e155_164, e155_165, e155_168, e155_171, e155_174, e155_175, e155_177, e155_178, e155_181, e155_184, e155_185, e155_187, e155_188, e155_191, e155_192, e155_195, e155_196, e155_198, e155_199, e155_202, e155_205, e155_206, e155_208, e155_209, e155_212, e155_213, e155_214, e155_217, e155_220, e155_222, e155_225, e155_226, e155_228, e155_229, e155_232, e155_233, e155_235, e155_236, e155_237, e155_238, e155_241, e155_244, e155_246, e155_247, e155_250, e155_251, e155_253, e155_254, e155_257, e155_258, e155_260, e155_261, e155_262, e155_263, e155_266, e155_269, e155_270, e155_273, e155_274, e155_275, e155_278, e155_281, e155_282, e155_285, e155_286, e155_287, e155_288, e155_291, e155_294, e155_295, e155_296, e155_298, e155_301, e155_304, e155_305, e155_308, e155_309, e155_310, e155_313, e155_316, e155_317, e155_320, e155_322, e155_323, e155_324, e155_325, e155_328, e155_329, e155_330, e155_331, e155_334, e155_335, e155_336, e155_339, e155_340, e155_341, e155_342, e155_345, e155_346, e155_349, e155_350, e155_353, e155_354, n_lt, n_le, n_eq, n_lt0, n_ge0, n_gt0, n_le0, n_eq0, m_lt, m_le, m_gt, m_ge, m_eq, m_eq', m_lt0, m_ge0, m_gt0, m_le0, m_ltm, m_lem, n_in, m_in, n_cl, n_ti, n_div, n_rem', n_dec, n_l, nI_add, pk_mul, an0, an1, decide_eq_true_eq, if_true, if_false, ite_true, ite_false, and_true, true_and, and_false, false_and, not_true, not_false_iff, or_false, false_or, or_true, true_or, eq_self, va_some, Bool.false_eq_true, reduceIte, catS_n, catS_i, catS_r, catS_l, catS_d, Nat.zero_add, Nat.add_zero, decide_true, decide_false, Nat.reduceLeDiff, cat_r, cat_i, cat_l, nle_T, nle_F, nlt_T, nlt_F, neq_T, neq_F]
  | succ m ih =>
    intro i hi z d n k ps Z u5 u6 hd
    have h1 := hF.2.2.2.1 i (by omega)
    have h2 := hF.2.1
    have e1 : sm (i + 1) (fun j => g (124 + j)) = sm i (fun j => g (124 + j)) + g (124 + i) := rfl
    rw [← ih (i + 1) (by omega) (u5 := u5) hd, e1, X2_go, e155_55]
    by_cases hz : g (124 + i) = 0
    · have e2 : dif g (i + 1) = dif g i + 0 := by
        show dif g i + (if 0 < g (124 + i) then 1 else 0) = _
        rw [if_neg (by omega)]
      rw [e2]
      simp (disch := first | assumption | omega) only [Nat.reduceAdd, mP_1, mP_0, X2_go, g4_some, stp, ldI, ldA, ldL, stI, stA, stL, o1I, o2I, o2L, brI, brII, gl, s1, s2, k1, sl, g3_sN, g3_sR, g3_sC, g3_if, g3_no, pops, b2_v, e155_0, e155_1, e155_2, e155_3, e155_4, e155_5, e155_6, e155_9, e155_10, e155_11, e155_14, e155_16, e155_19, e155_20, e155_21, e155_24, e155_27, e155_29, e155_32, e155_33, e155_34, e155_35, e155_38, e155_39, e155_42, e155_43, e155_46, e155_47, e155_50, e155_51, e155_52, e155_53, e155_57, e155_59, e155_62, e155_63, e155_64, e155_66, e155_69, e155_70, e155_71, e155_72, e155_73, e155_75, e155_78, e155_81, e155_82, e155_85, e155_86, e155_87, e155_88, e155_91, e155_94, e155_95, e155_97, e155_98, e155_102, e155_103, e155_104, e155_107, e155_110, e155_111, e155_114, e155_116, e155_119, e155_120, e155_122, e155_123, e155_126, e155_127, e155_129, e155_130, e155_131, e155_132, e155_135, e155_138, e155_139, e155_142, e155_143, e155_145, e155_147, e155_149, e155_152, e155_153, e155_156, e155_157, e155_158, e155_160, e155_161, e155_162, e155_164, e155_165, e155_168, e155_171, e155_174, e155_175, e155_177, e155_178, e155_181, e155_184, e155_185, e155_187, e155_188, e155_191, e155_192, e155_195, e155_196, e155_198, e155_199, e155_202, e155_205, e155_206, e155_208, e155_209, e155_212, e155_213, e155_214, e155_217, e155_220, e155_222, e155_225, e155_226, e155_228, e155_229, e155_232, e155_233, e155_235, e155_236, e155_237, e155_238, e155_241, e155_244, e155_246, e155_247, e155_250, e155_251, e155_253, e155_254, e155_257, e155_258, e155_260, e155_261, e155_262, e155_263, e155_266, e155_269, e155_270, e155_273, e155_274, e155_275, e155_278, e155_281, e155_282, e155_285, e155_286, e155_287, e155_288, e155_291, e155_294, e155_295, e155_296, e155_298, e155_301, e155_304, e155_305, e155_308, e155_309, e155_310, e155_313, e155_316, e155_317, e155_320, e155_322, e155_323, e155_324, e155_325, e155_328, e155_329, e155_330, e155_331, e155_334, e155_335, e155_336, e155_339, e155_340, e155_341, e155_342, e155_345, e155_346, e155_349, e155_350, e155_353, e155_354, n_lt, n_le, n_eq, n_lt0, n_ge0, n_gt0, n_le0, n_eq0, m_lt, m_le, m_gt, m_ge, m_eq, m_eq', m_lt0, m_ge0, m_gt0, m_le0, m_ltm, m_lem, n_in, m_in, n_cl, n_ti, n_div, n_rem', n_dec, n_l, nI_add, pk_mul, an0, an1, decide_eq_true_eq, if_true, if_false, ite_true, ite_false, and_true, true_and, and_false, false_and, not_true, not_false_iff, or_false, false_or, or_true, true_or, eq_self, va_some, Bool.false_eq_true, reduceIte, catS_n, catS_i, catS_r, catS_l, catS_d, Nat.zero_add, Nat.add_zero, decide_true, decide_false, Nat.reduceLeDiff, cat_r, cat_i, cat_l, nle_T, nle_F, nlt_T, nlt_F, neq_T, neq_F, e127o, hz]
    · have e2 : dif g (i + 1) = dif g i + 1 := by
        show dif g i + (if 0 < g (124 + i) then 1 else 0) = _
        rw [if_pos (by omega)]
      rw [e2]
      simp (disch := first | assumption | omega) only [Nat.reduceAdd, mP_1, mP_0, X2_go, g4_some, stp, ldI, ldA, ldL, stI, stA, stL, o1I, o2I, o2L, brI, brII, gl, s1, s2, k1, sl, g3_sN, g3_sR, g3_sC, g3_if, g3_no, pops, b2_v, e155_0, e155_1, e155_2, e155_3, e155_4, e155_5, e155_6, e155_9, e155_10, e155_11, e155_14, e155_16, e155_19, e155_20, e155_21, e155_24, e155_27, e155_29, e155_32, e155_33, e155_34, e155_35, e155_38, e155_39, e155_42, e155_43, e155_46, e155_47, e155_50, e155_51, e155_52, e155_53, e155_57, e155_59, e155_62, e155_63, e155_64, e155_66, e155_69, e155_70, e155_71, e155_72, e155_73, e155_75, e155_78, e155_81, e155_82, e155_85, e155_86, e155_87, e155_88, e155_91, e155_94, e155_95, e155_97, e155_98, e155_102, e155_103, e155_104, e155_107, e155_110, e155_111, e155_114, e155_116, e155_119, e155_120, e155_122, e155_123, e155_126, e155_127, e155_129, e155_130, e155_131, e155_132, e155_135, e155_138, e155_139, e155_142, e155_143, e155_145, e155_147, e155_149, e155_152, e155_153, e155_156, e155_157, e155_158, e155_160, e155_161, e155_162, e155_164, e155_165, e155_168, e155_171, e155_174, e155_175, e155_177, e155_178, e155_181, e155_184, e155_185, e155_187, e155_188, e155_191, e155_192, e155_195, e155_196, e155_198, e155_199, e155_202, e155_205, e155_206, e155_208, e155_209, e155_212, e155_213, e155_214, e155_217, e155_220, e155_222, e155_225, e155_226, e155_228, e155_229, e155_232, e155_233, e155_235, e155_236, e155_237, e155_238, e155_241, e155_244, e155_246, e155_247, e155_250, e155_251, e155_253, e155_254, e155_257, e155_258, e155_260, e155_261, e155_262, e155_263, e155_266, e155_269, e155_270, e155_273, e155_274, e155_275, e155_278, e155_281, e155_282, e155_285, e155_286, e155_287, e155_288, e155_291, e155_294, e155_295, e155_296, e155_298, e155_301, e155_304, e155_305, e155_308, e155_309, e155_310, e155_313, e155_316, e155_317, e155_320, e155_322, e155_323, e155_324, e155_325, e155_328, e155_329, e155_330, e155_331, e155_334, e155_335, e155_336, e155_339, e155_340, e155_341, e155_342, e155_345, e155_346, e155_349, e155_350, e155_353, e155_354, n_lt, n_le, n_eq, n_lt0, n_ge0, n_gt0, n_le0, n_eq0, m_lt, m_le, m_gt, m_ge, m_eq, m_eq', m_lt0, m_ge0, m_gt0, m_le0, m_ltm, m_lem, n_in, m_in, n_cl, n_ti, n_div, n_rem', n_dec, n_l, nI_add, pk_mul, an0, an1, decide_eq_true_eq, if_true, if_false, ite_true, ite_false, and_true, true_and, and_false, false_and, not_true, not_false_iff, or_false, false_or, or_true, true_or, eq_self, va_some, Bool.false_eq_true, reduceIte, catS_n, catS_i, catS_r, catS_l, catS_d, Nat.zero_add, Nat.add_zero, decide_true, decide_false, Nat.reduceLeDiff, cat_r, cat_i, cat_l, nle_T, nle_F, nlt_T, nlt_F, neq_T, neq_F, e127o, hz]
theorem p155b {B a b : Nat} {g : GS} (hF : FV B g) (h0 : FP0 g) (h1 : OD g) (hB : B ≤ 1000000) : ∀ m i, i + m = g 140 → ∀ {z : SX} {d n k : Nat} {ps : Nat → GS} {Z : ZT} {u6 : Value}, 32 ≤ d → ∃ v6 : Value, X2 z d 155 100 [.ref 1, .int (nI a), .int (nI b), .int (nI 1), .int (nI (difO g i)), .int (nI i), u6] [] (g, n, ps, k) Z = X2 z d 155 281 [.ref 1, .int (nI a), .int (nI b), .int (nI 1), .int (nI (difO g (g 140))), .int (nI (g 140)), v6] [] (g, n, ps, k) Z := by
  have hc : g 140 ≤ 20 := FV_140 hF
  intro m
  induction m with
  | zero =>
    intro i hi z d n k ps Z u6 hd
    have : i = g 140 := by omega
    subst this
    refine ⟨u6, ?_⟩
    rw [X2_go, e155_100]
    simp (disch := first | assumption | omega) only [Nat.reduceAdd, mP_1, mP_0, X2_go, g4_some, stp, ldI, ldA, ldL, stI, stA, stL, o1I, o2I, o2L, brI, brII, gl, s1, s2, k1, sl, g3_sN, g3_sR, g3_sC, g3_if, g3_no, pops, b2_v, e155_0, e155_1, e155_2, e155_3, e155_4, e155_5, e155_6, e155_9, e155_10, e155_11, e155_14, e155_16, e155_19, e155_20, e155_21, e155_24, e155_27, e155_29, e155_32, e155_33, e155_34, e155_35, e155_38, e155_39, e155_42, e155_43, e155_46, e155_47, e155_50, e155_51, e155_52, e155_53, e155_57, e155_59, e155_62, e155_63, e155_64, e155_66, e155_69, e155_70, e155_71, e155_72, e155_73, e155_75, e155_78, e155_81, e155_82, e155_85, e155_86, e155_87, e155_88, e155_91, e155_94, e155_95, e155_97, e155_98, e155_102, e155_103, e155_104, e155_107, e155_110, e155_111, e155_114, e155_116, e155_119, e155_120, e155_122, e155_123, e155_126, e155_127, e155_129, e155_130, e155_131, e155_132, e155_135, e155_138, e155_139, e155_142, e155_143, e155_145, e155_147, e155_149, e155_152, e155_153, e155_156, e155_157, e155_158, e155_160, e155_161, e155_162, e155_164, e155_165, e155_168, e155_171, e155_174, e155_175, e155_177, e155_178, e155_181, e155_184, e155_185, e155_187, e155_188, e155_191, e155_192, e155_195, e155_196, e155_198, e155_199, e155_202, e155_205, e155_206, e155_208, e155_209, e155_212, e155_213, e155_214, e155_217, e155_220, e155_222, e155_225, e155_226, e155_228, e155_229, e155_232, e155_233, e155_235, e155_236, e155_237, e155_238, e155_241, e155_244, e155_246, e155_247, e155_250, e155_251, e155_253, e155_254, e155_257, e155_258, e155_260, e155_261, e155_262, e155_263, e155_266, e155_269, e155_270, e155_273, e155_274, e155_275, e155_278, e155_282, e155_285, e155_286, e155_287, e155_288, e155_291, e155_294, e155_295, e155_296, e155_298, e155_301, e155_304, e155_305, e155_308, e155_309, e155_310, e155_313, e155_316, e155_317, e155_320, e155_322, e155_323, e155_324, e155_325, e155_328, e155_329, e155_330, e155_331, e155_334, e155_335, e155_336, e155_339, e155_340, e155_341, e155_342, e155_345, e155_346, e155_349, e155_350, e155_353, e155_354, n_lt, n_le, n_eq, n_lt0, n_ge0, n_gt0, n_le0, n_eq0, m_lt, m_le, m_gt, m_ge, m_eq, m_eq', m_lt0, m_ge0, m_gt0, m_le0, m_ltm, m_lem, n_in, m_in, n_cl, n_ti, n_div, n_rem', n_dec, n_l, nI_add, pk_mul, an0, an1, decide_eq_true_eq, if_true, if_false, ite_true, ite_false, and_true, true_and, and_false, false_and, not_true, not_false_iff, or_false, false_or, or_true, true_or, eq_self, va_some, Bool.false_eq_true, reduceIte, catS_n, catS_i, catS_r, catS_l, catS_d, Nat.zero_add, Nat.add_zero, decide_true, decide_false, Nat.reduceLeDiff, cat_r, cat_i, cat_l, nle_T, nle_F, nlt_T, nlt_F, neq_T, neq_F, e111v, vV_4]
  | succ m ih =>
    intro i hi z d n k ps Z u6 hd
    obtain ⟨f0, f1, f2⟩ := hF.2.2.2.2 i (by omega)
    obtain ⟨o0, o1, o2, o3⟩ := h1 i (by omega)
    have f3 := h0.2 i (by omega)
    have f4 := hF.2.2.2.1 _ f0
    have f5 := hF.2.1
    have f6 := hF.1
    have e1 : difO g (i + 1) = difO g i + (if i = 0 ∨ g (141 + 3 * i + 2) ≠ g (141 + 3 * (i - 1) + 2) then 1 else 0) := rfl
    by_cases hz : i = 0
    · subst hz
      have g3 : 0 < g (124 + g 141) := f3
      have g4 : g (124 + g 141) ≤ g 123 := f4
      rw [if_pos (.inl rfl)] at e1
      obtain ⟨v6, e⟩ := ih (0 + 1) (by omega) (z := z) (n := n) (k := k) (ps := ps) (Z := Z) (u6 := .int (nI 1)) hd
      refine ⟨v6, ?_⟩
      rw [← e, e1, X2_go, e155_100]
      simp (disch := first | assumption | omega) only [Nat.reduceAdd, mP_1, mP_0, X2_go, g4_some, stp, ldI, ldA, ldL, stI, stA, stL, o1I, o2I, o2L, brI, brII, gl, s1, s2, k1, sl, g3_sN, g3_sR, g3_sC, g3_if, g3_no, pops, b2_v, e155_0, e155_1, e155_2, e155_3, e155_4, e155_5, e155_6, e155_9, e155_10, e155_11, e155_14, e155_16, e155_19, e155_20, e155_21, e155_24, e155_27, e155_29, e155_32, e155_33, e155_34, e155_35, e155_38, e155_39, e155_42, e155_43, e155_46, e155_47, e155_50, e155_51, e155_52, e155_53, e155_57, e155_59, e155_62, e155_63, e155_64, e155_66, e155_69, e155_70, e155_71, e155_72, e155_73, e155_75, e155_78, e155_81, e155_82, e155_85, e155_86, e155_87, e155_88, e155_91, e155_94, e155_95, e155_97, e155_98, e155_102, e155_103, e155_104, e155_107, e155_110, e155_111, e155_114, e155_116, e155_119, e155_120, e155_122, e155_123, e155_126, e155_127, e155_129, e155_130, e155_131, e155_132, e155_135, e155_138, e155_139, e155_142, e155_143, e155_145, e155_147, e155_149, e155_152, e155_153, e155_156, e155_157, e155_158, e155_160, e155_161, e155_162, e155_164, e155_165, e155_168, e155_171, e155_174, e155_175, e155_177, e155_178, e155_181, e155_184, e155_185, e155_187, e155_188, e155_191, e155_192, e155_195, e155_196, e155_198, e155_199, e155_202, e155_205, e155_206, e155_208, e155_209, e155_212, e155_213, e155_214, e155_217, e155_220, e155_222, e155_225, e155_226, e155_228, e155_229, e155_232, e155_233, e155_235, e155_236, e155_237, e155_238, e155_241, e155_244, e155_246, e155_247, e155_250, e155_251, e155_253, e155_254, e155_257, e155_258, e155_260, e155_261, e155_262, e155_263, e155_266, e155_269, e155_270, e155_273, e155_274, e155_275, e155_278, e155_282, e155_285, e155_286, e155_287, e155_288, e155_291, e155_294, e155_295, e155_296, e155_298, e155_301, e155_304, e155_305, e155_308, e155_309, e155_310, e155_313, e155_316, e155_317, e155_320, e155_322, e155_323, e155_324, e155_325, e155_328, e155_329, e155_330, e155_331, e155_334, e155_335, e155_336, e155_339, e155_340, e155_341, e155_342, e155_345, e155_346, e155_349, e155_350, e155_353, e155_354, n_lt, n_le, n_eq, n_lt0, n_ge0, n_gt0, n_le0, n_eq0, m_lt, m_le, m_gt, m_ge, m_eq, m_eq', m_lt0, m_ge0, m_gt0, m_le0, m_ltm, m_lem, n_in, m_in, n_cl, n_ti, n_div, n_rem', n_dec, n_l, nI_add, pk_mul, an0, an1, decide_eq_true_eq, if_true, if_false, ite_true, ite_false, and_true, true_and, and_false, false_and, not_true, not_false_iff, or_false, false_or, or_true, true_or, eq_self, va_some, Bool.false_eq_true, reduceIte, catS_n, catS_i, catS_r, catS_l, catS_d, Nat.zero_add, Nat.add_zero, decide_true, decide_false, Nat.reduceLeDiff, cat_r, cat_i, cat_l, nle_T, nle_F, nlt_T, nlt_F, neq_T, neq_F, e111v, vV_4, vV_2, e125k, e127o]
    · have p1 := o2 (by omega)
      have p2 := (h1 (i - 1) (by omega)).2.1
      by_cases hy : g (141 + 3 * i + 2) = g (141 + 3 * (i - 1) + 2)
      · rw [if_neg (fun q => q.elim hz (fun q => q hy))] at e1
        obtain ⟨v6, e⟩ := ih (i + 1) (by omega) (z := z) (n := n) (k := k) (ps := ps) (Z := Z) (u6 := .int (nI 0)) hd
        refine ⟨v6, ?_⟩
        rw [← e, e1, X2_go, e155_100]
        by_cases hx : i = 1
        · subst hx
          have g3 : 0 < g (124 + g 144) := f3
          have g4 : g (124 + g 144) ≤ g 123 := f4
          simp (disch := first | assumption | omega) only [Nat.reduceAdd, mP_1, mP_0, X2_go, g4_some, stp, ldI, ldA, ldL, stI, stA, stL, o1I, o2I, o2L, brI, brII, gl, s1, s2, k1, sl, g3_sN, g3_sR, g3_sC, g3_if, g3_no, pops, b2_v, e155_0, e155_1, e155_2, e155_3, e155_4, e155_5, e155_6, e155_9, e155_10, e155_11, e155_14, e155_16, e155_19, e155_20, e155_21, e155_24, e155_27, e155_29, e155_32, e155_33, e155_34, e155_35, e155_38, e155_39, e155_42, e155_43, e155_46, e155_47, e155_50, e155_51, e155_52, e155_53, e155_57, e155_59, e155_62, e155_63, e155_64, e155_66, e155_69, e155_70, e155_71, e155_72, e155_73, e155_75, e155_78, e155_81, e155_82, e155_85, e155_86, e155_87, e155_88, e155_91, e155_94, e155_95, e155_97, e155_98, e155_102, e155_103, e155_104, e155_107, e155_110, e155_111, e155_114, e155_116, e155_119, e155_120, e155_122, e155_123, e155_126, e155_127, e155_129, e155_130, e155_131, e155_132, e155_135, e155_138, e155_139, e155_142, e155_143, e155_145, e155_147, e155_149, e155_152, e155_153, e155_156, e155_157, e155_158, e155_160, e155_161, e155_162, e155_164, e155_165, e155_168, e155_171, e155_174, e155_175, e155_177, e155_178, e155_181, e155_184, e155_185, e155_187, e155_188, e155_191, e155_192, e155_195, e155_196, e155_198, e155_199, e155_202, e155_205, e155_206, e155_208, e155_209, e155_212, e155_213, e155_214, e155_217, e155_220, e155_222, e155_225, e155_226, e155_228, e155_229, e155_232, e155_233, e155_235, e155_236, e155_237, e155_238, e155_241, e155_244, e155_246, e155_247, e155_250, e155_251, e155_253, e155_254, e155_257, e155_258, e155_260, e155_261, e155_262, e155_263, e155_266, e155_269, e155_270, e155_273, e155_274, e155_275, e155_278, e155_282, e155_285, e155_286, e155_287, e155_288, e155_291, e155_294, e155_295, e155_296, e155_298, e155_301, e155_304, e155_305, e155_308, e155_309, e155_310, e155_313, e155_316, e155_317, e155_320, e155_322, e155_323, e155_324, e155_325, e155_328, e155_329, e155_330, e155_331, e155_334, e155_335, e155_336, e155_339, e155_340, e155_341, e155_342, e155_345, e155_346, e155_349, e155_350, e155_353, e155_354, n_lt, n_le, n_eq, n_lt0, n_ge0, n_gt0, n_le0, n_eq0, m_lt, m_le, m_gt, m_ge, m_eq, m_eq', m_lt0, m_ge0, m_gt0, m_le0, m_ltm, m_lem, n_in, m_in, n_cl, n_ti, n_div, n_rem', n_dec, n_l, nI_add, pk_mul, an0, an1, decide_eq_true_eq, if_true, if_false, ite_true, ite_false, and_true, true_and, and_false, false_and, not_true, not_false_iff, or_false, false_or, or_true, true_or, eq_self, va_some, Bool.false_eq_true, reduceIte, catS_n, catS_i, catS_r, catS_l, catS_d, Nat.zero_add, Nat.add_zero, decide_true, decide_false, Nat.reduceLeDiff, cat_r, cat_i, cat_l, nle_T, nle_F, nlt_T, nlt_F, neq_T, neq_F, e111v, vV_4, vV_2, e125k, e127o, n_sub, hy]
        · have p3 := o3 (by omega)
          have p4 := (h1 (i - 2) (by omega)).2.1
          rw [hy] at p3
          simp (disch := first | assumption | omega) only [Nat.reduceAdd, mP_1, mP_0, X2_go, g4_some, stp, ldI, ldA, ldL, stI, stA, stL, o1I, o2I, o2L, brI, brII, gl, s1, s2, k1, sl, g3_sN, g3_sR, g3_sC, g3_if, g3_no, pops, b2_v, e155_0, e155_1, e155_2, e155_3, e155_4, e155_5, e155_6, e155_9, e155_10, e155_11, e155_14, e155_16, e155_19, e155_20, e155_21, e155_24, e155_27, e155_29, e155_32, e155_33, e155_34, e155_35, e155_38, e155_39, e155_42, e155_43, e155_46, e155_47, e155_50, e155_51, e155_52, e155_53, e155_57, e155_59, e155_62, e155_63, e155_64, e155_66, e155_69, e155_70, e155_71, e155_72, e155_73, e155_75, e155_78, e155_81, e155_82, e155_85, e155_86, e155_87, e155_88, e155_91, e155_94, e155_95, e155_97, e155_98, e155_102, e155_103, e155_104, e155_107, e155_110, e155_111, e155_114, e155_116, e155_119, e155_120, e155_122, e155_123, e155_126, e155_127, e155_129, e155_130, e155_131, e155_132, e155_135, e155_138, e155_139, e155_142, e155_143, e155_145, e155_147, e155_149, e155_152, e155_153, e155_156, e155_157, e155_158, e155_160, e155_161, e155_162, e155_164, e155_165, e155_168, e155_171, e155_174, e155_175, e155_177, e155_178, e155_181, e155_184, e155_185, e155_187, e155_188, e155_191, e155_192, e155_195, e155_196, e155_198, e155_199, e155_202, e155_205, e155_206, e155_208, e155_209, e155_212, e155_213, e155_214, e155_217, e155_220, e155_222, e155_225, e155_226, e155_228, e155_229, e155_232, e155_233, e155_235, e155_236, e155_237, e155_238, e155_241, e155_244, e155_246, e155_247, e155_250, e155_251, e155_253, e155_254, e155_257, e155_258, e155_260, e155_261, e155_262, e155_263, e155_266, e155_269, e155_270, e155_273, e155_274, e155_275, e155_278, e155_282, e155_285, e155_286, e155_287, e155_288, e155_291, e155_294, e155_295, e155_296, e155_298, e155_301, e155_304, e155_305, e155_308, e155_309, e155_310, e155_313, e155_316, e155_317, e155_320, e155_322, e155_323, e155_324, e155_325, e155_328, e155_329, e155_330, e155_331, e155_334, e155_335, e155_336, e155_339, e155_340, e155_341, e155_342, e155_345, e155_346, e155_349, e155_350, e155_353, e155_354, n_lt, n_le, n_eq, n_lt0, n_ge0, n_gt0, n_le0, n_eq0, m_lt, m_le, m_gt, m_ge, m_eq, m_eq', m_lt0, m_ge0, m_gt0, m_le0, m_ltm, m_lem, n_in, m_in, n_cl, n_ti, n_div, n_rem', n_dec, n_l, nI_add, pk_mul, an0, an1, decide_eq_true_eq, if_true, if_false, ite_true, ite_false, and_true, true_and, and_false, false_and, not_true, not_false_iff, or_false, false_or, or_true, true_or, eq_self, va_some, Bool.false_eq_true, reduceIte, catS_n, catS_i, catS_r, catS_l, catS_d, Nat.zero_add, Nat.add_zero, decide_true, decide_false, Nat.reduceLeDiff, cat_r, cat_i, cat_l, nle_T, nle_F, nlt_T, nlt_F, neq_T, neq_F, e111v, vV_4, vV_2, e125k, e127o, n_sub, hy]
      · rw [if_pos (.inr hy)] at e1
        have p5 : g (141 + 3 * i + 2) < g (141 + 3 * (i - 1) + 2) := by omega
        obtain ⟨v6, e⟩ := ih (i + 1) (by omega) (z := z) (n := n) (k := k) (ps := ps) (Z := Z) (u6 := .int (nI 1)) hd
        refine ⟨v6, ?_⟩
        rw [← e, e1, X2_go, e155_100]
        by_cases hx : i = 1
        · subst hx
          have g3 : 0 < g (124 + g 144) := f3
          have g4 : g (124 + g 144) ≤ g 123 := f4
          simp (disch := first | assumption | omega) only [Nat.reduceAdd, mP_1, mP_0, X2_go, g4_some, stp, ldI, ldA, ldL, stI, stA, stL, o1I, o2I, o2L, brI, brII, gl, s1, s2, k1, sl, g3_sN, g3_sR, g3_sC, g3_if, g3_no, pops, b2_v, e155_0, e155_1, e155_2, e155_3, e155_4, e155_5, e155_6, e155_9, e155_10, e155_11, e155_14, e155_16, e155_19, e155_20, e155_21, e155_24, e155_27, e155_29, e155_32, e155_33, e155_34, e155_35, e155_38, e155_39, e155_42, e155_43, e155_46, e155_47, e155_50, e155_51, e155_52, e155_53, e155_57, e155_59, e155_62, e155_63, e155_64, e155_66, e155_69, e155_70, e155_71, e155_72, e155_73, e155_75, e155_78, e155_81, e155_82, e155_85, e155_86, e155_87, e155_88, e155_91, e155_94, e155_95, e155_97, e155_98, e155_102, e155_103, e155_104, e155_107, e155_110, e155_111, e155_114, e155_116, e155_119, e155_120, e155_122, e155_123, e155_126, e155_127, e155_129, e155_130, e155_131, e155_132, e155_135, e155_138, e155_139, e155_142, e155_143, e155_145, e155_147, e155_149, e155_152, e155_153, e155_156, e155_157, e155_158, e155_160, e155_161, e155_162, e155_164, e155_165, e155_168, e155_171, e155_174, e155_175, e155_177, e155_178, e155_181, e155_184, e155_185, e155_187, e155_188, e155_191, e155_192, e155_195, e155_196, e155_198, e155_199, e155_202, e155_205, e155_206, e155_208, e155_209, e155_212, e155_213, e155_214, e155_217, e155_220, e155_222, e155_225, e155_226, e155_228, e155_229, e155_232, e155_233, e155_235, e155_236, e155_237, e155_238, e155_241, e155_244, e155_246, e155_247, e155_250, e155_251, e155_253, e155_254, e155_257, e155_258, e155_260, e155_261, e155_262, e155_263, e155_266, e155_269, e155_270, e155_273, e155_274, e155_275, e155_278, e155_282, e155_285, e155_286, e155_287, e155_288, e155_291, e155_294, e155_295, e155_296, e155_298, e155_301, e155_304, e155_305, e155_308, e155_309, e155_310, e155_313, e155_316, e155_317, e155_320, e155_322, e155_323, e155_324, e155_325, e155_328, e155_329, e155_330, e155_331, e155_334, e155_335, e155_336, e155_339, e155_340, e155_341, e155_342, e155_345, e155_346, e155_349, e155_350, e155_353, e155_354, n_lt, n_le, n_eq, n_lt0, n_ge0, n_gt0, n_le0, n_eq0, m_lt, m_le, m_gt, m_ge, m_eq, m_eq', m_lt0, m_ge0, m_gt0, m_le0, m_ltm, m_lem, n_in, m_in, n_cl, n_ti, n_div, n_rem', n_dec, n_l, nI_add, pk_mul, an0, an1, decide_eq_true_eq, if_true, if_false, ite_true, ite_false, and_true, true_and, and_false, false_and, not_true, not_false_iff, or_false, false_or, or_true, true_or, eq_self, va_some, Bool.false_eq_true, reduceIte, catS_n, catS_i, catS_r, catS_l, catS_d, Nat.zero_add, Nat.add_zero, decide_true, decide_false, Nat.reduceLeDiff, cat_r, cat_i, cat_l, nle_T, nle_F, nlt_T, nlt_F, neq_T, neq_F, e111v, vV_4, vV_2, e125k, e127o, n_sub]
        · have p3 := o3 (by omega)
          have p4 := (h1 (i - 2) (by omega)).2.1
          simp (disch := first | assumption | omega) only [Nat.reduceAdd, mP_1, mP_0, X2_go, g4_some, stp, ldI, ldA, ldL, stI, stA, stL, o1I, o2I, o2L, brI, brII, gl, s1, s2, k1, sl, g3_sN, g3_sR, g3_sC, g3_if, g3_no, pops, b2_v, e155_0, e155_1, e155_2, e155_3, e155_4, e155_5, e155_6, e155_9, e155_10, e155_11, e155_14, e155_16, e155_19, e155_20, e155_21, e155_24, e155_27, e155_29, e155_32, e155_33, e155_34, e155_35, e155_38, e155_39, e155_42, e155_43, e155_46, e155_47, e155_50, e155_51, e155_52, e155_53, e155_57, e155_59, e155_62, e155_63, e155_64, e155_66, e155_69, e155_70, e155_71, e155_72, e155_73, e155_75, e155_78, e155_81, e155_82, e155_85, e155_86, e155_87, e155_88, e155_91, e155_94, e155_95, e155_97, e155_98, e155_102, e155_103, e155_104, e155_107, e155_110, e155_111, e155_114, e155_116, e155_119, e155_120, e155_122, e155_123, e155_126, e155_127, e155_129, e155_130, e155_131, e155_132, e155_135, e155_138, e155_139, e155_142, e155_143, e155_145, e155_147, e155_149, e155_152, e155_153, e155_156, e155_157, e155_158, e155_160, e155_161, e155_162, e155_164, e155_165, e155_168, e155_171, e155_174, e155_175, e155_177, e155_178, e155_181, e155_184, e155_185, e155_187, e155_188, e155_191, e155_192, e155_195, e155_196, e155_198, e155_199, e155_202, e155_205, e155_206, e155_208, e155_209, e155_212, e155_213, e155_214, e155_217, e155_220, e155_222, e155_225, e155_226, e155_228, e155_229, e155_232, e155_233, e155_235, e155_236, e155_237, e155_238, e155_241, e155_244, e155_246, e155_247, e155_250, e155_251, e155_253, e155_254, e155_257, e155_258, e155_260, e155_261, e155_262, e155_263, e155_266, e155_269, e155_270, e155_273, e155_274, e155_275, e155_278, e155_282, e155_285, e155_286, e155_287, e155_288, e155_291, e155_294, e155_295, e155_296, e155_298, e155_301, e155_304, e155_305, e155_308, e155_309, e155_310, e155_313, e155_316, e155_317, e155_320, e155_322, e155_323, e155_324, e155_325, e155_328, e155_329, e155_330, e155_331, e155_334, e155_335, e155_336, e155_339, e155_340, e155_341, e155_342, e155_345, e155_346, e155_349, e155_350, e155_353, e155_354, n_lt, n_le, n_eq, n_lt0, n_ge0, n_gt0, n_le0, n_eq0, m_lt, m_le, m_gt, m_ge, m_eq, m_eq', m_lt0, m_ge0, m_gt0, m_le0, m_ltm, m_lem, n_in, m_in, n_cl, n_ti, n_div, n_rem', n_dec, n_l, nI_add, pk_mul, an0, an1, decide_eq_true_eq, if_true, if_false, ite_true, ite_false, and_true, true_and, and_false, false_and, not_true, not_false_iff, or_false, false_or, or_true, true_or, eq_self, va_some, Bool.false_eq_true, reduceIte, catS_n, catS_i, catS_r, catS_l, catS_d, Nat.zero_add, Nat.add_zero, decide_true, decide_false, Nat.reduceLeDiff, cat_r, cat_i, cat_l, nle_T, nle_F, nlt_T, nlt_F, neq_T, neq_F, e111v, vV_4, vV_2, e125k, e127o, n_sub]
theorem e155 {z : SX} {d : Nat} {g : GS} {n k : Nat} {ps : Nat → GS} {Z : ZT} {B : Nat} (hG : GV B g) (hP : PV g) (hB : B ≤ 1000000) (hd : 33 ≤ d) : C2 z d 155 [.ref 1] (g, n, ps, k) Z = Z (.inl (some (.int (nI 1)))) (g, n, ps, k) := by
  obtain ⟨hv, hl, hF⟩ := hG
  obtain ⟨h1, h2, h3, h4⟩ := hP
  have hc := hF.2.2.1
  have f5 := hF.2.1
  have f6 := hF.1
  have a1 := p155a hF hB 16 0 rfl (z := z) (d := d - 1) (n := n) (k := k) (ps := ps) (Z := Z) (u5 := UN) (u6 := UN) (by omega)
  obtain ⟨v6, a2⟩ := p155b (a := sm 16 (fun j => g (124 + j))) (b := dif g 16) hF h2 h3 hB (g 140) 0 (by omega) (z := z) (d := d - 1) (n := n) (k := k) (ps := ps) (Z := Z) (u6 := UN) (by omega)
  have e0 : (if g 123 < 20 then g 123 else 20) = g 140 := by split <;> omega
  have start : C2 z d 155 [.ref 1] (g, n, ps, k) Z = X2 z (d - 1) 155 55 [.ref 1, .int (nI 0), .int (nI 0), .int (nI 1), .int (nI 0), UN, UN] [] (g, n, ps, k) Z := by
    rw [C2_e (mj := 155) (e := [.ref 1, UN, UN, UN, UN, UN, UN]) rfl (by omega) rfl (Nat.le_of_ble_eq_true rfl)]
    by_cases hz : g 123 < 20
    · rw [if_pos hz] at e0
      simp (disch := first | assumption | omega) only [Nat.reduceAdd, mP_1, mP_0, X2_go, g4_some, stp, ldI, ldA, ldL, stI, stA, stL, o1I, o2I, o2L, brI, brII, gl, s1, s2, k1, sl, g3_sN, g3_sR, g3_sC, g3_if, g3_no, pops, b2_v, e155_0, e155_1, e155_2, e155_3, e155_4, e155_5, e155_6, e155_9, e155_10, e155_11, e155_14, e155_16, e155_19, e155_20, e155_21, e155_24, e155_27, e155_29, e155_32, e155_33, e155_34, e155_35, e155_38, e155_39, e155_42, e155_43, e155_46, e155_47, e155_50, e155_51, e155_52, e155_53, e155_57, e155_59, e155_62, e155_63, e155_64, e155_66, e155_69, e155_70, e155_71, e155_72, e155_73, e155_75, e155_78, e155_81, e155_82, e155_85, e155_86, e155_87, e155_88, e155_91, e155_94, e155_95, e155_97, e155_98, e155_102, e155_103, e155_104, e155_107, e155_110, e155_111, e155_114, e155_116, e155_119, e155_120, e155_122, e155_123, e155_126, e155_127, e155_129, e155_130, e155_131, e155_132, e155_135, e155_138, e155_139, e155_142, e155_143, e155_145, e155_147, e155_149, e155_152, e155_153, e155_156, e155_157, e155_158, e155_160, e155_161, e155_162, e155_164, e155_165, e155_168, e155_171, e155_174, e155_175, e155_177, e155_178, e155_181, e155_184, e155_185, e155_187, e155_188, e155_191, e155_192, e155_195, e155_196, e155_198, e155_199, e155_202, e155_205, e155_206, e155_208, e155_209, e155_212, e155_213, e155_214, e155_217, e155_220, e155_222, e155_225, e155_226, e155_228, e155_229, e155_232, e155_233, e155_235, e155_236, e155_237, e155_238, e155_241, e155_244, e155_246, e155_247, e155_250, e155_251, e155_253, e155_254, e155_257, e155_258, e155_260, e155_261, e155_262, e155_263, e155_266, e155_269, e155_270, e155_273, e155_274, e155_275, e155_278, e155_282, e155_285, e155_286, e155_287, e155_288, e155_291, e155_294, e155_295, e155_296, e155_298, e155_301, e155_304, e155_305, e155_308, e155_309, e155_310, e155_313, e155_316, e155_317, e155_320, e155_322, e155_323, e155_324, e155_325, e155_328, e155_329, e155_330, e155_331, e155_334, e155_335, e155_336, e155_339, e155_340, e155_341, e155_342, e155_345, e155_346, e155_349, e155_350, e155_353, e155_354, n_lt, n_le, n_eq, n_lt0, n_ge0, n_gt0, n_le0, n_eq0, m_lt, m_le, m_gt, m_ge, m_eq, m_eq', m_lt0, m_ge0, m_gt0, m_le0, m_ltm, m_lem, n_in, m_in, n_cl, n_ti, n_div, n_rem', n_dec, n_l, nI_add, pk_mul, an0, an1, decide_eq_true_eq, if_true, if_false, ite_true, ite_false, and_true, true_and, and_false, false_and, not_true, not_false_iff, or_false, false_or, or_true, true_or, eq_self, va_some, Bool.false_eq_true, reduceIte, catS_n, catS_i, catS_r, catS_l, catS_d, Nat.zero_add, Nat.add_zero, decide_true, decide_false, Nat.reduceLeDiff, cat_r, cat_i, cat_l, nle_T, nle_F, nlt_T, nlt_F, neq_T, neq_F, e111v, vV_4, vV_3, e125n, e0, hz]
    · rw [if_neg hz] at e0
      simp (disch := first | assumption | omega) only [Nat.reduceAdd, mP_1, mP_0, X2_go, g4_some, stp, ldI, ldA, ldL, stI, stA, stL, o1I, o2I, o2L, brI, brII, gl, s1, s2, k1, sl, g3_sN, g3_sR, g3_sC, g3_if, g3_no, pops, b2_v, e155_0, e155_1, e155_2, e155_3, e155_4, e155_5, e155_6, e155_9, e155_10, e155_11, e155_14, e155_16, e155_19, e155_20, e155_21, e155_24, e155_27, e155_29, e155_32, e155_33, e155_34, e155_35, e155_38, e155_39, e155_42, e155_43, e155_46, e155_47, e155_50, e155_51, e155_52, e155_53, e155_57, e155_59, e155_62, e155_63, e155_64, e155_66, e155_69, e155_70, e155_71, e155_72, e155_73, e155_75, e155_78, e155_81, e155_82, e155_85, e155_86, e155_87, e155_88, e155_91, e155_94, e155_95, e155_97, e155_98, e155_102, e155_103, e155_104, e155_107, e155_110, e155_111, e155_114, e155_116, e155_119, e155_120, e155_122, e155_123, e155_126, e155_127, e155_129, e155_130, e155_131, e155_132, e155_135, e155_138, e155_139, e155_142, e155_143, e155_145, e155_147, e155_149, e155_152, e155_153, e155_156, e155_157, e155_158, e155_160, e155_161, e155_162, e155_164, e155_165, e155_168, e155_171, e155_174, e155_175, e155_177, e155_178, e155_181, e155_184, e155_185, e155_187, e155_188, e155_191, e155_192, e155_195, e155_196, e155_198, e155_199, e155_202, e155_205, e155_206, e155_208, e155_209, e155_212, e155_213, e155_214, e155_217, e155_220, e155_222, e155_225, e155_226, e155_228, e155_229, e155_232, e155_233, e155_235, e155_236, e155_237, e155_238, e155_241, e155_244, e155_246, e155_247, e155_250, e155_251, e155_253, e155_254, e155_257, e155_258, e155_260, e155_261, e155_262, e155_263, e155_266, e155_269, e155_270, e155_273, e155_274, e155_275, e155_278, e155_282, e155_285, e155_286, e155_287, e155_288, e155_291, e155_294, e155_295, e155_296, e155_298, e155_301, e155_304, e155_305, e155_308, e155_309, e155_310, e155_313, e155_316, e155_317, e155_320, e155_322, e155_323, e155_324, e155_325, e155_328, e155_329, e155_330, e155_331, e155_334, e155_335, e155_336, e155_339, e155_340, e155_341, e155_342, e155_345, e155_346, e155_349, e155_350, e155_353, e155_354, n_lt, n_le, n_eq, n_lt0, n_ge0, n_gt0, n_le0, n_eq0, m_lt, m_le, m_gt, m_ge, m_eq, m_eq', m_lt0, m_ge0, m_gt0, m_le0, m_ltm, m_lem, n_in, m_in, n_cl, n_ti, n_div, n_rem', n_dec, n_l, nI_add, pk_mul, an0, an1, decide_eq_true_eq, if_true, if_false, ite_true, ite_false, and_true, true_and, and_false, false_and, not_true, not_false_iff, or_false, false_or, or_true, true_or, eq_self, va_some, Bool.false_eq_true, reduceIte, catS_n, catS_i, catS_r, catS_l, catS_d, Nat.zero_add, Nat.add_zero, decide_true, decide_false, Nat.reduceLeDiff, cat_r, cat_i, cat_l, nle_T, nle_F, nlt_T, nlt_F, neq_T, neq_F, e111v, vV_4, vV_3, e125n, e0, hz]
  have e1 : sm 0 (fun j => g (124 + j)) = 0 := rfl
  have e2 : dif g 0 = 0 := rfl
  have e3 : difO g 0 = 0 := rfl
  rw [e1, e2] at a1
  rw [e3] at a2
  rw [start, a1, a2, h2.1, X2_go, e155_281]
  have hdf : dif g 16 ≤ 16 := by
    have := sm_le (n := 16) (b := 1) (f := fun i => if 0 < g (124 + i) then 1 else 0) (fun i _ => by split <;> omega)
    unfold dif
    omega
  have hdo := difO_b (g := g) (n := g 140)
  by_cases hz : g 122 = 0
  · have hls : lsV g = FP.dconst0 := if_pos hz
    have hdc : (Op.cmpValue (FP.dcmp FP.dconst0 FP.dconst0) .l = 0) = True := dcmp_eq (by decide)
    have h9 : g 123 = 0 := by omega
    simp (disch := first | assumption | omega) only [Nat.reduceAdd, mP_1, mP_0, X2_go, g4_some, stp, ldI, ldA, ldL, stI, stA, stL, o1I, o2I, o2L, brI, brII, gl, s1, s2, k1, sl, g3_sN, g3_sR, g3_sC, g3_if, g3_no, pops, b2_v, e155_0, e155_1, e155_2, e155_3, e155_4, e155_5, e155_6, e155_9, e155_10, e155_11, e155_14, e155_16, e155_19, e155_20, e155_21, e155_24, e155_27, e155_29, e155_32, e155_33, e155_34, e155_35, e155_38, e155_39, e155_42, e155_43, e155_46, e155_47, e155_50, e155_51, e155_52, e155_53, e155_57, e155_59, e155_62, e155_63, e155_64, e155_66, e155_69, e155_70, e155_71, e155_72, e155_73, e155_75, e155_78, e155_81, e155_82, e155_85, e155_86, e155_87, e155_88, e155_91, e155_94, e155_95, e155_97, e155_98, e155_102, e155_103, e155_104, e155_107, e155_110, e155_111, e155_114, e155_116, e155_119, e155_120, e155_122, e155_123, e155_126, e155_127, e155_129, e155_130, e155_131, e155_132, e155_135, e155_138, e155_139, e155_142, e155_143, e155_145, e155_147, e155_149, e155_152, e155_153, e155_156, e155_157, e155_158, e155_160, e155_161, e155_162, e155_164, e155_165, e155_168, e155_171, e155_174, e155_175, e155_177, e155_178, e155_181, e155_184, e155_185, e155_187, e155_188, e155_191, e155_192, e155_195, e155_196, e155_198, e155_199, e155_202, e155_205, e155_206, e155_208, e155_209, e155_212, e155_213, e155_214, e155_217, e155_220, e155_222, e155_225, e155_226, e155_228, e155_229, e155_232, e155_233, e155_235, e155_236, e155_237, e155_238, e155_241, e155_244, e155_246, e155_247, e155_250, e155_251, e155_253, e155_254, e155_257, e155_258, e155_260, e155_261, e155_262, e155_263, e155_266, e155_269, e155_270, e155_273, e155_274, e155_275, e155_278, e155_282, e155_285, e155_286, e155_287, e155_288, e155_291, e155_294, e155_295, e155_296, e155_298, e155_301, e155_304, e155_305, e155_308, e155_309, e155_310, e155_313, e155_316, e155_317, e155_320, e155_322, e155_323, e155_324, e155_325, e155_328, e155_329, e155_330, e155_331, e155_334, e155_335, e155_336, e155_339, e155_340, e155_341, e155_342, e155_345, e155_346, e155_349, e155_350, e155_353, e155_354, n_lt, n_le, n_eq, n_lt0, n_ge0, n_gt0, n_le0, n_eq0, m_lt, m_le, m_gt, m_ge, m_eq, m_eq', m_lt0, m_ge0, m_gt0, m_le0, m_ltm, m_lem, n_in, m_in, n_cl, n_ti, n_div, n_rem', n_dec, n_l, nI_add, pk_mul, an0, an1, decide_eq_true_eq, if_true, if_false, ite_true, ite_false, and_true, true_and, and_false, false_and, not_true, not_false_iff, or_false, false_or, or_true, true_or, eq_self, va_some, Bool.false_eq_true, reduceIte, catS_n, catS_i, catS_r, catS_l, catS_d, Nat.zero_add, Nat.add_zero, decide_true, decide_false, Nat.reduceLeDiff, cat_r, cat_i, cat_l, nle_T, nle_F, nlt_T, nlt_F, neq_T, neq_F, e111v, vV_3, vV_7, vV_2, e31, hls, hz, hdc, h9]
  · have hls : lsV g = FP.ddiv (FP.i2d (nI (difO g (g 140)))) (FP.i2d (nI (g 122))) := if_neg hz
    have hnn := dd_ok (a := difO g (g 140)) (b := g 122) (by omega) (by omega) (by omega)
    have hdc := dcmp_eq (dd_nn (a := difO g (g 140)) (b := g 122) (by omega) (by omega) (by omega))
    simp (disch := first | assumption | omega) only [Nat.reduceAdd, mP_1, mP_0, X2_go, g4_some, stp, ldI, ldA, ldL, stI, stA, stL, o1I, o2I, o2L, brI, brII, gl, s1, s2, k1, sl, g3_sN, g3_sR, g3_sC, g3_if, g3_no, pops, b2_v, e155_0, e155_1, e155_2, e155_3, e155_4, e155_5, e155_6, e155_9, e155_10, e155_11, e155_14, e155_16, e155_19, e155_20, e155_21, e155_24, e155_27, e155_29, e155_32, e155_33, e155_34, e155_35, e155_38, e155_39, e155_42, e155_43, e155_46, e155_47, e155_50, e155_51, e155_52, e155_53, e155_57, e155_59, e155_62, e155_63, e155_64, e155_66, e155_69, e155_70, e155_71, e155_72, e155_73, e155_75, e155_78, e155_81, e155_82, e155_85, e155_86, e155_87, e155_88, e155_91, e155_94, e155_95, e155_97, e155_98, e155_102, e155_103, e155_104, e155_107, e155_110, e155_111, e155_114, e155_116, e155_119, e155_120, e155_122, e155_123, e155_126, e155_127, e155_129, e155_130, e155_131, e155_132, e155_135, e155_138, e155_139, e155_142, e155_143, e155_145, e155_147, e155_149, e155_152, e155_153, e155_156, e155_157, e155_158, e155_160, e155_161, e155_162, e155_164, e155_165, e155_168, e155_171, e155_174, e155_175, e155_177, e155_178, e155_181, e155_184, e155_185, e155_187, e155_188, e155_191, e155_192, e155_195, e155_196, e155_198, e155_199, e155_202, e155_205, e155_206, e155_208, e155_209, e155_212, e155_213, e155_214, e155_217, e155_220, e155_222, e155_225, e155_226, e155_228, e155_229, e155_232, e155_233, e155_235, e155_236, e155_237, e155_238, e155_241, e155_244, e155_246, e155_247, e155_250, e155_251, e155_253, e155_254, e155_257, e155_258, e155_260, e155_261, e155_262, e155_263, e155_266, e155_269, e155_270, e155_273, e155_274, e155_275, e155_278, e155_282, e155_285, e155_286, e155_287, e155_288, e155_291, e155_294, e155_295, e155_296, e155_298, e155_301, e155_304, e155_305, e155_308, e155_309, e155_310, e155_313, e155_316, e155_317, e155_320, e155_322, e155_323, e155_324, e155_325, e155_328, e155_329, e155_330, e155_331, e155_334, e155_335, e155_336, e155_339, e155_340, e155_341, e155_342, e155_345, e155_346, e155_349, e155_350, e155_353, e155_354, n_lt, n_le, n_eq, n_lt0, n_ge0, n_gt0, n_le0, n_eq0, m_lt, m_le, m_gt, m_ge, m_eq, m_eq', m_lt0, m_ge0, m_gt0, m_le0, m_ltm, m_lem, n_in, m_in, n_cl, n_ti, n_div, n_rem', n_dec, n_l, nI_add, pk_mul, an0, an1, decide_eq_true_eq, if_true, if_false, ite_true, ite_false, and_true, true_and, and_false, false_and, not_true, not_false_iff, or_false, false_or, or_true, true_or, eq_self, va_some, Bool.false_eq_true, reduceIte, catS_n, catS_i, catS_r, catS_l, catS_d, Nat.zero_add, Nat.add_zero, decide_true, decide_false, Nat.reduceLeDiff, cat_r, cat_i, cat_l, nle_T, nle_F, nlt_T, nlt_F, neq_T, neq_F, e111v, vV_3, vV_7, vV_2, e31, hls, hz, hdc, hnn]
