/-! THE LAW: what it does -/
theorem PV_g {g g' : GS} {B : Nat} (hF : FV B g) (hk : ∀ k, 122 ≤ k → k < 201 → g' k = g k) (hT : TP g') (h : PV g) : PV g' := by
  obtain ⟨h1, h2, h3, h4⟩ := h
  have hc := FV_140 hF
  refine ⟨hT, FP0_g hk hc (fun i hi => (hF.2.2.2.2 i hi).1) h2, OD_g (fun k a b => hk k (by omega) b) (by rw [hk 122 (by omega) (by omega)]; exact Nat.le_refl _) hc h3, ?_⟩
  rw [hk 122 (by omega) (by omega), hk 123 (by omega) (by omega)]
  exact h4
theorem TP_e {g g' : GS} (hv : TV g) (hc : ∀ t, t < 3 → g' (3 + t) = g (3 + t)) (h4 : ∀ t e, t < 3 → e < 6 → g' (cl t e 4) = g (cl t e 4)) (h5 : ∀ t e, t < 3 → e < 6 → g' (cl t e 5) = g (cl t e 5)) (h : TP g) : TP g' := by
  intro t e ht he
  rw [hc t ht] at he
  have h6 := hv.2.1 t ht
  rw [h4 t e ht (by omega), h5 t e ht (by omega)]
  exact h t e ht he
theorem TP_ud {g : GS} {c v : Nat} (hv : TV g) (hc : c < 3 ∨ 114 ≤ c ∨ ∃ t e, t < 3 ∧ e < 6 ∧ c = cl t e 1) (h : TP g) : TP (ud g c v) := by
  have hne : ∀ t e f, t < 3 → e < 6 → (f = 4 ∨ f = 5) → cl t e f ≠ c := by
    intro t e f ht he hf
    rcases hc with q | q | ⟨t', e', ht', he', q⟩
    · unfold cl; omega
    · have := cl_lt (f := f) ht he (by omega); omega
    · rw [q]; exact cl_ne he (by omega) he' (by omega) (by omega)
  have hn3 : ∀ t, t < 3 → 3 + t ≠ c := by
    intro t ht
    rcases hc with q | q | ⟨t', e', ht', he', q⟩
    · omega
    · omega
    · rw [q]; unfold cl; omega
  exact TP_e hv (fun t ht => ud_n (hn3 t ht)) (fun t e ht he => ud_n (hne t e 4 ht he (.inl rfl))) (fun t e ht he => ud_n (hne t e 5 ht he (.inr rfl))) h
theorem TP_add {g : GS} {t w we ra gr on : Nat} (hv : TV g) (ht : t < 3) (hc : g (3 + t) < 6) (h : TP g) : TP (addG g t w we ra gr on) := by
  intro t' e' ht' he'
  rw [addG_c ht'] at he'
  have h6 := hv.2.1 t' ht'
  by_cases z : t' = t ∧ e' = g (3 + t)
  · obtain ⟨rfl, rfl⟩ := z
    have e5 : addG g t' w we ra gr on (cl t' (g (3 + t')) 5) = 0 := by
      unfold addG cl
      simp (disch := omega) only [ud_n, ud_s]
    rw [e5]
    exact Nat.zero_le _
  · have he6 : e' < g (3 + t') := by
      by_cases q : t' = t
      · subst q
        rw [if_pos rfl] at he'
        have : e' ≠ g (3 + t') := fun y => z ⟨rfl, y⟩
        omega
      · rw [if_neg q] at he'; exact he'
    rw [addG_e ht ht' hc (by omega) (by omega) z, addG_e ht ht' hc (by omega) (by omega) z]
    exact h t' e' ht' he6
theorem TP_rem {g : GS} {t e : Nat} (hv : TV g) (ht : t < 3) (he : e < g (3 + t)) (h : TP g) : TP (remG g t e) := by
  intro t' e' ht' he'
  rw [remG_c ht'] at he'
  have h6 := hv.2.1 t ht
  have h6' := hv.2.1 t' ht'
  have he6 : e' < g (3 + t') := by
    by_cases z : t' = t
    · subst z; rw [if_pos rfl] at he'; omega
    · rw [if_neg z] at he'; exact he'
  rw [remG_e ht ht' h6 (by omega) (by omega), remG_e ht ht' h6 (by omega) (by omega)]
  by_cases z : t' = t ∧ e ≤ e' ∧ e' < g (3 + t) - 1
  · rw [if_pos z, if_pos z]
    obtain ⟨rfl, z1, z2⟩ := z
    exact h t' (e' + 1) ht' (by omega)
  · rw [if_neg z, if_neg z]
    exact h t' e' ht' he6
theorem TP_res {g : GS} (hv : TV g) : TP (resG g) := by
  intro t e ht he
  rw [resG_o (by omega)] at he
  have h6 := hv.2.1 t ht
  rw [resG_5 ht he (by omega)]
  exact Nat.zero_le _
/-- an exception, or a change that can be undone -/
def AR (B : Nat) (g : GS) (n : Nat) (ps : Nat → GS) (k : Nat) (r : Int32) (S : LW) : Prop := (S = (g, n, ps, k + 1) ∧ (r = nI 4289967295 ∨ r = nI 4289967294 ∨ r = nI 4289967293)) ∨ ∃ a w g', r = nI a ∧ a < 2147483648 ∧ w ≤ 30 ∧ S = (g', puN n, puS n ps g, k + w) ∧ GV (B + w) g' ∧ PV g'
/-- from here, what is done -/
def AX (z : SX) (d pc : Nat) (x : Int32) (y B : Nat) (g : GS) (n : Nat) (ps : Nat → GS) (k : Nat) (Z : ZT) : Prop := ∃ (r : Int32) (S : LW), X2 z d 159 pc [.ref 1, .int x, .int (nI y), .int (nI (y % 3)), .int (nI (g (3 + y % 3)))] [] (g, n, ps, k) Z = Z (.inl (some (.int r))) S ∧ AR B g n ps k r S
theorem e159_0 : dek 159 0 = some (.iload_n 2, 1, []) := rfl
theorem e159_1 : dek 159 1 = some (.iconst 3, 1, [3]) := rfl
theorem e159_2 : dek 159 2 = some (.irem, 1, []) := rfl
theorem e159_3 : dek 159 3 = some (.istore_n 3, 1, []) := rfl
theorem e159_4 : dek 159 4 = some (.aload_n 0, 1, []) := rfl
theorem e159_5 : dek 159 5 = some (.iload_n 3, 1, []) := rfl
theorem e159_6 : dek 159 6 = some (.iconst 1, 1, [1]) := rfl
theorem e159_7 : dek 159 7 = some (.invokestatic 108, 3, [2, 100, 0, 14, 0, 499, 0, 0, 2]) := rfl
theorem e159_10 : dek 159 10 = some (.istore 4, 2, []) := rfl
theorem e159_12 : dek 159 12 = some (.iload_n 1, 1, []) := rfl
theorem e159_13 : dek 159 13 = some (.bipush 18, 2, [18]) := rfl
theorem e159_15 : dek 159 15 = some (.invokestatic 171, 3, [2, 151, 0, 14, 0, 299, 0, 0]) := rfl
theorem e159_18 : dek 159 18 = some (.tableswitch 323 0 13 #[70, 70, 70, 70, 189, 210, 240, 245, 245, 258, 272, 286, 309, 309], 70, []) := rfl
theorem e159_88 : dek 159 88 = some (.aload_n 0, 1, []) := rfl
theorem e159_89 : dek 159 89 = some (.iload_n 3, 1, []) := rfl
theorem e159_90 : dek 159 90 = some (.iload_n 2, 1, []) := rfl
theorem e159_91 : dek 159 91 = some (.iconst 3, 1, [3]) := rfl
theorem e159_92 : dek 159 92 = some (.idiv, 1, []) := rfl
theorem e159_93 : dek 159 93 = some (.iconst 4, 1, [4]) := rfl
theorem e159_94 : dek 159 94 = some (.irem, 1, []) := rfl
theorem e159_95 : dek 159 95 = some (.ifCond .ne 15, 3, [110]) := rfl
theorem e159_98 : dek 159 98 = some (.bipush 16, 2, [16]) := rfl
theorem e159_100 : dek 159 100 = some (.iload_n 2, 1, []) := rfl
theorem e159_101 : dek 159 101 = some (.bipush 12, 2, [12]) := rfl
theorem e159_103 : dek 159 103 = some (.idiv, 1, []) := rfl
theorem e159_104 : dek 159 104 = some (.iconst 3, 1, [3]) := rfl
theorem e159_105 : dek 159 105 = some (.irem, 1, []) := rfl
theorem e159_106 : dek 159 106 = some (.iadd, 1, []) := rfl
theorem e159_107 : dek 159 107 = some (.goto 10, 3, [117]) := rfl
theorem e159_110 : dek 159 110 = some (.iload_n 2, 1, []) := rfl
theorem e159_111 : dek 159 111 = some (.bipush 12, 2, [12]) := rfl
theorem e159_113 : dek 159 113 = some (.idiv, 1, []) := rfl
theorem e159_114 : dek 159 114 = some (.bipush 8, 2, [8]) := rfl
theorem e159_116 : dek 159 116 = some (.irem, 1, []) := rfl
theorem e159_117 : dek 159 117 = some (.iload_n 2, 1, []) := rfl
theorem e159_118 : dek 159 118 = some (.bipush 96, 2, [96]) := rfl
theorem e159_120 : dek 159 120 = some (.idiv, 1, []) := rfl
theorem e159_121 : dek 159 121 = some (.iconst 5, 1, [5]) := rfl
theorem e159_122 : dek 159 122 = some (.irem, 1, []) := rfl
theorem e159_123 : dek 159 123 = some (.ifCond .ne 17, 3, [140]) := rfl
theorem e159_126 : dek 159 126 = some (.iconst 1, 1, [1]) := rfl
theorem e159_127 : dek 159 127 = some (.iload_n 2, 1, []) := rfl
theorem e159_128 : dek 159 128 = some (.sipush 480, 3, [480]) := rfl
theorem e159_131 : dek 159 131 = some (.idiv, 1, []) := rfl
theorem e159_132 : dek 159 132 = some (.sipush 1000, 3, [1000]) := rfl
theorem e159_135 : dek 159 135 = some (.irem, 1, []) := rfl
theorem e159_136 : dek 159 136 = some (.iadd, 1, []) := rfl
theorem e159_137 : dek 159 137 = some (.goto 13, 3, [150]) := rfl
theorem e159_140 : dek 159 140 = some (.iconst 1, 1, [1]) := rfl
theorem e159_141 : dek 159 141 = some (.iload_n 2, 1, []) := rfl
theorem e159_142 : dek 159 142 = some (.sipush 480, 3, [480]) := rfl
theorem e159_145 : dek 159 145 = some (.idiv, 1, []) := rfl
theorem e159_146 : dek 159 146 = some (.bipush 12, 2, [12]) := rfl
theorem e159_148 : dek 159 148 = some (.irem, 1, []) := rfl
theorem e159_149 : dek 159 149 = some (.iadd, 1, []) := rfl
theorem e159_150 : dek 159 150 = some (.iload_n 2, 1, []) := rfl
theorem e159_151 : dek 159 151 = some (.iconst 3, 1, [3]) := rfl
theorem e159_152 : dek 159 152 = some (.idiv, 1, []) := rfl
theorem e159_153 : dek 159 153 = some (.iconst 4, 1, [4]) := rfl
theorem e159_154 : dek 159 154 = some (.irem, 1, []) := rfl
theorem e159_155 : dek 159 155 = some (.ifCond .ne 7, 3, [162]) := rfl
theorem e159_158 : dek 159 158 = some (.iconst 0, 1, [0]) := rfl
theorem e159_159 : dek 159 159 = some (.goto 9, 3, [168]) := rfl
theorem e159_162 : dek 159 162 = some (.iload_n 2, 1, []) := rfl
theorem e159_163 : dek 159 163 = some (.bipush 7, 2, [7]) := rfl
theorem e159_165 : dek 159 165 = some (.idiv, 1, []) := rfl
theorem e159_166 : dek 159 166 = some (.iconst 4, 1, [4]) := rfl
theorem e159_167 : dek 159 167 = some (.irem, 1, []) := rfl
theorem e159_168 : dek 159 168 = some (.iload_n 2, 1, []) := rfl
theorem e159_169 : dek 159 169 = some (.bipush 11, 2, [11]) := rfl
theorem e159_171 : dek 159 171 = some (.idiv, 1, []) := rfl
theorem e159_172 : dek 159 172 = some (.bipush 6, 2, [6]) := rfl
theorem e159_174 : dek 159 174 = some (.irem, 1, []) := rfl
theorem e159_175 : dek 159 175 = some (.iconst 3, 1, [3]) := rfl
theorem e159_176 : dek 159 176 = some (.if_icmp .ge 7, 3, [183]) := rfl
theorem e159_179 : dek 159 179 = some (.iconst 0, 1, [0]) := rfl
theorem e159_180 : dek 159 180 = some (.goto 12, 3, [192]) := rfl
theorem e159_183 : dek 159 183 = some (.iload_n 2, 1, []) := rfl
theorem e159_184 : dek 159 184 = some (.bipush 11, 2, [11]) := rfl
theorem e159_186 : dek 159 186 = some (.idiv, 1, []) := rfl
theorem e159_187 : dek 159 187 = some (.bipush 6, 2, [6]) := rfl
theorem e159_189 : dek 159 189 = some (.irem, 1, []) := rfl
theorem e159_190 : dek 159 190 = some (.iconst 2, 1, [2]) := rfl
theorem e159_191 : dek 159 191 = some (.isub, 1, []) := rfl
theorem e159_192 : dek 159 192 = some (.iload_n 2, 1, []) := rfl
theorem e159_193 : dek 159 193 = some (.iconst 5, 1, [5]) := rfl
theorem e159_194 : dek 159 194 = some (.irem, 1, []) := rfl
theorem e159_195 : dek 159 195 = some (.ifCond .ne 7, 3, [202]) := rfl
theorem e159_198 : dek 159 198 = some (.iconst 1, 1, [1]) := rfl
theorem e159_199 : dek 159 199 = some (.goto 4, 3, [203]) := rfl
theorem e159_202 : dek 159 202 = some (.iconst 0, 1, [0]) := rfl
theorem e159_203 : dek 159 203 = some (.invokestatic 125, 3, [2, 89, 0, 14, 0, 655, 0, 0, 0, 0, 0, 0, 2]) := rfl
theorem e159_206 : dek 159 206 = some (.ireturn, 1, [0]) := rfl
theorem e159_207 : dek 159 207 = some (.aload_n 0, 1, []) := rfl
theorem e159_208 : dek 159 208 = some (.iload_n 3, 1, []) := rfl
theorem e159_209 : dek 159 209 = some (.iload 4, 2, []) := rfl
theorem e159_211 : dek 159 211 = some (.ifCond .ne 7, 3, [218]) := rfl
theorem e159_214 : dek 159 214 = some (.iconst 0, 1, [0]) := rfl
theorem e159_215 : dek 159 215 = some (.goto 9, 3, [224]) := rfl
theorem e159_218 : dek 159 218 = some (.iload_n 2, 1, []) := rfl
theorem e159_219 : dek 159 219 = some (.iconst 3, 1, [3]) := rfl
theorem e159_220 : dek 159 220 = some (.idiv, 1, []) := rfl
theorem e159_221 : dek 159 221 = some (.iload 4, 2, []) := rfl
theorem e159_223 : dek 159 223 = some (.irem, 1, []) := rfl
theorem e159_224 : dek 159 224 = some (.invokestatic 128, 3, [2, 91, 0, 14, 0, 677, 0, 0, 2]) := rfl
theorem e159_227 : dek 159 227 = some (.ireturn, 1, [0]) := rfl
theorem e159_228 : dek 159 228 = some (.aload_n 0, 1, []) := rfl
theorem e159_229 : dek 159 229 = some (.iload_n 3, 1, []) := rfl
theorem e159_230 : dek 159 230 = some (.iload 4, 2, []) := rfl
theorem e159_232 : dek 159 232 = some (.ifCond .ne 7, 3, [239]) := rfl
theorem e159_235 : dek 159 235 = some (.iconst 0, 1, [0]) := rfl
theorem e159_236 : dek 159 236 = some (.goto 9, 3, [245]) := rfl
theorem e159_239 : dek 159 239 = some (.iload_n 2, 1, []) := rfl
theorem e159_240 : dek 159 240 = some (.iconst 3, 1, [3]) := rfl
theorem e159_241 : dek 159 241 = some (.idiv, 1, []) := rfl
theorem e159_242 : dek 159 242 = some (.iload 4, 2, []) := rfl
theorem e159_244 : dek 159 244 = some (.irem, 1, []) := rfl
theorem e159_245 : dek 159 245 = some (.iconst 1, 1, [1]) := rfl
theorem e159_246 : dek 159 246 = some (.iload_n 2, 1, []) := rfl
theorem e159_247 : dek 159 247 = some (.bipush 20, 2, [20]) := rfl
theorem e159_249 : dek 159 249 = some (.idiv, 1, []) := rfl
theorem e159_250 : dek 159 250 = some (.bipush 40, 2, [40]) := rfl
theorem e159_252 : dek 159 252 = some (.irem, 1, []) := rfl
theorem e159_253 : dek 159 253 = some (.iadd, 1, []) := rfl
theorem e159_254 : dek 159 254 = some (.invokestatic 130, 3, [2, 96, 0, 14, 0, 692, 0, 0, 0, 2]) := rfl
theorem e159_257 : dek 159 257 = some (.ireturn, 1, [0]) := rfl
theorem e159_258 : dek 159 258 = some (.aload_n 0, 1, []) := rfl
theorem e159_259 : dek 159 259 = some (.invokevirtual 174, 3, [2, 10, 2, 9, 0, 935]) := rfl
theorem e159_262 : dek 159 262 = some (.ireturn, 1, [0]) := rfl
theorem e159_263 : dek 159 263 = some (.aload_n 0, 1, []) := rfl
theorem e159_264 : dek 159 264 = some (.iload_n 3, 1, []) := rfl
theorem e159_265 : dek 159 265 = some (.iconst 1, 1, [1]) := rfl
theorem e159_266 : dek 159 266 = some (.iload_n 2, 1, []) := rfl
theorem e159_267 : dek 159 267 = some (.iconst 3, 1, [3]) := rfl
theorem e159_268 : dek 159 268 = some (.idiv, 1, []) := rfl
theorem e159_269 : dek 159 269 = some (.iconst 2, 1, [2]) := rfl
theorem e159_270 : dek 159 270 = some (.irem, 1, []) := rfl
theorem e159_271 : dek 159 271 = some (.iadd, 1, []) := rfl
theorem e159_272 : dek 159 272 = some (.invokestatic 123, 3, [2, 84, 0, 14, 0, 634, 0, 0, 2]) := rfl
theorem e159_275 : dek 159 275 = some (.ireturn, 1, [0]) := rfl
theorem e159_276 : dek 159 276 = some (.aload_n 0, 1, []) := rfl
theorem e159_277 : dek 159 277 = some (.iconst 1, 1, [1]) := rfl
theorem e159_278 : dek 159 278 = some (.iload_n 3, 1, []) := rfl
theorem e159_279 : dek 159 279 = some (.iadd, 1, []) := rfl
theorem e159_280 : dek 159 280 = some (.iload_n 2, 1, []) := rfl
theorem e159_281 : dek 159 281 = some (.iconst 3, 1, [3]) := rfl
theorem e159_282 : dek 159 282 = some (.idiv, 1, []) := rfl
theorem e159_283 : dek 159 283 = some (.bipush 20, 2, [20]) := rfl
theorem e159_285 : dek 159 285 = some (.irem, 1, []) := rfl
theorem e159_286 : dek 159 286 = some (.invokestatic 132, 3, [2, 102, 0, 14, 0, 699, 0, 0, 2]) := rfl
theorem e159_289 : dek 159 289 = some (.ireturn, 1, [0]) := rfl
theorem e159_290 : dek 159 290 = some (.aload_n 0, 1, []) := rfl
theorem e159_291 : dek 159 291 = some (.iconst 1, 1, [1]) := rfl
theorem e159_292 : dek 159 292 = some (.iload_n 3, 1, []) := rfl
theorem e159_293 : dek 159 293 = some (.iadd, 1, []) := rfl
theorem e159_294 : dek 159 294 = some (.iload_n 2, 1, []) := rfl
theorem e159_295 : dek 159 295 = some (.iconst 3, 1, [3]) := rfl
theorem e159_296 : dek 159 296 = some (.idiv, 1, []) := rfl
theorem e159_297 : dek 159 297 = some (.bipush 12, 2, [12]) := rfl
theorem e159_299 : dek 159 299 = some (.irem, 1, []) := rfl
theorem e159_300 : dek 159 300 = some (.invokestatic 134, 3, [2, 105, 0, 14, 0, 706, 0, 0, 2]) := rfl
theorem e159_303 : dek 159 303 = some (.ireturn, 1, [0]) := rfl
theorem e159_304 : dek 159 304 = some (.aload_n 0, 1, []) := rfl
theorem e159_305 : dek 159 305 = some (.iload_n 2, 1, []) := rfl
theorem e159_306 : dek 159 306 = some (.bipush 51, 2, [51]) := rfl
theorem e159_308 : dek 159 308 = some (.irem, 1, []) := rfl
theorem e159_309 : dek 159 309 = some (.iload_n 2, 1, []) := rfl
theorem e159_310 : dek 159 310 = some (.bipush 51, 2, [51]) := rfl
theorem e159_312 : dek 159 312 = some (.idiv, 1, []) := rfl
theorem e159_313 : dek 159 313 = some (.iconst 2, 1, [2]) := rfl
theorem e159_314 : dek 159 314 = some (.irem, 1, []) := rfl
theorem e159_315 : dek 159 315 = some (.ifCond .ne 7, 3, [322]) := rfl
theorem e159_318 : dek 159 318 = some (.iconst (-1), 1, [4294967295]) := rfl
theorem e159_319 : dek 159 319 = some (.goto 4, 3, [323]) := rfl
theorem e159_322 : dek 159 322 = some (.iload_n 2, 1, []) := rfl
theorem e159_323 : dek 159 323 = some (.invokestatic 136, 3, [2, 107, 0, 14, 0, 713, 0, 0, 2]) := rfl
theorem e159_326 : dek 159 326 = some (.ireturn, 1, [0]) := rfl
theorem e159_327 : dek 159 327 = some (.aload_n 0, 1, []) := rfl
theorem e159_328 : dek 159 328 = some (.iload_n 3, 1, []) := rfl
theorem e159_329 : dek 159 329 = some (.iconst 1, 1, [1]) := rfl
theorem e159_330 : dek 159 330 = some (.iload_n 2, 1, []) := rfl
theorem e159_331 : dek 159 331 = some (.iconst 3, 1, [3]) := rfl
theorem e159_332 : dek 159 332 = some (.idiv, 1, []) := rfl
theorem e159_333 : dek 159 333 = some (.bipush 30, 2, [30]) := rfl
theorem e159_335 : dek 159 335 = some (.irem, 1, []) := rfl
theorem e159_336 : dek 159 336 = some (.iadd, 1, []) := rfl
theorem e159_337 : dek 159 337 = some (.invokestatic 140, 3, [2, 123, 0, 14, 0, 784, 0, 0, 2]) := rfl
theorem e159_340 : dek 159 340 = some (.ireturn, 1, [0]) := rfl
theorem e159_341 : dek 159 341 = some (.aload_n 0, 1, []) := rfl
theorem e159_342 : dek 159 342 = some (.iload_n 3, 1, []) := rfl
theorem e159_343 : dek 159 343 = some (.invokestatic 138, 3, [2, 113, 0, 14, 0, 721, 0, 2]) := rfl
theorem e159_346 : dek 159 346 = some (.ireturn, 1, [0]) := rfl
theorem t159_18_0 {ls st : List Value} {P : MP} {I : MI} {L : ML} {C : MC} : stp 18 (.tableswitch 323 0 13 #[70, 70, 70, 70, 189, 210, 240, 245, 245, 258, 272, 286, 309, 309]) 70 [] ls (.int (nI 0) :: st) P I L C = sN 88 ls st P I L C := rfl
theorem t159_18_1 {ls st : List Value} {P : MP} {I : MI} {L : ML} {C : MC} : stp 18 (.tableswitch 323 0 13 #[70, 70, 70, 70, 189, 210, 240, 245, 245, 258, 272, 286, 309, 309]) 70 [] ls (.int (nI 1) :: st) P I L C = sN 88 ls st P I L C := rfl
theorem t159_18_2 {ls st : List Value} {P : MP} {I : MI} {L : ML} {C : MC} : stp 18 (.tableswitch 323 0 13 #[70, 70, 70, 70, 189, 210, 240, 245, 245, 258, 272, 286, 309, 309]) 70 [] ls (.int (nI 2) :: st) P I L C = sN 88 ls st P I L C := rfl
theorem t159_18_3 {ls st : List Value} {P : MP} {I : MI} {L : ML} {C : MC} : stp 18 (.tableswitch 323 0 13 #[70, 70, 70, 70, 189, 210, 240, 245, 245, 258, 272, 286, 309, 309]) 70 [] ls (.int (nI 3) :: st) P I L C = sN 88 ls st P I L C := rfl
theorem t159_18_4 {ls st : List Value} {P : MP} {I : MI} {L : ML} {C : MC} : stp 18 (.tableswitch 323 0 13 #[70, 70, 70, 70, 189, 210, 240, 245, 245, 258, 272, 286, 309, 309]) 70 [] ls (.int (nI 4) :: st) P I L C = sN 207 ls st P I L C := rfl
theorem t159_18_5 {ls st : List Value} {P : MP} {I : MI} {L : ML} {C : MC} : stp 18 (.tableswitch 323 0 13 #[70, 70, 70, 70, 189, 210, 240, 245, 245, 258, 272, 286, 309, 309]) 70 [] ls (.int (nI 5) :: st) P I L C = sN 228 ls st P I L C := rfl
theorem t159_18_6 {ls st : List Value} {P : MP} {I : MI} {L : ML} {C : MC} : stp 18 (.tableswitch 323 0 13 #[70, 70, 70, 70, 189, 210, 240, 245, 245, 258, 272, 286, 309, 309]) 70 [] ls (.int (nI 6) :: st) P I L C = sN 258 ls st P I L C := rfl
theorem t159_18_7 {ls st : List Value} {P : MP} {I : MI} {L : ML} {C : MC} : stp 18 (.tableswitch 323 0 13 #[70, 70, 70, 70, 189, 210, 240, 245, 245, 258, 272, 286, 309, 309]) 70 [] ls (.int (nI 7) :: st) P I L C = sN 263 ls st P I L C := rfl
theorem t159_18_8 {ls st : List Value} {P : MP} {I : MI} {L : ML} {C : MC} : stp 18 (.tableswitch 323 0 13 #[70, 70, 70, 70, 189, 210, 240, 245, 245, 258, 272, 286, 309, 309]) 70 [] ls (.int (nI 8) :: st) P I L C = sN 263 ls st P I L C := rfl
theorem t159_18_9 {ls st : List Value} {P : MP} {I : MI} {L : ML} {C : MC} : stp 18 (.tableswitch 323 0 13 #[70, 70, 70, 70, 189, 210, 240, 245, 245, 258, 272, 286, 309, 309]) 70 [] ls (.int (nI 9) :: st) P I L C = sN 276 ls st P I L C := rfl
theorem t159_18_10 {ls st : List Value} {P : MP} {I : MI} {L : ML} {C : MC} : stp 18 (.tableswitch 323 0 13 #[70, 70, 70, 70, 189, 210, 240, 245, 245, 258, 272, 286, 309, 309]) 70 [] ls (.int (nI 10) :: st) P I L C = sN 290 ls st P I L C := rfl
theorem t159_18_11 {ls st : List Value} {P : MP} {I : MI} {L : ML} {C : MC} : stp 18 (.tableswitch 323 0 13 #[70, 70, 70, 70, 189, 210, 240, 245, 245, 258, 272, 286, 309, 309]) 70 [] ls (.int (nI 11) :: st) P I L C = sN 304 ls st P I L C := rfl
theorem t159_18_12 {ls st : List Value} {P : MP} {I : MI} {L : ML} {C : MC} : stp 18 (.tableswitch 323 0 13 #[70, 70, 70, 70, 189, 210, 240, 245, 245, 258, 272, 286, 309, 309]) 70 [] ls (.int (nI 12) :: st) P I L C = sN 327 ls st P I L C := rfl
theorem t159_18_13 {ls st : List Value} {P : MP} {I : MI} {L : ML} {C : MC} : stp 18 (.tableswitch 323 0 13 #[70, 70, 70, 70, 189, 210, 240, 245, 245, 258, 272, 286, 309, 309]) 70 [] ls (.int (nI 13) :: st) P I L C = sN 327 ls st P I L C := rfl
theorem t159_18_14 {ls st : List Value} {P : MP} {I : MI} {L : ML} {C : MC} : stp 18 (.tableswitch 323 0 13 #[70, 70, 70, 70, 189, 210, 240, 245, 245, 258, 272, 286, 309, 309]) 70 [] ls (.int (nI 14) :: st) P I L C = sN 341 ls st P I L C := rfl
theorem t159_18_15 {ls st : List Value} {P : MP} {I : MI} {L : ML} {C : MC} : stp 18 (.tableswitch 323 0 13 #[70, 70, 70, 70, 189, 210, 240, 245, 245, 258, 272, 286, 309, 309]) 70 [] ls (.int (nI 15) :: st) P I L C = sN 341 ls st P I L C := rfl
theorem t159_18_16 {ls st : List Value} {P : MP} {I : MI} {L : ML} {C : MC} : stp 18 (.tableswitch 323 0 13 #[70, 70, 70, 70, 189, 210, 240, 245, 245, 258, 272, 286, 309, 309]) 70 [] ls (.int (nI 16) :: st) P I L C = sN 341 ls st P I L C := rfl
theorem t159_18_17 {ls st : List Value} {P : MP} {I : MI} {L : ML} {C : MC} : stp 18 (.tableswitch 323 0 13 #[70, 70, 70, 70, 189, 210, 240, 245, 245, 258, 272, 286, 309, 309]) 70 [] ls (.int (nI 17) :: st) P I L C = sN 341 ls st P I L C := rfl
def acW (y : Nat) : Nat := if y / 3 % 4 = 0 then 16 + y / 12 % 3 else y / 12 % 8
def acE (y : Nat) : Nat := if y / 96 % 5 = 0 then 1 + y / 480 % 1000 else 1 + y / 480 % 12
def acR (y : Nat) : Nat := if y / 3 % 4 = 0 then 0 else y / 7 % 4
def acG (y : Nat) : Nat := if y / 11 % 6 < 3 then 0 else y / 11 % 6 - 2
def acO (y : Nat) : Nat := if y % 5 = 0 then 1 else 0
theorem n_sub2 {a : Nat} (h : 2 ≤ a) : nI a - nI 2 = nI (a - 2) := n_sub h
section ACT
variable {z : SX} {d n k B y : Nat} {x : Int32} {g : GS} {ps : Nat → GS} {Z : ZT}
theorem a159_88a (hy : y < 1000000) : X2 z d 159 88 [.ref 1, .int x, .int (nI y), .int (nI (y % 3)), .int (nI (g (3 + y % 3)))] [] (g, n, ps, k) Z = C2 z d 89 [.ref 1, .int (nI (y % 3)), .int (nI (acW y)), .int (nI (acE y)), .int (nI (acR y)), .int (nI (acG y)), .int (nI (acO y))] (g, n, ps, k) (bk2 z d 159 203 [.ref 1, .int x, .int (nI y), .int (nI (y % 3)), .int (nI (g (3 + y % 3)))] [] Z) := by
  unfold acW acE acR acG acO
  by_cases h1 : y / 3 % 4 = 0 <;> by_cases h2 : y / 96 % 5 = 0 <;> by_cases h3 : y / 11 % 6 < 3 <;> by_cases h4 : y % 5 = 0 <;>
    simp (disch := first | assumption | omega) only [Nat.reduceAdd, mP_1, mP_0, X2_go, g4_some, stp, ldI, ldA, ldL, stI, stA, stL, o1I, o2I, o2L, brI, brII, gl, s1, s2, k1, sl, g3_sN, g3_sR, g3_sC, g3_if, g3_no, pops, b2_v, e159_0, e159_1, e159_2, e159_3, e159_4, e159_5, e159_6, e159_7, e159_10, e159_12, e159_13, e159_15, e159_18, e159_88, e159_89, e159_90, e159_91, e159_92, e159_93, e159_94, e159_95, e159_98, e159_100, e159_101, e159_103, e159_104, e159_105, e159_106, e159_107, e159_110, e159_111, e159_113, e159_114, e159_116, e159_117, e159_118, e159_120, e159_121, e159_122, e159_123, e159_126, e159_127, e159_128, e159_131, e159_132, e159_135, e159_136, e159_137, e159_140, e159_141, e159_142, e159_145, e159_146, e159_148, e159_149, e159_150, e159_151, e159_152, e159_153, e159_154, e159_155, e159_158, e159_159, e159_162, e159_163, e159_165, e159_166, e159_167, e159_168, e159_169, e159_171, e159_172, e159_174, e159_175, e159_176, e159_179, e159_180, e159_183, e159_184, e159_186, e159_187, e159_189, e159_190, e159_191, e159_192, e159_193, e159_194, e159_195, e159_198, e159_199, e159_202, e159_203, e159_206, e159_207, e159_208, e159_209, e159_211, e159_214, e159_215, e159_218, e159_219, e159_220, e159_221, e159_223, e159_224, e159_227, e159_228, e159_229, e159_230, e159_232, e159_235, e159_236, e159_239, e159_240, e159_241, e159_242, e159_244, e159_245, e159_246, e159_247, e159_249, e159_250, e159_252, e159_253, e159_254, e159_257, e159_258, e159_259, e159_262, e159_263, e159_264, e159_265, e159_266, e159_267, e159_268, e159_269, e159_270, e159_271, e159_272, e159_275, e159_276, e159_277, e159_278, e159_279, e159_280, e159_281, e159_282, e159_283, e159_285, e159_286, e159_289, e159_290, e159_291, e159_292, e159_293, e159_294, e159_295, e159_296, e159_297, e159_299, e159_300, e159_303, e159_304, e159_305, e159_306, e159_308, e159_309, e159_310, e159_312, e159_313, e159_314, e159_315, e159_318, e159_319, e159_322, e159_323, e159_326, e159_327, e159_328, e159_329, e159_330, e159_331, e159_332, e159_333, e159_335, e159_336, e159_337, e159_340, e159_341, e159_342, e159_343, e159_346, n_lt, n_le, n_eq, n_lt0, n_ge0, n_gt0, n_le0, n_eq0, m_lt, m_le, m_gt, m_ge, m_eq, m_eq', m_lt0, m_ge0, m_gt0, m_le0, m_ltm, m_lem, n_in, m_in, n_cl, n_ti, n_div, n_rem', n_dec, n_l, nI_add, pk_mul, an0, an1, decide_eq_true_eq, if_true, if_false, ite_true, ite_false, and_true, true_and, and_false, false_and, not_true, not_false_iff, or_false, false_or, or_true, true_or, eq_self, va_some, Bool.false_eq_true, reduceIte, catS_n, catS_i, catS_r, catS_l, catS_d, Nat.zero_add, Nat.add_zero, decide_true, decide_false, Nat.reduceLeDiff, cat_r, cat_i, cat_l, nle_T, nle_F, nlt_T, nlt_F, neq_T, neq_F, n_sub2, h1, h2, h3, h4]
theorem a159_88 (hG : GV B g) (hP : PV g) (hy : y < 1000000) (hd : 32 ≤ d) : AX z d 88 x y B g n ps k Z := by
  have hv := hG.1
  have ht : y % 3 < 3 := Nat.mod_lt _ (by omega)
  have h6 := hv.2.1 (y % 3) ht
  have w1 : acW y ≤ 18 := by unfold acW; split <;> omega
  have w2 : 1 ≤ acE y ∧ acE y ≤ 1000 := by unfold acE; split <;> omega
  have w3 : acR y ≤ 3 := by unfold acR; split <;> omega
  have w4 : 16 ≤ acW y → acR y = 0 := by
    unfold acW acR
    split
    · intro _; rfl
    · intro q; omega
  have w5 : acG y ≤ 3 := by unfold acG; split <;> omega
  have w6 : acO y ≤ 1 := by unfold acO; split <;> omega
  have wr : acR y ≤ (if acW y < 16 then 3 else 0) := by split <;> omega
  have wm : (if acW y < 16 then 3 else 0) < 2147483648 := by split <;> omega
  have hon : nI (acO y) = nI 0 ∨ nI (acO y) = nI 1 := by unfold acO; split <;> simp
  have hO : acO y = 0 ∨ acO y = 1 := by omega
  unfold AX
  rw [a159_88a hy]
  by_cases hl : 16 ≤ acW y ∧ acW y ≤ y % 3 + 16
  · refine ⟨nI 4289967295, (g, n, ps, k + 1), ?_, .inl ⟨rfl, .inl rfl⟩⟩
    rcases hO with hO | hO <;>
      simp (disch := first | assumption | omega) only [v89, q90, n_lt, n_le, n_eq, n_lt0, n_ge0, n_gt0, n_le0, n_eq0, m_lt, m_le, m_gt, m_ge, m_eq, m_eq', m_lt0, m_ge0, m_gt0, m_le0, m_ltm, m_lem, n_in, m_in, n_cl, n_ti, n_div, n_rem', n_dec, n_l, nI_add, pk_mul, an0, an1, decide_eq_true_eq, if_true, if_false, ite_true, ite_false, and_true, true_and, and_false, false_and, not_true, not_false_iff, or_false, false_or, or_true, true_or, eq_self, va_some, Bool.false_eq_true, reduceIte, catS_n, catS_i, catS_r, catS_l, catS_d, Nat.zero_add, Nat.add_zero, decide_true, decide_false, Nat.reduceLeDiff, cat_r, cat_i, cat_l, nle_T, nle_F, nlt_T, nlt_F, neq_T, neq_F, run3_if, run3_x1, run3_n, Nat.reduceAdd, mP_1, mP_0, X2_go, g4_some, stp, ldI, ldA, ldL, stI, stA, stL, o1I, o2I, o2L, brI, brII, gl, s1, s2, k1, sl, g3_sN, g3_sR, g3_sC, g3_if, g3_no, pops, b2_v, e159_0, e159_1, e159_2, e159_3, e159_4, e159_5, e159_6, e159_7, e159_10, e159_12, e159_13, e159_15, e159_18, e159_88, e159_89, e159_90, e159_91, e159_92, e159_93, e159_94, e159_95, e159_98, e159_100, e159_101, e159_103, e159_104, e159_105, e159_106, e159_107, e159_110, e159_111, e159_113, e159_114, e159_116, e159_117, e159_118, e159_120, e159_121, e159_122, e159_123, e159_126, e159_127, e159_128, e159_131, e159_132, e159_135, e159_136, e159_137, e159_140, e159_141, e159_142, e159_145, e159_146, e159_148, e159_149, e159_150, e159_151, e159_152, e159_153, e159_154, e159_155, e159_158, e159_159, e159_162, e159_163, e159_165, e159_166, e159_167, e159_168, e159_169, e159_171, e159_172, e159_174, e159_175, e159_176, e159_179, e159_180, e159_183, e159_184, e159_186, e159_187, e159_189, e159_190, e159_191, e159_192, e159_193, e159_194, e159_195, e159_198, e159_199, e159_202, e159_203, e159_206, e159_207, e159_208, e159_209, e159_211, e159_214, e159_215, e159_218, e159_219, e159_220, e159_221, e159_223, e159_224, e159_227, e159_228, e159_229, e159_230, e159_232, e159_235, e159_236, e159_239, e159_240, e159_241, e159_242, e159_244, e159_245, e159_246, e159_247, e159_249, e159_250, e159_252, e159_253, e159_254, e159_257, e159_258, e159_259, e159_262, e159_263, e159_264, e159_265, e159_266, e159_267, e159_268, e159_269, e159_270, e159_271, e159_272, e159_275, e159_276, e159_277, e159_278, e159_279, e159_280, e159_281, e159_282, e159_283, e159_285, e159_286, e159_289, e159_290, e159_291, e159_292, e159_293, e159_294, e159_295, e159_296, e159_297, e159_299, e159_300, e159_303, e159_304, e159_305, e159_306, e159_308, e159_309, e159_310, e159_312, e159_313, e159_314, e159_315, e159_318, e159_319, e159_322, e159_323, e159_326, e159_327, e159_328, e159_329, e159_330, e159_331, e159_332, e159_333, e159_335, e159_336, e159_337, e159_340, e159_341, e159_342, e159_343, e159_346, hl, hO, and_self]
  · by_cases hc : g (3 + y % 3) < 6
    · refine ⟨nI (g (3 + y % 3)), (addG g (y % 3) (acW y) (acE y) (acR y) (acG y) (acO y), puN n, puS n ps g, k + 0), ?_, .inr ⟨_, 0, _, rfl, by omega, by omega, rfl, ?_, ?_⟩⟩
      · rcases hO with hO | hO <;>
          simp (disch := first | assumption | omega) only [v89, q90, n_lt, n_le, n_eq, n_lt0, n_ge0, n_gt0, n_le0, n_eq0, m_lt, m_le, m_gt, m_ge, m_eq, m_eq', m_lt0, m_ge0, m_gt0, m_le0, m_ltm, m_lem, n_in, m_in, n_cl, n_ti, n_div, n_rem', n_dec, n_l, nI_add, pk_mul, an0, an1, decide_eq_true_eq, if_true, if_false, ite_true, ite_false, and_true, true_and, and_false, false_and, not_true, not_false_iff, or_false, false_or, or_true, true_or, eq_self, va_some, Bool.false_eq_true, reduceIte, catS_n, catS_i, catS_r, catS_l, catS_d, Nat.zero_add, Nat.add_zero, decide_true, decide_false, Nat.reduceLeDiff, cat_r, cat_i, cat_l, nle_T, nle_F, nlt_T, nlt_F, neq_T, neq_F, run3_if, run3_v, run3_n, sav_e, Nat.reduceAdd, mP_1, mP_0, X2_go, g4_some, stp, ldI, ldA, ldL, stI, stA, stL, o1I, o2I, o2L, brI, brII, gl, s1, s2, k1, sl, g3_sN, g3_sR, g3_sC, g3_if, g3_no, pops, b2_v, e159_0, e159_1, e159_2, e159_3, e159_4, e159_5, e159_6, e159_7, e159_10, e159_12, e159_13, e159_15, e159_18, e159_88, e159_89, e159_90, e159_91, e159_92, e159_93, e159_94, e159_95, e159_98, e159_100, e159_101, e159_103, e159_104, e159_105, e159_106, e159_107, e159_110, e159_111, e159_113, e159_114, e159_116, e159_117, e159_118, e159_120, e159_121, e159_122, e159_123, e159_126, e159_127, e159_128, e159_131, e159_132, e159_135, e159_136, e159_137, e159_140, e159_141, e159_142, e159_145, e159_146, e159_148, e159_149, e159_150, e159_151, e159_152, e159_153, e159_154, e159_155, e159_158, e159_159, e159_162, e159_163, e159_165, e159_166, e159_167, e159_168, e159_169, e159_171, e159_172, e159_174, e159_175, e159_176, e159_179, e159_180, e159_183, e159_184, e159_186, e159_187, e159_189, e159_190, e159_191, e159_192, e159_193, e159_194, e159_195, e159_198, e159_199, e159_202, e159_203, e159_206, e159_207, e159_208, e159_209, e159_211, e159_214, e159_215, e159_218, e159_219, e159_220, e159_221, e159_223, e159_224, e159_227, e159_228, e159_229, e159_230, e159_232, e159_235, e159_236, e159_239, e159_240, e159_241, e159_242, e159_244, e159_245, e159_246, e159_247, e159_249, e159_250, e159_252, e159_253, e159_254, e159_257, e159_258, e159_259, e159_262, e159_263, e159_264, e159_265, e159_266, e159_267, e159_268, e159_269, e159_270, e159_271, e159_272, e159_275, e159_276, e159_277, e159_278, e159_279, e159_280, e159_281, e159_282, e159_283, e159_285, e159_286, e159_289, e159_290, e159_291, e159_292, e159_293, e159_294, e159_295, e159_296, e159_297, e159_299, e159_300, e159_303, e159_304, e159_305, e159_306, e159_308, e159_309, e159_310, e159_312, e159_313, e159_314, e159_315, e159_318, e159_319, e159_322, e159_323, e159_326, e159_327, e159_328, e159_329, e159_330, e159_331, e159_332, e159_333, e159_335, e159_336, e159_337, e159_340, e159_341, e159_342, e159_343, e159_346, hl, hO, hc, wr, and_self]
      · exact GV_add hG ht hc w1 (fun _ => w3) (fun q => ⟨by omega, w4 q⟩) w2.1 w2.2 w5 w6
      · exact PV_g hG.2.2 (fun j a b => addG_o ht hc (by omega)) (TP_add hv ht hc hP.1) hP
    · refine ⟨nI 4289967294, (g, n, ps, k + 1), ?_, .inl ⟨rfl, .inr (.inl rfl)⟩⟩
      rcases hO with hO | hO <;>
        simp (disch := first | assumption | omega) only [v89, q90, n_lt, n_le, n_eq, n_lt0, n_ge0, n_gt0, n_le0, n_eq0, m_lt, m_le, m_gt, m_ge, m_eq, m_eq', m_lt0, m_ge0, m_gt0, m_le0, m_ltm, m_lem, n_in, m_in, n_cl, n_ti, n_div, n_rem', n_dec, n_l, nI_add, pk_mul, an0, an1, decide_eq_true_eq, if_true, if_false, ite_true, ite_false, and_true, true_and, and_false, false_and, not_true, not_false_iff, or_false, false_or, or_true, true_or, eq_self, va_some, Bool.false_eq_true, reduceIte, catS_n, catS_i, catS_r, catS_l, catS_d, Nat.zero_add, Nat.add_zero, decide_true, decide_false, Nat.reduceLeDiff, cat_r, cat_i, cat_l, nle_T, nle_F, nlt_T, nlt_F, neq_T, neq_F, run3_if, run3_x2, run3_n, Nat.reduceAdd, mP_1, mP_0, X2_go, g4_some, stp, ldI, ldA, ldL, stI, stA, stL, o1I, o2I, o2L, brI, brII, gl, s1, s2, k1, sl, g3_sN, g3_sR, g3_sC, g3_if, g3_no, pops, b2_v, e159_0, e159_1, e159_2, e159_3, e159_4, e159_5, e159_6, e159_7, e159_10, e159_12, e159_13, e159_15, e159_18, e159_88, e159_89, e159_90, e159_91, e159_92, e159_93, e159_94, e159_95, e159_98, e159_100, e159_101, e159_103, e159_104, e159_105, e159_106, e159_107, e159_110, e159_111, e159_113, e159_114, e159_116, e159_117, e159_118, e159_120, e159_121, e159_122, e159_123, e159_126, e159_127, e159_128, e159_131, e159_132, e159_135, e159_136, e159_137, e159_140, e159_141, e159_142, e159_145, e159_146, e159_148, e159_149, e159_150, e159_151, e159_152, e159_153, e159_154, e159_155, e159_158, e159_159, e159_162, e159_163, e159_165, e159_166, e159_167, e159_168, e159_169, e159_171, e159_172, e159_174, e159_175, e159_176, e159_179, e159_180, e159_183, e159_184, e159_186, e159_187, e159_189, e159_190, e159_191, e159_192, e159_193, e159_194, e159_195, e159_198, e159_199, e159_202, e159_203, e159_206, e159_207, e159_208, e159_209, e159_211, e159_214, e159_215, e159_218, e159_219, e159_220, e159_221, e159_223, e159_224, e159_227, e159_228, e159_229, e159_230, e159_232, e159_235, e159_236, e159_239, e159_240, e159_241, e159_242, e159_244, e159_245, e159_246, e159_247, e159_249, e159_250, e159_252, e159_253, e159_254, e159_257, e159_258, e159_259, e159_262, e159_263, e159_264, e159_265, e159_266, e159_267, e159_268, e159_269, e159_270, e159_271, e159_272, e159_275, e159_276, e159_277, e159_278, e159_279, e159_280, e159_281, e159_282, e159_283, e159_285, e159_286, e159_289, e159_290, e159_291, e159_292, e159_293, e159_294, e159_295, e159_296, e159_297, e159_299, e159_300, e159_303, e159_304, e159_305, e159_306, e159_308, e159_309, e159_310, e159_312, e159_313, e159_314, e159_315, e159_318, e159_319, e159_322, e159_323, e159_326, e159_327, e159_328, e159_329, e159_330, e159_331, e159_332, e159_333, e159_335, e159_336, e159_337, e159_340, e159_341, e159_342, e159_343, e159_346, hl, hO, hc, wr, and_self]
theorem a159_207 (hG : GV B g) (hP : PV g) (hy : y < 1000000) (hd : 32 ≤ d) : AX z d 207 x y B g n ps k Z := by
  have hv := hG.1
  have ht : y % 3 < 3 := Nat.mod_lt _ (by omega)
  have h6 := hv.2.1 (y % 3) ht
  rcases Nat.eq_zero_or_pos (g (3 + y % 3)) with hn | hn
  · refine ⟨nI 4289967293, (g, n, ps, k + 1), ?_, .inl ⟨rfl, .inr (.inr rfl)⟩⟩
    simp (disch := first | assumption | omega) only [Nat.reduceAdd, mP_1, mP_0, X2_go, g4_some, stp, ldI, ldA, ldL, stI, stA, stL, o1I, o2I, o2L, brI, brII, gl, s1, s2, k1, sl, g3_sN, g3_sR, g3_sC, g3_if, g3_no, pops, b2_v, e159_0, e159_1, e159_2, e159_3, e159_4, e159_5, e159_6, e159_7, e159_10, e159_12, e159_13, e159_15, e159_18, e159_88, e159_89, e159_90, e159_91, e159_92, e159_93, e159_94, e159_95, e159_98, e159_100, e159_101, e159_103, e159_104, e159_105, e159_106, e159_107, e159_110, e159_111, e159_113, e159_114, e159_116, e159_117, e159_118, e159_120, e159_121, e159_122, e159_123, e159_126, e159_127, e159_128, e159_131, e159_132, e159_135, e159_136, e159_137, e159_140, e159_141, e159_142, e159_145, e159_146, e159_148, e159_149, e159_150, e159_151, e159_152, e159_153, e159_154, e159_155, e159_158, e159_159, e159_162, e159_163, e159_165, e159_166, e159_167, e159_168, e159_169, e159_171, e159_172, e159_174, e159_175, e159_176, e159_179, e159_180, e159_183, e159_184, e159_186, e159_187, e159_189, e159_190, e159_191, e159_192, e159_193, e159_194, e159_195, e159_198, e159_199, e159_202, e159_203, e159_206, e159_207, e159_208, e159_209, e159_211, e159_214, e159_215, e159_218, e159_219, e159_220, e159_221, e159_223, e159_224, e159_227, e159_228, e159_229, e159_230, e159_232, e159_235, e159_236, e159_239, e159_240, e159_241, e159_242, e159_244, e159_245, e159_246, e159_247, e159_249, e159_250, e159_252, e159_253, e159_254, e159_257, e159_258, e159_259, e159_262, e159_263, e159_264, e159_265, e159_266, e159_267, e159_268, e159_269, e159_270, e159_271, e159_272, e159_275, e159_276, e159_277, e159_278, e159_279, e159_280, e159_281, e159_282, e159_283, e159_285, e159_286, e159_289, e159_290, e159_291, e159_292, e159_293, e159_294, e159_295, e159_296, e159_297, e159_299, e159_300, e159_303, e159_304, e159_305, e159_306, e159_308, e159_309, e159_310, e159_312, e159_313, e159_314, e159_315, e159_318, e159_319, e159_322, e159_323, e159_326, e159_327, e159_328, e159_329, e159_330, e159_331, e159_332, e159_333, e159_335, e159_336, e159_337, e159_340, e159_341, e159_342, e159_343, e159_346, n_lt, n_le, n_eq, n_lt0, n_ge0, n_gt0, n_le0, n_eq0, m_lt, m_le, m_gt, m_ge, m_eq, m_eq', m_lt0, m_ge0, m_gt0, m_le0, m_ltm, m_lem, n_in, m_in, n_cl, n_ti, n_div, n_rem', n_dec, n_l, nI_add, pk_mul, an0, an1, decide_eq_true_eq, if_true, if_false, ite_true, ite_false, and_true, true_and, and_false, false_and, not_true, not_false_iff, or_false, false_or, or_true, true_or, eq_self, va_some, Bool.false_eq_true, reduceIte, catS_n, catS_i, catS_r, catS_l, catS_d, Nat.zero_add, Nat.add_zero, decide_true, decide_false, Nat.reduceLeDiff, cat_r, cat_i, cat_l, nle_T, nle_F, nlt_T, nlt_F, neq_T, neq_F, hn, v91, q92, run3_if, run3_x0]
  · have hm := Nat.mod_lt (y / 3) hn
    refine ⟨nI (g (3 + y % 3) - 1), (remG g (y % 3) (y / 3 % g (3 + y % 3)), puN n, puS n ps g, k + 0), ?_, .inr ⟨_, 0, _, rfl, by omega, by omega, rfl, GV_rem hG ht hm, PV_g hG.2.2 (fun j a b => remG_o ht h6 (by omega)) (TP_rem hv ht hm hP.1) hP⟩⟩
    simp (disch := first | assumption | omega) only [Nat.reduceAdd, mP_1, mP_0, X2_go, g4_some, stp, ldI, ldA, ldL, stI, stA, stL, o1I, o2I, o2L, brI, brII, gl, s1, s2, k1, sl, g3_sN, g3_sR, g3_sC, g3_if, g3_no, pops, b2_v, e159_0, e159_1, e159_2, e159_3, e159_4, e159_5, e159_6, e159_7, e159_10, e159_12, e159_13, e159_15, e159_18, e159_88, e159_89, e159_90, e159_91, e159_92, e159_93, e159_94, e159_95, e159_98, e159_100, e159_101, e159_103, e159_104, e159_105, e159_106, e159_107, e159_110, e159_111, e159_113, e159_114, e159_116, e159_117, e159_118, e159_120, e159_121, e159_122, e159_123, e159_126, e159_127, e159_128, e159_131, e159_132, e159_135, e159_136, e159_137, e159_140, e159_141, e159_142, e159_145, e159_146, e159_148, e159_149, e159_150, e159_151, e159_152, e159_153, e159_154, e159_155, e159_158, e159_159, e159_162, e159_163, e159_165, e159_166, e159_167, e159_168, e159_169, e159_171, e159_172, e159_174, e159_175, e159_176, e159_179, e159_180, e159_183, e159_184, e159_186, e159_187, e159_189, e159_190, e159_191, e159_192, e159_193, e159_194, e159_195, e159_198, e159_199, e159_202, e159_203, e159_206, e159_207, e159_208, e159_209, e159_211, e159_214, e159_215, e159_218, e159_219, e159_220, e159_221, e159_223, e159_224, e159_227, e159_228, e159_229, e159_230, e159_232, e159_235, e159_236, e159_239, e159_240, e159_241, e159_242, e159_244, e159_245, e159_246, e159_247, e159_249, e159_250, e159_252, e159_253, e159_254, e159_257, e159_258, e159_259, e159_262, e159_263, e159_264, e159_265, e159_266, e159_267, e159_268, e159_269, e159_270, e159_271, e159_272, e159_275, e159_276, e159_277, e159_278, e159_279, e159_280, e159_281, e159_282, e159_283, e159_285, e159_286, e159_289, e159_290, e159_291, e159_292, e159_293, e159_294, e159_295, e159_296, e159_297, e159_299, e159_300, e159_303, e159_304, e159_305, e159_306, e159_308, e159_309, e159_310, e159_312, e159_313, e159_314, e159_315, e159_318, e159_319, e159_322, e159_323, e159_326, e159_327, e159_328, e159_329, e159_330, e159_331, e159_332, e159_333, e159_335, e159_336, e159_337, e159_340, e159_341, e159_342, e159_343, e159_346, n_lt, n_le, n_eq, n_lt0, n_ge0, n_gt0, n_le0, n_eq0, m_lt, m_le, m_gt, m_ge, m_eq, m_eq', m_lt0, m_ge0, m_gt0, m_le0, m_ltm, m_lem, n_in, m_in, n_cl, n_ti, n_div, n_rem', n_dec, n_l, nI_add, pk_mul, an0, an1, decide_eq_true_eq, if_true, if_false, ite_true, ite_false, and_true, true_and, and_false, false_and, not_true, not_false_iff, or_false, false_or, or_true, true_or, eq_self, va_some, Bool.false_eq_true, reduceIte, catS_n, catS_i, catS_r, catS_l, catS_d, Nat.zero_add, Nat.add_zero, decide_true, decide_false, Nat.reduceLeDiff, cat_r, cat_i, cat_l, nle_T, nle_F, nlt_T, nlt_F, neq_T, neq_F, v91, q92, run3_if, run3_v, sav_e]
theorem a159_228 (hG : GV B g) (hP : PV g) (hy : y < 1000000) (hd : 32 ≤ d) : AX z d 228 x y B g n ps k Z := by
  have hv := hG.1
  have ht : y % 3 < 3 := Nat.mod_lt _ (by omega)
  have h6 := hv.2.1 (y % 3) ht
  rcases Nat.eq_zero_or_pos (g (3 + y % 3)) with hn | hn
  · refine ⟨nI 4289967293, (g, n, ps, k + 1), ?_, .inl ⟨rfl, .inr (.inr rfl)⟩⟩
    simp (disch := first | assumption | omega) only [Nat.reduceAdd, mP_1, mP_0, X2_go, g4_some, stp, ldI, ldA, ldL, stI, stA, stL, o1I, o2I, o2L, brI, brII, gl, s1, s2, k1, sl, g3_sN, g3_sR, g3_sC, g3_if, g3_no, pops, b2_v, e159_0, e159_1, e159_2, e159_3, e159_4, e159_5, e159_6, e159_7, e159_10, e159_12, e159_13, e159_15, e159_18, e159_88, e159_89, e159_90, e159_91, e159_92, e159_93, e159_94, e159_95, e159_98, e159_100, e159_101, e159_103, e159_104, e159_105, e159_106, e159_107, e159_110, e159_111, e159_113, e159_114, e159_116, e159_117, e159_118, e159_120, e159_121, e159_122, e159_123, e159_126, e159_127, e159_128, e159_131, e159_132, e159_135, e159_136, e159_137, e159_140, e159_141, e159_142, e159_145, e159_146, e159_148, e159_149, e159_150, e159_151, e159_152, e159_153, e159_154, e159_155, e159_158, e159_159, e159_162, e159_163, e159_165, e159_166, e159_167, e159_168, e159_169, e159_171, e159_172, e159_174, e159_175, e159_176, e159_179, e159_180, e159_183, e159_184, e159_186, e159_187, e159_189, e159_190, e159_191, e159_192, e159_193, e159_194, e159_195, e159_198, e159_199, e159_202, e159_203, e159_206, e159_207, e159_208, e159_209, e159_211, e159_214, e159_215, e159_218, e159_219, e159_220, e159_221, e159_223, e159_224, e159_227, e159_228, e159_229, e159_230, e159_232, e159_235, e159_236, e159_239, e159_240, e159_241, e159_242, e159_244, e159_245, e159_246, e159_247, e159_249, e159_250, e159_252, e159_253, e159_254, e159_257, e159_258, e159_259, e159_262, e159_263, e159_264, e159_265, e159_266, e159_267, e159_268, e159_269, e159_270, e159_271, e159_272, e159_275, e159_276, e159_277, e159_278, e159_279, e159_280, e159_281, e159_282, e159_283, e159_285, e159_286, e159_289, e159_290, e159_291, e159_292, e159_293, e159_294, e159_295, e159_296, e159_297, e159_299, e159_300, e159_303, e159_304, e159_305, e159_306, e159_308, e159_309, e159_310, e159_312, e159_313, e159_314, e159_315, e159_318, e159_319, e159_322, e159_323, e159_326, e159_327, e159_328, e159_329, e159_330, e159_331, e159_332, e159_333, e159_335, e159_336, e159_337, e159_340, e159_341, e159_342, e159_343, e159_346, n_lt, n_le, n_eq, n_lt0, n_ge0, n_gt0, n_le0, n_eq0, m_lt, m_le, m_gt, m_ge, m_eq, m_eq', m_lt0, m_ge0, m_gt0, m_le0, m_ltm, m_lem, n_in, m_in, n_cl, n_ti, n_div, n_rem', n_dec, n_l, nI_add, pk_mul, an0, an1, decide_eq_true_eq, if_true, if_false, ite_true, ite_false, and_true, true_and, and_false, false_and, not_true, not_false_iff, or_false, false_or, or_true, true_or, eq_self, va_some, Bool.false_eq_true, reduceIte, catS_n, catS_i, catS_r, catS_l, catS_d, Nat.zero_add, Nat.add_zero, decide_true, decide_false, Nat.reduceLeDiff, cat_r, cat_i, cat_l, nle_T, nle_F, nlt_T, nlt_F, neq_T, neq_F, hn, v96, q97, run3_if, run3_x0]
  · have hm := Nat.mod_lt (y / 3) hn
    have hE := hv.2.2 _ _ ht hm
    have hcl := cl_lt (f := 1) ht (show y / 3 % g (3 + y % 3) < 6 by omega) (by omega)
    have hw : g (cl (y % 3) (y / 3 % g (3 + y % 3)) 1) ≤ 1000 := hE.2.2.2.2.1
    refine ⟨nI (g (cl (y % 3) (y / 3 % g (3 + y % 3)) 1)), (ud g (cl (y % 3) (y / 3 % g (3 + y % 3)) 1) (1 + y / 20 % 40), puN n, puS n ps g, k + 0), ?_, .inr ⟨_, 0, _, rfl, by omega, by omega, rfl, GV_wt hG ht (by omega) (by omega) (by omega), PV_g hG.2.2 (fun j a b => ud_n (by omega)) (TP_ud hv (.inr (.inr ⟨_, _, ht, by omega, rfl⟩)) hP.1) hP⟩⟩
    simp (disch := first | assumption | omega) only [Nat.reduceAdd, mP_1, mP_0, X2_go, g4_some, stp, ldI, ldA, ldL, stI, stA, stL, o1I, o2I, o2L, brI, brII, gl, s1, s2, k1, sl, g3_sN, g3_sR, g3_sC, g3_if, g3_no, pops, b2_v, e159_0, e159_1, e159_2, e159_3, e159_4, e159_5, e159_6, e159_7, e159_10, e159_12, e159_13, e159_15, e159_18, e159_88, e159_89, e159_90, e159_91, e159_92, e159_93, e159_94, e159_95, e159_98, e159_100, e159_101, e159_103, e159_104, e159_105, e159_106, e159_107, e159_110, e159_111, e159_113, e159_114, e159_116, e159_117, e159_118, e159_120, e159_121, e159_122, e159_123, e159_126, e159_127, e159_128, e159_131, e159_132, e159_135, e159_136, e159_137, e159_140, e159_141, e159_142, e159_145, e159_146, e159_148, e159_149, e159_150, e159_151, e159_152, e159_153, e159_154, e159_155, e159_158, e159_159, e159_162, e159_163, e159_165, e159_166, e159_167, e159_168, e159_169, e159_171, e159_172, e159_174, e159_175, e159_176, e159_179, e159_180, e159_183, e159_184, e159_186, e159_187, e159_189, e159_190, e159_191, e159_192, e159_193, e159_194, e159_195, e159_198, e159_199, e159_202, e159_203, e159_206, e159_207, e159_208, e159_209, e159_211, e159_214, e159_215, e159_218, e159_219, e159_220, e159_221, e159_223, e159_224, e159_227, e159_228, e159_229, e159_230, e159_232, e159_235, e159_236, e159_239, e159_240, e159_241, e159_242, e159_244, e159_245, e159_246, e159_247, e159_249, e159_250, e159_252, e159_253, e159_254, e159_257, e159_258, e159_259, e159_262, e159_263, e159_264, e159_265, e159_266, e159_267, e159_268, e159_269, e159_270, e159_271, e159_272, e159_275, e159_276, e159_277, e159_278, e159_279, e159_280, e159_281, e159_282, e159_283, e159_285, e159_286, e159_289, e159_290, e159_291, e159_292, e159_293, e159_294, e159_295, e159_296, e159_297, e159_299, e159_300, e159_303, e159_304, e159_305, e159_306, e159_308, e159_309, e159_310, e159_312, e159_313, e159_314, e159_315, e159_318, e159_319, e159_322, e159_323, e159_326, e159_327, e159_328, e159_329, e159_330, e159_331, e159_332, e159_333, e159_335, e159_336, e159_337, e159_340, e159_341, e159_342, e159_343, e159_346, n_lt, n_le, n_eq, n_lt0, n_ge0, n_gt0, n_le0, n_eq0, m_lt, m_le, m_gt, m_ge, m_eq, m_eq', m_lt0, m_ge0, m_gt0, m_le0, m_ltm, m_lem, n_in, m_in, n_cl, n_ti, n_div, n_rem', n_dec, n_l, nI_add, pk_mul, an0, an1, decide_eq_true_eq, if_true, if_false, ite_true, ite_false, and_true, true_and, and_false, false_and, not_true, not_false_iff, or_false, false_or, or_true, true_or, eq_self, va_some, Bool.false_eq_true, reduceIte, catS_n, catS_i, catS_r, catS_l, catS_d, Nat.zero_add, Nat.add_zero, decide_true, decide_false, Nat.reduceLeDiff, cat_r, cat_i, cat_l, nle_T, nle_F, nlt_T, nlt_F, neq_T, neq_F, e96]
theorem C2_10 {S : LW} (hd : 30 ≤ d) : C2 z d 10 [.ref 1] S Z = run2 (q10 S) Z := C2_sp (by decide) hd (Nat.le_of_ble_eq_true rfl)
theorem a159_258 (hG : GV B g) (hP : PV g) (hy : y < 1000000) (hd : 32 ≤ d) : AX z d 258 x y B g n ps k Z := by
  have hv := hG.1
  have hsp : spc g ≤ 18 := by
    have e : spc g = sm 3 (fun j => spT g j (g (3 + j))) := by
      show _ = 0 + spT g 0 (g 3) + spT g 1 (g 4) + spT g 2 (g 5)
      rw [Nat.zero_add]
      rfl
    have := sm_le (n := 3) (b := 6) (f := fun j => spT g j (g (3 + j))) fun j hj => by
      have h1 := sm_le (n := g (3 + j)) (b := 1) (f := fun i => g (cl j i 5)) fun i hi => (hv.2.2 j i hj hi).2.2.2.2.2.2.2
      have h6 := hv.2.1 j hj
      unfold spT
      omega
    omega
  refine ⟨nI (spc g), (resG g, puN n, puS n ps g, k + 0), ?_, .inr ⟨_, 0, _, rfl, by omega, by omega, rfl, GV_res hG, PV_g hG.2.2 (fun j a b => resG_o (by omega)) (TP_res hv) hP⟩⟩
  simp (disch := first | assumption | omega) only [Nat.reduceAdd, mP_1, mP_0, X2_go, g4_some, stp, ldI, ldA, ldL, stI, stA, stL, o1I, o2I, o2L, brI, brII, gl, s1, s2, k1, sl, g3_sN, g3_sR, g3_sC, g3_if, g3_no, pops, b2_v, e159_0, e159_1, e159_2, e159_3, e159_4, e159_5, e159_6, e159_7, e159_10, e159_12, e159_13, e159_15, e159_18, e159_88, e159_89, e159_90, e159_91, e159_92, e159_93, e159_94, e159_95, e159_98, e159_100, e159_101, e159_103, e159_104, e159_105, e159_106, e159_107, e159_110, e159_111, e159_113, e159_114, e159_116, e159_117, e159_118, e159_120, e159_121, e159_122, e159_123, e159_126, e159_127, e159_128, e159_131, e159_132, e159_135, e159_136, e159_137, e159_140, e159_141, e159_142, e159_145, e159_146, e159_148, e159_149, e159_150, e159_151, e159_152, e159_153, e159_154, e159_155, e159_158, e159_159, e159_162, e159_163, e159_165, e159_166, e159_167, e159_168, e159_169, e159_171, e159_172, e159_174, e159_175, e159_176, e159_179, e159_180, e159_183, e159_184, e159_186, e159_187, e159_189, e159_190, e159_191, e159_192, e159_193, e159_194, e159_195, e159_198, e159_199, e159_202, e159_203, e159_206, e159_207, e159_208, e159_209, e159_211, e159_214, e159_215, e159_218, e159_219, e159_220, e159_221, e159_223, e159_224, e159_227, e159_228, e159_229, e159_230, e159_232, e159_235, e159_236, e159_239, e159_240, e159_241, e159_242, e159_244, e159_245, e159_246, e159_247, e159_249, e159_250, e159_252, e159_253, e159_254, e159_257, e159_258, e159_259, e159_262, e159_263, e159_264, e159_265, e159_266, e159_267, e159_268, e159_269, e159_270, e159_271, e159_272, e159_275, e159_276, e159_277, e159_278, e159_279, e159_280, e159_281, e159_282, e159_283, e159_285, e159_286, e159_289, e159_290, e159_291, e159_292, e159_293, e159_294, e159_295, e159_296, e159_297, e159_299, e159_300, e159_303, e159_304, e159_305, e159_306, e159_308, e159_309, e159_310, e159_312, e159_313, e159_314, e159_315, e159_318, e159_319, e159_322, e159_323, e159_326, e159_327, e159_328, e159_329, e159_330, e159_331, e159_332, e159_333, e159_335, e159_336, e159_337, e159_340, e159_341, e159_342, e159_343, e159_346, n_lt, n_le, n_eq, n_lt0, n_ge0, n_gt0, n_le0, n_eq0, m_lt, m_le, m_gt, m_ge, m_eq, m_eq', m_lt0, m_ge0, m_gt0, m_le0, m_ltm, m_lem, n_in, m_in, n_cl, n_ti, n_div, n_rem', n_dec, n_l, nI_add, pk_mul, an0, an1, decide_eq_true_eq, if_true, if_false, ite_true, ite_false, and_true, true_and, and_false, false_and, not_true, not_false_iff, or_false, false_or, or_true, true_or, eq_self, va_some, Bool.false_eq_true, reduceIte, catS_n, catS_i, catS_r, catS_l, catS_d, Nat.zero_add, Nat.add_zero, decide_true, decide_false, Nat.reduceLeDiff, cat_r, cat_i, cat_l, nle_T, nle_F, nlt_T, nlt_F, neq_T, neq_F, C2_10, q10, run2_v, sav_e]
theorem a159_263 (hG : GV B g) (hP : PV g) (hy : y < 1000000) (hd : 32 ≤ d) : AX z d 263 x y B g n ps k Z := by
  have hv := hG.1
  have ht : y % 3 < 3 := Nat.mod_lt _ (by omega)
  have hdr := hv.1 (y % 3) ht
  refine ⟨nI (g (y % 3)), (ud g (y % 3) (1 + y / 3 % 2), puN n, puS n ps g, k + 0), ?_, .inr ⟨_, 0, _, rfl, by omega, by omega, rfl, GV_dr hG ht (by omega) (by omega), PV_g hG.2.2 (fun j a b => ud_n (by omega)) (TP_ud hv (.inl ht) hP.1) hP⟩⟩
  simp (disch := first | assumption | omega) only [Nat.reduceAdd, mP_1, mP_0, X2_go, g4_some, stp, ldI, ldA, ldL, stI, stA, stL, o1I, o2I, o2L, brI, brII, gl, s1, s2, k1, sl, g3_sN, g3_sR, g3_sC, g3_if, g3_no, pops, b2_v, e159_0, e159_1, e159_2, e159_3, e159_4, e159_5, e159_6, e159_7, e159_10, e159_12, e159_13, e159_15, e159_18, e159_88, e159_89, e159_90, e159_91, e159_92, e159_93, e159_94, e159_95, e159_98, e159_100, e159_101, e159_103, e159_104, e159_105, e159_106, e159_107, e159_110, e159_111, e159_113, e159_114, e159_116, e159_117, e159_118, e159_120, e159_121, e159_122, e159_123, e159_126, e159_127, e159_128, e159_131, e159_132, e159_135, e159_136, e159_137, e159_140, e159_141, e159_142, e159_145, e159_146, e159_148, e159_149, e159_150, e159_151, e159_152, e159_153, e159_154, e159_155, e159_158, e159_159, e159_162, e159_163, e159_165, e159_166, e159_167, e159_168, e159_169, e159_171, e159_172, e159_174, e159_175, e159_176, e159_179, e159_180, e159_183, e159_184, e159_186, e159_187, e159_189, e159_190, e159_191, e159_192, e159_193, e159_194, e159_195, e159_198, e159_199, e159_202, e159_203, e159_206, e159_207, e159_208, e159_209, e159_211, e159_214, e159_215, e159_218, e159_219, e159_220, e159_221, e159_223, e159_224, e159_227, e159_228, e159_229, e159_230, e159_232, e159_235, e159_236, e159_239, e159_240, e159_241, e159_242, e159_244, e159_245, e159_246, e159_247, e159_249, e159_250, e159_252, e159_253, e159_254, e159_257, e159_258, e159_259, e159_262, e159_263, e159_264, e159_265, e159_266, e159_267, e159_268, e159_269, e159_270, e159_271, e159_272, e159_275, e159_276, e159_277, e159_278, e159_279, e159_280, e159_281, e159_282, e159_283, e159_285, e159_286, e159_289, e159_290, e159_291, e159_292, e159_293, e159_294, e159_295, e159_296, e159_297, e159_299, e159_300, e159_303, e159_304, e159_305, e159_306, e159_308, e159_309, e159_310, e159_312, e159_313, e159_314, e159_315, e159_318, e159_319, e159_322, e159_323, e159_326, e159_327, e159_328, e159_329, e159_330, e159_331, e159_332, e159_333, e159_335, e159_336, e159_337, e159_340, e159_341, e159_342, e159_343, e159_346, n_lt, n_le, n_eq, n_lt0, n_ge0, n_gt0, n_le0, n_eq0, m_lt, m_le, m_gt, m_ge, m_eq, m_eq', m_lt0, m_ge0, m_gt0, m_le0, m_ltm, m_lem, n_in, m_in, n_cl, n_ti, n_div, n_rem', n_dec, n_l, nI_add, pk_mul, an0, an1, decide_eq_true_eq, if_true, if_false, ite_true, ite_false, and_true, true_and, and_false, false_and, not_true, not_false_iff, or_false, false_or, or_true, true_or, eq_self, va_some, Bool.false_eq_true, reduceIte, catS_n, catS_i, catS_r, catS_l, catS_d, Nat.zero_add, Nat.add_zero, decide_true, decide_false, Nat.reduceLeDiff, cat_r, cat_i, cat_l, nle_T, nle_F, nlt_T, nlt_F, neq_T, neq_F, v84, q85, run3_if, run3_v, sav_e]
theorem a159_276 (hG : GV B g) (hP : PV g) (hy : y < 1000000) (hd : 32 ≤ d) : AX z d 276 x y B g n ps k Z := by
  have hv := hG.1
  have ht : y % 3 < 3 := Nat.mod_lt _ (by omega)
  have hc := (hG.2.1.1 (1 + y % 3) (by omega) (by omega)).1
  refine ⟨nI (g (113 + (1 + y % 3))), (ud g (113 + (1 + y % 3)) (y / 3 % 20), puN n, puS n ps g, k + 0), ?_, .inr ⟨_, 0, _, rfl, by omega, by omega, rfl, GV_l hG (by omega) (by omega) (by omega) (fun q => by omega), PV_g hG.2.2 (fun j a b => ud_n (by omega)) (TP_ud hv (.inr (.inl (by omega))) hP.1) hP⟩⟩
  simp (disch := first | assumption | omega) only [Nat.reduceAdd, mP_1, mP_0, X2_go, g4_some, stp, ldI, ldA, ldL, stI, stA, stL, o1I, o2I, o2L, brI, brII, gl, s1, s2, k1, sl, g3_sN, g3_sR, g3_sC, g3_if, g3_no, pops, b2_v, e159_0, e159_1, e159_2, e159_3, e159_4, e159_5, e159_6, e159_7, e159_10, e159_12, e159_13, e159_15, e159_18, e159_88, e159_89, e159_90, e159_91, e159_92, e159_93, e159_94, e159_95, e159_98, e159_100, e159_101, e159_103, e159_104, e159_105, e159_106, e159_107, e159_110, e159_111, e159_113, e159_114, e159_116, e159_117, e159_118, e159_120, e159_121, e159_122, e159_123, e159_126, e159_127, e159_128, e159_131, e159_132, e159_135, e159_136, e159_137, e159_140, e159_141, e159_142, e159_145, e159_146, e159_148, e159_149, e159_150, e159_151, e159_152, e159_153, e159_154, e159_155, e159_158, e159_159, e159_162, e159_163, e159_165, e159_166, e159_167, e159_168, e159_169, e159_171, e159_172, e159_174, e159_175, e159_176, e159_179, e159_180, e159_183, e159_184, e159_186, e159_187, e159_189, e159_190, e159_191, e159_192, e159_193, e159_194, e159_195, e159_198, e159_199, e159_202, e159_203, e159_206, e159_207, e159_208, e159_209, e159_211, e159_214, e159_215, e159_218, e159_219, e159_220, e159_221, e159_223, e159_224, e159_227, e159_228, e159_229, e159_230, e159_232, e159_235, e159_236, e159_239, e159_240, e159_241, e159_242, e159_244, e159_245, e159_246, e159_247, e159_249, e159_250, e159_252, e159_253, e159_254, e159_257, e159_258, e159_259, e159_262, e159_263, e159_264, e159_265, e159_266, e159_267, e159_268, e159_269, e159_270, e159_271, e159_272, e159_275, e159_276, e159_277, e159_278, e159_279, e159_280, e159_281, e159_282, e159_283, e159_285, e159_286, e159_289, e159_290, e159_291, e159_292, e159_293, e159_294, e159_295, e159_296, e159_297, e159_299, e159_300, e159_303, e159_304, e159_305, e159_306, e159_308, e159_309, e159_310, e159_312, e159_313, e159_314, e159_315, e159_318, e159_319, e159_322, e159_323, e159_326, e159_327, e159_328, e159_329, e159_330, e159_331, e159_332, e159_333, e159_335, e159_336, e159_337, e159_340, e159_341, e159_342, e159_343, e159_346, n_lt, n_le, n_eq, n_lt0, n_ge0, n_gt0, n_le0, n_eq0, m_lt, m_le, m_gt, m_ge, m_eq, m_eq', m_lt0, m_ge0, m_gt0, m_le0, m_ltm, m_lem, n_in, m_in, n_cl, n_ti, n_div, n_rem', n_dec, n_l, nI_add, pk_mul, an0, an1, decide_eq_true_eq, if_true, if_false, ite_true, ite_false, and_true, true_and, and_false, false_and, not_true, not_false_iff, or_false, false_or, or_true, true_or, eq_self, va_some, Bool.false_eq_true, reduceIte, catS_n, catS_i, catS_r, catS_l, catS_d, Nat.zero_add, Nat.add_zero, decide_true, decide_false, Nat.reduceLeDiff, cat_r, cat_i, cat_l, nle_T, nle_F, nlt_T, nlt_F, neq_T, neq_F, v102, q103, run3_if, run3_v, sav_e]
theorem a159_290 (hG : GV B g) (hP : PV g) (hy : y < 1000000) (hd : 32 ≤ d) : AX z d 290 x y B g n ps k Z := by
  have hv := hG.1
  have ht : y % 3 < 3 := Nat.mod_lt _ (by omega)
  have hc := (hG.2.1.1 (1 + y % 3) (by omega) (by omega)).2
  refine ⟨nI (g (116 + (1 + y % 3))), (ud g (116 + (1 + y % 3)) (y / 3 % 12), puN n, puS n ps g, k + 0), ?_, .inr ⟨_, 0, _, rfl, by omega, by omega, rfl, GV_l hG (by omega) (by omega) (by omega) (fun q => by omega), PV_g hG.2.2 (fun j a b => ud_n (by omega)) (TP_ud hv (.inr (.inl (by omega))) hP.1) hP⟩⟩
  simp (disch := first | assumption | omega) only [Nat.reduceAdd, mP_1, mP_0, X2_go, g4_some, stp, ldI, ldA, ldL, stI, stA, stL, o1I, o2I, o2L, brI, brII, gl, s1, s2, k1, sl, g3_sN, g3_sR, g3_sC, g3_if, g3_no, pops, b2_v, e159_0, e159_1, e159_2, e159_3, e159_4, e159_5, e159_6, e159_7, e159_10, e159_12, e159_13, e159_15, e159_18, e159_88, e159_89, e159_90, e159_91, e159_92, e159_93, e159_94, e159_95, e159_98, e159_100, e159_101, e159_103, e159_104, e159_105, e159_106, e159_107, e159_110, e159_111, e159_113, e159_114, e159_116, e159_117, e159_118, e159_120, e159_121, e159_122, e159_123, e159_126, e159_127, e159_128, e159_131, e159_132, e159_135, e159_136, e159_137, e159_140, e159_141, e159_142, e159_145, e159_146, e159_148, e159_149, e159_150, e159_151, e159_152, e159_153, e159_154, e159_155, e159_158, e159_159, e159_162, e159_163, e159_165, e159_166, e159_167, e159_168, e159_169, e159_171, e159_172, e159_174, e159_175, e159_176, e159_179, e159_180, e159_183, e159_184, e159_186, e159_187, e159_189, e159_190, e159_191, e159_192, e159_193, e159_194, e159_195, e159_198, e159_199, e159_202, e159_203, e159_206, e159_207, e159_208, e159_209, e159_211, e159_214, e159_215, e159_218, e159_219, e159_220, e159_221, e159_223, e159_224, e159_227, e159_228, e159_229, e159_230, e159_232, e159_235, e159_236, e159_239, e159_240, e159_241, e159_242, e159_244, e159_245, e159_246, e159_247, e159_249, e159_250, e159_252, e159_253, e159_254, e159_257, e159_258, e159_259, e159_262, e159_263, e159_264, e159_265, e159_266, e159_267, e159_268, e159_269, e159_270, e159_271, e159_272, e159_275, e159_276, e159_277, e159_278, e159_279, e159_280, e159_281, e159_282, e159_283, e159_285, e159_286, e159_289, e159_290, e159_291, e159_292, e159_293, e159_294, e159_295, e159_296, e159_297, e159_299, e159_300, e159_303, e159_304, e159_305, e159_306, e159_308, e159_309, e159_310, e159_312, e159_313, e159_314, e159_315, e159_318, e159_319, e159_322, e159_323, e159_326, e159_327, e159_328, e159_329, e159_330, e159_331, e159_332, e159_333, e159_335, e159_336, e159_337, e159_340, e159_341, e159_342, e159_343, e159_346, n_lt, n_le, n_eq, n_lt0, n_ge0, n_gt0, n_le0, n_eq0, m_lt, m_le, m_gt, m_ge, m_eq, m_eq', m_lt0, m_ge0, m_gt0, m_le0, m_ltm, m_lem, n_in, m_in, n_cl, n_ti, n_div, n_rem', n_dec, n_l, nI_add, pk_mul, an0, an1, decide_eq_true_eq, if_true, if_false, ite_true, ite_false, and_true, true_and, and_false, false_and, not_true, not_false_iff, or_false, false_or, or_true, true_or, eq_self, va_some, Bool.false_eq_true, reduceIte, catS_n, catS_i, catS_r, catS_l, catS_d, Nat.zero_add, Nat.add_zero, decide_true, decide_false, Nat.reduceLeDiff, cat_r, cat_i, cat_l, nle_T, nle_F, nlt_T, nlt_F, neq_T, neq_F, v105, q106, run3_if, run3_v, sav_e]
theorem a159_304 (hG : GV B g) (hP : PV g) (hy : y < 1000000) (hd : 32 ≤ d) : AX z d 304 x y B g n ps k Z := by
  have hv := hG.1
  have hc := hG.2.1.2.1
  by_cases hs : y / 51 % 2 = 0
  · refine ⟨nI (g 120), (ud g 120 (y % 51), puN n, puS n ps g, k + 0), ?_, .inr ⟨_, 0, _, rfl, by omega, by omega, rfl, GV_l hG (by omega) (by omega) (by omega) (fun _ => by omega), PV_g hG.2.2 (fun j a b => ud_n (by omega)) (TP_ud hv (.inr (.inl (by omega))) hP.1) hP⟩⟩
    simp (disch := first | assumption | omega) only [Nat.reduceAdd, mP_1, mP_0, X2_go, g4_some, stp, ldI, ldA, ldL, stI, stA, stL, o1I, o2I, o2L, brI, brII, gl, s1, s2, k1, sl, g3_sN, g3_sR, g3_sC, g3_if, g3_no, pops, b2_v, e159_0, e159_1, e159_2, e159_3, e159_4, e159_5, e159_6, e159_7, e159_10, e159_12, e159_13, e159_15, e159_18, e159_88, e159_89, e159_90, e159_91, e159_92, e159_93, e159_94, e159_95, e159_98, e159_100, e159_101, e159_103, e159_104, e159_105, e159_106, e159_107, e159_110, e159_111, e159_113, e159_114, e159_116, e159_117, e159_118, e159_120, e159_121, e159_122, e159_123, e159_126, e159_127, e159_128, e159_131, e159_132, e159_135, e159_136, e159_137, e159_140, e159_141, e159_142, e159_145, e159_146, e159_148, e159_149, e159_150, e159_151, e159_152, e159_153, e159_154, e159_155, e159_158, e159_159, e159_162, e159_163, e159_165, e159_166, e159_167, e159_168, e159_169, e159_171, e159_172, e159_174, e159_175, e159_176, e159_179, e159_180, e159_183, e159_184, e159_186, e159_187, e159_189, e159_190, e159_191, e159_192, e159_193, e159_194, e159_195, e159_198, e159_199, e159_202, e159_203, e159_206, e159_207, e159_208, e159_209, e159_211, e159_214, e159_215, e159_218, e159_219, e159_220, e159_221, e159_223, e159_224, e159_227, e159_228, e159_229, e159_230, e159_232, e159_235, e159_236, e159_239, e159_240, e159_241, e159_242, e159_244, e159_245, e159_246, e159_247, e159_249, e159_250, e159_252, e159_253, e159_254, e159_257, e159_258, e159_259, e159_262, e159_263, e159_264, e159_265, e159_266, e159_267, e159_268, e159_269, e159_270, e159_271, e159_272, e159_275, e159_276, e159_277, e159_278, e159_279, e159_280, e159_281, e159_282, e159_283, e159_285, e159_286, e159_289, e159_290, e159_291, e159_292, e159_293, e159_294, e159_295, e159_296, e159_297, e159_299, e159_300, e159_303, e159_304, e159_305, e159_306, e159_308, e159_309, e159_310, e159_312, e159_313, e159_314, e159_315, e159_318, e159_319, e159_322, e159_323, e159_326, e159_327, e159_328, e159_329, e159_330, e159_331, e159_332, e159_333, e159_335, e159_336, e159_337, e159_340, e159_341, e159_342, e159_343, e159_346, n_lt, n_le, n_eq, n_lt0, n_ge0, n_gt0, n_le0, n_eq0, m_lt, m_le, m_gt, m_ge, m_eq, m_eq', m_lt0, m_ge0, m_gt0, m_le0, m_ltm, m_lem, n_in, m_in, n_cl, n_ti, n_div, n_rem', n_dec, n_l, nI_add, pk_mul, an0, an1, decide_eq_true_eq, if_true, if_false, ite_true, ite_false, and_true, true_and, and_false, false_and, not_true, not_false_iff, or_false, false_or, or_true, true_or, eq_self, va_some, Bool.false_eq_true, reduceIte, catS_n, catS_i, catS_r, catS_l, catS_d, Nat.zero_add, Nat.add_zero, decide_true, decide_false, Nat.reduceLeDiff, cat_r, cat_i, cat_l, nle_T, nle_F, nlt_T, nlt_F, neq_T, neq_F, hs, v107, q108, run3_if, run3_v, sav_e]
  · refine ⟨nI (g 120), (ud (ud g 120 (y % 51)) 121 y, puN n, puS n ps g, k + 0), ?_, .inr ⟨_, 0, _, rfl, by omega, by omega, rfl, GV_se (GV_l hG (by omega) (by omega) (by omega) (fun _ => by omega)) (by omega), PV_g hG.2.2 (fun j a b => by rw [ud_n (by omega), ud_n (by omega)]) (TP_ud (GV_l (v := y % 51) (c := 120) hG (by omega) (by omega) (by omega) (fun _ => by omega)).1 (.inr (.inl (by omega))) (TP_ud hv (.inr (.inl (by omega))) hP.1)) hP⟩⟩
    simp (disch := first | assumption | omega) only [Nat.reduceAdd, mP_1, mP_0, X2_go, g4_some, stp, ldI, ldA, ldL, stI, stA, stL, o1I, o2I, o2L, brI, brII, gl, s1, s2, k1, sl, g3_sN, g3_sR, g3_sC, g3_if, g3_no, pops, b2_v, e159_0, e159_1, e159_2, e159_3, e159_4, e159_5, e159_6, e159_7, e159_10, e159_12, e159_13, e159_15, e159_18, e159_88, e159_89, e159_90, e159_91, e159_92, e159_93, e159_94, e159_95, e159_98, e159_100, e159_101, e159_103, e159_104, e159_105, e159_106, e159_107, e159_110, e159_111, e159_113, e159_114, e159_116, e159_117, e159_118, e159_120, e159_121, e159_122, e159_123, e159_126, e159_127, e159_128, e159_131, e159_132, e159_135, e159_136, e159_137, e159_140, e159_141, e159_142, e159_145, e159_146, e159_148, e159_149, e159_150, e159_151, e159_152, e159_153, e159_154, e159_155, e159_158, e159_159, e159_162, e159_163, e159_165, e159_166, e159_167, e159_168, e159_169, e159_171, e159_172, e159_174, e159_175, e159_176, e159_179, e159_180, e159_183, e159_184, e159_186, e159_187, e159_189, e159_190, e159_191, e159_192, e159_193, e159_194, e159_195, e159_198, e159_199, e159_202, e159_203, e159_206, e159_207, e159_208, e159_209, e159_211, e159_214, e159_215, e159_218, e159_219, e159_220, e159_221, e159_223, e159_224, e159_227, e159_228, e159_229, e159_230, e159_232, e159_235, e159_236, e159_239, e159_240, e159_241, e159_242, e159_244, e159_245, e159_246, e159_247, e159_249, e159_250, e159_252, e159_253, e159_254, e159_257, e159_258, e159_259, e159_262, e159_263, e159_264, e159_265, e159_266, e159_267, e159_268, e159_269, e159_270, e159_271, e159_272, e159_275, e159_276, e159_277, e159_278, e159_279, e159_280, e159_281, e159_282, e159_283, e159_285, e159_286, e159_289, e159_290, e159_291, e159_292, e159_293, e159_294, e159_295, e159_296, e159_297, e159_299, e159_300, e159_303, e159_304, e159_305, e159_306, e159_308, e159_309, e159_310, e159_312, e159_313, e159_314, e159_315, e159_318, e159_319, e159_322, e159_323, e159_326, e159_327, e159_328, e159_329, e159_330, e159_331, e159_332, e159_333, e159_335, e159_336, e159_337, e159_340, e159_341, e159_342, e159_343, e159_346, n_lt, n_le, n_eq, n_lt0, n_ge0, n_gt0, n_le0, n_eq0, m_lt, m_le, m_gt, m_ge, m_eq, m_eq', m_lt0, m_ge0, m_gt0, m_le0, m_ltm, m_lem, n_in, m_in, n_cl, n_ti, n_div, n_rem', n_dec, n_l, nI_add, pk_mul, an0, an1, decide_eq_true_eq, if_true, if_false, ite_true, ite_false, and_true, true_and, and_false, false_and, not_true, not_false_iff, or_false, false_or, or_true, true_or, eq_self, va_some, Bool.false_eq_true, reduceIte, catS_n, catS_i, catS_r, catS_l, catS_d, Nat.zero_add, Nat.add_zero, decide_true, decide_false, Nat.reduceLeDiff, cat_r, cat_i, cat_l, nle_T, nle_F, nlt_T, nlt_F, neq_T, neq_F, hs, v107, q108, run3_if, run3_v, sav_e]
theorem a159_327 (hG : GV B g) (hP : PV g) (hy : y < 1000000) (hd : 32 ≤ d) : AX z d 327 x y B g n ps k Z := by
  have ht : y % 3 < 3 := Nat.mod_lt _ (by omega)
  obtain ⟨i1, i2, i3, i4⟩ := opI_p ht (1 + y / 3 % 30) B g hG hP
  refine ⟨nI (opT (y % 3) (1 + y / 3 % 30) g), (opI (y % 3) (1 + y / 3 % 30) g, puN n, puS n ps g, k + (1 + y / 3 % 30)), ?_, .inr ⟨_, _, _, rfl, by omega, by omega, rfl, i1, i2⟩⟩
  simp (disch := first | assumption | omega) only [Nat.reduceAdd, mP_1, mP_0, X2_go, g4_some, stp, ldI, ldA, ldL, stI, stA, stL, o1I, o2I, o2L, brI, brII, gl, s1, s2, k1, sl, g3_sN, g3_sR, g3_sC, g3_if, g3_no, pops, b2_v, e159_0, e159_1, e159_2, e159_3, e159_4, e159_5, e159_6, e159_7, e159_10, e159_12, e159_13, e159_15, e159_18, e159_88, e159_89, e159_90, e159_91, e159_92, e159_93, e159_94, e159_95, e159_98, e159_100, e159_101, e159_103, e159_104, e159_105, e159_106, e159_107, e159_110, e159_111, e159_113, e159_114, e159_116, e159_117, e159_118, e159_120, e159_121, e159_122, e159_123, e159_126, e159_127, e159_128, e159_131, e159_132, e159_135, e159_136, e159_137, e159_140, e159_141, e159_142, e159_145, e159_146, e159_148, e159_149, e159_150, e159_151, e159_152, e159_153, e159_154, e159_155, e159_158, e159_159, e159_162, e159_163, e159_165, e159_166, e159_167, e159_168, e159_169, e159_171, e159_172, e159_174, e159_175, e159_176, e159_179, e159_180, e159_183, e159_184, e159_186, e159_187, e159_189, e159_190, e159_191, e159_192, e159_193, e159_194, e159_195, e159_198, e159_199, e159_202, e159_203, e159_206, e159_207, e159_208, e159_209, e159_211, e159_214, e159_215, e159_218, e159_219, e159_220, e159_221, e159_223, e159_224, e159_227, e159_228, e159_229, e159_230, e159_232, e159_235, e159_236, e159_239, e159_240, e159_241, e159_242, e159_244, e159_245, e159_246, e159_247, e159_249, e159_250, e159_252, e159_253, e159_254, e159_257, e159_258, e159_259, e159_262, e159_263, e159_264, e159_265, e159_266, e159_267, e159_268, e159_269, e159_270, e159_271, e159_272, e159_275, e159_276, e159_277, e159_278, e159_279, e159_280, e159_281, e159_282, e159_283, e159_285, e159_286, e159_289, e159_290, e159_291, e159_292, e159_293, e159_294, e159_295, e159_296, e159_297, e159_299, e159_300, e159_303, e159_304, e159_305, e159_306, e159_308, e159_309, e159_310, e159_312, e159_313, e159_314, e159_315, e159_318, e159_319, e159_322, e159_323, e159_326, e159_327, e159_328, e159_329, e159_330, e159_331, e159_332, e159_333, e159_335, e159_336, e159_337, e159_340, e159_341, e159_342, e159_343, e159_346, n_lt, n_le, n_eq, n_lt0, n_ge0, n_gt0, n_le0, n_eq0, m_lt, m_le, m_gt, m_ge, m_eq, m_eq', m_lt0, m_ge0, m_gt0, m_le0, m_ltm, m_lem, n_in, m_in, n_cl, n_ti, n_div, n_rem', n_dec, n_l, nI_add, pk_mul, an0, an1, decide_eq_true_eq, if_true, if_false, ite_true, ite_false, and_true, true_and, and_false, false_and, not_true, not_false_iff, or_false, false_or, or_true, true_or, eq_self, va_some, Bool.false_eq_true, reduceIte, catS_n, catS_i, catS_r, catS_l, catS_d, Nat.zero_add, Nat.add_zero, decide_true, decide_false, Nat.reduceLeDiff, cat_r, cat_i, cat_l, nle_T, nle_F, nlt_T, nlt_F, neq_T, neq_F, e123]
theorem a159_341 (hG : GV B g) (hP : PV g) (hy : y < 1000000) (hd : 32 ≤ d) : AX z d 341 x y B g n ps k Z := by
  have ht : y % 3 < 3 := Nat.mod_lt _ (by omega)
  obtain ⟨o1, o2, fd, o3⟩ := opn_p hG hP ht
  have hdr := (hG.1.1 (y % 3) ht).2
  have hn := o3.1.1
  refine ⟨nI (opN (y % 3) g), (opn (y % 3) g, puN n, puS n ps g, k + 1), ?_, .inr ⟨_, 1, _, rfl, by omega, by omega, rfl, o1, o2⟩⟩
  simp (disch := first | assumption | omega) only [Nat.reduceAdd, mP_1, mP_0, X2_go, g4_some, stp, ldI, ldA, ldL, stI, stA, stL, o1I, o2I, o2L, brI, brII, gl, s1, s2, k1, sl, g3_sN, g3_sR, g3_sC, g3_if, g3_no, pops, b2_v, e159_0, e159_1, e159_2, e159_3, e159_4, e159_5, e159_6, e159_7, e159_10, e159_12, e159_13, e159_15, e159_18, e159_88, e159_89, e159_90, e159_91, e159_92, e159_93, e159_94, e159_95, e159_98, e159_100, e159_101, e159_103, e159_104, e159_105, e159_106, e159_107, e159_110, e159_111, e159_113, e159_114, e159_116, e159_117, e159_118, e159_120, e159_121, e159_122, e159_123, e159_126, e159_127, e159_128, e159_131, e159_132, e159_135, e159_136, e159_137, e159_140, e159_141, e159_142, e159_145, e159_146, e159_148, e159_149, e159_150, e159_151, e159_152, e159_153, e159_154, e159_155, e159_158, e159_159, e159_162, e159_163, e159_165, e159_166, e159_167, e159_168, e159_169, e159_171, e159_172, e159_174, e159_175, e159_176, e159_179, e159_180, e159_183, e159_184, e159_186, e159_187, e159_189, e159_190, e159_191, e159_192, e159_193, e159_194, e159_195, e159_198, e159_199, e159_202, e159_203, e159_206, e159_207, e159_208, e159_209, e159_211, e159_214, e159_215, e159_218, e159_219, e159_220, e159_221, e159_223, e159_224, e159_227, e159_228, e159_229, e159_230, e159_232, e159_235, e159_236, e159_239, e159_240, e159_241, e159_242, e159_244, e159_245, e159_246, e159_247, e159_249, e159_250, e159_252, e159_253, e159_254, e159_257, e159_258, e159_259, e159_262, e159_263, e159_264, e159_265, e159_266, e159_267, e159_268, e159_269, e159_270, e159_271, e159_272, e159_275, e159_276, e159_277, e159_278, e159_279, e159_280, e159_281, e159_282, e159_283, e159_285, e159_286, e159_289, e159_290, e159_291, e159_292, e159_293, e159_294, e159_295, e159_296, e159_297, e159_299, e159_300, e159_303, e159_304, e159_305, e159_306, e159_308, e159_309, e159_310, e159_312, e159_313, e159_314, e159_315, e159_318, e159_319, e159_322, e159_323, e159_326, e159_327, e159_328, e159_329, e159_330, e159_331, e159_332, e159_333, e159_335, e159_336, e159_337, e159_340, e159_341, e159_342, e159_343, e159_346, n_lt, n_le, n_eq, n_lt0, n_ge0, n_gt0, n_le0, n_eq0, m_lt, m_le, m_gt, m_ge, m_eq, m_eq', m_lt0, m_ge0, m_gt0, m_le0, m_ltm, m_lem, n_in, m_in, n_cl, n_ti, n_div, n_rem', n_dec, n_l, nI_add, pk_mul, an0, an1, decide_eq_true_eq, if_true, if_false, ite_true, ite_false, and_true, true_and, and_false, false_and, not_true, not_false_iff, or_false, false_or, or_true, true_or, eq_self, va_some, Bool.false_eq_true, reduceIte, catS_n, catS_i, catS_r, catS_l, catS_d, Nat.zero_add, Nat.add_zero, decide_true, decide_false, Nat.reduceLeDiff, cat_r, cat_i, cat_l, nle_T, nle_F, nlt_T, nlt_F, neq_T, neq_F, e113]
end ACT
