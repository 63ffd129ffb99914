/-! THE LAW: tables -/
theorem wq_d {g : GS} {sp gr : SP} {fd t : Nat} (h : 0 < wq g sp gr fd t) : due g (wq g sp gr fd t) = true ∧ has g (wq g sp gr fd t) sp gr t = true := by
  unfold wq at h ⊢
  split
  · rename_i a
    simp only [Bool.and_eq_true] at a
    exact ⟨a.1.1, a.2⟩
  · rename_i a3
    rw [if_neg a3] at h
    split
    · rename_i a
      simp only [Bool.and_eq_true] at a
      exact ⟨a.1.1, a.2⟩
    · rename_i a2
      rw [if_neg a2] at h
      split
      · rename_i a
        simp only [Bool.and_eq_true] at a
        exact ⟨a.1.1, a.2⟩
      · rename_i a1
        rw [if_neg a1] at h
        omega
theorem due_n {g : GS} {r : Nat} (h : due g r = true) : 0 < g (116 + r) ∧ g (116 + r) ≤ g (113 + r) + 1 := by
  unfold due at h
  rw [Bool.and_eq_true] at h
  exact ⟨of_decide_eq_true h.1, of_decide_eq_true h.2⟩
/-- an entry that can be drawn first -/
theorem fw_pos {g : GS} {t e : Nat} (hv : TV g) (hl : LV g) (ht : t < 3) (he : e < g (3 + t)) (h : 0 < fw g t e) : fw g t e = pw g t e ∧ g (cl t e 5) = 0 ∧ (g (cl t e 0) < 16 → fq g t ≤ g (cl t e 2)) ∧ (16 ≤ g (cl t e 0) → 0 < g (3 + (g (cl t e 0) - 16))) := by
  have hcan := (wt_p hv hl ht he).mp h
  have hW : fw g t e = pw g t e := if_pos hcan
  have hE := hv.2.2 t e ht he
  unfold can ca at hcan
  rw [Bool.and_eq_true] at hcan
  have h1 := hcan.1
  unfold fre at h1
  rw [Bool.and_eq_true] at h1
  have h2 := h1.1
  unfold spG at h2
  refine ⟨hW, by simpa using h2, fun h16 => ?_, fun h16 => ?_⟩
  · have h4 := hcan.2
    rw [if_pos h16] at h4
    exact of_decide_eq_true h4
  · have h4 := hcan.2
    rw [if_neg (by omega)] at h4
    have := hE.1
    have hs := (sw_p (g := g) hv hl (show g (cl t e 0) - 16 < 3 by omega)).mpr h4
    unfold sw at hs
    obtain ⟨i, hi, _⟩ := sm_pos.mp hs
    omega
theorem fr_p {a b : Nat} (ha : 0 < a) (hab : a ≤ b) : 0 < frV a b 0 ∧ frV a b 0 ≤ a ∧ frV a b 0 ≤ frV a b 1 ∧ frV a b 1 ≤ b ∧ frV a b 0 * b = frV a b 1 * a := by
  have e0 : frV a b 0 = a / Nat.gcd a b := by
    unfold frV
    rw [if_neg (by omega), if_pos rfl]
  have e1 : frV a b 1 = b / Nat.gcd a b := by
    unfold frV
    rw [if_neg (by omega), if_neg (by omega)]
  rw [e0, e1]
  have hg : 0 < Nat.gcd a b := Nat.gcd_pos_of_pos_left _ ha
  obtain ⟨x, hx⟩ := Nat.gcd_dvd_left a b
  obtain ⟨y, hy⟩ := Nat.gcd_dvd_right a b
  have h1 : a / Nat.gcd a b = x := by
    have := Nat.mul_div_cancel_left x hg
    rw [← hx] at this
    exact this
  have h2 : b / Nat.gcd a b = y := by
    have := Nat.mul_div_cancel_left y hg
    rw [← hy] at this
    exact this
  refine ⟨Nat.div_pos (Nat.gcd_le_left _ ha) hg, Nat.div_le_self _ _, Nat.div_le_div_right hab, Nat.div_le_self _ _, ?_⟩
  rw [h1, h2]
  have e3 : x * b = x * (Nat.gcd a b * y) := congrArg (fun q => x * q) hy
  have e4 : y * a = y * (Nat.gcd a b * x) := congrArg (fun q => y * q) hx
  rw [e3, e4, Nat.mul_left_comm, Nat.mul_left_comm y, Nat.mul_comm x y]
theorem e154_0 : dek 154 0 = some (.iconst 0, 1, [0]) := rfl
theorem e154_1 : dek 154 1 = some (.istore_n 1, 1, []) := rfl
theorem e154_2 : dek 154 2 = some (.iconst 0, 1, [0]) := rfl
theorem e154_3 : dek 154 3 = some (.istore_n 2, 1, []) := rfl
theorem e154_4 : dek 154 4 = some (.iconst 1, 1, [1]) := rfl
theorem e154_5 : dek 154 5 = some (.istore_n 3, 1, []) := rfl
theorem e154_6 : dek 154 6 = some (.iconst 0, 1, [0]) := rfl
theorem e154_7 : dek 154 7 = some (.istore 4, 2, []) := rfl
theorem e154_9 : dek 154 9 = some (.iload 4, 2, []) := rfl
theorem e154_11 : dek 154 11 = some (.iconst 3, 1, [3]) := rfl
theorem e154_12 : dek 154 12 = some (.if_icmp .ge 469, 3, [481]) := rfl
theorem e154_15 : dek 154 15 = some (.iload_n 3, 1, []) := rfl
theorem e154_16 : dek 154 16 = some (.ifCond .eq 465, 3, [481]) := rfl
theorem e154_19 : dek 154 19 = some (.iconst 0, 1, [0]) := rfl
theorem e154_20 : dek 154 20 = some (.istore 5, 2, []) := rfl
theorem e154_22 : dek 154 22 = some (.aload_n 0, 1, []) := rfl
theorem e154_23 : dek 154 23 = some (.iload 4, 2, []) := rfl
theorem e154_25 : dek 154 25 = some (.iconst 1, 1, [1]) := rfl
theorem e154_26 : dek 154 26 = some (.invokestatic 108, 3, [2, 100, 0, 14, 0, 499, 0, 0, 2]) := rfl
theorem e154_29 : dek 154 29 = some (.istore 6, 2, []) := rfl
theorem e154_31 : dek 154 31 = some (.aload_n 0, 1, []) := rfl
theorem e154_32 : dek 154 32 = some (.iload 4, 2, []) := rfl
theorem e154_34 : dek 154 34 = some (.iconst 2, 1, [2]) := rfl
theorem e154_35 : dek 154 35 = some (.invokestatic 108, 3, [2, 100, 0, 14, 0, 499, 0, 0, 2]) := rfl
theorem e154_38 : dek 154 38 = some (.istore 7, 2, []) := rfl
theorem e154_40 : dek 154 40 = some (.iload_n 1, 1, []) := rfl
theorem e154_41 : dek 154 41 = some (.iload 6, 2, []) := rfl
theorem e154_43 : dek 154 43 = some (.iadd, 1, []) := rfl
theorem e154_44 : dek 154 44 = some (.istore_n 1, 1, []) := rfl
theorem e154_45 : dek 154 45 = some (.iconst 0, 1, [0]) := rfl
theorem e154_46 : dek 154 46 = some (.istore 8, 2, []) := rfl
theorem e154_48 : dek 154 48 = some (.iload 8, 2, []) := rfl
theorem e154_50 : dek 154 50 = some (.iload 6, 2, []) := rfl
theorem e154_52 : dek 154 52 = some (.if_icmp .ge 341, 3, [393]) := rfl
theorem e154_55 : dek 154 55 = some (.iload_n 3, 1, []) := rfl
theorem e154_56 : dek 154 56 = some (.ifCond .eq 337, 3, [393]) := rfl
theorem e154_59 : dek 154 59 = some (.aload_n 0, 1, []) := rfl
theorem e154_60 : dek 154 60 = some (.iload 4, 2, []) := rfl
theorem e154_62 : dek 154 62 = some (.iload 8, 2, []) := rfl
theorem e154_64 : dek 154 64 = some (.bipush 7, 2, [7]) := rfl
theorem e154_66 : dek 154 66 = some (.invokestatic 111, 3, [2, 98, 0, 14, 0, 583, 0, 0, 0, 2]) := rfl
theorem e154_69 : dek 154 69 = some (.istore 9, 2, []) := rfl
theorem e154_71 : dek 154 71 = some (.aload_n 0, 1, []) := rfl
theorem e154_72 : dek 154 72 = some (.iload 4, 2, []) := rfl
theorem e154_74 : dek 154 74 = some (.iload 8, 2, []) := rfl
theorem e154_76 : dek 154 76 = some (.iconst 2, 1, [2]) := rfl
theorem e154_77 : dek 154 77 = some (.invokestatic 111, 3, [2, 98, 0, 14, 0, 583, 0, 0, 0, 2]) := rfl
theorem e154_80 : dek 154 80 = some (.istore 10, 2, []) := rfl
theorem e154_82 : dek 154 82 = some (.aload_n 0, 1, []) := rfl
theorem e154_83 : dek 154 83 = some (.iload 4, 2, []) := rfl
theorem e154_85 : dek 154 85 = some (.iload 8, 2, []) := rfl
theorem e154_87 : dek 154 87 = some (.iconst 0, 1, [0]) := rfl
theorem e154_88 : dek 154 88 = some (.invokestatic 144, 3, [2, 130, 0, 14, 0, 802, 0, 0, 0, 2]) := rfl
theorem e154_91 : dek 154 91 = some (.istore 11, 2, []) := rfl
theorem e154_93 : dek 154 93 = some (.aload_n 0, 1, []) := rfl
theorem e154_94 : dek 154 94 = some (.iload 4, 2, []) := rfl
theorem e154_96 : dek 154 96 = some (.iload 8, 2, []) := rfl
theorem e154_98 : dek 154 98 = some (.iconst 1, 1, [1]) := rfl
theorem e154_99 : dek 154 99 = some (.invokestatic 144, 3, [2, 130, 0, 14, 0, 802, 0, 0, 0, 2]) := rfl
theorem e154_102 : dek 154 102 = some (.istore 12, 2, []) := rfl
theorem e154_104 : dek 154 104 = some (.iload_n 2, 1, []) := rfl
theorem e154_105 : dek 154 105 = some (.aload_n 0, 1, []) := rfl
theorem e154_106 : dek 154 106 = some (.iload 4, 2, []) := rfl
theorem e154_108 : dek 154 108 = some (.iload 8, 2, []) := rfl
theorem e154_110 : dek 154 110 = some (.iconst 5, 1, [5]) := rfl
theorem e154_111 : dek 154 111 = some (.invokestatic 111, 3, [2, 98, 0, 14, 0, 583, 0, 0, 0, 2]) := rfl
theorem e154_114 : dek 154 114 = some (.iadd, 1, []) := rfl
theorem e154_115 : dek 154 115 = some (.istore_n 2, 1, []) := rfl
theorem e154_116 : dek 154 116 = some (.iload 5, 2, []) := rfl
theorem e154_118 : dek 154 118 = some (.iload 9, 2, []) := rfl
theorem e154_120 : dek 154 120 = some (.aload_n 0, 1, []) := rfl
theorem e154_121 : dek 154 121 = some (.iload 4, 2, []) := rfl
theorem e154_123 : dek 154 123 = some (.iload 8, 2, []) := rfl
theorem e154_125 : dek 154 125 = some (.bipush 6, 2, [6]) := rfl
theorem e154_127 : dek 154 127 = some (.invokestatic 111, 3, [2, 98, 0, 14, 0, 583, 0, 0, 0, 2]) := rfl
theorem e154_130 : dek 154 130 = some (.imul, 1, []) := rfl
theorem e154_131 : dek 154 131 = some (.iadd, 1, []) := rfl
theorem e154_132 : dek 154 132 = some (.istore 5, 2, []) := rfl
theorem e154_134 : dek 154 134 = some (.iload 9, 2, []) := rfl
theorem e154_136 : dek 154 136 = some (.ifCond .eq 15, 3, [151]) := rfl
theorem e154_139 : dek 154 139 = some (.aload_n 0, 1, []) := rfl
theorem e154_140 : dek 154 140 = some (.iload 4, 2, []) := rfl
theorem e154_142 : dek 154 142 = some (.iload 8, 2, []) := rfl
theorem e154_144 : dek 154 144 = some (.iconst 5, 1, [5]) := rfl
theorem e154_145 : dek 154 145 = some (.invokestatic 111, 3, [2, 98, 0, 14, 0, 583, 0, 0, 0, 2]) := rfl
theorem e154_148 : dek 154 148 = some (.ifCond .ne 237, 3, [385]) := rfl
theorem e154_151 : dek 154 151 = some (.aload_n 0, 1, []) := rfl
theorem e154_152 : dek 154 152 = some (.iload 4, 2, []) := rfl
theorem e154_154 : dek 154 154 = some (.iload 8, 2, []) := rfl
theorem e154_156 : dek 154 156 = some (.iconst 5, 1, [5]) := rfl
theorem e154_157 : dek 154 157 = some (.invokestatic 111, 3, [2, 98, 0, 14, 0, 583, 0, 0, 0, 2]) := rfl
theorem e154_160 : dek 154 160 = some (.aload_n 0, 1, []) := rfl
theorem e154_161 : dek 154 161 = some (.iload 4, 2, []) := rfl
theorem e154_163 : dek 154 163 = some (.iload 8, 2, []) := rfl
theorem e154_165 : dek 154 165 = some (.iconst 4, 1, [4]) := rfl
theorem e154_166 : dek 154 166 = some (.invokestatic 111, 3, [2, 98, 0, 14, 0, 583, 0, 0, 0, 2]) := rfl
theorem e154_169 : dek 154 169 = some (.if_icmp .gt 216, 3, [385]) := rfl
theorem e154_172 : dek 154 172 = some (.aload_n 0, 1, []) := rfl
theorem e154_173 : dek 154 173 = some (.iload 4, 2, []) := rfl
theorem e154_175 : dek 154 175 = some (.iload 8, 2, []) := rfl
theorem e154_177 : dek 154 177 = some (.bipush 6, 2, [6]) := rfl
theorem e154_179 : dek 154 179 = some (.invokestatic 111, 3, [2, 98, 0, 14, 0, 583, 0, 0, 0, 2]) := rfl
theorem e154_182 : dek 154 182 = some (.iload 10, 2, []) := rfl
theorem e154_184 : dek 154 184 = some (.ifCond .ne 15, 3, [199]) := rfl
theorem e154_187 : dek 154 187 = some (.aload_n 0, 1, []) := rfl
theorem e154_188 : dek 154 188 = some (.iload 4, 2, []) := rfl
theorem e154_190 : dek 154 190 = some (.iload 8, 2, []) := rfl
theorem e154_192 : dek 154 192 = some (.iconst 1, 1, [1]) := rfl
theorem e154_193 : dek 154 193 = some (.invokestatic 111, 3, [2, 98, 0, 14, 0, 583, 0, 0, 0, 2]) := rfl
theorem e154_196 : dek 154 196 = some (.goto 32, 3, [228]) := rfl
theorem e154_199 : dek 154 199 = some (.aload_n 0, 1, []) := rfl
theorem e154_200 : dek 154 200 = some (.iload 4, 2, []) := rfl
theorem e154_202 : dek 154 202 = some (.iload 8, 2, []) := rfl
theorem e154_204 : dek 154 204 = some (.iconst 1, 1, [1]) := rfl
theorem e154_205 : dek 154 205 = some (.invokestatic 111, 3, [2, 98, 0, 14, 0, 583, 0, 0, 0, 2]) := rfl
theorem e154_208 : dek 154 208 = some (.bipush 100, 2, [100]) := rfl
theorem e154_210 : dek 154 210 = some (.aload_n 0, 1, []) := rfl
theorem e154_211 : dek 154 211 = some (.iconst 0, 1, [0]) := rfl
theorem e154_212 : dek 154 212 = some (.invokestatic 103, 3, [2, 111, 0, 14, 0, 426, 0, 2]) := rfl
theorem e154_215 : dek 154 215 = some (.aload_n 0, 1, []) := rfl
theorem e154_216 : dek 154 216 = some (.iload 10, 2, []) := rfl
theorem e154_218 : dek 154 218 = some (.iconst 0, 1, [0]) := rfl
theorem e154_219 : dek 154 219 = some (.invokestatic 114, 3, [2, 109, 0, 14, 0, 606, 0, 0, 2]) := rfl
theorem e154_222 : dek 154 222 = some (.imul, 1, []) := rfl
theorem e154_223 : dek 154 223 = some (.iadd, 1, []) := rfl
theorem e154_224 : dek 154 224 = some (.imul, 1, []) := rfl
theorem e154_225 : dek 154 225 = some (.bipush 100, 2, [100]) := rfl
theorem e154_227 : dek 154 227 = some (.idiv, 1, []) := rfl
theorem e154_228 : dek 154 228 = some (.if_icmp .ne 157, 3, [385]) := rfl
theorem e154_231 : dek 154 231 = some (.iload 9, 2, []) := rfl
theorem e154_233 : dek 154 233 = some (.iconst 1, 1, [1]) := rfl
theorem e154_234 : dek 154 234 = some (.if_icmp .ne 49, 3, [283]) := rfl
theorem e154_237 : dek 154 237 = some (.iload 11, 2, []) := rfl
theorem e154_239 : dek 154 239 = some (.ifCond .le 146, 3, [385]) := rfl
theorem e154_242 : dek 154 242 = some (.iload 12, 2, []) := rfl
theorem e154_244 : dek 154 244 = some (.iload 11, 2, []) := rfl
theorem e154_246 : dek 154 246 = some (.if_icmp .lt 139, 3, [385]) := rfl
theorem e154_249 : dek 154 249 = some (.iload 11, 2, []) := rfl
theorem e154_251 : dek 154 251 = some (.i2l, 1, []) := rfl
theorem e154_252 : dek 154 252 = some (.aload_n 0, 1, []) := rfl
theorem e154_253 : dek 154 253 = some (.iload 4, 2, []) := rfl
theorem e154_255 : dek 154 255 = some (.iconst 3, 1, [3]) := rfl
theorem e154_256 : dek 154 256 = some (.invokestatic 108, 3, [2, 100, 0, 14, 0, 499, 0, 0, 2]) := rfl
theorem e154_259 : dek 154 259 = some (.i2l, 1, []) := rfl
theorem e154_260 : dek 154 260 = some (.lmul, 1, []) := rfl
theorem e154_261 : dek 154 261 = some (.iload 12, 2, []) := rfl
theorem e154_263 : dek 154 263 = some (.i2l, 1, []) := rfl
theorem e154_264 : dek 154 264 = some (.aload_n 0, 1, []) := rfl
theorem e154_265 : dek 154 265 = some (.iload 4, 2, []) := rfl
theorem e154_267 : dek 154 267 = some (.iload 8, 2, []) := rfl
theorem e154_269 : dek 154 269 = some (.bipush 6, 2, [6]) := rfl
theorem e154_271 : dek 154 271 = some (.invokestatic 111, 3, [2, 98, 0, 14, 0, 583, 0, 0, 0, 2]) := rfl
theorem e154_274 : dek 154 274 = some (.i2l, 1, []) := rfl
theorem e154_275 : dek 154 275 = some (.lmul, 1, []) := rfl
theorem e154_276 : dek 154 276 = some (.lcmp, 1, []) := rfl
theorem e154_277 : dek 154 277 = some (.ifCond .ne 108, 3, [385]) := rfl
theorem e154_280 : dek 154 280 = some (.goto 14, 3, [294]) := rfl
theorem e154_283 : dek 154 283 = some (.iload 11, 2, []) := rfl
theorem e154_285 : dek 154 285 = some (.ifCond .ne 100, 3, [385]) := rfl
theorem e154_288 : dek 154 288 = some (.iload 12, 2, []) := rfl
theorem e154_290 : dek 154 290 = some (.iconst 1, 1, [1]) := rfl
theorem e154_291 : dek 154 291 = some (.if_icmp .ne 94, 3, [385]) := rfl
theorem e154_294 : dek 154 294 = some (.iload 9, 2, []) := rfl
theorem e154_296 : dek 154 296 = some (.ifCond .eq 24, 3, [320]) := rfl
theorem e154_299 : dek 154 299 = some (.aload_n 0, 1, []) := rfl
theorem e154_300 : dek 154 300 = some (.iload 4, 2, []) := rfl
theorem e154_302 : dek 154 302 = some (.iload 8, 2, []) := rfl
theorem e154_304 : dek 154 304 = some (.iconst 0, 1, [0]) := rfl
theorem e154_305 : dek 154 305 = some (.invokestatic 111, 3, [2, 98, 0, 14, 0, 583, 0, 0, 0, 2]) := rfl
theorem e154_308 : dek 154 308 = some (.bipush 15, 2, [15]) := rfl
theorem e154_310 : dek 154 310 = some (.if_icmp .gt 10, 3, [320]) := rfl
theorem e154_313 : dek 154 313 = some (.iload 10, 2, []) := rfl
theorem e154_315 : dek 154 315 = some (.iload 7, 2, []) := rfl
theorem e154_317 : dek 154 317 = some (.if_icmp .lt 68, 3, [385]) := rfl
theorem e154_320 : dek 154 320 = some (.aload_n 0, 1, []) := rfl
theorem e154_321 : dek 154 321 = some (.iload 4, 2, []) := rfl
theorem e154_323 : dek 154 323 = some (.iload 8, 2, []) := rfl
theorem e154_325 : dek 154 325 = some (.iconst 0, 1, [0]) := rfl
theorem e154_326 : dek 154 326 = some (.invokestatic 111, 3, [2, 98, 0, 14, 0, 583, 0, 0, 0, 2]) := rfl
theorem e154_329 : dek 154 329 = some (.bipush 16, 2, [16]) := rfl
theorem e154_331 : dek 154 331 = some (.if_icmp .lt 50, 3, [381]) := rfl
theorem e154_334 : dek 154 334 = some (.aload_n 0, 1, []) := rfl
theorem e154_335 : dek 154 335 = some (.iload 4, 2, []) := rfl
theorem e154_337 : dek 154 337 = some (.iload 8, 2, []) := rfl
theorem e154_339 : dek 154 339 = some (.iconst 0, 1, [0]) := rfl
theorem e154_340 : dek 154 340 = some (.invokestatic 111, 3, [2, 98, 0, 14, 0, 583, 0, 0, 0, 2]) := rfl
theorem e154_343 : dek 154 343 = some (.bipush 16, 2, [16]) := rfl
theorem e154_345 : dek 154 345 = some (.isub, 1, []) := rfl
theorem e154_346 : dek 154 346 = some (.iload 4, 2, []) := rfl
theorem e154_348 : dek 154 348 = some (.if_icmp .le 37, 3, [385]) := rfl
theorem e154_351 : dek 154 351 = some (.iload 10, 2, []) := rfl
theorem e154_353 : dek 154 353 = some (.ifCond .ne 32, 3, [385]) := rfl
theorem e154_356 : dek 154 356 = some (.iload 9, 2, []) := rfl
theorem e154_358 : dek 154 358 = some (.ifCond .eq 23, 3, [381]) := rfl
theorem e154_361 : dek 154 361 = some (.aload_n 0, 1, []) := rfl
theorem e154_362 : dek 154 362 = some (.aload_n 0, 1, []) := rfl
theorem e154_363 : dek 154 363 = some (.iload 4, 2, []) := rfl
theorem e154_365 : dek 154 365 = some (.iload 8, 2, []) := rfl
theorem e154_367 : dek 154 367 = some (.iconst 0, 1, [0]) := rfl
theorem e154_368 : dek 154 368 = some (.invokestatic 111, 3, [2, 98, 0, 14, 0, 583, 0, 0, 0, 2]) := rfl
theorem e154_371 : dek 154 371 = some (.bipush 16, 2, [16]) := rfl
theorem e154_373 : dek 154 373 = some (.isub, 1, []) := rfl
theorem e154_374 : dek 154 374 = some (.iconst 1, 1, [1]) := rfl
theorem e154_375 : dek 154 375 = some (.invokestatic 108, 3, [2, 100, 0, 14, 0, 499, 0, 0, 2]) := rfl
theorem e154_378 : dek 154 378 = some (.ifCond .le 7, 3, [385]) := rfl
theorem e154_381 : dek 154 381 = some (.iconst 1, 1, [1]) := rfl
theorem e154_382 : dek 154 382 = some (.goto 4, 3, [386]) := rfl
theorem e154_385 : dek 154 385 = some (.iconst 0, 1, [0]) := rfl
theorem e154_386 : dek 154 386 = some (.istore_n 3, 1, []) := rfl
theorem e154_387 : dek 154 387 = some (.iinc 8 1, 3, [1]) := rfl
theorem e154_390 : dek 154 390 = some (.goto (-342), 3, [48]) := rfl
theorem e154_393 : dek 154 393 = some (.iload_n 3, 1, []) := rfl
theorem e154_394 : dek 154 394 = some (.ifCond .eq 79, 3, [473]) := rfl
theorem e154_397 : dek 154 397 = some (.iload 5, 2, []) := rfl
theorem e154_399 : dek 154 399 = some (.aload_n 0, 1, []) := rfl
theorem e154_400 : dek 154 400 = some (.iload 4, 2, []) := rfl
theorem e154_402 : dek 154 402 = some (.iconst 3, 1, [3]) := rfl
theorem e154_403 : dek 154 403 = some (.invokestatic 108, 3, [2, 100, 0, 14, 0, 499, 0, 0, 2]) := rfl
theorem e154_406 : dek 154 406 = some (.if_icmp .ne 67, 3, [473]) := rfl
theorem e154_409 : dek 154 409 = some (.iload 7, 2, []) := rfl
theorem e154_411 : dek 154 411 = some (.ifCond .eq 37, 3, [448]) := rfl
theorem e154_414 : dek 154 414 = some (.aload_n 0, 1, []) := rfl
theorem e154_415 : dek 154 415 = some (.iload 7, 2, []) := rfl
theorem e154_417 : dek 154 417 = some (.iconst 1, 1, [1]) := rfl
theorem e154_418 : dek 154 418 = some (.invokestatic 114, 3, [2, 109, 0, 14, 0, 606, 0, 0, 2]) := rfl
theorem e154_421 : dek 154 421 = some (.ifCond .le 52, 3, [473]) := rfl
theorem e154_424 : dek 154 424 = some (.aload_n 0, 1, []) := rfl
theorem e154_425 : dek 154 425 = some (.iload 7, 2, []) := rfl
theorem e154_427 : dek 154 427 = some (.iconst 0, 1, [0]) := rfl
theorem e154_428 : dek 154 428 = some (.invokestatic 114, 3, [2, 109, 0, 14, 0, 606, 0, 0, 2]) := rfl
theorem e154_431 : dek 154 431 = some (.iconst 1, 1, [1]) := rfl
theorem e154_432 : dek 154 432 = some (.iadd, 1, []) := rfl
theorem e154_433 : dek 154 433 = some (.aload_n 0, 1, []) := rfl
theorem e154_434 : dek 154 434 = some (.iload 7, 2, []) := rfl
theorem e154_436 : dek 154 436 = some (.iconst 1, 1, [1]) := rfl
theorem e154_437 : dek 154 437 = some (.invokestatic 114, 3, [2, 109, 0, 14, 0, 606, 0, 0, 2]) := rfl
theorem e154_440 : dek 154 440 = some (.if_icmp .lt 33, 3, [473]) := rfl
theorem e154_443 : dek 154 443 = some (.iload 5, 2, []) := rfl
theorem e154_445 : dek 154 445 = some (.ifCond .le 28, 3, [473]) := rfl
theorem e154_448 : dek 154 448 = some (.aload_n 0, 1, []) := rfl
theorem e154_449 : dek 154 449 = some (.iload 4, 2, []) := rfl
theorem e154_451 : dek 154 451 = some (.iconst 0, 1, [0]) := rfl
theorem e154_452 : dek 154 452 = some (.invokestatic 108, 3, [2, 100, 0, 14, 0, 499, 0, 0, 2]) := rfl
theorem e154_455 : dek 154 455 = some (.ifCond .le 18, 3, [473]) := rfl
theorem e154_458 : dek 154 458 = some (.aload_n 0, 1, []) := rfl
theorem e154_459 : dek 154 459 = some (.iload 4, 2, []) := rfl
theorem e154_461 : dek 154 461 = some (.iconst 0, 1, [0]) := rfl
theorem e154_462 : dek 154 462 = some (.invokestatic 108, 3, [2, 100, 0, 14, 0, 499, 0, 0, 2]) := rfl
theorem e154_465 : dek 154 465 = some (.iconst 3, 1, [3]) := rfl
theorem e154_466 : dek 154 466 = some (.if_icmp .ge 7, 3, [473]) := rfl
theorem e154_469 : dek 154 469 = some (.iconst 1, 1, [1]) := rfl
theorem e154_470 : dek 154 470 = some (.goto 4, 3, [474]) := rfl
theorem e154_473 : dek 154 473 = some (.iconst 0, 1, [0]) := rfl
theorem e154_474 : dek 154 474 = some (.istore_n 3, 1, []) := rfl
theorem e154_475 : dek 154 475 = some (.iinc 4 1, 3, [1]) := rfl
theorem e154_478 : dek 154 478 = some (.goto (-469), 3, [9]) := rfl
theorem e154_481 : dek 154 481 = some (.iload_n 3, 1, []) := rfl
theorem e154_482 : dek 154 482 = some (.ifCond .eq 26, 3, [508]) := rfl
theorem e154_485 : dek 154 485 = some (.iload_n 1, 1, []) := rfl
theorem e154_486 : dek 154 486 = some (.aload_n 0, 1, []) := rfl
theorem e154_487 : dek 154 487 = some (.iconst 5, 1, [5]) := rfl
theorem e154_488 : dek 154 488 = some (.invokestatic 103, 3, [2, 111, 0, 14, 0, 426, 0, 2]) := rfl
theorem e154_491 : dek 154 491 = some (.if_icmp .ne 17, 3, [508]) := rfl
theorem e154_494 : dek 154 494 = some (.iload_n 2, 1, []) := rfl
theorem e154_495 : dek 154 495 = some (.aload_n 0, 1, []) := rfl
theorem e154_496 : dek 154 496 = some (.bipush 6, 2, [6]) := rfl
theorem e154_498 : dek 154 498 = some (.invokestatic 103, 3, [2, 111, 0, 14, 0, 426, 0, 2]) := rfl
theorem e154_501 : dek 154 501 = some (.if_icmp .ne 7, 3, [508]) := rfl
theorem e154_504 : dek 154 504 = some (.iconst 1, 1, [1]) := rfl
theorem e154_505 : dek 154 505 = some (.goto 4, 3, [509]) := rfl
theorem e154_508 : dek 154 508 = some (.iconst 0, 1, [0]) := rfl
theorem e154_509 : dek 154 509 = some (.ireturn, 1, [1]) := rfl
set_option maxRecDepth 50000 in
set_option maxHeartbeats 8000000 in
theorem p154i {g : GS} {t e a b c : Nat} (hv : TV g) (hl : LV g) (hT : TP g) (ht : t < 3) (he : e < g (3 + t)) (ha : a ≤ 1000) (hb : b ≤ 1000) (hc : c ≤ 6000000) {z : SX} {d n k : Nat} {ps : Nat → GS} {Z : ZT} {u9 u10 u11 u12 : Value} (hd : 32 ≤ d) : ∃ v9 v10 v11 v12 : Value, X2 z d 154 48 [.ref 1, .int (nI a), .int (nI b), .int (nI 1), .int (nI t), .int (nI c), .int (nI (g (3 + t))), .int (nI (fq g t)), .int (nI e), u9, u10, u11, u12] [] (g, n, ps, k) Z = X2 z d 154 48 [.ref 1, .int (nI a), .int (nI (b + g (cl t e 5))), .int (nI 1), .int (nI t), .int (nI (c + fw g t e)), .int (nI (g (3 + t))), .int (nI (fq g t)), .int (nI (e + 1)), v9, v10, v11, v12] [] (g, n, ps, k) Z := by
  have h6 := hv.2.1 t ht
  obtain ⟨E0, E1, E2, E3, E4, E5, E6, E7⟩ := hv.2.2 t e ht he
  have hT := hT t e ht he
  have hq3 : fq g t ≤ 3 := wq_b _ _ _ _ _
  have hpb := pw_b hv hl ht he
  have hsb : fs g t ≤ 612000 := sw_b (q := fq g t) (sp := spG g) (gr := noG) hv hl ht
  have hws : fw g t e ≤ fs g t := sm_split he
  have h120 := hl.2.1
  have hr3 : g (cl t e 2) ≤ 3 := by
    rcases Nat.lt_or_ge (g (cl t e 0)) 16 with y | y
    · exact E1 y
    · have := (E2 y).2; omega
  refine ⟨.int (nI (if 0 < fw g t e then 1 else 0)), .int (nI (g (cl t e 2))), .int (nI (frV (fw g t e) (fs g t) 0)), .int (nI (frV (fw g t e) (fs g t) 1)), ?_⟩
  rw [X2_go, e154_48]
  rcases Nat.eq_zero_or_pos (fw g t e) with hw | hw
  · have f0 : frV 0 (fs g t) 0 = 0 := rfl
    have f1 : frV 0 (fs g t) 1 = 1 := rfl
    have hlt : (0 < 0) = False := eq_false (by omega)
    by_cases hr : g (cl t e 2) = 0
    · have hpw : pw g t e = g (cl t e 1) := if_pos hr
      rw [hpw] at hpb
      by_cases h16 : g (cl t e 0) < 16
      · simp (disch := first | assumption | omega) only [Nat.reduceAdd, mP_1, mP_0, X2_go, g4_some, stp, ldI, ldA, ldL, stI, stA, stL, o1I, o2I, o2L, brI, brII, gl, s1, s2, k1, sl, g3_sN, g3_sR, g3_sC, g3_if, g3_no, pops, b2_v, e154_0, e154_1, e154_2, e154_3, e154_4, e154_5, e154_6, e154_7, e154_9, e154_11, e154_12, e154_15, e154_16, e154_19, e154_20, e154_22, e154_23, e154_25, e154_26, e154_29, e154_31, e154_32, e154_34, e154_35, e154_38, e154_40, e154_41, e154_43, e154_44, e154_45, e154_46, e154_50, e154_52, e154_55, e154_56, e154_59, e154_60, e154_62, e154_64, e154_66, e154_69, e154_71, e154_72, e154_74, e154_76, e154_77, e154_80, e154_82, e154_83, e154_85, e154_87, e154_88, e154_91, e154_93, e154_94, e154_96, e154_98, e154_99, e154_102, e154_104, e154_105, e154_106, e154_108, e154_110, e154_111, e154_114, e154_115, e154_116, e154_118, e154_120, e154_121, e154_123, e154_125, e154_127, e154_130, e154_131, e154_132, e154_134, e154_136, e154_139, e154_140, e154_142, e154_144, e154_145, e154_148, e154_151, e154_152, e154_154, e154_156, e154_157, e154_160, e154_161, e154_163, e154_165, e154_166, e154_169, e154_172, e154_173, e154_175, e154_177, e154_179, e154_182, e154_184, e154_187, e154_188, e154_190, e154_192, e154_193, e154_196, e154_199, e154_200, e154_202, e154_204, e154_205, e154_208, e154_210, e154_211, e154_212, e154_215, e154_216, e154_218, e154_219, e154_222, e154_223, e154_224, e154_225, e154_227, e154_228, e154_231, e154_233, e154_234, e154_237, e154_239, e154_242, e154_244, e154_246, e154_249, e154_251, e154_252, e154_253, e154_255, e154_256, e154_259, e154_260, e154_261, e154_263, e154_264, e154_265, e154_267, e154_269, e154_271, e154_274, e154_275, e154_276, e154_277, e154_280, e154_283, e154_285, e154_288, e154_290, e154_291, e154_294, e154_296, e154_299, e154_300, e154_302, e154_304, e154_305, e154_308, e154_310, e154_313, e154_315, e154_317, e154_320, e154_321, e154_323, e154_325, e154_326, e154_329, e154_331, e154_334, e154_335, e154_337, e154_339, e154_340, e154_343, e154_345, e154_346, e154_348, e154_351, e154_353, e154_356, e154_358, e154_361, e154_362, e154_363, e154_365, e154_367, e154_368, e154_371, e154_373, e154_374, e154_375, e154_378, e154_381, e154_382, e154_385, e154_386, e154_387, e154_390, e154_394, e154_397, e154_399, e154_400, e154_402, e154_403, e154_406, e154_409, e154_411, e154_414, e154_415, e154_417, e154_418, e154_421, e154_424, e154_425, e154_427, e154_428, e154_431, e154_432, e154_433, e154_434, e154_436, e154_437, e154_440, e154_443, e154_445, e154_448, e154_449, e154_451, e154_452, e154_455, e154_458, e154_459, e154_461, e154_462, e154_465, e154_466, e154_469, e154_470, e154_473, e154_474, e154_475, e154_478, e154_481, e154_482, e154_485, e154_486, e154_487, e154_488, e154_491, e154_494, e154_495, e154_496, e154_498, e154_501, e154_504, e154_505, e154_508, e154_509, n_lt, n_le, n_eq, n_lt0, n_ge0, n_gt0, n_le0, n_eq0, m_lt, m_le, m_gt, m_ge, m_eq, m_eq', m_lt0, m_ge0, m_gt0, m_le0, m_ltm, m_lem, n_in, m_in, n_cl, n_ti, n_div, n_rem', n_dec, n_l, nI_add, pk_mul, an0, an1, decide_eq_true_eq, if_true, if_false, ite_true, ite_false, and_true, true_and, and_false, false_and, not_true, not_false_iff, or_false, false_or, or_true, true_or, eq_self, va_some, Bool.false_eq_true, reduceIte, catS_n, catS_i, catS_r, catS_l, catS_d, Nat.zero_add, Nat.add_zero, decide_true, decide_false, Nat.reduceLeDiff, cat_r, cat_i, cat_l, nle_T, nle_F, nlt_T, nlt_F, neq_T, neq_F, e98, e100, e109c, e109l, e111v, e130a, e130b, eV_0, eV_1, eV_2, eV_4, eV_5, eV_6, eV_7, tV_1, tV_3, vV_0, hpw, hr, hw, hlt, f0, f1, Nat.zero_mul, Nat.one_mul]
      · have hlk := E2 (by omega)
        simp (disch := first | assumption | omega) only [Nat.reduceAdd, mP_1, mP_0, X2_go, g4_some, stp, ldI, ldA, ldL, stI, stA, stL, o1I, o2I, o2L, brI, brII, gl, s1, s2, k1, sl, g3_sN, g3_sR, g3_sC, g3_if, g3_no, pops, b2_v, e154_0, e154_1, e154_2, e154_3, e154_4, e154_5, e154_6, e154_7, e154_9, e154_11, e154_12, e154_15, e154_16, e154_19, e154_20, e154_22, e154_23, e154_25, e154_26, e154_29, e154_31, e154_32, e154_34, e154_35, e154_38, e154_40, e154_41, e154_43, e154_44, e154_45, e154_46, e154_50, e154_52, e154_55, e154_56, e154_59, e154_60, e154_62, e154_64, e154_66, e154_69, e154_71, e154_72, e154_74, e154_76, e154_77, e154_80, e154_82, e154_83, e154_85, e154_87, e154_88, e154_91, e154_93, e154_94, e154_96, e154_98, e154_99, e154_102, e154_104, e154_105, e154_106, e154_108, e154_110, e154_111, e154_114, e154_115, e154_116, e154_118, e154_120, e154_121, e154_123, e154_125, e154_127, e154_130, e154_131, e154_132, e154_134, e154_136, e154_139, e154_140, e154_142, e154_144, e154_145, e154_148, e154_151, e154_152, e154_154, e154_156, e154_157, e154_160, e154_161, e154_163, e154_165, e154_166, e154_169, e154_172, e154_173, e154_175, e154_177, e154_179, e154_182, e154_184, e154_187, e154_188, e154_190, e154_192, e154_193, e154_196, e154_199, e154_200, e154_202, e154_204, e154_205, e154_208, e154_210, e154_211, e154_212, e154_215, e154_216, e154_218, e154_219, e154_222, e154_223, e154_224, e154_225, e154_227, e154_228, e154_231, e154_233, e154_234, e154_237, e154_239, e154_242, e154_244, e154_246, e154_249, e154_251, e154_252, e154_253, e154_255, e154_256, e154_259, e154_260, e154_261, e154_263, e154_264, e154_265, e154_267, e154_269, e154_271, e154_274, e154_275, e154_276, e154_277, e154_280, e154_283, e154_285, e154_288, e154_290, e154_291, e154_294, e154_296, e154_299, e154_300, e154_302, e154_304, e154_305, e154_308, e154_310, e154_313, e154_315, e154_317, e154_320, e154_321, e154_323, e154_325, e154_326, e154_329, e154_331, e154_334, e154_335, e154_337, e154_339, e154_340, e154_343, e154_345, e154_346, e154_348, e154_351, e154_353, e154_356, e154_358, e154_361, e154_362, e154_363, e154_365, e154_367, e154_368, e154_371, e154_373, e154_374, e154_375, e154_378, e154_381, e154_382, e154_385, e154_386, e154_387, e154_390, e154_394, e154_397, e154_399, e154_400, e154_402, e154_403, e154_406, e154_409, e154_411, e154_414, e154_415, e154_417, e154_418, e154_421, e154_424, e154_425, e154_427, e154_428, e154_431, e154_432, e154_433, e154_434, e154_436, e154_437, e154_440, e154_443, e154_445, e154_448, e154_449, e154_451, e154_452, e154_455, e154_458, e154_459, e154_461, e154_462, e154_465, e154_466, e154_469, e154_470, e154_473, e154_474, e154_475, e154_478, e154_481, e154_482, e154_485, e154_486, e154_487, e154_488, e154_491, e154_494, e154_495, e154_496, e154_498, e154_501, e154_504, e154_505, e154_508, e154_509, n_lt, n_le, n_eq, n_lt0, n_ge0, n_gt0, n_le0, n_eq0, m_lt, m_le, m_gt, m_ge, m_eq, m_eq', m_lt0, m_ge0, m_gt0, m_le0, m_ltm, m_lem, n_in, m_in, n_cl, n_ti, n_div, n_rem', n_dec, n_l, nI_add, pk_mul, an0, an1, decide_eq_true_eq, if_true, if_false, ite_true, ite_false, and_true, true_and, and_false, false_and, not_true, not_false_iff, or_false, false_or, or_true, true_or, eq_self, va_some, Bool.false_eq_true, reduceIte, catS_n, catS_i, catS_r, catS_l, catS_d, Nat.zero_add, Nat.add_zero, decide_true, decide_false, Nat.reduceLeDiff, cat_r, cat_i, cat_l, nle_T, nle_F, nlt_T, nlt_F, neq_T, neq_F, e98, e100, e109c, e109l, e111v, e130a, e130b, eV_0, eV_1, eV_2, eV_4, eV_5, eV_6, eV_7, tV_1, tV_3, vV_0, hpw, hr, hw, hlt, f0, f1, Nat.zero_mul, Nat.one_mul, n_sub]
    · have hpw : pw g t e = g (cl t e 1) * (100 + g 120 * g (113 + g (cl t e 2))) / 100 := if_neg hr
      have hrp : 0 < g (cl t e 2) := by omega
      have hco := (hl.1 (g (cl t e 2)) hrp hr3).1
      have m1 : g 120 * g (113 + g (cl t e 2)) ≤ 50 * 200 := Nat.mul_le_mul h120 hco
      have m2 : g (cl t e 1) * (100 + g 120 * g (113 + g (cl t e 2))) ≤ 1000 * 10100 := Nat.mul_le_mul E4 (by omega)
      have m3 : g (cl t e 1) * (100 + g 120 * g (113 + g (cl t e 2))) < 2147483648 := by omega
      have h16 : g (cl t e 0) < 16 := by
        rcases Nat.lt_or_ge (g (cl t e 0)) 16 with y | y
        · exact y
        · have := (E2 y).2; omega
      rw [hpw] at hpb
      simp (disch := first | assumption | omega) only [Nat.reduceAdd, mP_1, mP_0, X2_go, g4_some, stp, ldI, ldA, ldL, stI, stA, stL, o1I, o2I, o2L, brI, brII, gl, s1, s2, k1, sl, g3_sN, g3_sR, g3_sC, g3_if, g3_no, pops, b2_v, e154_0, e154_1, e154_2, e154_3, e154_4, e154_5, e154_6, e154_7, e154_9, e154_11, e154_12, e154_15, e154_16, e154_19, e154_20, e154_22, e154_23, e154_25, e154_26, e154_29, e154_31, e154_32, e154_34, e154_35, e154_38, e154_40, e154_41, e154_43, e154_44, e154_45, e154_46, e154_50, e154_52, e154_55, e154_56, e154_59, e154_60, e154_62, e154_64, e154_66, e154_69, e154_71, e154_72, e154_74, e154_76, e154_77, e154_80, e154_82, e154_83, e154_85, e154_87, e154_88, e154_91, e154_93, e154_94, e154_96, e154_98, e154_99, e154_102, e154_104, e154_105, e154_106, e154_108, e154_110, e154_111, e154_114, e154_115, e154_116, e154_118, e154_120, e154_121, e154_123, e154_125, e154_127, e154_130, e154_131, e154_132, e154_134, e154_136, e154_139, e154_140, e154_142, e154_144, e154_145, e154_148, e154_151, e154_152, e154_154, e154_156, e154_157, e154_160, e154_161, e154_163, e154_165, e154_166, e154_169, e154_172, e154_173, e154_175, e154_177, e154_179, e154_182, e154_184, e154_187, e154_188, e154_190, e154_192, e154_193, e154_196, e154_199, e154_200, e154_202, e154_204, e154_205, e154_208, e154_210, e154_211, e154_212, e154_215, e154_216, e154_218, e154_219, e154_222, e154_223, e154_224, e154_225, e154_227, e154_228, e154_231, e154_233, e154_234, e154_237, e154_239, e154_242, e154_244, e154_246, e154_249, e154_251, e154_252, e154_253, e154_255, e154_256, e154_259, e154_260, e154_261, e154_263, e154_264, e154_265, e154_267, e154_269, e154_271, e154_274, e154_275, e154_276, e154_277, e154_280, e154_283, e154_285, e154_288, e154_290, e154_291, e154_294, e154_296, e154_299, e154_300, e154_302, e154_304, e154_305, e154_308, e154_310, e154_313, e154_315, e154_317, e154_320, e154_321, e154_323, e154_325, e154_326, e154_329, e154_331, e154_334, e154_335, e154_337, e154_339, e154_340, e154_343, e154_345, e154_346, e154_348, e154_351, e154_353, e154_356, e154_358, e154_361, e154_362, e154_363, e154_365, e154_367, e154_368, e154_371, e154_373, e154_374, e154_375, e154_378, e154_381, e154_382, e154_385, e154_386, e154_387, e154_390, e154_394, e154_397, e154_399, e154_400, e154_402, e154_403, e154_406, e154_409, e154_411, e154_414, e154_415, e154_417, e154_418, e154_421, e154_424, e154_425, e154_427, e154_428, e154_431, e154_432, e154_433, e154_434, e154_436, e154_437, e154_440, e154_443, e154_445, e154_448, e154_449, e154_451, e154_452, e154_455, e154_458, e154_459, e154_461, e154_462, e154_465, e154_466, e154_469, e154_470, e154_473, e154_474, e154_475, e154_478, e154_481, e154_482, e154_485, e154_486, e154_487, e154_488, e154_491, e154_494, e154_495, e154_496, e154_498, e154_501, e154_504, e154_505, e154_508, e154_509, n_lt, n_le, n_eq, n_lt0, n_ge0, n_gt0, n_le0, n_eq0, m_lt, m_le, m_gt, m_ge, m_eq, m_eq', m_lt0, m_ge0, m_gt0, m_le0, m_ltm, m_lem, n_in, m_in, n_cl, n_ti, n_div, n_rem', n_dec, n_l, nI_add, pk_mul, an0, an1, decide_eq_true_eq, if_true, if_false, ite_true, ite_false, and_true, true_and, and_false, false_and, not_true, not_false_iff, or_false, false_or, or_true, true_or, eq_self, va_some, Bool.false_eq_true, reduceIte, catS_n, catS_i, catS_r, catS_l, catS_d, Nat.zero_add, Nat.add_zero, decide_true, decide_false, Nat.reduceLeDiff, cat_r, cat_i, cat_l, nle_T, nle_F, nlt_T, nlt_F, neq_T, neq_F, e98, e100, e109c, e109l, e111v, e130a, e130b, eV_0, eV_1, eV_2, eV_4, eV_5, eV_6, eV_7, tV_1, tV_3, vV_0, hpw, hw, hlt, f0, f1, Nat.zero_mul, Nat.one_mul]
  · obtain ⟨w1, w2, w3, w4⟩ := fw_pos hv hl ht he hw
    obtain ⟨q0, q1, q2, q3, q4⟩ := fr_p hw hws
    have hlt : (0 < fw g t e) = True := eq_true hw
    obtain ⟨x, hx⟩ : ∃ x, frV (fw g t e) (fs g t) 0 = x := ⟨_, rfl⟩
    obtain ⟨y, hy⟩ : ∃ y, frV (fw g t e) (fs g t) 1 = y := ⟨_, rfl⟩
    rw [hx] at q0 q1 q2 q4
    rw [hy] at q2 q3 q4
    rw [w1] at q1 q4 hws
    by_cases hr : g (cl t e 2) = 0
    · have hpw : pw g t e = g (cl t e 1) := if_pos hr
      rw [hpw] at hpb q1 q4 hws w1
      rw [w1] at hx hy
      by_cases h16 : g (cl t e 0) < 16
      · have w3 := w3 h16
        rw [hr] at w3
        simp (disch := first | assumption | omega) only [Nat.reduceAdd, mP_1, mP_0, X2_go, g4_some, stp, ldI, ldA, ldL, stI, stA, stL, o1I, o2I, o2L, brI, brII, gl, s1, s2, k1, sl, g3_sN, g3_sR, g3_sC, g3_if, g3_no, pops, b2_v, e154_0, e154_1, e154_2, e154_3, e154_4, e154_5, e154_6, e154_7, e154_9, e154_11, e154_12, e154_15, e154_16, e154_19, e154_20, e154_22, e154_23, e154_25, e154_26, e154_29, e154_31, e154_32, e154_34, e154_35, e154_38, e154_40, e154_41, e154_43, e154_44, e154_45, e154_46, e154_50, e154_52, e154_55, e154_56, e154_59, e154_60, e154_62, e154_64, e154_66, e154_69, e154_71, e154_72, e154_74, e154_76, e154_77, e154_80, e154_82, e154_83, e154_85, e154_87, e154_88, e154_91, e154_93, e154_94, e154_96, e154_98, e154_99, e154_102, e154_104, e154_105, e154_106, e154_108, e154_110, e154_111, e154_114, e154_115, e154_116, e154_118, e154_120, e154_121, e154_123, e154_125, e154_127, e154_130, e154_131, e154_132, e154_134, e154_136, e154_139, e154_140, e154_142, e154_144, e154_145, e154_148, e154_151, e154_152, e154_154, e154_156, e154_157, e154_160, e154_161, e154_163, e154_165, e154_166, e154_169, e154_172, e154_173, e154_175, e154_177, e154_179, e154_182, e154_184, e154_187, e154_188, e154_190, e154_192, e154_193, e154_196, e154_199, e154_200, e154_202, e154_204, e154_205, e154_208, e154_210, e154_211, e154_212, e154_215, e154_216, e154_218, e154_219, e154_222, e154_223, e154_224, e154_225, e154_227, e154_228, e154_231, e154_233, e154_234, e154_237, e154_239, e154_242, e154_244, e154_246, e154_249, e154_251, e154_252, e154_253, e154_255, e154_256, e154_259, e154_260, e154_261, e154_263, e154_264, e154_265, e154_267, e154_269, e154_271, e154_274, e154_275, e154_276, e154_277, e154_280, e154_283, e154_285, e154_288, e154_290, e154_291, e154_294, e154_296, e154_299, e154_300, e154_302, e154_304, e154_305, e154_308, e154_310, e154_313, e154_315, e154_317, e154_320, e154_321, e154_323, e154_325, e154_326, e154_329, e154_331, e154_334, e154_335, e154_337, e154_339, e154_340, e154_343, e154_345, e154_346, e154_348, e154_351, e154_353, e154_356, e154_358, e154_361, e154_362, e154_363, e154_365, e154_367, e154_368, e154_371, e154_373, e154_374, e154_375, e154_378, e154_381, e154_382, e154_385, e154_386, e154_387, e154_390, e154_394, e154_397, e154_399, e154_400, e154_402, e154_403, e154_406, e154_409, e154_411, e154_414, e154_415, e154_417, e154_418, e154_421, e154_424, e154_425, e154_427, e154_428, e154_431, e154_432, e154_433, e154_434, e154_436, e154_437, e154_440, e154_443, e154_445, e154_448, e154_449, e154_451, e154_452, e154_455, e154_458, e154_459, e154_461, e154_462, e154_465, e154_466, e154_469, e154_470, e154_473, e154_474, e154_475, e154_478, e154_481, e154_482, e154_485, e154_486, e154_487, e154_488, e154_491, e154_494, e154_495, e154_496, e154_498, e154_501, e154_504, e154_505, e154_508, e154_509, n_lt, n_le, n_eq, n_lt0, n_ge0, n_gt0, n_le0, n_eq0, m_lt, m_le, m_gt, m_ge, m_eq, m_eq', m_lt0, m_ge0, m_gt0, m_le0, m_ltm, m_lem, n_in, m_in, n_cl, n_ti, n_div, n_rem', n_dec, n_l, nI_add, pk_mul, an0, an1, decide_eq_true_eq, if_true, if_false, ite_true, ite_false, and_true, true_and, and_false, false_and, not_true, not_false_iff, or_false, false_or, or_true, true_or, eq_self, va_some, Bool.false_eq_true, reduceIte, catS_n, catS_i, catS_r, catS_l, catS_d, Nat.zero_add, Nat.add_zero, decide_true, decide_false, Nat.reduceLeDiff, cat_r, cat_i, cat_l, nle_T, nle_F, nlt_T, nlt_F, neq_T, neq_F, e98, e100, e109c, e109l, e111v, e130a, e130b, eV_0, eV_1, eV_2, eV_4, eV_5, eV_6, eV_7, tV_1, tV_3, vV_0, hpw, hr, hlt, w1, w2, hx, hy, Nat.zero_mul, Nat.one_mul, lN_mul, q4, lg_self]
      · have hlk := E2 (by omega)
        have w4 := w4 (by omega)
        have w5 := hv.2.1 (g (cl t e 0) - 16) (by omega)
        simp (disch := first | assumption | omega) only [Nat.reduceAdd, mP_1, mP_0, X2_go, g4_some, stp, ldI, ldA, ldL, stI, stA, stL, o1I, o2I, o2L, brI, brII, gl, s1, s2, k1, sl, g3_sN, g3_sR, g3_sC, g3_if, g3_no, pops, b2_v, e154_0, e154_1, e154_2, e154_3, e154_4, e154_5, e154_6, e154_7, e154_9, e154_11, e154_12, e154_15, e154_16, e154_19, e154_20, e154_22, e154_23, e154_25, e154_26, e154_29, e154_31, e154_32, e154_34, e154_35, e154_38, e154_40, e154_41, e154_43, e154_44, e154_45, e154_46, e154_50, e154_52, e154_55, e154_56, e154_59, e154_60, e154_62, e154_64, e154_66, e154_69, e154_71, e154_72, e154_74, e154_76, e154_77, e154_80, e154_82, e154_83, e154_85, e154_87, e154_88, e154_91, e154_93, e154_94, e154_96, e154_98, e154_99, e154_102, e154_104, e154_105, e154_106, e154_108, e154_110, e154_111, e154_114, e154_115, e154_116, e154_118, e154_120, e154_121, e154_123, e154_125, e154_127, e154_130, e154_131, e154_132, e154_134, e154_136, e154_139, e154_140, e154_142, e154_144, e154_145, e154_148, e154_151, e154_152, e154_154, e154_156, e154_157, e154_160, e154_161, e154_163, e154_165, e154_166, e154_169, e154_172, e154_173, e154_175, e154_177, e154_179, e154_182, e154_184, e154_187, e154_188, e154_190, e154_192, e154_193, e154_196, e154_199, e154_200, e154_202, e154_204, e154_205, e154_208, e154_210, e154_211, e154_212, e154_215, e154_216, e154_218, e154_219, e154_222, e154_223, e154_224, e154_225, e154_227, e154_228, e154_231, e154_233, e154_234, e154_237, e154_239, e154_242, e154_244, e154_246, e154_249, e154_251, e154_252, e154_253, e154_255, e154_256, e154_259, e154_260, e154_261, e154_263, e154_264, e154_265, e154_267, e154_269, e154_271, e154_274, e154_275, e154_276, e154_277, e154_280, e154_283, e154_285, e154_288, e154_290, e154_291, e154_294, e154_296, e154_299, e154_300, e154_302, e154_304, e154_305, e154_308, e154_310, e154_313, e154_315, e154_317, e154_320, e154_321, e154_323, e154_325, e154_326, e154_329, e154_331, e154_334, e154_335, e154_337, e154_339, e154_340, e154_343, e154_345, e154_346, e154_348, e154_351, e154_353, e154_356, e154_358, e154_361, e154_362, e154_363, e154_365, e154_367, e154_368, e154_371, e154_373, e154_374, e154_375, e154_378, e154_381, e154_382, e154_385, e154_386, e154_387, e154_390, e154_394, e154_397, e154_399, e154_400, e154_402, e154_403, e154_406, e154_409, e154_411, e154_414, e154_415, e154_417, e154_418, e154_421, e154_424, e154_425, e154_427, e154_428, e154_431, e154_432, e154_433, e154_434, e154_436, e154_437, e154_440, e154_443, e154_445, e154_448, e154_449, e154_451, e154_452, e154_455, e154_458, e154_459, e154_461, e154_462, e154_465, e154_466, e154_469, e154_470, e154_473, e154_474, e154_475, e154_478, e154_481, e154_482, e154_485, e154_486, e154_487, e154_488, e154_491, e154_494, e154_495, e154_496, e154_498, e154_501, e154_504, e154_505, e154_508, e154_509, n_lt, n_le, n_eq, n_lt0, n_ge0, n_gt0, n_le0, n_eq0, m_lt, m_le, m_gt, m_ge, m_eq, m_eq', m_lt0, m_ge0, m_gt0, m_le0, m_ltm, m_lem, n_in, m_in, n_cl, n_ti, n_div, n_rem', n_dec, n_l, nI_add, pk_mul, an0, an1, decide_eq_true_eq, if_true, if_false, ite_true, ite_false, and_true, true_and, and_false, false_and, not_true, not_false_iff, or_false, false_or, or_true, true_or, eq_self, va_some, Bool.false_eq_true, reduceIte, catS_n, catS_i, catS_r, catS_l, catS_d, Nat.zero_add, Nat.add_zero, decide_true, decide_false, Nat.reduceLeDiff, cat_r, cat_i, cat_l, nle_T, nle_F, nlt_T, nlt_F, neq_T, neq_F, e98, e100, e109c, e109l, e111v, e130a, e130b, eV_0, eV_1, eV_2, eV_4, eV_5, eV_6, eV_7, tV_1, tV_3, vV_0, hpw, hr, hlt, w1, w2, hx, hy, Nat.zero_mul, Nat.one_mul, n_sub, lN_mul, q4, lg_self]
    · have hpw : pw g t e = g (cl t e 1) * (100 + g 120 * g (113 + g (cl t e 2))) / 100 := if_neg hr
      have hrp : 0 < g (cl t e 2) := by omega
      have hco := (hl.1 (g (cl t e 2)) hrp hr3).1
      have m1 : g 120 * g (113 + g (cl t e 2)) ≤ 50 * 200 := Nat.mul_le_mul h120 hco
      have m2 : g (cl t e 1) * (100 + g 120 * g (113 + g (cl t e 2))) ≤ 1000 * 10100 := Nat.mul_le_mul E4 (by omega)
      have m3 : g (cl t e 1) * (100 + g 120 * g (113 + g (cl t e 2))) < 2147483648 := by omega
      have h16 : g (cl t e 0) < 16 := by
        rcases Nat.lt_or_ge (g (cl t e 0)) 16 with y | y
        · exact y
        · have := (E2 y).2; omega
      have w3 := w3 h16
      rw [hpw] at hpb q1 q4 hws w1
      rw [w1] at hx hy
      simp (disch := first | assumption | omega) only [Nat.reduceAdd, mP_1, mP_0, X2_go, g4_some, stp, ldI, ldA, ldL, stI, stA, stL, o1I, o2I, o2L, brI, brII, gl, s1, s2, k1, sl, g3_sN, g3_sR, g3_sC, g3_if, g3_no, pops, b2_v, e154_0, e154_1, e154_2, e154_3, e154_4, e154_5, e154_6, e154_7, e154_9, e154_11, e154_12, e154_15, e154_16, e154_19, e154_20, e154_22, e154_23, e154_25, e154_26, e154_29, e154_31, e154_32, e154_34, e154_35, e154_38, e154_40, e154_41, e154_43, e154_44, e154_45, e154_46, e154_50, e154_52, e154_55, e154_56, e154_59, e154_60, e154_62, e154_64, e154_66, e154_69, e154_71, e154_72, e154_74, e154_76, e154_77, e154_80, e154_82, e154_83, e154_85, e154_87, e154_88, e154_91, e154_93, e154_94, e154_96, e154_98, e154_99, e154_102, e154_104, e154_105, e154_106, e154_108, e154_110, e154_111, e154_114, e154_115, e154_116, e154_118, e154_120, e154_121, e154_123, e154_125, e154_127, e154_130, e154_131, e154_132, e154_134, e154_136, e154_139, e154_140, e154_142, e154_144, e154_145, e154_148, e154_151, e154_152, e154_154, e154_156, e154_157, e154_160, e154_161, e154_163, e154_165, e154_166, e154_169, e154_172, e154_173, e154_175, e154_177, e154_179, e154_182, e154_184, e154_187, e154_188, e154_190, e154_192, e154_193, e154_196, e154_199, e154_200, e154_202, e154_204, e154_205, e154_208, e154_210, e154_211, e154_212, e154_215, e154_216, e154_218, e154_219, e154_222, e154_223, e154_224, e154_225, e154_227, e154_228, e154_231, e154_233, e154_234, e154_237, e154_239, e154_242, e154_244, e154_246, e154_249, e154_251, e154_252, e154_253, e154_255, e154_256, e154_259, e154_260, e154_261, e154_263, e154_264, e154_265, e154_267, e154_269, e154_271, e154_274, e154_275, e154_276, e154_277, e154_280, e154_283, e154_285, e154_288, e154_290, e154_291, e154_294, e154_296, e154_299, e154_300, e154_302, e154_304, e154_305, e154_308, e154_310, e154_313, e154_315, e154_317, e154_320, e154_321, e154_323, e154_325, e154_326, e154_329, e154_331, e154_334, e154_335, e154_337, e154_339, e154_340, e154_343, e154_345, e154_346, e154_348, e154_351, e154_353, e154_356, e154_358, e154_361, e154_362, e154_363, e154_365, e154_367, e154_368, e154_371, e154_373, e154_374, e154_375, e154_378, e154_381, e154_382, e154_385, e154_386, e154_387, e154_390, e154_394, e154_397, e154_399, e154_400, e154_402, e154_403, e154_406, e154_409, e154_411, e154_414, e154_415, e154_417, e154_418, e154_421, e154_424, e154_425, e154_427, e154_428, e154_431, e154_432, e154_433, e154_434, e154_436, e154_437, e154_440, e154_443, e154_445, e154_448, e154_449, e154_451, e154_452, e154_455, e154_458, e154_459, e154_461, e154_462, e154_465, e154_466, e154_469, e154_470, e154_473, e154_474, e154_475, e154_478, e154_481, e154_482, e154_485, e154_486, e154_487, e154_488, e154_491, e154_494, e154_495, e154_496, e154_498, e154_501, e154_504, e154_505, e154_508, e154_509, n_lt, n_le, n_eq, n_lt0, n_ge0, n_gt0, n_le0, n_eq0, m_lt, m_le, m_gt, m_ge, m_eq, m_eq', m_lt0, m_ge0, m_gt0, m_le0, m_ltm, m_lem, n_in, m_in, n_cl, n_ti, n_div, n_rem', n_dec, n_l, nI_add, pk_mul, an0, an1, decide_eq_true_eq, if_true, if_false, ite_true, ite_false, and_true, true_and, and_false, false_and, not_true, not_false_iff, or_false, false_or, or_true, true_or, eq_self, va_some, Bool.false_eq_true, reduceIte, catS_n, catS_i, catS_r, catS_l, catS_d, Nat.zero_add, Nat.add_zero, decide_true, decide_false, Nat.reduceLeDiff, cat_r, cat_i, cat_l, nle_T, nle_F, nlt_T, nlt_F, neq_T, neq_F, e98, e100, e109c, e109l, e111v, e130a, e130b, eV_0, eV_1, eV_2, eV_4, eV_5, eV_6, eV_7, tV_1, tV_3, vV_0, hpw, hlt, w1, w2, hx, hy, Nat.zero_mul, Nat.one_mul, lN_mul, q4, lg_self]
/-- how much is spent -/
def spT (g : GS) (t e : Nat) : Nat := sm e (fun j => g (cl t j 5))
theorem p154j {g : GS} {t a b : Nat} (hv : TV g) (hl : LV g) (hT : TP g) (ht : t < 3) (ha : a ≤ 1000) (hb : b ≤ 900) : ∀ m e, e + m = g (3 + t) → ∀ {z : SX} {d n k : Nat} {ps : Nat → GS} {Z : ZT} {u9 u10 u11 u12 : Value}, 32 ≤ d → ∃ v9 v10 v11 v12 : Value, X2 z d 154 48 [.ref 1, .int (nI a), .int (nI (b + spT g t e)), .int (nI 1), .int (nI t), .int (nI (sm e (fw g t))), .int (nI (g (3 + t))), .int (nI (fq g t)), .int (nI e), u9, u10, u11, u12] [] (g, n, ps, k) Z = X2 z d 154 393 [.ref 1, .int (nI a), .int (nI (b + spT g t (g (3 + t)))), .int (nI 1), .int (nI t), .int (nI (fs g t)), .int (nI (g (3 + t))), .int (nI (fq g t)), .int (nI (g (3 + t))), v9, v10, v11, v12] [] (g, n, ps, k) Z := by
  have h6 := hv.2.1 t ht
  intro m
  induction m with
  | zero =>
    intro e he z d n k ps Z u9 u10 u11 u12 hd
    have : e = g (3 + t) := by omega
    subst this
    refine ⟨u9, u10, u11, u12, ?_⟩
    have e1 : sm (g (3 + t)) (fw g t) = fs g t := rfl
    rw [e1, X2_go, e154_48]
    simp (disch := first | assumption | omega) only [Nat.reduceAdd, mP_1, mP_0, X2_go, g4_some, stp, ldI, ldA, ldL, stI, stA, stL, o1I, o2I, o2L, brI, brII, gl, s1, s2, k1, sl, g3_sN, g3_sR, g3_sC, g3_if, g3_no, pops, b2_v, e154_0, e154_1, e154_2, e154_3, e154_4, e154_5, e154_6, e154_7, e154_9, e154_11, e154_12, e154_15, e154_16, e154_19, e154_20, e154_22, e154_23, e154_25, e154_26, e154_29, e154_31, e154_32, e154_34, e154_35, e154_38, e154_40, e154_41, e154_43, e154_44, e154_45, e154_46, e154_50, e154_52, e154_55, e154_56, e154_59, e154_60, e154_62, e154_64, e154_66, e154_69, e154_71, e154_72, e154_74, e154_76, e154_77, e154_80, e154_82, e154_83, e154_85, e154_87, e154_88, e154_91, e154_93, e154_94, e154_96, e154_98, e154_99, e154_102, e154_104, e154_105, e154_106, e154_108, e154_110, e154_111, e154_114, e154_115, e154_116, e154_118, e154_120, e154_121, e154_123, e154_125, e154_127, e154_130, e154_131, e154_132, e154_134, e154_136, e154_139, e154_140, e154_142, e154_144, e154_145, e154_148, e154_151, e154_152, e154_154, e154_156, e154_157, e154_160, e154_161, e154_163, e154_165, e154_166, e154_169, e154_172, e154_173, e154_175, e154_177, e154_179, e154_182, e154_184, e154_187, e154_188, e154_190, e154_192, e154_193, e154_196, e154_199, e154_200, e154_202, e154_204, e154_205, e154_208, e154_210, e154_211, e154_212, e154_215, e154_216, e154_218, e154_219, e154_222, e154_223, e154_224, e154_225, e154_227, e154_228, e154_231, e154_233, e154_234, e154_237, e154_239, e154_242, e154_244, e154_246, e154_249, e154_251, e154_252, e154_253, e154_255, e154_256, e154_259, e154_260, e154_261, e154_263, e154_264, e154_265, e154_267, e154_269, e154_271, e154_274, e154_275, e154_276, e154_277, e154_280, e154_283, e154_285, e154_288, e154_290, e154_291, e154_294, e154_296, e154_299, e154_300, e154_302, e154_304, e154_305, e154_308, e154_310, e154_313, e154_315, e154_317, e154_320, e154_321, e154_323, e154_325, e154_326, e154_329, e154_331, e154_334, e154_335, e154_337, e154_339, e154_340, e154_343, e154_345, e154_346, e154_348, e154_351, e154_353, e154_356, e154_358, e154_361, e154_362, e154_363, e154_365, e154_367, e154_368, e154_371, e154_373, e154_374, e154_375, e154_378, e154_381, e154_382, e154_385, e154_386, e154_387, e154_390, e154_394, e154_397, e154_399, e154_400, e154_402, e154_403, e154_406, e154_409, e154_411, e154_414, e154_415, e154_417, e154_418, e154_421, e154_424, e154_425, e154_427, e154_428, e154_431, e154_432, e154_433, e154_434, e154_436, e154_437, e154_440, e154_443, e154_445, e154_448, e154_449, e154_451, e154_452, e154_455, e154_458, e154_459, e154_461, e154_462, e154_465, e154_466, e154_469, e154_470, e154_473, e154_474, e154_475, e154_478, e154_481, e154_482, e154_485, e154_486, e154_487, e154_488, e154_491, e154_494, e154_495, e154_496, e154_498, e154_501, e154_504, e154_505, e154_508, e154_509, n_lt, n_le, n_eq, n_lt0, n_ge0, n_gt0, n_le0, n_eq0, m_lt, m_le, m_gt, m_ge, m_eq, m_eq', m_lt0, m_ge0, m_gt0, m_le0, m_ltm, m_lem, n_in, m_in, n_cl, n_ti, n_div, n_rem', n_dec, n_l, nI_add, pk_mul, an0, an1, decide_eq_true_eq, if_true, if_false, ite_true, ite_false, and_true, true_and, and_false, false_and, not_true, not_false_iff, or_false, false_or, or_true, true_or, eq_self, va_some, Bool.false_eq_true, reduceIte, catS_n, catS_i, catS_r, catS_l, catS_d, Nat.zero_add, Nat.add_zero, decide_true, decide_false, Nat.reduceLeDiff, cat_r, cat_i, cat_l, nle_T, nle_F, nlt_T, nlt_F, neq_T, neq_F]
  | succ m ih =>
    intro e he z d n k ps Z u9 u10 u11 u12 hd
    have hs1 : spT g t e ≤ e * 1 := sm_le fun j hj => (hv.2.2 t j ht (by omega)).2.2.2.2.2.2.2
    have hs2 : sm e (fw g t) ≤ e * 102000 := sm_le fun j hj => wt_b (q := fq g t) (sp := spG g) (gr := noG) hv hl ht (by omega)
    have hs3 : e * 102000 ≤ 6 * 102000 := Nat.mul_le_mul_right _ (by omega)
    obtain ⟨w9, w10, w11, w12, e1⟩ := p154i (a := a) (b := b + spT g t e) (c := sm e (fw g t)) hv hl hT ht (show e < g (3 + t) by omega) ha (by omega) (by omega) (z := z) (n := n) (k := k) (ps := ps) (Z := Z) (u9 := u9) (u10 := u10) (u11 := u11) (u12 := u12) hd
    obtain ⟨v9, v10, v11, v12, e2⟩ := ih (e + 1) (by omega) (z := z) (n := n) (k := k) (ps := ps) (Z := Z) (u9 := w9) (u10 := w10) (u11 := w11) (u12 := w12) hd
    refine ⟨v9, v10, v11, v12, ?_⟩
    rw [← e2, e1, show b + spT g t (e + 1) = b + spT g t e + g (cl t e 5) from (Nat.add_assoc _ _ _).symm]
    rfl
theorem p154k {g : GS} (hv : TV g) (hl : LV g) (hT : TP g) : ∀ m t, t + m = 3 → ∀ {z : SX} {d n k : Nat} {ps : Nat → GS} {Z : ZT} {u5 u6 u7 u8 u9 u10 u11 u12 : Value}, 32 ≤ d → X2 z d 154 9 [.ref 1, .int (nI (sm t (fun j => g (3 + j)))), .int (nI (sm t (fun j => spT g j (g (3 + j))))), .int (nI 1), .int (nI t), u5, u6, u7, u8, u9, u10, u11, u12] [] (g, n, ps, k) Z = Z (.inl (some (.int (nI 1)))) (g, n, ps, k) := by
  have g3 := hv.2.1 0 (by omega)
  have g4 := hv.2.1 1 (by omega)
  have g5 := hv.2.1 2 (by omega)
  have hsp : ∀ t, t < 3 → spT g t (g (3 + t)) ≤ 6 := fun t ht => by
    have := sm_le (n := g (3 + t)) (b := 1) (f := fun j => g (cl t j 5)) fun j hj => (hv.2.2 t j ht hj).2.2.2.2.2.2.2
    have h6 := hv.2.1 t ht
    unfold spT
    omega
  intro m
  induction m with
  | zero =>
    intro t ht z d n k ps Z u5 u6 u7 u8 u9 u10 u11 u12 hd
    have : t = 3 := by omega
    subst this
    have ea : sm 3 (fun j => g (3 + j)) = g 3 + g 4 + g 5 := by
      show 0 + g 3 + g 4 + g 5 = _
      omega
    have eb : sm 3 (fun j => spT g j (g (3 + j))) = spc g := by
      show 0 + spT g 0 (g 3) + spT g 1 (g 4) + spT g 2 (g 5) = _
      rw [Nat.zero_add]
      rfl
    have eb2 : spc g ≤ 18 := by
      have := sm_le (n := 3) (b := 6) (f := fun j => spT g j (g (3 + j))) fun j hj => hsp j hj
      omega
    have g3' : g 3 ≤ 6 := g3
    have g4' : g 4 ≤ 6 := g4
    have g5' : g 5 ≤ 6 := g5
    rw [ea, eb, X2_go, e154_9]
    simp (disch := first | assumption | omega) only [Nat.reduceAdd, mP_1, mP_0, X2_go, g4_some, stp, ldI, ldA, ldL, stI, stA, stL, o1I, o2I, o2L, brI, brII, gl, s1, s2, k1, sl, g3_sN, g3_sR, g3_sC, g3_if, g3_no, pops, b2_v, e154_0, e154_1, e154_2, e154_3, e154_4, e154_5, e154_6, e154_7, e154_11, e154_12, e154_15, e154_16, e154_19, e154_20, e154_22, e154_23, e154_25, e154_26, e154_29, e154_31, e154_32, e154_34, e154_35, e154_38, e154_40, e154_41, e154_43, e154_44, e154_45, e154_46, e154_50, e154_52, e154_55, e154_56, e154_59, e154_60, e154_62, e154_64, e154_66, e154_69, e154_71, e154_72, e154_74, e154_76, e154_77, e154_80, e154_82, e154_83, e154_85, e154_87, e154_88, e154_91, e154_93, e154_94, e154_96, e154_98, e154_99, e154_102, e154_104, e154_105, e154_106, e154_108, e154_110, e154_111, e154_114, e154_115, e154_116, e154_118, e154_120, e154_121, e154_123, e154_125, e154_127, e154_130, e154_131, e154_132, e154_134, e154_136, e154_139, e154_140, e154_142, e154_144, e154_145, e154_148, e154_151, e154_152, e154_154, e154_156, e154_157, e154_160, e154_161, e154_163, e154_165, e154_166, e154_169, e154_172, e154_173, e154_175, e154_177, e154_179, e154_182, e154_184, e154_187, e154_188, e154_190, e154_192, e154_193, e154_196, e154_199, e154_200, e154_202, e154_204, e154_205, e154_208, e154_210, e154_211, e154_212, e154_215, e154_216, e154_218, e154_219, e154_222, e154_223, e154_224, e154_225, e154_227, e154_228, e154_231, e154_233, e154_234, e154_237, e154_239, e154_242, e154_244, e154_246, e154_249, e154_251, e154_252, e154_253, e154_255, e154_256, e154_259, e154_260, e154_261, e154_263, e154_264, e154_265, e154_267, e154_269, e154_271, e154_274, e154_275, e154_276, e154_277, e154_280, e154_283, e154_285, e154_288, e154_290, e154_291, e154_294, e154_296, e154_299, e154_300, e154_302, e154_304, e154_305, e154_308, e154_310, e154_313, e154_315, e154_317, e154_320, e154_321, e154_323, e154_325, e154_326, e154_329, e154_331, e154_334, e154_335, e154_337, e154_339, e154_340, e154_343, e154_345, e154_346, e154_348, e154_351, e154_353, e154_356, e154_358, e154_361, e154_362, e154_363, e154_365, e154_367, e154_368, e154_371, e154_373, e154_374, e154_375, e154_378, e154_381, e154_382, e154_385, e154_386, e154_387, e154_390, e154_394, e154_397, e154_399, e154_400, e154_402, e154_403, e154_406, e154_409, e154_411, e154_414, e154_415, e154_417, e154_418, e154_421, e154_424, e154_425, e154_427, e154_428, e154_431, e154_432, e154_433, e154_434, e154_436, e154_437, e154_440, e154_443, e154_445, e154_448, e154_449, e154_451, e154_452, e154_455, e154_458, e154_459, e154_461, e154_462, e154_465, e154_466, e154_469, e154_470, e154_473, e154_474, e154_475, e154_478, e154_481, e154_482, e154_485, e154_486, e154_487, e154_488, e154_491, e154_494, e154_495, e154_496, e154_498, e154_501, e154_504, e154_505, e154_508, e154_509, n_lt, n_le, n_eq, n_lt0, n_ge0, n_gt0, n_le0, n_eq0, m_lt, m_le, m_gt, m_ge, m_eq, m_eq', m_lt0, m_ge0, m_gt0, m_le0, m_ltm, m_lem, n_in, m_in, n_cl, n_ti, n_div, n_rem', n_dec, n_l, nI_add, pk_mul, an0, an1, decide_eq_true_eq, if_true, if_false, ite_true, ite_false, and_true, true_and, and_false, false_and, not_true, not_false_iff, or_false, false_or, or_true, true_or, eq_self, va_some, Bool.false_eq_true, reduceIte, catS_n, catS_i, catS_r, catS_l, catS_d, Nat.zero_add, Nat.add_zero, decide_true, decide_false, Nat.reduceLeDiff, cat_r, cat_i, cat_l, nle_T, nle_F, nlt_T, nlt_F, neq_T, neq_F, e111v, vV_5, vV_6]
  | succ m ih =>
    intro t htm z d n k ps Z u5 u6 u7 u8 u9 u10 u11 u12 hd
    have ht : t < 3 := by omega
    have h6 := hv.2.1 t ht
    have hdr := hv.1 t ht
    have hq3 : fq g t ≤ 3 := wq_b _ _ _ _ _
    have hsb : fs g t ≤ 612000 := sw_b (q := fq g t) (sp := spG g) (gr := noG) hv hl ht
    have ha : sm t (fun j => g (3 + j)) ≤ t * 6 := sm_le fun j hj => hv.2.1 j (by omega)
    have hb : sm t (fun j => spT g j (g (3 + j))) ≤ t * 6 := sm_le fun j hj => hsp j (by omega)
    obtain ⟨v9, v10, v11, v12, e1⟩ := p154j (a := sm (t + 1) (fun j => g (3 + j))) (b := sm t (fun j => spT g j (g (3 + j)))) hv hl hT ht (by
      show sm t (fun j => g (3 + j)) + g (3 + t) ≤ 1000
      omega) (by omega) (g (3 + t)) 0 (by omega) (z := z) (n := n) (k := k) (ps := ps) (Z := Z) (u9 := u9) (u10 := u10) (u11 := u11) (u12 := u12) hd
    have e2 := ih (t + 1) (by omega) (z := z) (n := n) (k := k) (ps := ps) (Z := Z) (u5 := .int (nI (fs g t))) (u6 := .int (nI (g (3 + t)))) (u7 := .int (nI (fq g t))) (u8 := .int (nI (g (3 + t)))) (u9 := v9) (u10 := v10) (u11 := v11) (u12 := v12) hd
    have ea : sm (t + 1) (fun j => g (3 + j)) = sm t (fun j => g (3 + j)) + g (3 + t) := rfl
    have eb : sm (t + 1) (fun j => spT g j (g (3 + j))) = sm t (fun j => spT g j (g (3 + j))) + spT g t (g (3 + t)) := rfl
    have e3 : X2 z d 154 393 [.ref 1, .int (nI (sm (t + 1) (fun j => g (3 + j)))), .int (nI (sm t (fun j => spT g j (g (3 + j))) + spT g t (g (3 + t)))), .int (nI 1), .int (nI t), .int (nI (fs g t)), .int (nI (g (3 + t))), .int (nI (fq g t)), .int (nI (g (3 + t))), v9, v10, v11, v12] [] (g, n, ps, k) Z = X2 z d 154 9 [.ref 1, .int (nI (sm (t + 1) (fun j => g (3 + j)))), .int (nI (sm (t + 1) (fun j => spT g j (g (3 + j))))), .int (nI 1), .int (nI (t + 1)), .int (nI (fs g t)), .int (nI (g (3 + t))), .int (nI (fq g t)), .int (nI (g (3 + t))), v9, v10, v11, v12] [] (g, n, ps, k) Z := by
      rw [← eb, X2_go, e154_393]
      rcases Nat.eq_zero_or_pos (fq g t) with hq | hq
      · simp (disch := first | assumption | omega) only [Nat.reduceAdd, mP_1, mP_0, X2_go, g4_some, stp, ldI, ldA, ldL, stI, stA, stL, o1I, o2I, o2L, brI, brII, gl, s1, s2, k1, sl, g3_sN, g3_sR, g3_sC, g3_if, g3_no, pops, b2_v, e154_0, e154_1, e154_2, e154_3, e154_4, e154_5, e154_6, e154_7, e154_11, e154_12, e154_15, e154_16, e154_19, e154_20, e154_22, e154_23, e154_25, e154_26, e154_29, e154_31, e154_32, e154_34, e154_35, e154_38, e154_40, e154_41, e154_43, e154_44, e154_45, e154_46, e154_50, e154_52, e154_55, e154_56, e154_59, e154_60, e154_62, e154_64, e154_66, e154_69, e154_71, e154_72, e154_74, e154_76, e154_77, e154_80, e154_82, e154_83, e154_85, e154_87, e154_88, e154_91, e154_93, e154_94, e154_96, e154_98, e154_99, e154_102, e154_104, e154_105, e154_106, e154_108, e154_110, e154_111, e154_114, e154_115, e154_116, e154_118, e154_120, e154_121, e154_123, e154_125, e154_127, e154_130, e154_131, e154_132, e154_134, e154_136, e154_139, e154_140, e154_142, e154_144, e154_145, e154_148, e154_151, e154_152, e154_154, e154_156, e154_157, e154_160, e154_161, e154_163, e154_165, e154_166, e154_169, e154_172, e154_173, e154_175, e154_177, e154_179, e154_182, e154_184, e154_187, e154_188, e154_190, e154_192, e154_193, e154_196, e154_199, e154_200, e154_202, e154_204, e154_205, e154_208, e154_210, e154_211, e154_212, e154_215, e154_216, e154_218, e154_219, e154_222, e154_223, e154_224, e154_225, e154_227, e154_228, e154_231, e154_233, e154_234, e154_237, e154_239, e154_242, e154_244, e154_246, e154_249, e154_251, e154_252, e154_253, e154_255, e154_256, e154_259, e154_260, e154_261, e154_263, e154_264, e154_265, e154_267, e154_269, e154_271, e154_274, e154_275, e154_276, e154_277, e154_280, e154_283, e154_285, e154_288, e154_290, e154_291, e154_294, e154_296, e154_299, e154_300, e154_302, e154_304, e154_305, e154_308, e154_310, e154_313, e154_315, e154_317, e154_320, e154_321, e154_323, e154_325, e154_326, e154_329, e154_331, e154_334, e154_335, e154_337, e154_339, e154_340, e154_343, e154_345, e154_346, e154_348, e154_351, e154_353, e154_356, e154_358, e154_361, e154_362, e154_363, e154_365, e154_367, e154_368, e154_371, e154_373, e154_374, e154_375, e154_378, e154_381, e154_382, e154_385, e154_386, e154_387, e154_390, e154_394, e154_397, e154_399, e154_400, e154_402, e154_403, e154_406, e154_409, e154_411, e154_414, e154_415, e154_417, e154_418, e154_421, e154_424, e154_425, e154_427, e154_428, e154_431, e154_432, e154_433, e154_434, e154_436, e154_437, e154_440, e154_443, e154_445, e154_448, e154_449, e154_451, e154_452, e154_455, e154_458, e154_459, e154_461, e154_462, e154_465, e154_466, e154_469, e154_470, e154_473, e154_474, e154_475, e154_478, e154_481, e154_482, e154_485, e154_486, e154_487, e154_488, e154_491, e154_494, e154_495, e154_496, e154_498, e154_501, e154_504, e154_505, e154_508, e154_509, n_lt, n_le, n_eq, n_lt0, n_ge0, n_gt0, n_le0, n_eq0, m_lt, m_le, m_gt, m_ge, m_eq, m_eq', m_lt0, m_ge0, m_gt0, m_le0, m_ltm, m_lem, n_in, m_in, n_cl, n_ti, n_div, n_rem', n_dec, n_l, nI_add, pk_mul, an0, an1, decide_eq_true_eq, if_true, if_false, ite_true, ite_false, and_true, true_and, and_false, false_and, not_true, not_false_iff, or_false, false_or, or_true, true_or, eq_self, va_some, Bool.false_eq_true, reduceIte, catS_n, catS_i, catS_r, catS_l, catS_d, Nat.zero_add, Nat.add_zero, decide_true, decide_false, Nat.reduceLeDiff, cat_r, cat_i, cat_l, nle_T, nle_F, nlt_T, nlt_F, neq_T, neq_F, e100, tV_0, tV_3, hq]
      · obtain ⟨d1, d2⟩ := wq_d hq
        have d3 := (due_n d1).1
        have d4 := (due_n d1).2
        have d5 := (hl.1 (fq g t) hq hq3).1
        have d6 := (hl.1 (fq g t) hq hq3).2
        have d3 : 0 < g (116 + fq g t) := d3
        have d4 : g (116 + fq g t) ≤ g (113 + fq g t) + 1 := d4
        have d7 : 0 < fs g t := (sw_p hv hl ht).mpr d2
        simp (disch := first | assumption | omega) only [Nat.reduceAdd, mP_1, mP_0, X2_go, g4_some, stp, ldI, ldA, ldL, stI, stA, stL, o1I, o2I, o2L, brI, brII, gl, s1, s2, k1, sl, g3_sN, g3_sR, g3_sC, g3_if, g3_no, pops, b2_v, e154_0, e154_1, e154_2, e154_3, e154_4, e154_5, e154_6, e154_7, e154_11, e154_12, e154_15, e154_16, e154_19, e154_20, e154_22, e154_23, e154_25, e154_26, e154_29, e154_31, e154_32, e154_34, e154_35, e154_38, e154_40, e154_41, e154_43, e154_44, e154_45, e154_46, e154_50, e154_52, e154_55, e154_56, e154_59, e154_60, e154_62, e154_64, e154_66, e154_69, e154_71, e154_72, e154_74, e154_76, e154_77, e154_80, e154_82, e154_83, e154_85, e154_87, e154_88, e154_91, e154_93, e154_94, e154_96, e154_98, e154_99, e154_102, e154_104, e154_105, e154_106, e154_108, e154_110, e154_111, e154_114, e154_115, e154_116, e154_118, e154_120, e154_121, e154_123, e154_125, e154_127, e154_130, e154_131, e154_132, e154_134, e154_136, e154_139, e154_140, e154_142, e154_144, e154_145, e154_148, e154_151, e154_152, e154_154, e154_156, e154_157, e154_160, e154_161, e154_163, e154_165, e154_166, e154_169, e154_172, e154_173, e154_175, e154_177, e154_179, e154_182, e154_184, e154_187, e154_188, e154_190, e154_192, e154_193, e154_196, e154_199, e154_200, e154_202, e154_204, e154_205, e154_208, e154_210, e154_211, e154_212, e154_215, e154_216, e154_218, e154_219, e154_222, e154_223, e154_224, e154_225, e154_227, e154_228, e154_231, e154_233, e154_234, e154_237, e154_239, e154_242, e154_244, e154_246, e154_249, e154_251, e154_252, e154_253, e154_255, e154_256, e154_259, e154_260, e154_261, e154_263, e154_264, e154_265, e154_267, e154_269, e154_271, e154_274, e154_275, e154_276, e154_277, e154_280, e154_283, e154_285, e154_288, e154_290, e154_291, e154_294, e154_296, e154_299, e154_300, e154_302, e154_304, e154_305, e154_308, e154_310, e154_313, e154_315, e154_317, e154_320, e154_321, e154_323, e154_325, e154_326, e154_329, e154_331, e154_334, e154_335, e154_337, e154_339, e154_340, e154_343, e154_345, e154_346, e154_348, e154_351, e154_353, e154_356, e154_358, e154_361, e154_362, e154_363, e154_365, e154_367, e154_368, e154_371, e154_373, e154_374, e154_375, e154_378, e154_381, e154_382, e154_385, e154_386, e154_387, e154_390, e154_394, e154_397, e154_399, e154_400, e154_402, e154_403, e154_406, e154_409, e154_411, e154_414, e154_415, e154_417, e154_418, e154_421, e154_424, e154_425, e154_427, e154_428, e154_431, e154_432, e154_433, e154_434, e154_436, e154_437, e154_440, e154_443, e154_445, e154_448, e154_449, e154_451, e154_452, e154_455, e154_458, e154_459, e154_461, e154_462, e154_465, e154_466, e154_469, e154_470, e154_473, e154_474, e154_475, e154_478, e154_481, e154_482, e154_485, e154_486, e154_487, e154_488, e154_491, e154_494, e154_495, e154_496, e154_498, e154_501, e154_504, e154_505, e154_508, e154_509, n_lt, n_le, n_eq, n_lt0, n_ge0, n_gt0, n_le0, n_eq0, m_lt, m_le, m_gt, m_ge, m_eq, m_eq', m_lt0, m_ge0, m_gt0, m_le0, m_ltm, m_lem, n_in, m_in, n_cl, n_ti, n_div, n_rem', n_dec, n_l, nI_add, pk_mul, an0, an1, decide_eq_true_eq, if_true, if_false, ite_true, ite_false, and_true, true_and, and_false, false_and, not_true, not_false_iff, or_false, false_or, or_true, true_or, eq_self, va_some, Bool.false_eq_true, reduceIte, catS_n, catS_i, catS_r, catS_l, catS_d, Nat.zero_add, Nat.add_zero, decide_true, decide_false, Nat.reduceLeDiff, cat_r, cat_i, cat_l, nle_T, nle_F, nlt_T, nlt_F, neq_T, neq_F, e100, tV_0, tV_3, e109c, e109l]
    have e0 : spT g t 0 = 0 := rfl
    have e00 : sm 0 (fw g t) = 0 := rfl
    rw [e0, e00, Nat.add_zero] at e1
    rw [← e2, ← e3, ← e1, ea, X2_go, e154_9]
    simp (disch := first | assumption | omega) only [Nat.reduceAdd, mP_1, mP_0, X2_go, g4_some, stp, ldI, ldA, ldL, stI, stA, stL, o1I, o2I, o2L, brI, brII, gl, s1, s2, k1, sl, g3_sN, g3_sR, g3_sC, g3_if, g3_no, pops, b2_v, e154_0, e154_1, e154_2, e154_3, e154_4, e154_5, e154_6, e154_7, e154_11, e154_12, e154_15, e154_16, e154_19, e154_20, e154_22, e154_23, e154_25, e154_26, e154_29, e154_31, e154_32, e154_34, e154_35, e154_38, e154_40, e154_41, e154_43, e154_44, e154_45, e154_46, e154_50, e154_52, e154_55, e154_56, e154_59, e154_60, e154_62, e154_64, e154_66, e154_69, e154_71, e154_72, e154_74, e154_76, e154_77, e154_80, e154_82, e154_83, e154_85, e154_87, e154_88, e154_91, e154_93, e154_94, e154_96, e154_98, e154_99, e154_102, e154_104, e154_105, e154_106, e154_108, e154_110, e154_111, e154_114, e154_115, e154_116, e154_118, e154_120, e154_121, e154_123, e154_125, e154_127, e154_130, e154_131, e154_132, e154_134, e154_136, e154_139, e154_140, e154_142, e154_144, e154_145, e154_148, e154_151, e154_152, e154_154, e154_156, e154_157, e154_160, e154_161, e154_163, e154_165, e154_166, e154_169, e154_172, e154_173, e154_175, e154_177, e154_179, e154_182, e154_184, e154_187, e154_188, e154_190, e154_192, e154_193, e154_196, e154_199, e154_200, e154_202, e154_204, e154_205, e154_208, e154_210, e154_211, e154_212, e154_215, e154_216, e154_218, e154_219, e154_222, e154_223, e154_224, e154_225, e154_227, e154_228, e154_231, e154_233, e154_234, e154_237, e154_239, e154_242, e154_244, e154_246, e154_249, e154_251, e154_252, e154_253, e154_255, e154_256, e154_259, e154_260, e154_261, e154_263, e154_264, e154_265, e154_267, e154_269, e154_271, e154_274, e154_275, e154_276, e154_277, e154_280, e154_283, e154_285, e154_288, e154_290, e154_291, e154_294, e154_296, e154_299, e154_300, e154_302, e154_304, e154_305, e154_308, e154_310, e154_313, e154_315, e154_317, e154_320, e154_321, e154_323, e154_325, e154_326, e154_329, e154_331, e154_334, e154_335, e154_337, e154_339, e154_340, e154_343, e154_345, e154_346, e154_348, e154_351, e154_353, e154_356, e154_358, e154_361, e154_362, e154_363, e154_365, e154_367, e154_368, e154_371, e154_373, e154_374, e154_375, e154_378, e154_381, e154_382, e154_385, e154_386, e154_387, e154_390, e154_394, e154_397, e154_399, e154_400, e154_402, e154_403, e154_406, e154_409, e154_411, e154_414, e154_415, e154_417, e154_418, e154_421, e154_424, e154_425, e154_427, e154_428, e154_431, e154_432, e154_433, e154_434, e154_436, e154_437, e154_440, e154_443, e154_445, e154_448, e154_449, e154_451, e154_452, e154_455, e154_458, e154_459, e154_461, e154_462, e154_465, e154_466, e154_469, e154_470, e154_473, e154_474, e154_475, e154_478, e154_481, e154_482, e154_485, e154_486, e154_487, e154_488, e154_491, e154_494, e154_495, e154_496, e154_498, e154_501, e154_504, e154_505, e154_508, e154_509, n_lt, n_le, n_eq, n_lt0, n_ge0, n_gt0, n_le0, n_eq0, m_lt, m_le, m_gt, m_ge, m_eq, m_eq', m_lt0, m_ge0, m_gt0, m_le0, m_ltm, m_lem, n_in, m_in, n_cl, n_ti, n_div, n_rem', n_dec, n_l, nI_add, pk_mul, an0, an1, decide_eq_true_eq, if_true, if_false, ite_true, ite_false, and_true, true_and, and_false, false_and, not_true, not_false_iff, or_false, false_or, or_true, true_or, eq_self, va_some, Bool.false_eq_true, reduceIte, catS_n, catS_i, catS_r, catS_l, catS_d, Nat.zero_add, Nat.add_zero, decide_true, decide_false, Nat.reduceLeDiff, cat_r, cat_i, cat_l, nle_T, nle_F, nlt_T, nlt_F, neq_T, neq_F, e100, tV_1, tV_2]
theorem e154 {z : SX} {d : Nat} {g : GS} {n k : Nat} {ps : Nat → GS} {Z : ZT} (hv : TV g) (hl : LV g) (hT : TP g) (hd : 33 ≤ d) : C2 z d 154 [.ref 1] (g, n, ps, k) Z = Z (.inl (some (.int (nI 1)))) (g, n, ps, k) := by
  have h := p154k hv hl hT 3 0 rfl (z := z) (d := d - 1) (n := n) (k := k) (ps := ps) (Z := Z) (u5 := UN) (u6 := UN) (u7 := UN) (u8 := UN) (u9 := UN) (u10 := UN) (u11 := UN) (u12 := UN) (by omega)
  have ea : sm 0 (fun j => g (3 + j)) = 0 := rfl
  have eb : sm 0 (fun j => spT g j (g (3 + j))) = 0 := rfl
  rw [ea, eb] at h
  rw [← h]
  rw [C2_e (mj := 154) (e := [.ref 1, UN, UN, UN, UN, UN, UN, UN, UN, UN, UN, UN, UN]) rfl (by omega) rfl (Nat.le_of_ble_eq_true rfl)]
  simp (disch := first | assumption | omega) only [Nat.reduceAdd, mP_1, mP_0, X2_go, g4_some, stp, ldI, ldA, ldL, stI, stA, stL, o1I, o2I, o2L, brI, brII, gl, s1, s2, k1, sl, g3_sN, g3_sR, g3_sC, g3_if, g3_no, pops, b2_v, e154_0, e154_1, e154_2, e154_3, e154_4, e154_5, e154_6, e154_7, e154_11, e154_12, e154_15, e154_16, e154_19, e154_20, e154_22, e154_23, e154_25, e154_26, e154_29, e154_31, e154_32, e154_34, e154_35, e154_38, e154_40, e154_41, e154_43, e154_44, e154_45, e154_46, e154_50, e154_52, e154_55, e154_56, e154_59, e154_60, e154_62, e154_64, e154_66, e154_69, e154_71, e154_72, e154_74, e154_76, e154_77, e154_80, e154_82, e154_83, e154_85, e154_87, e154_88, e154_91, e154_93, e154_94, e154_96, e154_98, e154_99, e154_102, e154_104, e154_105, e154_106, e154_108, e154_110, e154_111, e154_114, e154_115, e154_116, e154_118, e154_120, e154_121, e154_123, e154_125, e154_127, e154_130, e154_131, e154_132, e154_134, e154_136, e154_139, e154_140, e154_142, e154_144, e154_145, e154_148, e154_151, e154_152, e154_154, e154_156, e154_157, e154_160, e154_161, e154_163, e154_165, e154_166, e154_169, e154_172, e154_173, e154_175, e154_177, e154_179, e154_182, e154_184, e154_187, e154_188, e154_190, e154_192, e154_193, e154_196, e154_199, e154_200, e154_202, e154_204, e154_205, e154_208, e154_210, e154_211, e154_212, e154_215, e154_216, e154_218, e154_219, e154_222, e154_223, e154_224, e154_225, e154_227, e154_228, e154_231, e154_233, e154_234, e154_237, e154_239, e154_242, e154_244, e154_246, e154_249, e154_251, e154_252, e154_253, e154_255, e154_256, e154_259, e154_260, e154_261, e154_263, e154_264, e154_265, e154_267, e154_269, e154_271, e154_274, e154_275, e154_276, e154_277, e154_280, e154_283, e154_285, e154_288, e154_290, e154_291, e154_294, e154_296, e154_299, e154_300, e154_302, e154_304, e154_305, e154_308, e154_310, e154_313, e154_315, e154_317, e154_320, e154_321, e154_323, e154_325, e154_326, e154_329, e154_331, e154_334, e154_335, e154_337, e154_339, e154_340, e154_343, e154_345, e154_346, e154_348, e154_351, e154_353, e154_356, e154_358, e154_361, e154_362, e154_363, e154_365, e154_367, e154_368, e154_371, e154_373, e154_374, e154_375, e154_378, e154_381, e154_382, e154_385, e154_386, e154_387, e154_390, e154_394, e154_397, e154_399, e154_400, e154_402, e154_403, e154_406, e154_409, e154_411, e154_414, e154_415, e154_417, e154_418, e154_421, e154_424, e154_425, e154_427, e154_428, e154_431, e154_432, e154_433, e154_434, e154_436, e154_437, e154_440, e154_443, e154_445, e154_448, e154_449, e154_451, e154_452, e154_455, e154_458, e154_459, e154_461, e154_462, e154_465, e154_466, e154_469, e154_470, e154_473, e154_474, e154_475, e154_478, e154_481, e154_482, e154_485, e154_486, e154_487, e154_488, e154_491, e154_494, e154_495, e154_496, e154_498, e154_501, e154_504, e154_505, e154_508, e154_509, n_lt, n_le, n_eq, n_lt0, n_ge0, n_gt0, n_le0, n_eq0, m_lt, m_le, m_gt, m_ge, m_eq, m_eq', m_lt0, m_ge0, m_gt0, m_le0, m_ltm, m_lem, n_in, m_in, n_cl, n_ti, n_div, n_rem', n_dec, n_l, nI_add, pk_mul, an0, an1, decide_eq_true_eq, if_true, if_false, ite_true, ite_false, and_true, true_and, and_false, false_and, not_true, not_false_iff, or_false, false_or, or_true, true_or, eq_self, va_some, Bool.false_eq_true, reduceIte, catS_n, catS_i, catS_r, catS_l, catS_d, Nat.zero_add, Nat.add_zero, decide_true, decide_false, Nat.reduceLeDiff, cat_r, cat_i, cat_l, nle_T, nle_F, nlt_T, nlt_F, neq_T, neq_F]
