/-! THE LAW: chances -/
theorem lc_lt {a b : Nat} (ha : a < 9223372036854775808) (hb : b < 9223372036854775808) : (lg_cmp (lN a) (lN b) < 0) = (a < b) := propext ((lg_cmp_lt _ _).trans (pk_lLT ha hb))
theorem lc_gt {a b : Nat} (ha : a < 9223372036854775808) (hb : b < 9223372036854775808) : (0 < lg_cmp (lN a) (lN b)) = (b < a) := propext ((lg_cmp_gt _ _).trans (pk_lLT hb ha))
theorem lc_eq {a b : Nat} (ha : a < 9223372036854775808) (hb : b < 9223372036854775808) : (lg_cmp (lN a) (lN b) = 0) = (a = b) := propext ((lg_cmp_eq _ _).trans (pk_lEQ ha hb))
theorem ra_0 {V : NV} : raN V 0 = soN V := by
  show 0 + V 16 + V 17 + V 18 + V 19 = V 16 + V 17 + V 18 + V 19
  omega
theorem ra_1 {V : NV} : raN V 1 = V 17 + V 18 + V 19 := by
  show 0 + V 17 + V 18 + V 19 = _
  omega
theorem ra_2 {V : NV} : raN V 2 = V 18 + V 19 := by
  show 0 + V 18 + V 19 = _
  omega
theorem ra_3 {V : NV} : raN V 3 = V 19 := by
  show 0 + V 19 = _
  omega
theorem ra_le {V : NV} {r : Nat} (h : r ≤ 3) : raN V r ≤ soN V := by
  have e : r = 0 ∨ r = 1 ∨ r = 2 ∨ r = 3 := by omega
  unfold soN
  rcases e with rfl | rfl | rfl | rfl
  · rw [ra_0]; exact Nat.le_refl _
  · rw [ra_1]; omega
  · rw [ra_2]; omega
  · rw [ra_3]; omega
/-- the greatest so far -/
def mxN (a : Nat → Nat) : Nat → Nat
  | 0 => 0
  | e + 1 => max (mxN a e) (a e)
theorem mx_le {a : Nat → Nat} {b : Nat} : ∀ n, (∀ e, e < n → a e ≤ b) → mxN a n ≤ b := by
  intro n
  induction n with
  | zero => intro _; exact Nat.zero_le _
  | succ n ih =>
    intro h
    have h1 := ih fun e he => h e (by omega)
    have h2 := h n (by omega)
    have : mxN a (n + 1) = max (mxN a n) (a n) := rfl
    omega
theorem mx_ge {a : Nat → Nat} : ∀ n e, e < n → a e ≤ mxN a n := by
  intro n
  induction n with
  | zero => intro e he; omega
  | succ n ih =>
    intro e he
    have : mxN a (n + 1) = max (mxN a n) (a n) := rfl
    by_cases z : e = n
    · subst z; omega
    · have := ih e (by omega); omega
theorem mx_eq {a : Nat → Nat} {n b : Nat} (hb : b < n) (h : ∀ e, e < n → a e ≤ a b) : mxN a n = a b := Nat.le_antisymm (mx_le n h) (mx_ge n b hb)
/-- the chances with a weight doubled -/
def dbN (g : GS) (t it : Nat) (e : Nat) : Nat := chN (dbl g t e) t it
theorem dbl_v {B t e : Nat} {g : GS} (hG : GV B g) (ht : t < 3) (he : e < g (3 + t)) : GV B (dbl g t e) := by
  have h6 := hG.1.2.1 t ht
  have hE := hG.1.2.2 t e ht he
  have h1 := hE.2.2.2.1
  exact GV_wt hG ht (by omega) (by omega) (Nat.min_le_left _ _)
theorem dbN_b {B t it e : Nat} {g : GS} (hG : GV B g) (ht : t < 3) (hi : it < 16) (he : e < g (3 + t)) : dbN g t it e ≤ 1000000000 := by
  have h := CN_ch (dbl_v hG ht he).1 ht
  have h1 := h.2.1 it hi
  have h2 := h.1
  unfold dbN
  omega
theorem bd_go {B t it : Nat} {g : GS} (hG : GV B g) (ht : t < 3) (hi : it < 16) : ∀ m e b, e + m = g (3 + t) → b < e → (∀ j, j < e → dbN g t it j ≤ dbN g t it b) → ∃ b', b' < g (3 + t) ∧ bdV g t it m e (nI b) (chV (dbl g t b) t it) = nI b' ∧ ∀ j, j < g (3 + t) → dbN g t it j ≤ dbN g t it b' := by
  intro m
  induction m with
  | zero =>
    intro e b he hb h
    refine ⟨b, by omega, rfl, fun j hj => h j (by omega)⟩
  | succ m ih =>
    intro e b he hb h
    have b1 := dbN_b hG ht hi (show e < g (3 + t) by omega)
    have b2 := dbN_b hG ht hi (show b < g (3 + t) by omega)
    have hc : (chV (dbl g t b) t it < chV (dbl g t e) t it) ↔ dbN g t it b < dbN g t it e := by
      rw [ch_N, ch_N]
      exact pk_lLT (by unfold dbN at b2; omega) (by unfold dbN at b1; omega)
    by_cases z : dbN g t it b < dbN g t it e
    · have e0 : bdV g t it (m + 1) e (nI b) (chV (dbl g t b) t it) = bdV g t it m (e + 1) (nI e) (chV (dbl g t e) t it) := if_pos (hc.mpr z)
      rw [e0]
      refine ih (e + 1) e (by omega) (by omega) fun j hj => ?_
      by_cases y : j = e
      · subst y; exact Nat.le_refl _
      · have := h j (by omega); omega
    · have e0 : bdV g t it (m + 1) e (nI b) (chV (dbl g t b) t it) = bdV g t it m (e + 1) (nI b) (chV (dbl g t b) t it) := if_neg (fun q => z (hc.mp q))
      rw [e0]
      refine ih (e + 1) b (by omega) (by omega) fun j hj => ?_
      by_cases y : j = e
      · subst y; omega
      · exact h j (by omega)
theorem bd_p {B t it : Nat} {g : GS} (hG : GV B g) (ht : t < 3) (hi : it < 16) (hn : 0 < g (3 + t)) : ∃ b, b < g (3 + t) ∧ bdV g t it (g (3 + t)) 0 (nI 4294967295) (lN 18446744073709551615) = nI b ∧ ∀ j, j < g (3 + t) → dbN g t it j ≤ dbN g t it b := by
  obtain ⟨m, hm⟩ : ∃ m, g (3 + t) = m + 1 := ⟨g (3 + t) - 1, by omega⟩
  have b1 : chN (dbl g t 0) t it < 2 ^ 63 := Nat.lt_of_le_of_lt (dbN_b hG ht hi hn) (by decide)
  have hlt : lN 18446744073709551615 < chV (dbl g t 0) t it := by
    rw [ch_N, Int64.lt_iff_toInt_lt, pk_lT b1]
    have : (lN 18446744073709551615).toInt = -1 := by decide
    omega
  have e0 : bdV g t it (m + 1) 0 (nI 4294967295) (lN 18446744073709551615) = bdV g t it m 1 (nI 0) (chV (dbl g t 0) t it) := if_pos hlt
  rw [hm, e0, ← hm]
  exact bd_go hG ht hi m 1 0 (by omega) (by omega) fun j hj => by
    have : j = 0 := by omega
    subst this
    exact Nat.le_refl _
theorem e156_0 : dek 156 0 = some (.aload_n 0, 1, []) := rfl
theorem e156_1 : dek 156 1 = some (.invokestatic 119, 3, [2, 152, 0, 14, 0, 421, 2]) := rfl
theorem e156_4 : dek 156 4 = some (.lstore_n 3, 1, []) := rfl
theorem e156_5 : dek 156 5 = some (.aload_n 0, 1, []) := rfl
theorem e156_6 : dek 156 6 = some (.iload_n 1, 1, []) := rfl
theorem e156_7 : dek 156 7 = some (.iconst 0, 1, [0]) := rfl
theorem e156_8 : dek 156 8 = some (.invokestatic 149, 3, [2, 136, 0, 14, 0, 858, 0, 0, 2]) := rfl
theorem e156_11 : dek 156 11 = some (.istore 5, 2, []) := rfl
theorem e156_13 : dek 156 13 = some (.aload_n 0, 1, []) := rfl
theorem e156_14 : dek 156 14 = some (.iload_n 1, 1, []) := rfl
theorem e156_15 : dek 156 15 = some (.invokestatic 151, 3, [2, 138, 0, 14, 0, 869, 0, 2]) := rfl
theorem e156_18 : dek 156 18 = some (.lstore 6, 2, []) := rfl
theorem e156_20 : dek 156 20 = some (.iload 5, 2, []) := rfl
theorem e156_22 : dek 156 22 = some (.ifCond .lt 56, 3, [78]) := rfl
theorem e156_25 : dek 156 25 = some (.iload 5, 2, []) := rfl
theorem e156_27 : dek 156 27 = some (.ldc 164, 2, [8, 1000000000, 923]) := rfl
theorem e156_29 : dek 156 29 = some (.if_icmp .gt 49, 3, [78]) := rfl
theorem e156_32 : dek 156 32 = some (.lload 6, 2, []) := rfl
theorem e156_34 : dek 156 34 = some (.iload 5, 2, []) := rfl
theorem e156_36 : dek 156 36 = some (.i2l, 1, []) := rfl
theorem e156_37 : dek 156 37 = some (.lcmp, 1, []) := rfl
theorem e156_38 : dek 156 38 = some (.ifCond .lt 40, 3, [78]) := rfl
theorem e156_41 : dek 156 41 = some (.lload 6, 2, []) := rfl
theorem e156_43 : dek 156 43 = some (.ldc2_w 165, 3, [9, 1000000000, 924]) := rfl
theorem e156_46 : dek 156 46 = some (.aload_n 0, 1, []) := rfl
theorem e156_47 : dek 156 47 = some (.iload_n 1, 1, []) := rfl
theorem e156_48 : dek 156 48 = some (.iconst 0, 1, [0]) := rfl
theorem e156_49 : dek 156 49 = some (.invokestatic 108, 3, [2, 100, 0, 14, 0, 499, 0, 0, 2]) := rfl
theorem e156_52 : dek 156 52 = some (.i2l, 1, []) := rfl
theorem e156_53 : dek 156 53 = some (.lmul, 1, []) := rfl
theorem e156_54 : dek 156 54 = some (.lcmp, 1, []) := rfl
theorem e156_55 : dek 156 55 = some (.ifCond .gt 23, 3, [78]) := rfl
theorem e156_58 : dek 156 58 = some (.aload_n 0, 1, []) := rfl
theorem e156_59 : dek 156 59 = some (.iload_n 1, 1, []) := rfl
theorem e156_60 : dek 156 60 = some (.iconst 3, 1, [3]) := rfl
theorem e156_61 : dek 156 61 = some (.invokestatic 108, 3, [2, 100, 0, 14, 0, 499, 0, 0, 2]) := rfl
theorem e156_64 : dek 156 64 = some (.ifCond .gt 10, 3, [74]) := rfl
theorem e156_67 : dek 156 67 = some (.lload 6, 2, []) := rfl
theorem e156_69 : dek 156 69 = some (.lconst 0, 1, [0]) := rfl
theorem e156_70 : dek 156 70 = some (.lcmp, 1, []) := rfl
theorem e156_71 : dek 156 71 = some (.ifCond .ne 7, 3, [78]) := rfl
theorem e156_74 : dek 156 74 = some (.iconst 1, 1, [1]) := rfl
theorem e156_75 : dek 156 75 = some (.goto 4, 3, [79]) := rfl
theorem e156_78 : dek 156 78 = some (.iconst 0, 1, [0]) := rfl
theorem e156_79 : dek 156 79 = some (.istore 8, 2, []) := rfl
theorem e156_81 : dek 156 81 = some (.iconst 1, 1, [1]) := rfl
theorem e156_82 : dek 156 82 = some (.istore 9, 2, []) := rfl
theorem e156_84 : dek 156 84 = some (.iload 9, 2, []) := rfl
theorem e156_86 : dek 156 86 = some (.iconst 4, 1, [4]) := rfl
theorem e156_87 : dek 156 87 = some (.if_icmp .ge 50, 3, [137]) := rfl
theorem e156_90 : dek 156 90 = some (.iload 8, 2, []) := rfl
theorem e156_92 : dek 156 92 = some (.ifCond .eq 45, 3, [137]) := rfl
theorem e156_95 : dek 156 95 = some (.aload_n 0, 1, []) := rfl
theorem e156_96 : dek 156 96 = some (.iload_n 1, 1, []) := rfl
theorem e156_97 : dek 156 97 = some (.iload 9, 2, []) := rfl
theorem e156_99 : dek 156 99 = some (.invokestatic 149, 3, [2, 136, 0, 14, 0, 858, 0, 0, 2]) := rfl
theorem e156_102 : dek 156 102 = some (.ifCond .lt 26, 3, [128]) := rfl
theorem e156_105 : dek 156 105 = some (.aload_n 0, 1, []) := rfl
theorem e156_106 : dek 156 106 = some (.iload_n 1, 1, []) := rfl
theorem e156_107 : dek 156 107 = some (.iload 9, 2, []) := rfl
theorem e156_109 : dek 156 109 = some (.invokestatic 149, 3, [2, 136, 0, 14, 0, 858, 0, 0, 2]) := rfl
theorem e156_112 : dek 156 112 = some (.aload_n 0, 1, []) := rfl
theorem e156_113 : dek 156 113 = some (.iload_n 1, 1, []) := rfl
theorem e156_114 : dek 156 114 = some (.iload 9, 2, []) := rfl
theorem e156_116 : dek 156 116 = some (.iconst 1, 1, [1]) := rfl
theorem e156_117 : dek 156 117 = some (.isub, 1, []) := rfl
theorem e156_118 : dek 156 118 = some (.invokestatic 149, 3, [2, 136, 0, 14, 0, 858, 0, 0, 2]) := rfl
theorem e156_121 : dek 156 121 = some (.if_icmp .gt 7, 3, [128]) := rfl
theorem e156_124 : dek 156 124 = some (.iconst 1, 1, [1]) := rfl
theorem e156_125 : dek 156 125 = some (.goto 4, 3, [129]) := rfl
theorem e156_128 : dek 156 128 = some (.iconst 0, 1, [0]) := rfl
theorem e156_129 : dek 156 129 = some (.istore 8, 2, []) := rfl
theorem e156_131 : dek 156 131 = some (.iinc 9 1, 3, [1]) := rfl
theorem e156_134 : dek 156 134 = some (.goto (-50), 3, [84]) := rfl
theorem e156_137 : dek 156 137 = some (.lconst 0, 1, [0]) := rfl
theorem e156_138 : dek 156 138 = some (.lstore 9, 2, []) := rfl
theorem e156_140 : dek 156 140 = some (.iconst 0, 1, [0]) := rfl
theorem e156_141 : dek 156 141 = some (.istore 11, 2, []) := rfl
theorem e156_143 : dek 156 143 = some (.iload 11, 2, []) := rfl
theorem e156_145 : dek 156 145 = some (.bipush 16, 2, [16]) := rfl
theorem e156_147 : dek 156 147 = some (.if_icmp .ge 50, 3, [197]) := rfl
theorem e156_150 : dek 156 150 = some (.iload 8, 2, []) := rfl
theorem e156_152 : dek 156 152 = some (.ifCond .eq 45, 3, [197]) := rfl
theorem e156_155 : dek 156 155 = some (.aload_n 0, 1, []) := rfl
theorem e156_156 : dek 156 156 = some (.iload_n 1, 1, []) := rfl
theorem e156_157 : dek 156 157 = some (.iload 11, 2, []) := rfl
theorem e156_159 : dek 156 159 = some (.invokestatic 147, 3, [2, 133, 0, 14, 0, 812, 0, 0, 2]) := rfl
theorem e156_162 : dek 156 162 = some (.istore 12, 2, []) := rfl
theorem e156_164 : dek 156 164 = some (.lload 9, 2, []) := rfl
theorem e156_166 : dek 156 166 = some (.iload 12, 2, []) := rfl
theorem e156_168 : dek 156 168 = some (.i2l, 1, []) := rfl
theorem e156_169 : dek 156 169 = some (.ladd, 1, []) := rfl
theorem e156_170 : dek 156 170 = some (.lstore 9, 2, []) := rfl
theorem e156_172 : dek 156 172 = some (.iload 12, 2, []) := rfl
theorem e156_174 : dek 156 174 = some (.ifCond .lt 14, 3, [188]) := rfl
theorem e156_177 : dek 156 177 = some (.iload 12, 2, []) := rfl
theorem e156_179 : dek 156 179 = some (.iload 5, 2, []) := rfl
theorem e156_181 : dek 156 181 = some (.if_icmp .gt 7, 3, [188]) := rfl
theorem e156_184 : dek 156 184 = some (.iconst 1, 1, [1]) := rfl
theorem e156_185 : dek 156 185 = some (.goto 4, 3, [189]) := rfl
theorem e156_188 : dek 156 188 = some (.iconst 0, 1, [0]) := rfl
theorem e156_189 : dek 156 189 = some (.istore 8, 2, []) := rfl
theorem e156_191 : dek 156 191 = some (.iinc 11 1, 3, [1]) := rfl
theorem e156_194 : dek 156 194 = some (.goto (-51), 3, [143]) := rfl
theorem e156_197 : dek 156 197 = some (.iload 8, 2, []) := rfl
theorem e156_199 : dek 156 199 = some (.ifCond .eq 42, 3, [241]) := rfl
theorem e156_202 : dek 156 202 = some (.lload 9, 2, []) := rfl
theorem e156_204 : dek 156 204 = some (.lload 6, 2, []) := rfl
theorem e156_206 : dek 156 206 = some (.lcmp, 1, []) := rfl
theorem e156_207 : dek 156 207 = some (.ifCond .gt 34, 3, [241]) := rfl
theorem e156_210 : dek 156 210 = some (.aload_n 0, 1, []) := rfl
theorem e156_211 : dek 156 211 = some (.iload_n 1, 1, []) := rfl
theorem e156_212 : dek 156 212 = some (.iconst 0, 1, [0]) := rfl
theorem e156_213 : dek 156 213 = some (.invokestatic 108, 3, [2, 100, 0, 14, 0, 499, 0, 0, 2]) := rfl
theorem e156_216 : dek 156 216 = some (.iconst 1, 1, [1]) := rfl
theorem e156_217 : dek 156 217 = some (.if_icmp .gt 20, 3, [237]) := rfl
theorem e156_220 : dek 156 220 = some (.lload 9, 2, []) := rfl
theorem e156_222 : dek 156 222 = some (.lload 6, 2, []) := rfl
theorem e156_224 : dek 156 224 = some (.lcmp, 1, []) := rfl
theorem e156_225 : dek 156 225 = some (.ifCond .ne 16, 3, [241]) := rfl
theorem e156_228 : dek 156 228 = some (.lload 9, 2, []) := rfl
theorem e156_230 : dek 156 230 = some (.iload 5, 2, []) := rfl
theorem e156_232 : dek 156 232 = some (.i2l, 1, []) := rfl
theorem e156_233 : dek 156 233 = some (.lcmp, 1, []) := rfl
theorem e156_234 : dek 156 234 = some (.ifCond .ne 7, 3, [241]) := rfl
theorem e156_237 : dek 156 237 = some (.iconst 1, 1, [1]) := rfl
theorem e156_238 : dek 156 238 = some (.goto 4, 3, [242]) := rfl
theorem e156_241 : dek 156 241 = some (.iconst 0, 1, [0]) := rfl
theorem e156_242 : dek 156 242 = some (.istore 8, 2, []) := rfl
theorem e156_244 : dek 156 244 = some (.aload_n 0, 1, []) := rfl
theorem e156_245 : dek 156 245 = some (.iload_n 1, 1, []) := rfl
theorem e156_246 : dek 156 246 = some (.iconst 2, 1, [2]) := rfl
theorem e156_247 : dek 156 247 = some (.invokestatic 108, 3, [2, 100, 0, 14, 0, 499, 0, 0, 2]) := rfl
theorem e156_250 : dek 156 250 = some (.istore 11, 2, []) := rfl
theorem e156_252 : dek 156 252 = some (.iload 8, 2, []) := rfl
theorem e156_254 : dek 156 254 = some (.ifCond .eq 24, 3, [278]) := rfl
theorem e156_257 : dek 156 257 = some (.iload 11, 2, []) := rfl
theorem e156_259 : dek 156 259 = some (.ifCond .eq 15, 3, [274]) := rfl
theorem e156_262 : dek 156 262 = some (.aload_n 0, 1, []) := rfl
theorem e156_263 : dek 156 263 = some (.iload_n 1, 1, []) := rfl
theorem e156_264 : dek 156 264 = some (.iload 11, 2, []) := rfl
theorem e156_266 : dek 156 266 = some (.invokestatic 149, 3, [2, 136, 0, 14, 0, 858, 0, 0, 2]) := rfl
theorem e156_269 : dek 156 269 = some (.ldc 167, 2, [8, 999000000, 925]) := rfl
theorem e156_271 : dek 156 271 = some (.if_icmp .lt 7, 3, [278]) := rfl
theorem e156_274 : dek 156 274 = some (.iconst 1, 1, [1]) := rfl
theorem e156_275 : dek 156 275 = some (.goto 4, 3, [279]) := rfl
theorem e156_278 : dek 156 278 = some (.iconst 0, 1, [0]) := rfl
theorem e156_279 : dek 156 279 = some (.istore 8, 2, []) := rfl
theorem e156_281 : dek 156 281 = some (.aload_n 0, 1, []) := rfl
theorem e156_282 : dek 156 282 = some (.iload_n 1, 1, []) := rfl
theorem e156_283 : dek 156 283 = some (.iload_n 2, 1, []) := rfl
theorem e156_284 : dek 156 284 = some (.invokestatic 156, 3, [2, 142, 0, 14, 0, 885, 0, 0, 2]) := rfl
theorem e156_287 : dek 156 287 = some (.istore 12, 2, []) := rfl
theorem e156_289 : dek 156 289 = some (.iload 8, 2, []) := rfl
theorem e156_291 : dek 156 291 = some (.ifCond .eq 44, 3, [335]) := rfl
theorem e156_294 : dek 156 294 = some (.iload 12, 2, []) := rfl
theorem e156_296 : dek 156 296 = some (.iconst (-1), 1, [4294967295]) := rfl
theorem e156_297 : dek 156 297 = some (.if_icmp .ne 7, 3, [304]) := rfl
theorem e156_300 : dek 156 300 = some (.iconst 1, 1, [1]) := rfl
theorem e156_301 : dek 156 301 = some (.goto 4, 3, [305]) := rfl
theorem e156_304 : dek 156 304 = some (.iconst 0, 1, [0]) := rfl
theorem e156_305 : dek 156 305 = some (.aload_n 0, 1, []) := rfl
theorem e156_306 : dek 156 306 = some (.iload_n 1, 1, []) := rfl
theorem e156_307 : dek 156 307 = some (.iconst 1, 1, [1]) := rfl
theorem e156_308 : dek 156 308 = some (.invokestatic 108, 3, [2, 100, 0, 14, 0, 499, 0, 0, 2]) := rfl
theorem e156_311 : dek 156 311 = some (.ifCond .ne 7, 3, [318]) := rfl
theorem e156_314 : dek 156 314 = some (.iconst 1, 1, [1]) := rfl
theorem e156_315 : dek 156 315 = some (.goto 4, 3, [319]) := rfl
theorem e156_318 : dek 156 318 = some (.iconst 0, 1, [0]) := rfl
theorem e156_319 : dek 156 319 = some (.if_icmp .ne 16, 3, [335]) := rfl
theorem e156_322 : dek 156 322 = some (.aload_n 0, 1, []) := rfl
theorem e156_323 : dek 156 323 = some (.invokestatic 119, 3, [2, 152, 0, 14, 0, 421, 2]) := rfl
theorem e156_326 : dek 156 326 = some (.lload_n 3, 1, []) := rfl
theorem e156_327 : dek 156 327 = some (.lcmp, 1, []) := rfl
theorem e156_328 : dek 156 328 = some (.ifCond .ne 7, 3, [335]) := rfl
theorem e156_331 : dek 156 331 = some (.iconst 1, 1, [1]) := rfl
theorem e156_332 : dek 156 332 = some (.goto 4, 3, [336]) := rfl
theorem e156_335 : dek 156 335 = some (.iconst 0, 1, [0]) := rfl
theorem e156_336 : dek 156 336 = some (.istore 8, 2, []) := rfl
theorem e156_338 : dek 156 338 = some (.iconst 0, 1, [0]) := rfl
theorem e156_339 : dek 156 339 = some (.istore 13, 2, []) := rfl
theorem e156_341 : dek 156 341 = some (.iconst 0, 1, [0]) := rfl
theorem e156_342 : dek 156 342 = some (.istore 14, 2, []) := rfl
theorem e156_344 : dek 156 344 = some (.iload 14, 2, []) := rfl
theorem e156_346 : dek 156 346 = some (.aload_n 0, 1, []) := rfl
theorem e156_347 : dek 156 347 = some (.iload_n 1, 1, []) := rfl
theorem e156_348 : dek 156 348 = some (.iconst 1, 1, [1]) := rfl
theorem e156_349 : dek 156 349 = some (.invokestatic 108, 3, [2, 100, 0, 14, 0, 499, 0, 0, 2]) := rfl
theorem e156_352 : dek 156 352 = some (.if_icmp .ge 109, 3, [461]) := rfl
theorem e156_355 : dek 156 355 = some (.iload 8, 2, []) := rfl
theorem e156_357 : dek 156 357 = some (.ifCond .eq 104, 3, [461]) := rfl
theorem e156_360 : dek 156 360 = some (.aload_n 0, 1, []) := rfl
theorem e156_361 : dek 156 361 = some (.iload_n 1, 1, []) := rfl
theorem e156_362 : dek 156 362 = some (.iload 14, 2, []) := rfl
theorem e156_364 : dek 156 364 = some (.iconst 1, 1, [1]) := rfl
theorem e156_365 : dek 156 365 = some (.invokestatic 111, 3, [2, 98, 0, 14, 0, 583, 0, 0, 0, 2]) := rfl
theorem e156_368 : dek 156 368 = some (.istore 15, 2, []) := rfl
theorem e156_370 : dek 156 370 = some (.aload_n 0, 1, []) := rfl
theorem e156_371 : dek 156 371 = some (.iload_n 1, 1, []) := rfl
theorem e156_372 : dek 156 372 = some (.iload 14, 2, []) := rfl
theorem e156_374 : dek 156 374 = some (.iload 15, 2, []) := rfl
theorem e156_376 : dek 156 376 = some (.sipush 500, 3, [500]) := rfl
theorem e156_379 : dek 156 379 = some (.if_icmp .le 9, 3, [388]) := rfl
theorem e156_382 : dek 156 382 = some (.sipush 1000, 3, [1000]) := rfl
theorem e156_385 : dek 156 385 = some (.goto 7, 3, [392]) := rfl
theorem e156_388 : dek 156 388 = some (.iconst 2, 1, [2]) := rfl
theorem e156_389 : dek 156 389 = some (.iload 15, 2, []) := rfl
theorem e156_391 : dek 156 391 = some (.imul, 1, []) := rfl
theorem e156_392 : dek 156 392 = some (.invokestatic 130, 3, [2, 96, 0, 14, 0, 692, 0, 0, 0, 2]) := rfl
theorem e156_395 : dek 156 395 = some (.iload 15, 2, []) := rfl
theorem e156_397 : dek 156 397 = some (.if_icmp .ne 7, 3, [404]) := rfl
theorem e156_400 : dek 156 400 = some (.iconst 1, 1, [1]) := rfl
theorem e156_401 : dek 156 401 = some (.goto 4, 3, [405]) := rfl
theorem e156_404 : dek 156 404 = some (.iconst 0, 1, [0]) := rfl
theorem e156_405 : dek 156 405 = some (.istore 8, 2, []) := rfl
theorem e156_407 : dek 156 407 = some (.aload_n 0, 1, []) := rfl
theorem e156_408 : dek 156 408 = some (.iload_n 1, 1, []) := rfl
theorem e156_409 : dek 156 409 = some (.iload_n 2, 1, []) := rfl
theorem e156_410 : dek 156 410 = some (.invokestatic 147, 3, [2, 133, 0, 14, 0, 812, 0, 0, 2]) := rfl
theorem e156_413 : dek 156 413 = some (.istore 16, 2, []) := rfl
theorem e156_415 : dek 156 415 = some (.iload 14, 2, []) := rfl
theorem e156_417 : dek 156 417 = some (.ifCond .eq 10, 3, [427]) := rfl
theorem e156_420 : dek 156 420 = some (.iload 16, 2, []) := rfl
theorem e156_422 : dek 156 422 = some (.iload 13, 2, []) := rfl
theorem e156_424 : dek 156 424 = some (.if_icmp .le 8, 3, [432]) := rfl
theorem e156_427 : dek 156 427 = some (.iload 16, 2, []) := rfl
theorem e156_429 : dek 156 429 = some (.goto 5, 3, [434]) := rfl
theorem e156_432 : dek 156 432 = some (.iload 13, 2, []) := rfl
theorem e156_434 : dek 156 434 = some (.istore 13, 2, []) := rfl
theorem e156_436 : dek 156 436 = some (.iload 8, 2, []) := rfl
theorem e156_438 : dek 156 438 = some (.ifCond .eq 14, 3, [452]) := rfl
theorem e156_441 : dek 156 441 = some (.aload_n 0, 1, []) := rfl
theorem e156_442 : dek 156 442 = some (.invokestatic 168, 3, [2, 147, 0, 14, 0, 303, 2]) := rfl
theorem e156_445 : dek 156 445 = some (.ifCond .lt 7, 3, [452]) := rfl
theorem e156_448 : dek 156 448 = some (.iconst 1, 1, [1]) := rfl
theorem e156_449 : dek 156 449 = some (.goto 4, 3, [453]) := rfl
theorem e156_452 : dek 156 452 = some (.iconst 0, 1, [0]) := rfl
theorem e156_453 : dek 156 453 = some (.istore 8, 2, []) := rfl
theorem e156_455 : dek 156 455 = some (.iinc 14 1, 3, [1]) := rfl
theorem e156_458 : dek 156 458 = some (.goto (-114), 3, [344]) := rfl
theorem e156_461 : dek 156 461 = some (.iload 8, 2, []) := rfl
theorem e156_463 : dek 156 463 = some (.ifCond .eq 73, 3, [536]) := rfl
theorem e156_466 : dek 156 466 = some (.iload 12, 2, []) := rfl
theorem e156_468 : dek 156 468 = some (.ifCond .lt 68, 3, [536]) := rfl
theorem e156_471 : dek 156 471 = some (.aload_n 0, 1, []) := rfl
theorem e156_472 : dek 156 472 = some (.iload_n 1, 1, []) := rfl
theorem e156_473 : dek 156 473 = some (.iload 12, 2, []) := rfl
theorem e156_475 : dek 156 475 = some (.iconst 1, 1, [1]) := rfl
theorem e156_476 : dek 156 476 = some (.invokestatic 111, 3, [2, 98, 0, 14, 0, 583, 0, 0, 0, 2]) := rfl
theorem e156_479 : dek 156 479 = some (.istore 14, 2, []) := rfl
theorem e156_481 : dek 156 481 = some (.aload_n 0, 1, []) := rfl
theorem e156_482 : dek 156 482 = some (.iload_n 1, 1, []) := rfl
theorem e156_483 : dek 156 483 = some (.iload 12, 2, []) := rfl
theorem e156_485 : dek 156 485 = some (.iload 14, 2, []) := rfl
theorem e156_487 : dek 156 487 = some (.sipush 500, 3, [500]) := rfl
theorem e156_490 : dek 156 490 = some (.if_icmp .le 9, 3, [499]) := rfl
theorem e156_493 : dek 156 493 = some (.sipush 1000, 3, [1000]) := rfl
theorem e156_496 : dek 156 496 = some (.goto 7, 3, [503]) := rfl
theorem e156_499 : dek 156 499 = some (.iconst 2, 1, [2]) := rfl
theorem e156_500 : dek 156 500 = some (.iload 14, 2, []) := rfl
theorem e156_502 : dek 156 502 = some (.imul, 1, []) := rfl
theorem e156_503 : dek 156 503 = some (.invokestatic 130, 3, [2, 96, 0, 14, 0, 692, 0, 0, 0, 2]) := rfl
theorem e156_506 : dek 156 506 = some (.iload 14, 2, []) := rfl
theorem e156_508 : dek 156 508 = some (.if_icmp .ne 25, 3, [533]) := rfl
theorem e156_511 : dek 156 511 = some (.aload_n 0, 1, []) := rfl
theorem e156_512 : dek 156 512 = some (.iload_n 1, 1, []) := rfl
theorem e156_513 : dek 156 513 = some (.iload_n 2, 1, []) := rfl
theorem e156_514 : dek 156 514 = some (.invokestatic 147, 3, [2, 133, 0, 14, 0, 812, 0, 0, 2]) := rfl
theorem e156_517 : dek 156 517 = some (.iload 13, 2, []) := rfl
theorem e156_519 : dek 156 519 = some (.if_icmp .ne 14, 3, [533]) := rfl
theorem e156_522 : dek 156 522 = some (.aload_n 0, 1, []) := rfl
theorem e156_523 : dek 156 523 = some (.invokestatic 168, 3, [2, 147, 0, 14, 0, 303, 2]) := rfl
theorem e156_526 : dek 156 526 = some (.ifCond .lt 7, 3, [533]) := rfl
theorem e156_529 : dek 156 529 = some (.iconst 1, 1, [1]) := rfl
theorem e156_530 : dek 156 530 = some (.goto 4, 3, [534]) := rfl
theorem e156_533 : dek 156 533 = some (.iconst 0, 1, [0]) := rfl
theorem e156_534 : dek 156 534 = some (.istore 8, 2, []) := rfl
theorem e156_536 : dek 156 536 = some (.iload 8, 2, []) := rfl
theorem e156_538 : dek 156 538 = some (.ifCond .eq 16, 3, [554]) := rfl
theorem e156_541 : dek 156 541 = some (.aload_n 0, 1, []) := rfl
theorem e156_542 : dek 156 542 = some (.invokestatic 119, 3, [2, 152, 0, 14, 0, 421, 2]) := rfl
theorem e156_545 : dek 156 545 = some (.lload_n 3, 1, []) := rfl
theorem e156_546 : dek 156 546 = some (.lcmp, 1, []) := rfl
theorem e156_547 : dek 156 547 = some (.ifCond .ne 7, 3, [554]) := rfl
theorem e156_550 : dek 156 550 = some (.iconst 1, 1, [1]) := rfl
theorem e156_551 : dek 156 551 = some (.goto 4, 3, [555]) := rfl
theorem e156_554 : dek 156 554 = some (.iconst 0, 1, [0]) := rfl
theorem e156_555 : dek 156 555 = some (.ireturn, 1, [1]) := rfl
set_option maxRecDepth 50000 in
set_option maxHeartbeats 8000000 in
theorem p156a {B : Nat} {g : GS} {t it : Nat} (hG : GV B g) (ht : t < 3) {z : SX} {d n k : Nat} {ps : Nat → GS} {Z : ZT} (hd : 34 ≤ d) : C2 z d 156 [.ref 1, .int (nI t), .int (nI it)] (g, n, ps, k) Z = X2 z (d - 1) 156 143 [.ref 1, .int (nI t), .int (nI it), .long (prV g), UN, .int (nI (soN (chN g t))), .long (lN (chN g t 20)), UN, .int (nI 1), .long (lN 0), UN, .int (nI 0), UN, UN, UN, UN, UN] [] (g, n, ps, k + prK g) Z := by
  obtain ⟨hv, hl, hF⟩ := hG
  have hD := hv.1 t ht
  obtain ⟨c1, c2, c3, c4, c5, c6⟩ := CN_ch hv ht
  have hsb : fs g t ≤ 612000 := sw_b (q := fq g t) (sp := spG g) (gr := noG) hv hl ht
  have hz := no_ch (g := g) hv ht
  have r0 := ra_0 (V := chN g t)
  have r1 := ra_1 (V := chN g t)
  have r2 := ra_2 (V := chN g t)
  have r3 := ra_3 (V := chN g t)
  have a1 : raN (chN g t) 1 ≤ soN (chN g t) := ra_le (by omega)
  have a2 : raN (chN g t) 2 ≤ raN (chN g t) 1 := by omega
  have a3 : raN (chN g t) 3 ≤ raN (chN g t) 2 := by omega
  have e20 : chN g t 20 < 9223372036854775808 := by omega
  clear r1 r2 r3 c2 c5 c6
  have hc4 : chN g t 20 ≤ 1000000000 * g t := by omega
  rw [C2_e (mj := 156) (e := [.ref 1, .int (nI t), .int (nI it), UN, UN, UN, UN, UN, UN, UN, UN, UN, UN, UN, UN, UN, UN]) rfl (by omega) rfl (Nat.le_of_ble_eq_true rfl)]
  rcases Nat.eq_zero_or_pos (fs g t) with hf | hf
  · have hz := hz hf
    simp (disch := first | assumption | omega) only [Nat.reduceAdd, mP_1, mP_0, X2_go, g4_some, stp, ldI, ldA, ldL, stI, stA, stL, o1I, o2I, o2L, brI, brII, gl, s1, s2, k1, sl, g3_sN, g3_sR, g3_sC, g3_if, g3_no, pops, b2_v, e156_0, e156_1, e156_4, e156_5, e156_6, e156_7, e156_8, e156_11, e156_13, e156_14, e156_15, e156_18, e156_20, e156_22, e156_25, e156_27, e156_29, e156_32, e156_34, e156_36, e156_37, e156_38, e156_41, e156_43, e156_46, e156_47, e156_48, e156_49, e156_52, e156_53, e156_54, e156_55, e156_58, e156_59, e156_60, e156_61, e156_64, e156_67, e156_69, e156_70, e156_71, e156_74, e156_75, e156_78, e156_79, e156_81, e156_82, e156_84, e156_86, e156_87, e156_90, e156_92, e156_95, e156_96, e156_97, e156_99, e156_102, e156_105, e156_106, e156_107, e156_109, e156_112, e156_113, e156_114, e156_116, e156_117, e156_118, e156_121, e156_124, e156_125, e156_128, e156_129, e156_131, e156_134, e156_137, e156_138, e156_140, e156_141, e156_145, e156_147, e156_150, e156_152, e156_155, e156_156, e156_157, e156_159, e156_162, e156_164, e156_166, e156_168, e156_169, e156_170, e156_172, e156_174, e156_177, e156_179, e156_181, e156_184, e156_185, e156_188, e156_189, e156_191, e156_194, e156_199, e156_202, e156_204, e156_206, e156_207, e156_210, e156_211, e156_212, e156_213, e156_216, e156_217, e156_220, e156_222, e156_224, e156_225, e156_228, e156_230, e156_232, e156_233, e156_234, e156_237, e156_238, e156_241, e156_242, e156_244, e156_245, e156_246, e156_247, e156_250, e156_252, e156_254, e156_257, e156_259, e156_262, e156_263, e156_264, e156_266, e156_269, e156_271, e156_274, e156_275, e156_278, e156_279, e156_281, e156_282, e156_283, e156_284, e156_287, e156_289, e156_291, e156_294, e156_296, e156_297, e156_300, e156_301, e156_304, e156_305, e156_306, e156_307, e156_308, e156_311, e156_314, e156_315, e156_318, e156_319, e156_322, e156_323, e156_326, e156_327, e156_328, e156_331, e156_332, e156_335, e156_336, e156_338, e156_339, e156_341, e156_342, e156_346, e156_347, e156_348, e156_349, e156_352, e156_355, e156_357, e156_360, e156_361, e156_362, e156_364, e156_365, e156_368, e156_370, e156_371, e156_372, e156_374, e156_376, e156_379, e156_382, e156_385, e156_388, e156_389, e156_391, e156_392, e156_395, e156_397, e156_400, e156_401, e156_404, e156_405, e156_407, e156_408, e156_409, e156_410, e156_413, e156_415, e156_417, e156_420, e156_422, e156_424, e156_427, e156_429, e156_432, e156_434, e156_436, e156_438, e156_441, e156_442, e156_445, e156_448, e156_449, e156_452, e156_453, e156_455, e156_458, e156_463, e156_466, e156_468, e156_471, e156_472, e156_473, e156_475, e156_476, e156_479, e156_481, e156_482, e156_483, e156_485, e156_487, e156_490, e156_493, e156_496, e156_499, e156_500, e156_502, e156_503, e156_506, e156_508, e156_511, e156_512, e156_513, e156_514, e156_517, e156_519, e156_522, e156_523, e156_526, e156_529, e156_530, e156_533, e156_534, e156_536, e156_538, e156_541, e156_542, e156_545, e156_546, e156_547, e156_550, e156_551, e156_554, e156_555, n_lt, n_le, n_eq, n_lt0, n_ge0, n_gt0, n_le0, n_eq0, m_lt, m_le, m_gt, m_ge, m_eq, m_eq', m_lt0, m_ge0, m_gt0, m_le0, m_ltm, m_lem, n_in, m_in, n_cl, n_ti, n_div, n_rem', n_dec, n_l, nI_add, pk_mul, an0, an1, decide_eq_true_eq, if_true, if_false, ite_true, ite_false, and_true, true_and, and_false, false_and, not_true, not_false_iff, or_false, false_or, or_true, true_or, eq_self, va_some, Bool.false_eq_true, reduceIte, catS_n, catS_i, catS_r, catS_l, catS_d, Nat.zero_add, Nat.add_zero, decide_true, decide_false, Nat.reduceLeDiff, cat_r, cat_i, cat_l, nle_T, nle_F, nlt_T, nlt_F, neq_T, neq_F, e152, e136, e138, e100, tV_0, tV_3, r0, lN_mul, lc_lt, lc_gt, lc_eq, n_sub, Nat.reduceSub, hf, hz]
  · simp (disch := first | assumption | omega) only [Nat.reduceAdd, mP_1, mP_0, X2_go, g4_some, stp, ldI, ldA, ldL, stI, stA, stL, o1I, o2I, o2L, brI, brII, gl, s1, s2, k1, sl, g3_sN, g3_sR, g3_sC, g3_if, g3_no, pops, b2_v, e156_0, e156_1, e156_4, e156_5, e156_6, e156_7, e156_8, e156_11, e156_13, e156_14, e156_15, e156_18, e156_20, e156_22, e156_25, e156_27, e156_29, e156_32, e156_34, e156_36, e156_37, e156_38, e156_41, e156_43, e156_46, e156_47, e156_48, e156_49, e156_52, e156_53, e156_54, e156_55, e156_58, e156_59, e156_60, e156_61, e156_64, e156_67, e156_69, e156_70, e156_71, e156_74, e156_75, e156_78, e156_79, e156_81, e156_82, e156_84, e156_86, e156_87, e156_90, e156_92, e156_95, e156_96, e156_97, e156_99, e156_102, e156_105, e156_106, e156_107, e156_109, e156_112, e156_113, e156_114, e156_116, e156_117, e156_118, e156_121, e156_124, e156_125, e156_128, e156_129, e156_131, e156_134, e156_137, e156_138, e156_140, e156_141, e156_145, e156_147, e156_150, e156_152, e156_155, e156_156, e156_157, e156_159, e156_162, e156_164, e156_166, e156_168, e156_169, e156_170, e156_172, e156_174, e156_177, e156_179, e156_181, e156_184, e156_185, e156_188, e156_189, e156_191, e156_194, e156_199, e156_202, e156_204, e156_206, e156_207, e156_210, e156_211, e156_212, e156_213, e156_216, e156_217, e156_220, e156_222, e156_224, e156_225, e156_228, e156_230, e156_232, e156_233, e156_234, e156_237, e156_238, e156_241, e156_242, e156_244, e156_245, e156_246, e156_247, e156_250, e156_252, e156_254, e156_257, e156_259, e156_262, e156_263, e156_264, e156_266, e156_269, e156_271, e156_274, e156_275, e156_278, e156_279, e156_281, e156_282, e156_283, e156_284, e156_287, e156_289, e156_291, e156_294, e156_296, e156_297, e156_300, e156_301, e156_304, e156_305, e156_306, e156_307, e156_308, e156_311, e156_314, e156_315, e156_318, e156_319, e156_322, e156_323, e156_326, e156_327, e156_328, e156_331, e156_332, e156_335, e156_336, e156_338, e156_339, e156_341, e156_342, e156_346, e156_347, e156_348, e156_349, e156_352, e156_355, e156_357, e156_360, e156_361, e156_362, e156_364, e156_365, e156_368, e156_370, e156_371, e156_372, e156_374, e156_376, e156_379, e156_382, e156_385, e156_388, e156_389, e156_391, e156_392, e156_395, e156_397, e156_400, e156_401, e156_404, e156_405, e156_407, e156_408, e156_409, e156_410, e156_413, e156_415, e156_417, e156_420, e156_422, e156_424, e156_427, e156_429, e156_432, e156_434, e156_436, e156_438, e156_441, e156_442, e156_445, e156_448, e156_449, e156_452, e156_453, e156_455, e156_458, e156_463, e156_466, e156_468, e156_471, e156_472, e156_473, e156_475, e156_476, e156_479, e156_481, e156_482, e156_483, e156_485, e156_487, e156_490, e156_493, e156_496, e156_499, e156_500, e156_502, e156_503, e156_506, e156_508, e156_511, e156_512, e156_513, e156_514, e156_517, e156_519, e156_522, e156_523, e156_526, e156_529, e156_530, e156_533, e156_534, e156_536, e156_538, e156_541, e156_542, e156_545, e156_546, e156_547, e156_550, e156_551, e156_554, e156_555, n_lt, n_le, n_eq, n_lt0, n_ge0, n_gt0, n_le0, n_eq0, m_lt, m_le, m_gt, m_ge, m_eq, m_eq', m_lt0, m_ge0, m_gt0, m_le0, m_ltm, m_lem, n_in, m_in, n_cl, n_ti, n_div, n_rem', n_dec, n_l, nI_add, pk_mul, an0, an1, decide_eq_true_eq, if_true, if_false, ite_true, ite_false, and_true, true_and, and_false, false_and, not_true, not_false_iff, or_false, false_or, or_true, true_or, eq_self, va_some, Bool.false_eq_true, reduceIte, catS_n, catS_i, catS_r, catS_l, catS_d, Nat.zero_add, Nat.add_zero, decide_true, decide_false, Nat.reduceLeDiff, cat_r, cat_i, cat_l, nle_T, nle_F, nlt_T, nlt_F, neq_T, neq_F, e152, e136, e138, e100, tV_0, tV_3, r0, lN_mul, lc_lt, lc_gt, lc_eq, n_sub, Nat.reduceSub]
theorem p156b {B : Nat} {g : GS} {t it : Nat} {w : Int64} (hG : GV B g) (ht : t < 3) : ∀ m i, i + m = 16 → ∀ {z : SX} {d n k : Nat} {ps : Nat → GS} {Z : ZT} {u12 u13 u14 u15 u16 : Value}, 33 ≤ d → ∃ v12 : Value, X2 z d 156 143 [.ref 1, .int (nI t), .int (nI it), .long w, UN, .int (nI (soN (chN g t))), .long (lN (chN g t 20)), UN, .int (nI 1), .long (lN (sm i (chN g t))), UN, .int (nI i), u12, u13, u14, u15, u16] [] (g, n, ps, k) Z = X2 z d 156 197 [.ref 1, .int (nI t), .int (nI it), .long w, UN, .int (nI (soN (chN g t))), .long (lN (chN g t 20)), UN, .int (nI 1), .long (lN (sm 16 (chN g t))), UN, .int (nI 16), v12, u13, u14, u15, u16] [] (g, n, ps, k) Z := by
  obtain ⟨c1, c2, c3, c4, c5, c6⟩ := CN_ch hG.1 ht
  intro m
  induction m with
  | zero =>
    intro i hi z d n k ps Z u12 u13 u14 u15 u16 hd
    have : i = 16 := by omega
    subst this
    refine ⟨u12, ?_⟩
    rw [X2_go, e156_143]
    simp (disch := first | assumption | omega) only [Nat.reduceAdd, mP_1, mP_0, X2_go, g4_some, stp, ldI, ldA, ldL, stI, stA, stL, o1I, o2I, o2L, brI, brII, gl, s1, s2, k1, sl, g3_sN, g3_sR, g3_sC, g3_if, g3_no, pops, b2_v, e156_0, e156_1, e156_4, e156_5, e156_6, e156_7, e156_8, e156_11, e156_13, e156_14, e156_15, e156_18, e156_20, e156_22, e156_25, e156_27, e156_29, e156_32, e156_34, e156_36, e156_37, e156_38, e156_41, e156_43, e156_46, e156_47, e156_48, e156_49, e156_52, e156_53, e156_54, e156_55, e156_58, e156_59, e156_60, e156_61, e156_64, e156_67, e156_69, e156_70, e156_71, e156_74, e156_75, e156_78, e156_79, e156_81, e156_82, e156_84, e156_86, e156_87, e156_90, e156_92, e156_95, e156_96, e156_97, e156_99, e156_102, e156_105, e156_106, e156_107, e156_109, e156_112, e156_113, e156_114, e156_116, e156_117, e156_118, e156_121, e156_124, e156_125, e156_128, e156_129, e156_131, e156_134, e156_137, e156_138, e156_140, e156_141, e156_145, e156_147, e156_150, e156_152, e156_155, e156_156, e156_157, e156_159, e156_162, e156_164, e156_166, e156_168, e156_169, e156_170, e156_172, e156_174, e156_177, e156_179, e156_181, e156_184, e156_185, e156_188, e156_189, e156_191, e156_194, e156_199, e156_202, e156_204, e156_206, e156_207, e156_210, e156_211, e156_212, e156_213, e156_216, e156_217, e156_220, e156_222, e156_224, e156_225, e156_228, e156_230, e156_232, e156_233, e156_234, e156_237, e156_238, e156_241, e156_242, e156_244, e156_245, e156_246, e156_247, e156_250, e156_252, e156_254, e156_257, e156_259, e156_262, e156_263, e156_264, e156_266, e156_269, e156_271, e156_274, e156_275, e156_278, e156_279, e156_281, e156_282, e156_283, e156_284, e156_287, e156_289, e156_291, e156_294, e156_296, e156_297, e156_300, e156_301, e156_304, e156_305, e156_306, e156_307, e156_308, e156_311, e156_314, e156_315, e156_318, e156_319, e156_322, e156_323, e156_326, e156_327, e156_328, e156_331, e156_332, e156_335, e156_336, e156_338, e156_339, e156_341, e156_342, e156_346, e156_347, e156_348, e156_349, e156_352, e156_355, e156_357, e156_360, e156_361, e156_362, e156_364, e156_365, e156_368, e156_370, e156_371, e156_372, e156_374, e156_376, e156_379, e156_382, e156_385, e156_388, e156_389, e156_391, e156_392, e156_395, e156_397, e156_400, e156_401, e156_404, e156_405, e156_407, e156_408, e156_409, e156_410, e156_413, e156_415, e156_417, e156_420, e156_422, e156_424, e156_427, e156_429, e156_432, e156_434, e156_436, e156_438, e156_441, e156_442, e156_445, e156_448, e156_449, e156_452, e156_453, e156_455, e156_458, e156_463, e156_466, e156_468, e156_471, e156_472, e156_473, e156_475, e156_476, e156_479, e156_481, e156_482, e156_483, e156_485, e156_487, e156_490, e156_493, e156_496, e156_499, e156_500, e156_502, e156_503, e156_506, e156_508, e156_511, e156_512, e156_513, e156_514, e156_517, e156_519, e156_522, e156_523, e156_526, e156_529, e156_530, e156_533, e156_534, e156_536, e156_538, e156_541, e156_542, e156_545, e156_546, e156_547, e156_550, e156_551, e156_554, e156_555, n_lt, n_le, n_eq, n_lt0, n_ge0, n_gt0, n_le0, n_eq0, m_lt, m_le, m_gt, m_ge, m_eq, m_eq', m_lt0, m_ge0, m_gt0, m_le0, m_ltm, m_lem, n_in, m_in, n_cl, n_ti, n_div, n_rem', n_dec, n_l, nI_add, pk_mul, an0, an1, decide_eq_true_eq, if_true, if_false, ite_true, ite_false, and_true, true_and, and_false, false_and, not_true, not_false_iff, or_false, false_or, or_true, true_or, eq_self, va_some, Bool.false_eq_true, reduceIte, catS_n, catS_i, catS_r, catS_l, catS_d, Nat.zero_add, Nat.add_zero, decide_true, decide_false, Nat.reduceLeDiff, cat_r, cat_i, cat_l, nle_T, nle_F, nlt_T, nlt_F, neq_T, neq_F]
  | succ m ih =>
    intro i hi z d n k ps Z u12 u13 u14 u15 u16 hd
    have h1 := c2 i (by omega)
    obtain ⟨v12, e⟩ := ih (i + 1) (by omega) (z := z) (n := n) (k := k) (ps := ps) (Z := Z) (u12 := .int (nI (chN g t i))) (u13 := u13) (u14 := u14) (u15 := u15) (u16 := u16) hd
    refine ⟨v12, ?_⟩
    have e1 : sm (i + 1) (chN g t) = sm i (chN g t) + chN g t i := rfl
    rw [← e, e1, X2_go, e156_143]
    simp (disch := first | assumption | omega) only [Nat.reduceAdd, mP_1, mP_0, X2_go, g4_some, stp, ldI, ldA, ldL, stI, stA, stL, o1I, o2I, o2L, brI, brII, gl, s1, s2, k1, sl, g3_sN, g3_sR, g3_sC, g3_if, g3_no, pops, b2_v, e156_0, e156_1, e156_4, e156_5, e156_6, e156_7, e156_8, e156_11, e156_13, e156_14, e156_15, e156_18, e156_20, e156_22, e156_25, e156_27, e156_29, e156_32, e156_34, e156_36, e156_37, e156_38, e156_41, e156_43, e156_46, e156_47, e156_48, e156_49, e156_52, e156_53, e156_54, e156_55, e156_58, e156_59, e156_60, e156_61, e156_64, e156_67, e156_69, e156_70, e156_71, e156_74, e156_75, e156_78, e156_79, e156_81, e156_82, e156_84, e156_86, e156_87, e156_90, e156_92, e156_95, e156_96, e156_97, e156_99, e156_102, e156_105, e156_106, e156_107, e156_109, e156_112, e156_113, e156_114, e156_116, e156_117, e156_118, e156_121, e156_124, e156_125, e156_128, e156_129, e156_131, e156_134, e156_137, e156_138, e156_140, e156_141, e156_145, e156_147, e156_150, e156_152, e156_155, e156_156, e156_157, e156_159, e156_162, e156_164, e156_166, e156_168, e156_169, e156_170, e156_172, e156_174, e156_177, e156_179, e156_181, e156_184, e156_185, e156_188, e156_189, e156_191, e156_194, e156_199, e156_202, e156_204, e156_206, e156_207, e156_210, e156_211, e156_212, e156_213, e156_216, e156_217, e156_220, e156_222, e156_224, e156_225, e156_228, e156_230, e156_232, e156_233, e156_234, e156_237, e156_238, e156_241, e156_242, e156_244, e156_245, e156_246, e156_247, e156_250, e156_252, e156_254, e156_257, e156_259, e156_262, e156_263, e156_264, e156_266, e156_269, e156_271, e156_274, e156_275, e156_278, e156_279, e156_281, e156_282, e156_283, e156_284, e156_287, e156_289, e156_291, e156_294, e156_296, e156_297, e156_300, e156_301, e156_304, e156_305, e156_306, e156_307, e156_308, e156_311, e156_314, e156_315, e156_318, e156_319, e156_322, e156_323, e156_326, e156_327, e156_328, e156_331, e156_332, e156_335, e156_336, e156_338, e156_339, e156_341, e156_342, e156_346, e156_347, e156_348, e156_349, e156_352, e156_355, e156_357, e156_360, e156_361, e156_362, e156_364, e156_365, e156_368, e156_370, e156_371, e156_372, e156_374, e156_376, e156_379, e156_382, e156_385, e156_388, e156_389, e156_391, e156_392, e156_395, e156_397, e156_400, e156_401, e156_404, e156_405, e156_407, e156_408, e156_409, e156_410, e156_413, e156_415, e156_417, e156_420, e156_422, e156_424, e156_427, e156_429, e156_432, e156_434, e156_436, e156_438, e156_441, e156_442, e156_445, e156_448, e156_449, e156_452, e156_453, e156_455, e156_458, e156_463, e156_466, e156_468, e156_471, e156_472, e156_473, e156_475, e156_476, e156_479, e156_481, e156_482, e156_483, e156_485, e156_487, e156_490, e156_493, e156_496, e156_499, e156_500, e156_502, e156_503, e156_506, e156_508, e156_511, e156_512, e156_513, e156_514, e156_517, e156_519, e156_522, e156_523, e156_526, e156_529, e156_530, e156_533, e156_534, e156_536, e156_538, e156_541, e156_542, e156_545, e156_546, e156_547, e156_550, e156_551, e156_554, e156_555, n_lt, n_le, n_eq, n_lt0, n_ge0, n_gt0, n_le0, n_eq0, m_lt, m_le, m_gt, m_ge, m_eq, m_eq', m_lt0, m_ge0, m_gt0, m_le0, m_ltm, m_lem, n_in, m_in, n_cl, n_ti, n_div, n_rem', n_dec, n_l, nI_add, pk_mul, an0, an1, decide_eq_true_eq, if_true, if_false, ite_true, ite_false, and_true, true_and, and_false, false_and, not_true, not_false_iff, or_false, false_or, or_true, true_or, eq_self, va_some, Bool.false_eq_true, reduceIte, catS_n, catS_i, catS_r, catS_l, catS_d, Nat.zero_add, Nat.add_zero, decide_true, decide_false, Nat.reduceLeDiff, cat_r, cat_i, cat_l, nle_T, nle_F, nlt_T, nlt_F, neq_T, neq_F, e133, lN_add]
/-- what bestDouble answers -/
def bdA (g : GS) (t it : Nat) : Int32 := bdV g t it (g (3 + t)) 0 (nI 4294967295) (lN 18446744073709551615)
set_option maxRecDepth 50000 in
set_option maxHeartbeats 8000000 in
theorem p156c {B : Nat} {g : GS} {t it : Nat} (hG : GV B g) (ht : t < 3) (hi : it < 16) {z : SX} {d n k : Nat} {ps : Nat → GS} {Z : ZT} {u12 u13 u14 u15 u16 : Value} (hd : 33 ≤ d) : X2 z d 156 197 [.ref 1, .int (nI t), .int (nI it), .long (prV g), UN, .int (nI (soN (chN g t))), .long (lN (chN g t 20)), UN, .int (nI 1), .long (lN (sm 16 (chN g t))), UN, .int (nI 16), u12, u13, u14, u15, u16] [] (g, n, ps, k) Z = X2 z d 156 344 [.ref 1, .int (nI t), .int (nI it), .long (prV g), UN, .int (nI (soN (chN g t))), .long (lN (chN g t 20)), UN, .int (nI 1), .long (lN (sm 16 (chN g t))), UN, .int (nI (fq g t)), .int (bdA g t it), .int (nI 0), .int (nI 0), u15, u16] [] (g, n, ps, k + prK g) Z := by
  have hb : 0 < g (3 + t) → ∃ b, b < g (3 + t) ∧ bdA g t it = nI b := fun hn => by
    obtain ⟨b, h1, h2, _⟩ := bd_p hG ht hi hn
    exact ⟨b, h1, h2⟩
  have hb0 : g (3 + t) = 0 → bdA g t it = nI 4294967295 := fun hn => by
    unfold bdA
    rw [hn]
    rfl
  obtain ⟨hv, hl, hF⟩ := hG
  have hD := hv.1 t ht
  have h6 := hv.2.1 t ht
  obtain ⟨c1, c2, c3, c4, c5, c6⟩ := CN_ch hv ht
  have hq3 : fq g t ≤ 3 := wq_b _ _ _ _ _
  have hra : raN (chN g t) (fq g t) ≤ soN (chN g t) := ra_le hq3
  have hbd : ∀ {z : SX} {d n k : Nat} {ps : Nat → GS} {Z : ZT}, 31 ≤ d → C2 z d 142 [.ref 1, .int (nI t), .int (nI it)] (g, n, ps, k) Z = Z (.inl (some (.int (bdA g t it)))) (g, n, ps, k) := fun hd => e142 hd ht hi
  have c4 : chN g t 20 ≤ 2000000000 := by
    have : g t * 1000000000 ≤ 2 * 1000000000 := Nat.mul_le_mul_right _ hD.2
    omega
  rw [X2_go, e156_197]
  have key : ∀ (P : Prop), (g t = 1 → P) → (g t = 2 → P) → P := fun P h1 h2 => by
    have : g t = 1 ∨ g t = 2 := by omega
    exact this.elim h1 h2
  rcases Nat.eq_zero_or_pos (fq g t) with hq | hq
  · rcases Nat.eq_zero_or_pos (g (3 + t)) with hn | hn
    · have hb0 := hb0 hn
      refine key _ (fun hd1 => ?_) (fun hd1 => ?_)
      · obtain ⟨y1, y2⟩ := c6 hd1
        simp (disch := first | assumption | omega) only [Nat.reduceAdd, mP_1, mP_0, X2_go, g4_some, stp, ldI, ldA, ldL, stI, stA, stL, o1I, o2I, o2L, brI, brII, gl, s1, s2, k1, sl, g3_sN, g3_sR, g3_sC, g3_if, g3_no, pops, b2_v, e156_0, e156_1, e156_4, e156_5, e156_6, e156_7, e156_8, e156_11, e156_13, e156_14, e156_15, e156_18, e156_20, e156_22, e156_25, e156_27, e156_29, e156_32, e156_34, e156_36, e156_37, e156_38, e156_41, e156_43, e156_46, e156_47, e156_48, e156_49, e156_52, e156_53, e156_54, e156_55, e156_58, e156_59, e156_60, e156_61, e156_64, e156_67, e156_69, e156_70, e156_71, e156_74, e156_75, e156_78, e156_79, e156_81, e156_82, e156_84, e156_86, e156_87, e156_90, e156_92, e156_95, e156_96, e156_97, e156_99, e156_102, e156_105, e156_106, e156_107, e156_109, e156_112, e156_113, e156_114, e156_116, e156_117, e156_118, e156_121, e156_124, e156_125, e156_128, e156_129, e156_131, e156_134, e156_137, e156_138, e156_140, e156_141, e156_145, e156_147, e156_150, e156_152, e156_155, e156_156, e156_157, e156_159, e156_162, e156_164, e156_166, e156_168, e156_169, e156_170, e156_172, e156_174, e156_177, e156_179, e156_181, e156_184, e156_185, e156_188, e156_189, e156_191, e156_194, e156_199, e156_202, e156_204, e156_206, e156_207, e156_210, e156_211, e156_212, e156_213, e156_216, e156_217, e156_220, e156_222, e156_224, e156_225, e156_228, e156_230, e156_232, e156_233, e156_234, e156_237, e156_238, e156_241, e156_242, e156_244, e156_245, e156_246, e156_247, e156_250, e156_252, e156_254, e156_257, e156_259, e156_262, e156_263, e156_264, e156_266, e156_269, e156_271, e156_274, e156_275, e156_278, e156_279, e156_281, e156_282, e156_283, e156_284, e156_287, e156_289, e156_291, e156_294, e156_296, e156_297, e156_300, e156_301, e156_304, e156_305, e156_306, e156_307, e156_308, e156_311, e156_314, e156_315, e156_318, e156_319, e156_322, e156_323, e156_326, e156_327, e156_328, e156_331, e156_332, e156_335, e156_336, e156_338, e156_339, e156_341, e156_342, e156_346, e156_347, e156_348, e156_349, e156_352, e156_355, e156_357, e156_360, e156_361, e156_362, e156_364, e156_365, e156_368, e156_370, e156_371, e156_372, e156_374, e156_376, e156_379, e156_382, e156_385, e156_388, e156_389, e156_391, e156_392, e156_395, e156_397, e156_400, e156_401, e156_404, e156_405, e156_407, e156_408, e156_409, e156_410, e156_413, e156_415, e156_417, e156_420, e156_422, e156_424, e156_427, e156_429, e156_432, e156_434, e156_436, e156_438, e156_441, e156_442, e156_445, e156_448, e156_449, e156_452, e156_453, e156_455, e156_458, e156_463, e156_466, e156_468, e156_471, e156_472, e156_473, e156_475, e156_476, e156_479, e156_481, e156_482, e156_483, e156_485, e156_487, e156_490, e156_493, e156_496, e156_499, e156_500, e156_502, e156_503, e156_506, e156_508, e156_511, e156_512, e156_513, e156_514, e156_517, e156_519, e156_522, e156_523, e156_526, e156_529, e156_530, e156_533, e156_534, e156_536, e156_538, e156_541, e156_542, e156_545, e156_546, e156_547, e156_550, e156_551, e156_554, e156_555, n_lt, n_le, n_eq, n_lt0, n_ge0, n_gt0, n_le0, n_eq0, m_lt, m_le, m_gt, m_ge, m_eq, m_eq', m_lt0, m_ge0, m_gt0, m_le0, m_ltm, m_lem, n_in, m_in, n_cl, n_ti, n_div, n_rem', n_dec, n_l, nI_add, pk_mul, an0, an1, decide_eq_true_eq, if_true, if_false, ite_true, ite_false, and_true, true_and, and_false, false_and, not_true, not_false_iff, or_false, false_or, or_true, true_or, eq_self, va_some, Bool.false_eq_true, reduceIte, catS_n, catS_i, catS_r, catS_l, catS_d, Nat.zero_add, Nat.add_zero, decide_true, decide_false, Nat.reduceLeDiff, cat_r, cat_i, cat_l, nle_T, nle_F, nlt_T, nlt_F, neq_T, neq_F, e152, e136, e100, tV_0, tV_1, tV_2, lc_lt, lc_gt, lc_eq, lg_self, hbd, hb0, hn, hq, hd1, y1, y2]
      · simp (disch := first | assumption | omega) only [Nat.reduceAdd, mP_1, mP_0, X2_go, g4_some, stp, ldI, ldA, ldL, stI, stA, stL, o1I, o2I, o2L, brI, brII, gl, s1, s2, k1, sl, g3_sN, g3_sR, g3_sC, g3_if, g3_no, pops, b2_v, e156_0, e156_1, e156_4, e156_5, e156_6, e156_7, e156_8, e156_11, e156_13, e156_14, e156_15, e156_18, e156_20, e156_22, e156_25, e156_27, e156_29, e156_32, e156_34, e156_36, e156_37, e156_38, e156_41, e156_43, e156_46, e156_47, e156_48, e156_49, e156_52, e156_53, e156_54, e156_55, e156_58, e156_59, e156_60, e156_61, e156_64, e156_67, e156_69, e156_70, e156_71, e156_74, e156_75, e156_78, e156_79, e156_81, e156_82, e156_84, e156_86, e156_87, e156_90, e156_92, e156_95, e156_96, e156_97, e156_99, e156_102, e156_105, e156_106, e156_107, e156_109, e156_112, e156_113, e156_114, e156_116, e156_117, e156_118, e156_121, e156_124, e156_125, e156_128, e156_129, e156_131, e156_134, e156_137, e156_138, e156_140, e156_141, e156_145, e156_147, e156_150, e156_152, e156_155, e156_156, e156_157, e156_159, e156_162, e156_164, e156_166, e156_168, e156_169, e156_170, e156_172, e156_174, e156_177, e156_179, e156_181, e156_184, e156_185, e156_188, e156_189, e156_191, e156_194, e156_199, e156_202, e156_204, e156_206, e156_207, e156_210, e156_211, e156_212, e156_213, e156_216, e156_217, e156_220, e156_222, e156_224, e156_225, e156_228, e156_230, e156_232, e156_233, e156_234, e156_237, e156_238, e156_241, e156_242, e156_244, e156_245, e156_246, e156_247, e156_250, e156_252, e156_254, e156_257, e156_259, e156_262, e156_263, e156_264, e156_266, e156_269, e156_271, e156_274, e156_275, e156_278, e156_279, e156_281, e156_282, e156_283, e156_284, e156_287, e156_289, e156_291, e156_294, e156_296, e156_297, e156_300, e156_301, e156_304, e156_305, e156_306, e156_307, e156_308, e156_311, e156_314, e156_315, e156_318, e156_319, e156_322, e156_323, e156_326, e156_327, e156_328, e156_331, e156_332, e156_335, e156_336, e156_338, e156_339, e156_341, e156_342, e156_346, e156_347, e156_348, e156_349, e156_352, e156_355, e156_357, e156_360, e156_361, e156_362, e156_364, e156_365, e156_368, e156_370, e156_371, e156_372, e156_374, e156_376, e156_379, e156_382, e156_385, e156_388, e156_389, e156_391, e156_392, e156_395, e156_397, e156_400, e156_401, e156_404, e156_405, e156_407, e156_408, e156_409, e156_410, e156_413, e156_415, e156_417, e156_420, e156_422, e156_424, e156_427, e156_429, e156_432, e156_434, e156_436, e156_438, e156_441, e156_442, e156_445, e156_448, e156_449, e156_452, e156_453, e156_455, e156_458, e156_463, e156_466, e156_468, e156_471, e156_472, e156_473, e156_475, e156_476, e156_479, e156_481, e156_482, e156_483, e156_485, e156_487, e156_490, e156_493, e156_496, e156_499, e156_500, e156_502, e156_503, e156_506, e156_508, e156_511, e156_512, e156_513, e156_514, e156_517, e156_519, e156_522, e156_523, e156_526, e156_529, e156_530, e156_533, e156_534, e156_536, e156_538, e156_541, e156_542, e156_545, e156_546, e156_547, e156_550, e156_551, e156_554, e156_555, n_lt, n_le, n_eq, n_lt0, n_ge0, n_gt0, n_le0, n_eq0, m_lt, m_le, m_gt, m_ge, m_eq, m_eq', m_lt0, m_ge0, m_gt0, m_le0, m_ltm, m_lem, n_in, m_in, n_cl, n_ti, n_div, n_rem', n_dec, n_l, nI_add, pk_mul, an0, an1, decide_eq_true_eq, if_true, if_false, ite_true, ite_false, and_true, true_and, and_false, false_and, not_true, not_false_iff, or_false, false_or, or_true, true_or, eq_self, va_some, Bool.false_eq_true, reduceIte, catS_n, catS_i, catS_r, catS_l, catS_d, Nat.zero_add, Nat.add_zero, decide_true, decide_false, Nat.reduceLeDiff, cat_r, cat_i, cat_l, nle_T, nle_F, nlt_T, nlt_F, neq_T, neq_F, e152, e136, e100, tV_0, tV_1, tV_2, lc_lt, lc_gt, lc_eq, lg_self, hbd, hb0, hn, hq, hd1]
    · obtain ⟨b, hb1, hb2⟩ := hb hn
      refine key _ (fun hd1 => ?_) (fun hd1 => ?_)
      · obtain ⟨y1, y2⟩ := c6 hd1
        simp (disch := first | assumption | omega) only [Nat.reduceAdd, mP_1, mP_0, X2_go, g4_some, stp, ldI, ldA, ldL, stI, stA, stL, o1I, o2I, o2L, brI, brII, gl, s1, s2, k1, sl, g3_sN, g3_sR, g3_sC, g3_if, g3_no, pops, b2_v, e156_0, e156_1, e156_4, e156_5, e156_6, e156_7, e156_8, e156_11, e156_13, e156_14, e156_15, e156_18, e156_20, e156_22, e156_25, e156_27, e156_29, e156_32, e156_34, e156_36, e156_37, e156_38, e156_41, e156_43, e156_46, e156_47, e156_48, e156_49, e156_52, e156_53, e156_54, e156_55, e156_58, e156_59, e156_60, e156_61, e156_64, e156_67, e156_69, e156_70, e156_71, e156_74, e156_75, e156_78, e156_79, e156_81, e156_82, e156_84, e156_86, e156_87, e156_90, e156_92, e156_95, e156_96, e156_97, e156_99, e156_102, e156_105, e156_106, e156_107, e156_109, e156_112, e156_113, e156_114, e156_116, e156_117, e156_118, e156_121, e156_124, e156_125, e156_128, e156_129, e156_131, e156_134, e156_137, e156_138, e156_140, e156_141, e156_145, e156_147, e156_150, e156_152, e156_155, e156_156, e156_157, e156_159, e156_162, e156_164, e156_166, e156_168, e156_169, e156_170, e156_172, e156_174, e156_177, e156_179, e156_181, e156_184, e156_185, e156_188, e156_189, e156_191, e156_194, e156_199, e156_202, e156_204, e156_206, e156_207, e156_210, e156_211, e156_212, e156_213, e156_216, e156_217, e156_220, e156_222, e156_224, e156_225, e156_228, e156_230, e156_232, e156_233, e156_234, e156_237, e156_238, e156_241, e156_242, e156_244, e156_245, e156_246, e156_247, e156_250, e156_252, e156_254, e156_257, e156_259, e156_262, e156_263, e156_264, e156_266, e156_269, e156_271, e156_274, e156_275, e156_278, e156_279, e156_281, e156_282, e156_283, e156_284, e156_287, e156_289, e156_291, e156_294, e156_296, e156_297, e156_300, e156_301, e156_304, e156_305, e156_306, e156_307, e156_308, e156_311, e156_314, e156_315, e156_318, e156_319, e156_322, e156_323, e156_326, e156_327, e156_328, e156_331, e156_332, e156_335, e156_336, e156_338, e156_339, e156_341, e156_342, e156_346, e156_347, e156_348, e156_349, e156_352, e156_355, e156_357, e156_360, e156_361, e156_362, e156_364, e156_365, e156_368, e156_370, e156_371, e156_372, e156_374, e156_376, e156_379, e156_382, e156_385, e156_388, e156_389, e156_391, e156_392, e156_395, e156_397, e156_400, e156_401, e156_404, e156_405, e156_407, e156_408, e156_409, e156_410, e156_413, e156_415, e156_417, e156_420, e156_422, e156_424, e156_427, e156_429, e156_432, e156_434, e156_436, e156_438, e156_441, e156_442, e156_445, e156_448, e156_449, e156_452, e156_453, e156_455, e156_458, e156_463, e156_466, e156_468, e156_471, e156_472, e156_473, e156_475, e156_476, e156_479, e156_481, e156_482, e156_483, e156_485, e156_487, e156_490, e156_493, e156_496, e156_499, e156_500, e156_502, e156_503, e156_506, e156_508, e156_511, e156_512, e156_513, e156_514, e156_517, e156_519, e156_522, e156_523, e156_526, e156_529, e156_530, e156_533, e156_534, e156_536, e156_538, e156_541, e156_542, e156_545, e156_546, e156_547, e156_550, e156_551, e156_554, e156_555, n_lt, n_le, n_eq, n_lt0, n_ge0, n_gt0, n_le0, n_eq0, m_lt, m_le, m_gt, m_ge, m_eq, m_eq', m_lt0, m_ge0, m_gt0, m_le0, m_ltm, m_lem, n_in, m_in, n_cl, n_ti, n_div, n_rem', n_dec, n_l, nI_add, pk_mul, an0, an1, decide_eq_true_eq, if_true, if_false, ite_true, ite_false, and_true, true_and, and_false, false_and, not_true, not_false_iff, or_false, false_or, or_true, true_or, eq_self, va_some, Bool.false_eq_true, reduceIte, catS_n, catS_i, catS_r, catS_l, catS_d, Nat.zero_add, Nat.add_zero, decide_true, decide_false, Nat.reduceLeDiff, cat_r, cat_i, cat_l, nle_T, nle_F, nlt_T, nlt_F, neq_T, neq_F, e152, e136, e100, tV_0, tV_1, tV_2, lc_lt, lc_gt, lc_eq, lg_self, hbd, hb2, hq, hd1, y1, y2]
      · simp (disch := first | assumption | omega) only [Nat.reduceAdd, mP_1, mP_0, X2_go, g4_some, stp, ldI, ldA, ldL, stI, stA, stL, o1I, o2I, o2L, brI, brII, gl, s1, s2, k1, sl, g3_sN, g3_sR, g3_sC, g3_if, g3_no, pops, b2_v, e156_0, e156_1, e156_4, e156_5, e156_6, e156_7, e156_8, e156_11, e156_13, e156_14, e156_15, e156_18, e156_20, e156_22, e156_25, e156_27, e156_29, e156_32, e156_34, e156_36, e156_37, e156_38, e156_41, e156_43, e156_46, e156_47, e156_48, e156_49, e156_52, e156_53, e156_54, e156_55, e156_58, e156_59, e156_60, e156_61, e156_64, e156_67, e156_69, e156_70, e156_71, e156_74, e156_75, e156_78, e156_79, e156_81, e156_82, e156_84, e156_86, e156_87, e156_90, e156_92, e156_95, e156_96, e156_97, e156_99, e156_102, e156_105, e156_106, e156_107, e156_109, e156_112, e156_113, e156_114, e156_116, e156_117, e156_118, e156_121, e156_124, e156_125, e156_128, e156_129, e156_131, e156_134, e156_137, e156_138, e156_140, e156_141, e156_145, e156_147, e156_150, e156_152, e156_155, e156_156, e156_157, e156_159, e156_162, e156_164, e156_166, e156_168, e156_169, e156_170, e156_172, e156_174, e156_177, e156_179, e156_181, e156_184, e156_185, e156_188, e156_189, e156_191, e156_194, e156_199, e156_202, e156_204, e156_206, e156_207, e156_210, e156_211, e156_212, e156_213, e156_216, e156_217, e156_220, e156_222, e156_224, e156_225, e156_228, e156_230, e156_232, e156_233, e156_234, e156_237, e156_238, e156_241, e156_242, e156_244, e156_245, e156_246, e156_247, e156_250, e156_252, e156_254, e156_257, e156_259, e156_262, e156_263, e156_264, e156_266, e156_269, e156_271, e156_274, e156_275, e156_278, e156_279, e156_281, e156_282, e156_283, e156_284, e156_287, e156_289, e156_291, e156_294, e156_296, e156_297, e156_300, e156_301, e156_304, e156_305, e156_306, e156_307, e156_308, e156_311, e156_314, e156_315, e156_318, e156_319, e156_322, e156_323, e156_326, e156_327, e156_328, e156_331, e156_332, e156_335, e156_336, e156_338, e156_339, e156_341, e156_342, e156_346, e156_347, e156_348, e156_349, e156_352, e156_355, e156_357, e156_360, e156_361, e156_362, e156_364, e156_365, e156_368, e156_370, e156_371, e156_372, e156_374, e156_376, e156_379, e156_382, e156_385, e156_388, e156_389, e156_391, e156_392, e156_395, e156_397, e156_400, e156_401, e156_404, e156_405, e156_407, e156_408, e156_409, e156_410, e156_413, e156_415, e156_417, e156_420, e156_422, e156_424, e156_427, e156_429, e156_432, e156_434, e156_436, e156_438, e156_441, e156_442, e156_445, e156_448, e156_449, e156_452, e156_453, e156_455, e156_458, e156_463, e156_466, e156_468, e156_471, e156_472, e156_473, e156_475, e156_476, e156_479, e156_481, e156_482, e156_483, e156_485, e156_487, e156_490, e156_493, e156_496, e156_499, e156_500, e156_502, e156_503, e156_506, e156_508, e156_511, e156_512, e156_513, e156_514, e156_517, e156_519, e156_522, e156_523, e156_526, e156_529, e156_530, e156_533, e156_534, e156_536, e156_538, e156_541, e156_542, e156_545, e156_546, e156_547, e156_550, e156_551, e156_554, e156_555, n_lt, n_le, n_eq, n_lt0, n_ge0, n_gt0, n_le0, n_eq0, m_lt, m_le, m_gt, m_ge, m_eq, m_eq', m_lt0, m_ge0, m_gt0, m_le0, m_ltm, m_lem, n_in, m_in, n_cl, n_ti, n_div, n_rem', n_dec, n_l, nI_add, pk_mul, an0, an1, decide_eq_true_eq, if_true, if_false, ite_true, ite_false, and_true, true_and, and_false, false_and, not_true, not_false_iff, or_false, false_or, or_true, true_or, eq_self, va_some, Bool.false_eq_true, reduceIte, catS_n, catS_i, catS_r, catS_l, catS_d, Nat.zero_add, Nat.add_zero, decide_true, decide_false, Nat.reduceLeDiff, cat_r, cat_i, cat_l, nle_T, nle_F, nlt_T, nlt_F, neq_T, neq_F, e152, e136, e100, tV_0, tV_1, tV_2, lc_lt, lc_gt, lc_eq, lg_self, hbd, hb2, hq, hd1]
  · have hr9 := raN_ch hv hl ht hq
    rcases Nat.eq_zero_or_pos (g (3 + t)) with hn | hn
    · have hb0 := hb0 hn
      refine key _ (fun hd1 => ?_) (fun hd1 => ?_)
      · obtain ⟨y1, y2⟩ := c6 hd1
        simp (disch := first | assumption | omega) only [Nat.reduceAdd, mP_1, mP_0, X2_go, g4_some, stp, ldI, ldA, ldL, stI, stA, stL, o1I, o2I, o2L, brI, brII, gl, s1, s2, k1, sl, g3_sN, g3_sR, g3_sC, g3_if, g3_no, pops, b2_v, e156_0, e156_1, e156_4, e156_5, e156_6, e156_7, e156_8, e156_11, e156_13, e156_14, e156_15, e156_18, e156_20, e156_22, e156_25, e156_27, e156_29, e156_32, e156_34, e156_36, e156_37, e156_38, e156_41, e156_43, e156_46, e156_47, e156_48, e156_49, e156_52, e156_53, e156_54, e156_55, e156_58, e156_59, e156_60, e156_61, e156_64, e156_67, e156_69, e156_70, e156_71, e156_74, e156_75, e156_78, e156_79, e156_81, e156_82, e156_84, e156_86, e156_87, e156_90, e156_92, e156_95, e156_96, e156_97, e156_99, e156_102, e156_105, e156_106, e156_107, e156_109, e156_112, e156_113, e156_114, e156_116, e156_117, e156_118, e156_121, e156_124, e156_125, e156_128, e156_129, e156_131, e156_134, e156_137, e156_138, e156_140, e156_141, e156_145, e156_147, e156_150, e156_152, e156_155, e156_156, e156_157, e156_159, e156_162, e156_164, e156_166, e156_168, e156_169, e156_170, e156_172, e156_174, e156_177, e156_179, e156_181, e156_184, e156_185, e156_188, e156_189, e156_191, e156_194, e156_199, e156_202, e156_204, e156_206, e156_207, e156_210, e156_211, e156_212, e156_213, e156_216, e156_217, e156_220, e156_222, e156_224, e156_225, e156_228, e156_230, e156_232, e156_233, e156_234, e156_237, e156_238, e156_241, e156_242, e156_244, e156_245, e156_246, e156_247, e156_250, e156_252, e156_254, e156_257, e156_259, e156_262, e156_263, e156_264, e156_266, e156_269, e156_271, e156_274, e156_275, e156_278, e156_279, e156_281, e156_282, e156_283, e156_284, e156_287, e156_289, e156_291, e156_294, e156_296, e156_297, e156_300, e156_301, e156_304, e156_305, e156_306, e156_307, e156_308, e156_311, e156_314, e156_315, e156_318, e156_319, e156_322, e156_323, e156_326, e156_327, e156_328, e156_331, e156_332, e156_335, e156_336, e156_338, e156_339, e156_341, e156_342, e156_346, e156_347, e156_348, e156_349, e156_352, e156_355, e156_357, e156_360, e156_361, e156_362, e156_364, e156_365, e156_368, e156_370, e156_371, e156_372, e156_374, e156_376, e156_379, e156_382, e156_385, e156_388, e156_389, e156_391, e156_392, e156_395, e156_397, e156_400, e156_401, e156_404, e156_405, e156_407, e156_408, e156_409, e156_410, e156_413, e156_415, e156_417, e156_420, e156_422, e156_424, e156_427, e156_429, e156_432, e156_434, e156_436, e156_438, e156_441, e156_442, e156_445, e156_448, e156_449, e156_452, e156_453, e156_455, e156_458, e156_463, e156_466, e156_468, e156_471, e156_472, e156_473, e156_475, e156_476, e156_479, e156_481, e156_482, e156_483, e156_485, e156_487, e156_490, e156_493, e156_496, e156_499, e156_500, e156_502, e156_503, e156_506, e156_508, e156_511, e156_512, e156_513, e156_514, e156_517, e156_519, e156_522, e156_523, e156_526, e156_529, e156_530, e156_533, e156_534, e156_536, e156_538, e156_541, e156_542, e156_545, e156_546, e156_547, e156_550, e156_551, e156_554, e156_555, n_lt, n_le, n_eq, n_lt0, n_ge0, n_gt0, n_le0, n_eq0, m_lt, m_le, m_gt, m_ge, m_eq, m_eq', m_lt0, m_ge0, m_gt0, m_le0, m_ltm, m_lem, n_in, m_in, n_cl, n_ti, n_div, n_rem', n_dec, n_l, nI_add, pk_mul, an0, an1, decide_eq_true_eq, if_true, if_false, ite_true, ite_false, and_true, true_and, and_false, false_and, not_true, not_false_iff, or_false, false_or, or_true, true_or, eq_self, va_some, Bool.false_eq_true, reduceIte, catS_n, catS_i, catS_r, catS_l, catS_d, Nat.zero_add, Nat.add_zero, decide_true, decide_false, Nat.reduceLeDiff, cat_r, cat_i, cat_l, nle_T, nle_F, nlt_T, nlt_F, neq_T, neq_F, e152, e136, e100, tV_0, tV_1, tV_2, lc_lt, lc_gt, lc_eq, lg_self, hbd, hb0, hn, hd1, y1, y2]
      · simp (disch := first | assumption | omega) only [Nat.reduceAdd, mP_1, mP_0, X2_go, g4_some, stp, ldI, ldA, ldL, stI, stA, stL, o1I, o2I, o2L, brI, brII, gl, s1, s2, k1, sl, g3_sN, g3_sR, g3_sC, g3_if, g3_no, pops, b2_v, e156_0, e156_1, e156_4, e156_5, e156_6, e156_7, e156_8, e156_11, e156_13, e156_14, e156_15, e156_18, e156_20, e156_22, e156_25, e156_27, e156_29, e156_32, e156_34, e156_36, e156_37, e156_38, e156_41, e156_43, e156_46, e156_47, e156_48, e156_49, e156_52, e156_53, e156_54, e156_55, e156_58, e156_59, e156_60, e156_61, e156_64, e156_67, e156_69, e156_70, e156_71, e156_74, e156_75, e156_78, e156_79, e156_81, e156_82, e156_84, e156_86, e156_87, e156_90, e156_92, e156_95, e156_96, e156_97, e156_99, e156_102, e156_105, e156_106, e156_107, e156_109, e156_112, e156_113, e156_114, e156_116, e156_117, e156_118, e156_121, e156_124, e156_125, e156_128, e156_129, e156_131, e156_134, e156_137, e156_138, e156_140, e156_141, e156_145, e156_147, e156_150, e156_152, e156_155, e156_156, e156_157, e156_159, e156_162, e156_164, e156_166, e156_168, e156_169, e156_170, e156_172, e156_174, e156_177, e156_179, e156_181, e156_184, e156_185, e156_188, e156_189, e156_191, e156_194, e156_199, e156_202, e156_204, e156_206, e156_207, e156_210, e156_211, e156_212, e156_213, e156_216, e156_217, e156_220, e156_222, e156_224, e156_225, e156_228, e156_230, e156_232, e156_233, e156_234, e156_237, e156_238, e156_241, e156_242, e156_244, e156_245, e156_246, e156_247, e156_250, e156_252, e156_254, e156_257, e156_259, e156_262, e156_263, e156_264, e156_266, e156_269, e156_271, e156_274, e156_275, e156_278, e156_279, e156_281, e156_282, e156_283, e156_284, e156_287, e156_289, e156_291, e156_294, e156_296, e156_297, e156_300, e156_301, e156_304, e156_305, e156_306, e156_307, e156_308, e156_311, e156_314, e156_315, e156_318, e156_319, e156_322, e156_323, e156_326, e156_327, e156_328, e156_331, e156_332, e156_335, e156_336, e156_338, e156_339, e156_341, e156_342, e156_346, e156_347, e156_348, e156_349, e156_352, e156_355, e156_357, e156_360, e156_361, e156_362, e156_364, e156_365, e156_368, e156_370, e156_371, e156_372, e156_374, e156_376, e156_379, e156_382, e156_385, e156_388, e156_389, e156_391, e156_392, e156_395, e156_397, e156_400, e156_401, e156_404, e156_405, e156_407, e156_408, e156_409, e156_410, e156_413, e156_415, e156_417, e156_420, e156_422, e156_424, e156_427, e156_429, e156_432, e156_434, e156_436, e156_438, e156_441, e156_442, e156_445, e156_448, e156_449, e156_452, e156_453, e156_455, e156_458, e156_463, e156_466, e156_468, e156_471, e156_472, e156_473, e156_475, e156_476, e156_479, e156_481, e156_482, e156_483, e156_485, e156_487, e156_490, e156_493, e156_496, e156_499, e156_500, e156_502, e156_503, e156_506, e156_508, e156_511, e156_512, e156_513, e156_514, e156_517, e156_519, e156_522, e156_523, e156_526, e156_529, e156_530, e156_533, e156_534, e156_536, e156_538, e156_541, e156_542, e156_545, e156_546, e156_547, e156_550, e156_551, e156_554, e156_555, n_lt, n_le, n_eq, n_lt0, n_ge0, n_gt0, n_le0, n_eq0, m_lt, m_le, m_gt, m_ge, m_eq, m_eq', m_lt0, m_ge0, m_gt0, m_le0, m_ltm, m_lem, n_in, m_in, n_cl, n_ti, n_div, n_rem', n_dec, n_l, nI_add, pk_mul, an0, an1, decide_eq_true_eq, if_true, if_false, ite_true, ite_false, and_true, true_and, and_false, false_and, not_true, not_false_iff, or_false, false_or, or_true, true_or, eq_self, va_some, Bool.false_eq_true, reduceIte, catS_n, catS_i, catS_r, catS_l, catS_d, Nat.zero_add, Nat.add_zero, decide_true, decide_false, Nat.reduceLeDiff, cat_r, cat_i, cat_l, nle_T, nle_F, nlt_T, nlt_F, neq_T, neq_F, e152, e136, e100, tV_0, tV_1, tV_2, lc_lt, lc_gt, lc_eq, lg_self, hbd, hb0, hn, hd1]
    · obtain ⟨b, hb1, hb2⟩ := hb hn
      refine key _ (fun hd1 => ?_) (fun hd1 => ?_)
      · obtain ⟨y1, y2⟩ := c6 hd1
        simp (disch := first | assumption | omega) only [Nat.reduceAdd, mP_1, mP_0, X2_go, g4_some, stp, ldI, ldA, ldL, stI, stA, stL, o1I, o2I, o2L, brI, brII, gl, s1, s2, k1, sl, g3_sN, g3_sR, g3_sC, g3_if, g3_no, pops, b2_v, e156_0, e156_1, e156_4, e156_5, e156_6, e156_7, e156_8, e156_11, e156_13, e156_14, e156_15, e156_18, e156_20, e156_22, e156_25, e156_27, e156_29, e156_32, e156_34, e156_36, e156_37, e156_38, e156_41, e156_43, e156_46, e156_47, e156_48, e156_49, e156_52, e156_53, e156_54, e156_55, e156_58, e156_59, e156_60, e156_61, e156_64, e156_67, e156_69, e156_70, e156_71, e156_74, e156_75, e156_78, e156_79, e156_81, e156_82, e156_84, e156_86, e156_87, e156_90, e156_92, e156_95, e156_96, e156_97, e156_99, e156_102, e156_105, e156_106, e156_107, e156_109, e156_112, e156_113, e156_114, e156_116, e156_117, e156_118, e156_121, e156_124, e156_125, e156_128, e156_129, e156_131, e156_134, e156_137, e156_138, e156_140, e156_141, e156_145, e156_147, e156_150, e156_152, e156_155, e156_156, e156_157, e156_159, e156_162, e156_164, e156_166, e156_168, e156_169, e156_170, e156_172, e156_174, e156_177, e156_179, e156_181, e156_184, e156_185, e156_188, e156_189, e156_191, e156_194, e156_199, e156_202, e156_204, e156_206, e156_207, e156_210, e156_211, e156_212, e156_213, e156_216, e156_217, e156_220, e156_222, e156_224, e156_225, e156_228, e156_230, e156_232, e156_233, e156_234, e156_237, e156_238, e156_241, e156_242, e156_244, e156_245, e156_246, e156_247, e156_250, e156_252, e156_254, e156_257, e156_259, e156_262, e156_263, e156_264, e156_266, e156_269, e156_271, e156_274, e156_275, e156_278, e156_279, e156_281, e156_282, e156_283, e156_284, e156_287, e156_289, e156_291, e156_294, e156_296, e156_297, e156_300, e156_301, e156_304, e156_305, e156_306, e156_307, e156_308, e156_311, e156_314, e156_315, e156_318, e156_319, e156_322, e156_323, e156_326, e156_327, e156_328, e156_331, e156_332, e156_335, e156_336, e156_338, e156_339, e156_341, e156_342, e156_346, e156_347, e156_348, e156_349, e156_352, e156_355, e156_357, e156_360, e156_361, e156_362, e156_364, e156_365, e156_368, e156_370, e156_371, e156_372, e156_374, e156_376, e156_379, e156_382, e156_385, e156_388, e156_389, e156_391, e156_392, e156_395, e156_397, e156_400, e156_401, e156_404, e156_405, e156_407, e156_408, e156_409, e156_410, e156_413, e156_415, e156_417, e156_420, e156_422, e156_424, e156_427, e156_429, e156_432, e156_434, e156_436, e156_438, e156_441, e156_442, e156_445, e156_448, e156_449, e156_452, e156_453, e156_455, e156_458, e156_463, e156_466, e156_468, e156_471, e156_472, e156_473, e156_475, e156_476, e156_479, e156_481, e156_482, e156_483, e156_485, e156_487, e156_490, e156_493, e156_496, e156_499, e156_500, e156_502, e156_503, e156_506, e156_508, e156_511, e156_512, e156_513, e156_514, e156_517, e156_519, e156_522, e156_523, e156_526, e156_529, e156_530, e156_533, e156_534, e156_536, e156_538, e156_541, e156_542, e156_545, e156_546, e156_547, e156_550, e156_551, e156_554, e156_555, n_lt, n_le, n_eq, n_lt0, n_ge0, n_gt0, n_le0, n_eq0, m_lt, m_le, m_gt, m_ge, m_eq, m_eq', m_lt0, m_ge0, m_gt0, m_le0, m_ltm, m_lem, n_in, m_in, n_cl, n_ti, n_div, n_rem', n_dec, n_l, nI_add, pk_mul, an0, an1, decide_eq_true_eq, if_true, if_false, ite_true, ite_false, and_true, true_and, and_false, false_and, not_true, not_false_iff, or_false, false_or, or_true, true_or, eq_self, va_some, Bool.false_eq_true, reduceIte, catS_n, catS_i, catS_r, catS_l, catS_d, Nat.zero_add, Nat.add_zero, decide_true, decide_false, Nat.reduceLeDiff, cat_r, cat_i, cat_l, nle_T, nle_F, nlt_T, nlt_F, neq_T, neq_F, e152, e136, e100, tV_0, tV_1, tV_2, lc_lt, lc_gt, lc_eq, lg_self, hbd, hb2, hd1, y1, y2]
      · simp (disch := first | assumption | omega) only [Nat.reduceAdd, mP_1, mP_0, X2_go, g4_some, stp, ldI, ldA, ldL, stI, stA, stL, o1I, o2I, o2L, brI, brII, gl, s1, s2, k1, sl, g3_sN, g3_sR, g3_sC, g3_if, g3_no, pops, b2_v, e156_0, e156_1, e156_4, e156_5, e156_6, e156_7, e156_8, e156_11, e156_13, e156_14, e156_15, e156_18, e156_20, e156_22, e156_25, e156_27, e156_29, e156_32, e156_34, e156_36, e156_37, e156_38, e156_41, e156_43, e156_46, e156_47, e156_48, e156_49, e156_52, e156_53, e156_54, e156_55, e156_58, e156_59, e156_60, e156_61, e156_64, e156_67, e156_69, e156_70, e156_71, e156_74, e156_75, e156_78, e156_79, e156_81, e156_82, e156_84, e156_86, e156_87, e156_90, e156_92, e156_95, e156_96, e156_97, e156_99, e156_102, e156_105, e156_106, e156_107, e156_109, e156_112, e156_113, e156_114, e156_116, e156_117, e156_118, e156_121, e156_124, e156_125, e156_128, e156_129, e156_131, e156_134, e156_137, e156_138, e156_140, e156_141, e156_145, e156_147, e156_150, e156_152, e156_155, e156_156, e156_157, e156_159, e156_162, e156_164, e156_166, e156_168, e156_169, e156_170, e156_172, e156_174, e156_177, e156_179, e156_181, e156_184, e156_185, e156_188, e156_189, e156_191, e156_194, e156_199, e156_202, e156_204, e156_206, e156_207, e156_210, e156_211, e156_212, e156_213, e156_216, e156_217, e156_220, e156_222, e156_224, e156_225, e156_228, e156_230, e156_232, e156_233, e156_234, e156_237, e156_238, e156_241, e156_242, e156_244, e156_245, e156_246, e156_247, e156_250, e156_252, e156_254, e156_257, e156_259, e156_262, e156_263, e156_264, e156_266, e156_269, e156_271, e156_274, e156_275, e156_278, e156_279, e156_281, e156_282, e156_283, e156_284, e156_287, e156_289, e156_291, e156_294, e156_296, e156_297, e156_300, e156_301, e156_304, e156_305, e156_306, e156_307, e156_308, e156_311, e156_314, e156_315, e156_318, e156_319, e156_322, e156_323, e156_326, e156_327, e156_328, e156_331, e156_332, e156_335, e156_336, e156_338, e156_339, e156_341, e156_342, e156_346, e156_347, e156_348, e156_349, e156_352, e156_355, e156_357, e156_360, e156_361, e156_362, e156_364, e156_365, e156_368, e156_370, e156_371, e156_372, e156_374, e156_376, e156_379, e156_382, e156_385, e156_388, e156_389, e156_391, e156_392, e156_395, e156_397, e156_400, e156_401, e156_404, e156_405, e156_407, e156_408, e156_409, e156_410, e156_413, e156_415, e156_417, e156_420, e156_422, e156_424, e156_427, e156_429, e156_432, e156_434, e156_436, e156_438, e156_441, e156_442, e156_445, e156_448, e156_449, e156_452, e156_453, e156_455, e156_458, e156_463, e156_466, e156_468, e156_471, e156_472, e156_473, e156_475, e156_476, e156_479, e156_481, e156_482, e156_483, e156_485, e156_487, e156_490, e156_493, e156_496, e156_499, e156_500, e156_502, e156_503, e156_506, e156_508, e156_511, e156_512, e156_513, e156_514, e156_517, e156_519, e156_522, e156_523, e156_526, e156_529, e156_530, e156_533, e156_534, e156_536, e156_538, e156_541, e156_542, e156_545, e156_546, e156_547, e156_550, e156_551, e156_554, e156_555, n_lt, n_le, n_eq, n_lt0, n_ge0, n_gt0, n_le0, n_eq0, m_lt, m_le, m_gt, m_ge, m_eq, m_eq', m_lt0, m_ge0, m_gt0, m_le0, m_ltm, m_lem, n_in, m_in, n_cl, n_ti, n_div, n_rem', n_dec, n_l, nI_add, pk_mul, an0, an1, decide_eq_true_eq, if_true, if_false, ite_true, ite_false, and_true, true_and, and_false, false_and, not_true, not_false_iff, or_false, false_or, or_true, true_or, eq_self, va_some, Bool.false_eq_true, reduceIte, catS_n, catS_i, catS_r, catS_l, catS_d, Nat.zero_add, Nat.add_zero, decide_true, decide_false, Nat.reduceLeDiff, cat_r, cat_i, cat_l, nle_T, nle_F, nlt_T, nlt_F, neq_T, neq_F, e152, e136, e100, tV_0, tV_1, tV_2, lc_lt, lc_gt, lc_eq, lg_self, hbd, hb2, hd1]
