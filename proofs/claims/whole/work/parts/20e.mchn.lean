/-! THE MODEL: down the links of one draw -/
theorem aset_c {g g' : GS} {c : Nat → Nat → Bool} (h : ∀ t, t < 3 → g' (3 + t) = g (3 + t)) : aset g' c = aset g c := by
  unfold aset
  refine bset_c (by omega) fun i hi => ?_
  unfold pb
  rw [h (i / 6) (by omega)]
theorem n_or0 {v : Nat} : nI 0 ||| nI v = nI v := by
  apply b_ext
  intro i hi
  rw [b_or, show nI 0 = 0 from rfl, b_0, Bool.false_or]
theorem pw_spn {g : GS} {t e t' e' : Nat} (ht : t < 3) (he : e < 6) (ht' : t' < 3) (he' : e' < 6) (hr : g (cl t' e' 2) ≤ 3) : pw (spnG g t e) t' e' = pw g t' e' := by
  have h1 := cl_lt (f := 1) ht' he' (by omega)
  have h2 := cl_lt (f := 2) ht' he' (by omega)
  have h5 := cl_lt (f := 5) ht he (by omega)
  unfold pw
  rw [spnG_o (by omega) (cl_ne he' (by omega) he (by omega) (by omega)), spnG_o (by omega) (cl_ne he' (by omega) he (by omega) (by omega))]
  by_cases z : g (cl t' e' 2) = 0
  · rw [if_pos z, if_pos z]
  · rw [if_neg z, if_neg z, spnG_o (by omega) (by omega), spnG_o (by omega) (by omega)]
theorem d191_0 : dec 191 0 = some (.aload_n 0, 1, []) := rfl
theorem d191_1 : dec 191 1 = some (.getfield 7, 3, [1, 10, 0, 2, 0, 994]) := rfl
theorem d191_4 : dec 191 4 = some (.bipush 122, 2, [122]) := rfl
theorem d191_6 : dec 191 6 = some (.dup2, 1, []) := rfl
theorem d191_7 : dec 191 7 = some (.iaload, 1, []) := rfl
theorem d191_8 : dec 191 8 = some (.iconst 1, 1, [1]) := rfl
theorem d191_9 : dec 191 9 = some (.iadd, 1, []) := rfl
theorem d191_10 : dec 191 10 = some (.iastore, 1, []) := rfl
theorem d191_11 : dec 191 11 = some (.iconst 0, 1, [0]) := rfl
theorem d191_12 : dec 191 12 = some (.istore_n 2, 1, []) := rfl
theorem d191_13 : dec 191 13 = some (.iconst (-1), 1, [4294967295]) := rfl
theorem d191_14 : dec 191 14 = some (.istore_n 3, 1, []) := rfl
theorem d191_15 : dec 191 15 = some (.iconst 0, 1, [0]) := rfl
theorem d191_16 : dec 191 16 = some (.istore 4, 2, []) := rfl
theorem d191_18 : dec 191 18 = some (.iconst 0, 1, [0]) := rfl
theorem d191_19 : dec 191 19 = some (.istore 5, 2, []) := rfl
theorem d191_21 : dec 191 21 = some (.iload 5, 2, []) := rfl
theorem d191_23 : dec 191 23 = some (.aload_n 0, 1, []) := rfl
theorem d191_24 : dec 191 24 = some (.getfield 7, 3, [1, 10, 0, 2, 0, 994]) := rfl
theorem d191_27 : dec 191 27 = some (.iconst 0, 1, [0]) := rfl
theorem d191_28 : dec 191 28 = some (.iload_n 1, 1, []) := rfl
theorem d191_29 : dec 191 29 = some (.iadd, 1, []) := rfl
theorem d191_30 : dec 191 30 = some (.iaload, 1, []) := rfl
theorem d191_31 : dec 191 31 = some (.if_icmp .ge 183, 3, [214]) := rfl
theorem d191_34 : dec 191 34 = some (.aload_n 0, 1, []) := rfl
theorem d191_35 : dec 191 35 = some (.iload_n 1, 1, []) := rfl
theorem d191_36 : dec 191 36 = some (.aload_n 0, 1, []) := rfl
theorem d191_37 : dec 191 37 = some (.invokevirtual 124, 3, [2, 174, 2, 10, 0, 1159]) := rfl
theorem d191_40 : dec 191 40 = some (.iload_n 2, 1, []) := rfl
theorem d191_41 : dec 191 41 = some (.iload_n 3, 1, []) := rfl
theorem d191_42 : dec 191 42 = some (.invokevirtual 127, 3, [2, 175, 2, 10, 0, 1163, 0, 0, 0, 0]) := rfl
theorem d191_45 : dec 191 45 = some (.istore 6, 2, []) := rfl
theorem d191_47 : dec 191 47 = some (.aload_n 0, 1, []) := rfl
theorem d191_48 : dec 191 48 = some (.iload 6, 2, []) := rfl
theorem d191_50 : dec 191 50 = some (.aload_n 0, 1, []) := rfl
theorem d191_51 : dec 191 51 = some (.invokevirtual 124, 3, [2, 174, 2, 10, 0, 1159]) := rfl
theorem d191_54 : dec 191 54 = some (.iload_n 2, 1, []) := rfl
theorem d191_55 : dec 191 55 = some (.invokevirtual 115, 3, [2, 176, 2, 10, 0, 1167, 0, 0, 0]) := rfl
theorem d191_58 : dec 191 58 = some (.istore 7, 2, []) := rfl
theorem d191_60 : dec 191 60 = some (.iload 7, 2, []) := rfl
theorem d191_62 : dec 191 62 = some (.iload_n 1, 1, []) := rfl
theorem d191_63 : dec 191 63 = some (.invokestatic 118, 3, [2, 177, 0, 10, 0, 1171, 0, 0]) := rfl
theorem d191_66 : dec 191 66 = some (.ifCond .eq 7, 3, [73]) := rfl
theorem d191_69 : dec 191 69 = some (.iload_n 1, 1, []) := rfl
theorem d191_70 : dec 191 70 = some (.goto 4, 3, [74]) := rfl
theorem d191_73 : dec 191 73 = some (.iconst (-1), 1, [4294967295]) := rfl
theorem d191_74 : dec 191 74 = some (.istore 8, 2, []) := rfl
theorem d191_76 : dec 191 76 = some (.iload 8, 2, []) := rfl
theorem d191_78 : dec 191 78 = some (.iconst (-1), 1, [4294967295]) := rfl
theorem d191_79 : dec 191 79 = some (.if_icmp .eq 129, 3, [208]) := rfl
theorem d191_82 : dec 191 82 = some (.aload_n 0, 1, []) := rfl
theorem d191_83 : dec 191 83 = some (.iload 8, 2, []) := rfl
theorem d191_85 : dec 191 85 = some (.iload 7, 2, []) := rfl
theorem d191_87 : dec 191 87 = some (.invokevirtual 167, 3, [2, 192, 2, 10, 0, 1230, 0, 0]) := rfl
theorem d191_90 : dec 191 90 = some (.istore 9, 2, []) := rfl
theorem d191_92 : dec 191 92 = some (.aload_n 0, 1, []) := rfl
theorem d191_93 : dec 191 93 = some (.iload_n 2, 1, []) := rfl
theorem d191_94 : dec 191 94 = some (.iload 8, 2, []) := rfl
theorem d191_96 : dec 191 96 = some (.iload 9, 2, []) := rfl
theorem d191_98 : dec 191 98 = some (.invokevirtual 170, 3, [2, 194, 2, 10, 0, 1242, 0, 0, 0]) := rfl
theorem d191_101 : dec 191 101 = some (.istore_n 2, 1, []) := rfl
theorem d191_102 : dec 191 102 = some (.aload_n 0, 1, []) := rfl
theorem d191_103 : dec 191 103 = some (.getfield 7, 3, [1, 10, 0, 2, 0, 994]) := rfl
theorem d191_106 : dec 191 106 = some (.iload 8, 2, []) := rfl
theorem d191_108 : dec 191 108 = some (.iload 9, 2, []) := rfl
theorem d191_110 : dec 191 110 = some (.invokestatic 80, 3, [2, 163, 0, 10, 0, 1116, 0, 0]) := rfl
theorem d191_113 : dec 191 113 = some (.iconst 5, 1, [5]) := rfl
theorem d191_114 : dec 191 114 = some (.iadd, 1, []) := rfl
theorem d191_115 : dec 191 115 = some (.dup2, 1, []) := rfl
theorem d191_116 : dec 191 116 = some (.iaload, 1, []) := rfl
theorem d191_117 : dec 191 117 = some (.aload_n 0, 1, []) := rfl
theorem d191_118 : dec 191 118 = some (.iload 8, 2, []) := rfl
theorem d191_120 : dec 191 120 = some (.iload 9, 2, []) := rfl
theorem d191_122 : dec 191 122 = some (.iconst 4, 1, [4]) := rfl
theorem d191_123 : dec 191 123 = some (.invokevirtual 107, 3, [2, 167, 2, 10, 0, 1131, 0, 0, 0]) := rfl
theorem d191_126 : dec 191 126 = some (.ior, 1, []) := rfl
theorem d191_127 : dec 191 127 = some (.iastore, 1, []) := rfl
theorem d191_128 : dec 191 128 = some (.aload_n 0, 1, []) := rfl
theorem d191_129 : dec 191 129 = some (.iload 8, 2, []) := rfl
theorem d191_131 : dec 191 131 = some (.iload 9, 2, []) := rfl
theorem d191_133 : dec 191 133 = some (.iconst 0, 1, [0]) := rfl
theorem d191_134 : dec 191 134 = some (.invokevirtual 107, 3, [2, 167, 2, 10, 0, 1131, 0, 0, 0]) := rfl
theorem d191_137 : dec 191 137 = some (.istore 10, 2, []) := rfl
theorem d191_139 : dec 191 139 = some (.iload 10, 2, []) := rfl
theorem d191_141 : dec 191 141 = some (.invokestatic 90, 3, [2, 160, 0, 10, 0, 1106, 0]) := rfl
theorem d191_144 : dec 191 144 = some (.ifCond .eq 54, 3, [198]) := rfl
theorem d191_147 : dec 191 147 = some (.aload_n 0, 1, []) := rfl
theorem d191_148 : dec 191 148 = some (.iload 10, 2, []) := rfl
theorem d191_150 : dec 191 150 = some (.aload_n 0, 1, []) := rfl
theorem d191_151 : dec 191 151 = some (.iload 8, 2, []) := rfl
theorem d191_153 : dec 191 153 = some (.iload 9, 2, []) := rfl
theorem d191_155 : dec 191 155 = some (.iconst 2, 1, [2]) := rfl
theorem d191_156 : dec 191 156 = some (.invokevirtual 107, 3, [2, 167, 2, 10, 0, 1131, 0, 0, 0]) := rfl
theorem d191_159 : dec 191 159 = some (.invokevirtual 173, 3, [2, 195, 2, 10, 0, 1246, 0, 0]) := rfl
theorem d191_162 : dec 191 162 = some (.aload_n 0, 1, []) := rfl
theorem d191_163 : dec 191 163 = some (.iload 8, 2, []) := rfl
theorem d191_165 : dec 191 165 = some (.iload 9, 2, []) := rfl
theorem d191_167 : dec 191 167 = some (.iconst 2, 1, [2]) := rfl
theorem d191_168 : dec 191 168 = some (.invokevirtual 107, 3, [2, 167, 2, 10, 0, 1131, 0, 0, 0]) := rfl
theorem d191_171 : dec 191 171 = some (.iload_n 3, 1, []) := rfl
theorem d191_172 : dec 191 172 = some (.if_icmp .le 15, 3, [187]) := rfl
theorem d191_175 : dec 191 175 = some (.aload_n 0, 1, []) := rfl
theorem d191_176 : dec 191 176 = some (.iload 8, 2, []) := rfl
theorem d191_178 : dec 191 178 = some (.iload 9, 2, []) := rfl
theorem d191_180 : dec 191 180 = some (.iconst 2, 1, [2]) := rfl
theorem d191_181 : dec 191 181 = some (.invokevirtual 107, 3, [2, 167, 2, 10, 0, 1131, 0, 0, 0]) := rfl
theorem d191_184 : dec 191 184 = some (.goto 4, 3, [188]) := rfl
theorem d191_187 : dec 191 187 = some (.iload_n 3, 1, []) := rfl
theorem d191_188 : dec 191 188 = some (.istore_n 3, 1, []) := rfl
theorem d191_189 : dec 191 189 = some (.iinc 4 1, 3, [1]) := rfl
theorem d191_192 : dec 191 192 = some (.iconst (-1), 1, [4294967295]) := rfl
theorem d191_193 : dec 191 193 = some (.istore 8, 2, []) := rfl
theorem d191_195 : dec 191 195 = some (.goto 10, 3, [205]) := rfl
theorem d191_198 : dec 191 198 = some (.iload 10, 2, []) := rfl
theorem d191_200 : dec 191 200 = some (.bipush 16, 2, [16]) := rfl
theorem d191_202 : dec 191 202 = some (.isub, 1, []) := rfl
theorem d191_203 : dec 191 203 = some (.istore 8, 2, []) := rfl
theorem d191_205 : dec 191 205 = some (.goto (-129), 3, [76]) := rfl
theorem d191_208 : dec 191 208 = some (.iinc 5 1, 3, [1]) := rfl
theorem d191_211 : dec 191 211 = some (.goto (-190), 3, [21]) := rfl
theorem d191_214 : dec 191 214 = some (.iconst 1, 1, [1]) := rfl
theorem d191_215 : dec 191 215 = some (.istore 5, 2, []) := rfl
theorem d191_217 : dec 191 217 = some (.iload 5, 2, []) := rfl
theorem d191_219 : dec 191 219 = some (.iconst 4, 1, [4]) := rfl
theorem d191_220 : dec 191 220 = some (.if_icmp .ge 67, 3, [287]) := rfl
theorem d191_223 : dec 191 223 = some (.aload_n 0, 1, []) := rfl
theorem d191_224 : dec 191 224 = some (.getfield 7, 3, [1, 10, 0, 2, 0, 994]) := rfl
theorem d191_227 : dec 191 227 = some (.bipush 113, 2, [113]) := rfl
theorem d191_229 : dec 191 229 = some (.iload 5, 2, []) := rfl
theorem d191_231 : dec 191 231 = some (.iadd, 1, []) := rfl
theorem d191_232 : dec 191 232 = some (.iaload, 1, []) := rfl
theorem d191_233 : dec 191 233 = some (.sipush 200, 3, [200]) := rfl
theorem d191_236 : dec 191 236 = some (.if_icmp .ge 18, 3, [254]) := rfl
theorem d191_239 : dec 191 239 = some (.aload_n 0, 1, []) := rfl
theorem d191_240 : dec 191 240 = some (.getfield 7, 3, [1, 10, 0, 2, 0, 994]) := rfl
theorem d191_243 : dec 191 243 = some (.bipush 113, 2, [113]) := rfl
theorem d191_245 : dec 191 245 = some (.iload 5, 2, []) := rfl
theorem d191_247 : dec 191 247 = some (.iadd, 1, []) := rfl
theorem d191_248 : dec 191 248 = some (.iaload, 1, []) := rfl
theorem d191_249 : dec 191 249 = some (.iconst 1, 1, [1]) := rfl
theorem d191_250 : dec 191 250 = some (.iadd, 1, []) := rfl
theorem d191_251 : dec 191 251 = some (.goto 6, 3, [257]) := rfl
theorem d191_254 : dec 191 254 = some (.sipush 200, 3, [200]) := rfl
theorem d191_257 : dec 191 257 = some (.istore 6, 2, []) := rfl
theorem d191_259 : dec 191 259 = some (.aload_n 0, 1, []) := rfl
theorem d191_260 : dec 191 260 = some (.getfield 7, 3, [1, 10, 0, 2, 0, 994]) := rfl
theorem d191_263 : dec 191 263 = some (.bipush 113, 2, [113]) := rfl
theorem d191_265 : dec 191 265 = some (.iload 5, 2, []) := rfl
theorem d191_267 : dec 191 267 = some (.iadd, 1, []) := rfl
theorem d191_268 : dec 191 268 = some (.iload_n 3, 1, []) := rfl
theorem d191_269 : dec 191 269 = some (.iload 5, 2, []) := rfl
theorem d191_271 : dec 191 271 = some (.if_icmp .lt 7, 3, [278]) := rfl
theorem d191_274 : dec 191 274 = some (.iconst 0, 1, [0]) := rfl
theorem d191_275 : dec 191 275 = some (.goto 5, 3, [280]) := rfl
theorem d191_278 : dec 191 278 = some (.iload 6, 2, []) := rfl
theorem d191_280 : dec 191 280 = some (.iastore, 1, []) := rfl
theorem d191_281 : dec 191 281 = some (.iinc 5 1, 3, [1]) := rfl
theorem d191_284 : dec 191 284 = some (.goto (-67), 3, [217]) := rfl
theorem d191_287 : dec 191 287 = some (.iload 4, 2, []) := rfl
theorem d191_289 : dec 191 289 = some (.ireturn, 1, [0]) := rfl
theorem l191 : mL 191 = 11 := rfl
theorem f191w {d : Nat} {P : MP} {L : ML} {C : MC} {top q k B : Nat} {x : Int32} {c : Nat → Nat → Bool} {W : Nat → Nat → Nat} (hM : MB P) (hd : 7 ≤ d) : ∀ f t (I : MI) (g : GS) (gr : SP) (y : Int32) (fd n : Nat) (u9 u10 : Value), t < 3 → 3 ≤ t + f → NR I g → TV g → LV g → FV B g → g 123 + 1 ≤ 2 * B → MGr y gr → fd ≤ 4 → n < 100 → CI W t g → 0 < sm (g (3 + t)) (W t) → x = aset g c → (∀ t' e, t ≤ t' → t' < 3 → e < g (3 + t') → W t' e = wS g c t' e) → ∃ I' y' j9 j10, NR I' (chn W f t (g, gr, fd, n)).1 ∧ (TV (chn W f t (g, gr, fd, n)).1 ∧ LV (chn W f t (g, gr, fd, n)).1 ∧ FV B (chn W f t (g, gr, fd, n)).1) ∧ MGr y' (chn W f t (g, gr, fd, n)).2.1 ∧ ((chn W f t (g, gr, fd, n)).2.2.1 ≤ 4 ∧ (chn W f t (g, gr, fd, n)).2.2.2 ≤ n + 1 ∧ (chn W f t (g, gr, fd, n)).1 123 ≤ g 123 + 1 ∧ (chn W f t (g, gr, fd, n)).1 122 = g 122 ∧ (∀ k, k < 6 → (chn W f t (g, gr, fd, n)).1 k = g k) ∧ ∀ i, i < 16 → g (124 + i) ≤ (chn W f t (g, gr, fd, n)).1 (124 + i)) ∧ (∀ k j, k ≠ 151 → I' k j = I k j) ∧ ∀ Q, X d 191 76 [.ref 150, .int (nI top), .int y, .int (fI fd), .int (nI n), .int (nI k), .int (nI q), .int x, .int (nI t), u9, u10] [] P I L C Q = X d 191 208 [.ref 150, .int (nI top), .int y', .int (fI (chn W f t (g, gr, fd, n)).2.2.1), .int (nI (chn W f t (g, gr, fd, n)).2.2.2), .int (nI k), .int (nI q), .int x, .int (nI 4294967295), j9, j10] [] P I' L C Q := by
  have hM' := hM
  obtain ⟨⟨k0, p0, p1, p2, p5, y1, _⟩, _⟩ := hM'
  intro f
  induction f with
  | zero => intro t I g gr y fd n u9 u10 ht h3; omega
  | succ f ih =>
    intro t I g gr y fd n u9 u10 ht h3 hn hv hl hF1 hFB hy hfd hn100 hci hpos hx hW
    have hc := hv.2.1 t ht
    obtain ⟨he, hwp⟩ := pick_p hpos
    have hsm : sm (g (3 + t)) (wS g c t) = sm (g (3 + t)) (W t) := sm_c fun i hi => (hW t i (Nat.le_refl t) ht hi).symm
    have hpe : pe (wS g c t) (g (3 + t)) 0 (sd (g 121) / 65536 % sm (g (3 + t)) (wS g c t)) = pick W g t := by
      unfold pick
      rw [hsm]
      exact pe_c _ _ _ fun i _ h2 => (hW t i (Nat.le_refl t) ht (by omega)).symm
    have h192 : ∀ Q, CT d 192 [.ref 150, .int (nI t), .int x] P I L C Q = Q (.inl (some (.int (nI (pick W g t))))) P (xu I 151 121 (nI (sd (g 121)))) L C := fun Q => by
      rw [c192 hM hn hv hl hx (by omega) ht (by rw [hsm]; exact hpos), hpe]
    have hs : chn W (f + 1) t (g, gr, fd, n) = if g (cl t (pick W g t) 0) < 16 then (recG (spnG g t (pick W g t)) (g (cl t (pick W g t) 0)) (g (cl t (pick W g t) 2)), grW gr t (g (cl t (pick W g t) 3)), max fd (g (cl t (pick W g t) 2) + 1), n + 1) else chn W f (g (cl t (pick W g t) 0) - 16) (spnG g t (pick W g t), grW gr t (g (cl t (pick W g t) 3)), fd, n) := rfl
    rw [hs]
    generalize pick W g t = e at he hwp hpe h192
    obtain ⟨_, hc5, hcl⟩ : W t e ≤ 102000 ∧ g (cl t e 5) = 0 ∧ (16 ≤ g (cl t e 0) → 0 < sm (g (3 + (g (cl t e 0) - 16))) (W (g (cl t e 0) - 16))) := by
      have := hci t (Nat.le_refl t) ht e he
      exact ⟨this.1, (this.2 hwp).1, (this.2 hwp).2⟩
    obtain ⟨E0, E1, E2, E3, E4, E5, E6, E7⟩ := hv.2.2 t e ht he
    have hsd := sd_lt (g 121)
    have hcl5 := cl_lt (f := 5) ht (show e < 6 by omega) (by omega)
    have hv2 := TV_spn hv ht he
    have hl2 := LV_spn hl ht (show e < 6 by omega)
    have hF2 : FV B (spnG g t e) := FV_g (fun k h1 _ => spnG_o (by omega) (by omega)) hF1
    have hnA := NR_ud (c := 121) (v := sd (g 121)) hn
    have hnB : NR (xu (xu I 151 121 (nI (sd (g 121)))) 151 (cl t e 5) (nI (g (cl t e 4)))) (spnG g t e) := NR_ud (c := cl t e 5) (v := g (cl t e 4)) hnA
    have oA : ∀ f, f < 6 → ud g 121 (sd (g 121)) (cl t e f) = g (cl t e f) := fun f hf => ud_n (by have := cl_lt ht (show e < 6 by omega) hf; omega)
    have oB : ∀ f, f < 5 → spnG g t e (cl t e f) = g (cl t e f) := fun f hf => spnG_o (by have := cl_lt ht (show e < 6 by omega) (show f < 6 by omega); omega) (cl_ne (by omega) (by omega) (by omega) (by omega) (by omega))
    have rA5 : xu I 151 121 (nI (sd (g 121))) 151 (cl t e 5) = nI 0 := by
      have := hnA (cl t e 5) (by omega)
      rw [oA 5 (by omega), hc5] at this
      exact this
    have hyW := MGr_w (t := t) (k := g (cl t e 3)) hy ht E5
    have h194 : ∀ Q, CT d 194 [.ref 150, .int y, .int (nI t), .int (nI e)] P (xu I 151 121 (nI (sd (g 121)))) L C Q = Q (.inl (some (.int (if g (cl t e 3) = 0 then y else y ||| (nI 1 <<< (nI (3 * t + g (cl t e 3) - 1) &&& 31)))))) P (xu I 151 121 (nI (sd (g 121)))) L C := fun Q => by
      rw [c194 hM hnA (by omega) ht (by omega) (by rw [oA 3 (by omega)]; exact E5), oA 3 (by omega)]
    generalize (if g (cl t e 3) = 0 then y else y ||| (nI 1 <<< (nI (3 * t + g (cl t e 3) - 1) &&& 31))) = yy at hyW h194
    have e16 : (nI t = nI 4294967295) = False := m_eq (by omega)
    by_cases h16 : g (cl t e 0) < 16
    · rw [if_pos h16]
      have hr3 := E1 h16
      obtain ⟨J, a1, a2, a3⟩ := c195 (d := d) (L := L) (C := C) (it := g (cl t e 0)) (ra := g (cl t e 2)) hM hnB (by rw [spnG_o (by omega) (by omega), spnG_o (by omega) (by omega)]; exact hF1.2.2.1) (by omega) h16
      have oJ : recG (spnG g t e) (g (cl t e 0)) (g (cl t e 2)) (cl t e 2) = g (cl t e 2) := by
        have := cl_lt (f := 2) ht (show e < 6 by omega) (by omega)
        rw [recG_o h16 (by omega), oB 2 (by omega)]
      refine ⟨J, yy, .int (nI e), .int (nI (g (cl t e 0))), a1, ⟨TV_g (fun k hk => recG_o h16 (by omega)) hv2, LV_g (fun k _ hk => recG_o h16 (by omega)) hl2, FV_rec hF2 h16 hr3 (by rw [spnG_o (by omega) (by omega)]; exact hFB)⟩, hyW, ⟨?_, Nat.le_refl _, ?_, ?_, fun k hk => ?_, fun i hi => ?_⟩, fun k j h => by rw [a2 k j h, xu_n _ _ (by omega), xu_n _ _ (by omega)], fun Q => ?_⟩
      · show max fd (g (cl t e 2) + 1) ≤ 4
        omega
      · show recG (spnG g t e) _ _ 123 ≤ _
        unfold recG
        rw [if_neg (by omega), if_pos rfl, spnG_o (by omega) (by omega)]
        exact Nat.le_refl _
      · show recG (spnG g t e) _ _ 122 = _
        rw [recG_o h16 (by omega), spnG_o (by omega) (by omega)]
      · show recG (spnG g t e) _ _ k = _
        rw [recG_o h16 (by omega), spnG_o (by omega) (by omega)]
      · show _ ≤ recG (spnG g t e) _ _ (124 + i)
        unfold recG
        rw [spnG_o (k := 124 + i) (by omega) (by omega)]
        split
        · omega
        · rw [if_neg (by omega), if_neg (by omega), if_neg (by omega), if_neg (by omega), if_neg (by omega), if_neg (by omega)]
          exact Nat.le_refl _
      · dsimp only
        rw [X_go, d191_76]
        have hle : (nI (g (cl t e 2)) ≤ fI fd) = (g (cl t e 2) < fd) := fI_le (by omega) (by omega)
        by_cases hm : g (cl t e 2) < fd
        · have hmx : max fd (g (cl t e 2) + 1) = fd := Nat.max_eq_left (by omega)
          rw [hmx]
          simp (disch := first | assumption | omega) only [Nat.reduceAdd, X_go, go2_some, stp, ldI, ldA, ldL, stI, stA, stL, o1I, o2I, o2L, brI, brII, gl, s1, s2, k1, sl, go_sN, go_sR, go_CT, go_sT, go_no, go_if, pops, bk_v, bk_0, d191_0, d191_1, d191_4, d191_6, d191_7, d191_8, d191_9, d191_10, d191_11, d191_12, d191_13, d191_14, d191_15, d191_16, d191_18, d191_19, d191_23, d191_24, d191_27, d191_28, d191_29, d191_30, d191_31, d191_34, d191_35, d191_36, d191_37, d191_40, d191_41, d191_42, d191_45, d191_47, d191_48, d191_50, d191_51, d191_54, d191_55, d191_58, d191_60, d191_62, d191_63, d191_66, d191_69, d191_70, d191_73, d191_74, d191_78, d191_79, d191_82, d191_83, d191_85, d191_87, d191_90, d191_92, d191_93, d191_94, d191_96, d191_98, d191_101, d191_102, d191_103, d191_106, d191_108, d191_110, d191_113, d191_114, d191_115, d191_116, d191_117, d191_118, d191_120, d191_122, d191_123, d191_126, d191_127, d191_128, d191_129, d191_131, d191_133, d191_134, d191_137, d191_139, d191_141, d191_144, d191_147, d191_148, d191_150, d191_151, d191_153, d191_155, d191_156, d191_159, d191_162, d191_163, d191_165, d191_167, d191_168, d191_171, d191_172, d191_175, d191_176, d191_178, d191_180, d191_181, d191_184, d191_187, d191_188, d191_189, d191_192, d191_193, d191_195, d191_198, d191_200, d191_202, d191_203, d191_205, d191_211, d191_214, d191_215, d191_217, d191_219, d191_220, d191_223, d191_224, d191_227, d191_229, d191_231, d191_232, d191_233, d191_236, d191_239, d191_240, d191_243, d191_245, d191_247, d191_248, d191_249, d191_250, d191_251, d191_254, d191_257, d191_259, d191_260, d191_263, d191_265, d191_267, d191_268, d191_269, d191_271, d191_274, d191_275, d191_278, d191_280, d191_281, d191_284, d191_287, d191_289, n_lt, n_le, n_eq, n_lt0, n_ge0, n_gt0, n_le0, n_eq0, m_lt, m_le, m_gt, m_ge, m_eq, m_eq', m_lt0, m_ge0, m_gt0, m_le0, m_ltm, m_lem, n_in, m_in, n_cl, n_ti, n_div, n_rem', n_dec, n_l, nI_add, pk_mul, an0, an1, decide_eq_true_eq, if_true, if_false, ite_true, ite_false, and_true, true_and, and_false, false_and, not_true, not_false_iff, or_false, false_or, or_true, true_or, eq_self, va_some, Bool.false_eq_true, reduceIte, catS_n, catS_i, catS_r, catS_l, catS_d, Nat.zero_add, Nat.add_zero, decide_true, decide_false, Nat.reduceLeDiff, cat_r, cat_i, cat_l, nle_T, nle_F, nlt_T, nlt_F, neq_T, neq_F, k0, p0, y1, e16, h192, h194, c163, cl_f, rA5, c167 hM hnA, oA, n_or0, c167 hM hnB, oB, c160, h16, a3, c167 hM a1, oJ, hle, hm]
          rw [d191_76]
          simp (disch := first | assumption | omega) only [Nat.reduceAdd, X_go, go2_some, stp, ldI, ldA, ldL, stI, stA, stL, o1I, o2I, o2L, brI, brII, gl, s1, s2, k1, sl, go_sN, go_sR, go_CT, go_sT, go_no, go_if, pops, bk_v, bk_0, d191_0, d191_1, d191_4, d191_6, d191_7, d191_8, d191_9, d191_10, d191_11, d191_12, d191_13, d191_14, d191_15, d191_16, d191_18, d191_19, d191_23, d191_24, d191_27, d191_28, d191_29, d191_30, d191_31, d191_34, d191_35, d191_36, d191_37, d191_40, d191_41, d191_42, d191_45, d191_47, d191_48, d191_50, d191_51, d191_54, d191_55, d191_58, d191_60, d191_62, d191_63, d191_66, d191_69, d191_70, d191_73, d191_74, d191_78, d191_79, d191_82, d191_83, d191_85, d191_87, d191_90, d191_92, d191_93, d191_94, d191_96, d191_98, d191_101, d191_102, d191_103, d191_106, d191_108, d191_110, d191_113, d191_114, d191_115, d191_116, d191_117, d191_118, d191_120, d191_122, d191_123, d191_126, d191_127, d191_128, d191_129, d191_131, d191_133, d191_134, d191_137, d191_139, d191_141, d191_144, d191_147, d191_148, d191_150, d191_151, d191_153, d191_155, d191_156, d191_159, d191_162, d191_163, d191_165, d191_167, d191_168, d191_171, d191_172, d191_175, d191_176, d191_178, d191_180, d191_181, d191_184, d191_187, d191_188, d191_189, d191_192, d191_193, d191_195, d191_198, d191_200, d191_202, d191_203, d191_205, d191_211, d191_214, d191_215, d191_217, d191_219, d191_220, d191_223, d191_224, d191_227, d191_229, d191_231, d191_232, d191_233, d191_236, d191_239, d191_240, d191_243, d191_245, d191_247, d191_248, d191_249, d191_250, d191_251, d191_254, d191_257, d191_259, d191_260, d191_263, d191_265, d191_267, d191_268, d191_269, d191_271, d191_274, d191_275, d191_278, d191_280, d191_281, d191_284, d191_287, d191_289, n_lt, n_le, n_eq, n_lt0, n_ge0, n_gt0, n_le0, n_eq0, m_lt, m_le, m_gt, m_ge, m_eq, m_eq', m_lt0, m_ge0, m_gt0, m_le0, m_ltm, m_lem, n_in, m_in, n_cl, n_ti, n_div, n_rem', n_dec, n_l, nI_add, pk_mul, an0, an1, decide_eq_true_eq, if_true, if_false, ite_true, ite_false, and_true, true_and, and_false, false_and, not_true, not_false_iff, or_false, false_or, or_true, true_or, eq_self, va_some, Bool.false_eq_true, reduceIte, catS_n, catS_i, catS_r, catS_l, catS_d, Nat.zero_add, Nat.add_zero, decide_true, decide_false, Nat.reduceLeDiff, cat_r, cat_i, cat_l, nle_T, nle_F, nlt_T, nlt_F, neq_T, neq_F]
          done
        · have hmx : max fd (g (cl t e 2) + 1) = g (cl t e 2) + 1 := Nat.max_eq_right (by omega)
          rw [hmx, fI_s]
          simp (disch := first | assumption | omega) only [Nat.reduceAdd, X_go, go2_some, stp, ldI, ldA, ldL, stI, stA, stL, o1I, o2I, o2L, brI, brII, gl, s1, s2, k1, sl, go_sN, go_sR, go_CT, go_sT, go_no, go_if, pops, bk_v, bk_0, d191_0, d191_1, d191_4, d191_6, d191_7, d191_8, d191_9, d191_10, d191_11, d191_12, d191_13, d191_14, d191_15, d191_16, d191_18, d191_19, d191_23, d191_24, d191_27, d191_28, d191_29, d191_30, d191_31, d191_34, d191_35, d191_36, d191_37, d191_40, d191_41, d191_42, d191_45, d191_47, d191_48, d191_50, d191_51, d191_54, d191_55, d191_58, d191_60, d191_62, d191_63, d191_66, d191_69, d191_70, d191_73, d191_74, d191_78, d191_79, d191_82, d191_83, d191_85, d191_87, d191_90, d191_92, d191_93, d191_94, d191_96, d191_98, d191_101, d191_102, d191_103, d191_106, d191_108, d191_110, d191_113, d191_114, d191_115, d191_116, d191_117, d191_118, d191_120, d191_122, d191_123, d191_126, d191_127, d191_128, d191_129, d191_131, d191_133, d191_134, d191_137, d191_139, d191_141, d191_144, d191_147, d191_148, d191_150, d191_151, d191_153, d191_155, d191_156, d191_159, d191_162, d191_163, d191_165, d191_167, d191_168, d191_171, d191_172, d191_175, d191_176, d191_178, d191_180, d191_181, d191_184, d191_187, d191_188, d191_189, d191_192, d191_193, d191_195, d191_198, d191_200, d191_202, d191_203, d191_205, d191_211, d191_214, d191_215, d191_217, d191_219, d191_220, d191_223, d191_224, d191_227, d191_229, d191_231, d191_232, d191_233, d191_236, d191_239, d191_240, d191_243, d191_245, d191_247, d191_248, d191_249, d191_250, d191_251, d191_254, d191_257, d191_259, d191_260, d191_263, d191_265, d191_267, d191_268, d191_269, d191_271, d191_274, d191_275, d191_278, d191_280, d191_281, d191_284, d191_287, d191_289, n_lt, n_le, n_eq, n_lt0, n_ge0, n_gt0, n_le0, n_eq0, m_lt, m_le, m_gt, m_ge, m_eq, m_eq', m_lt0, m_ge0, m_gt0, m_le0, m_ltm, m_lem, n_in, m_in, n_cl, n_ti, n_div, n_rem', n_dec, n_l, nI_add, pk_mul, an0, an1, decide_eq_true_eq, if_true, if_false, ite_true, ite_false, and_true, true_and, and_false, false_and, not_true, not_false_iff, or_false, false_or, or_true, true_or, eq_self, va_some, Bool.false_eq_true, reduceIte, catS_n, catS_i, catS_r, catS_l, catS_d, Nat.zero_add, Nat.add_zero, decide_true, decide_false, Nat.reduceLeDiff, cat_r, cat_i, cat_l, nle_T, nle_F, nlt_T, nlt_F, neq_T, neq_F, k0, p0, y1, e16, h192, h194, c163, cl_f, rA5, c167 hM hnA, oA, n_or0, c167 hM hnB, oB, c160, h16, a3, c167 hM a1, oJ, hle, hm]
          rw [d191_76]
          simp (disch := first | assumption | omega) only [Nat.reduceAdd, X_go, go2_some, stp, ldI, ldA, ldL, stI, stA, stL, o1I, o2I, o2L, brI, brII, gl, s1, s2, k1, sl, go_sN, go_sR, go_CT, go_sT, go_no, go_if, pops, bk_v, bk_0, d191_0, d191_1, d191_4, d191_6, d191_7, d191_8, d191_9, d191_10, d191_11, d191_12, d191_13, d191_14, d191_15, d191_16, d191_18, d191_19, d191_23, d191_24, d191_27, d191_28, d191_29, d191_30, d191_31, d191_34, d191_35, d191_36, d191_37, d191_40, d191_41, d191_42, d191_45, d191_47, d191_48, d191_50, d191_51, d191_54, d191_55, d191_58, d191_60, d191_62, d191_63, d191_66, d191_69, d191_70, d191_73, d191_74, d191_78, d191_79, d191_82, d191_83, d191_85, d191_87, d191_90, d191_92, d191_93, d191_94, d191_96, d191_98, d191_101, d191_102, d191_103, d191_106, d191_108, d191_110, d191_113, d191_114, d191_115, d191_116, d191_117, d191_118, d191_120, d191_122, d191_123, d191_126, d191_127, d191_128, d191_129, d191_131, d191_133, d191_134, d191_137, d191_139, d191_141, d191_144, d191_147, d191_148, d191_150, d191_151, d191_153, d191_155, d191_156, d191_159, d191_162, d191_163, d191_165, d191_167, d191_168, d191_171, d191_172, d191_175, d191_176, d191_178, d191_180, d191_181, d191_184, d191_187, d191_188, d191_189, d191_192, d191_193, d191_195, d191_198, d191_200, d191_202, d191_203, d191_205, d191_211, d191_214, d191_215, d191_217, d191_219, d191_220, d191_223, d191_224, d191_227, d191_229, d191_231, d191_232, d191_233, d191_236, d191_239, d191_240, d191_243, d191_245, d191_247, d191_248, d191_249, d191_250, d191_251, d191_254, d191_257, d191_259, d191_260, d191_263, d191_265, d191_267, d191_268, d191_269, d191_271, d191_274, d191_275, d191_278, d191_280, d191_281, d191_284, d191_287, d191_289, n_lt, n_le, n_eq, n_lt0, n_ge0, n_gt0, n_le0, n_eq0, m_lt, m_le, m_gt, m_ge, m_eq, m_eq', m_lt0, m_ge0, m_gt0, m_le0, m_ltm, m_lem, n_in, m_in, n_cl, n_ti, n_div, n_rem', n_dec, n_l, nI_add, pk_mul, an0, an1, decide_eq_true_eq, if_true, if_false, ite_true, ite_false, and_true, true_and, and_false, false_and, not_true, not_false_iff, or_false, false_or, or_true, true_or, eq_self, va_some, Bool.false_eq_true, reduceIte, catS_n, catS_i, catS_r, catS_l, catS_d, Nat.zero_add, Nat.add_zero, decide_true, decide_false, Nat.reduceLeDiff, cat_r, cat_i, cat_l, nle_T, nle_F, nlt_T, nlt_F, neq_T, neq_F]
          done
    · rw [if_neg h16]
      obtain ⟨hlk, hr0⟩ := E2 (by omega)
      have hlt : g (cl t e 0) - 16 < 3 := by omega
      have hgt : t < g (cl t e 0) - 16 := by omega
      have hcg : ∀ t', t' < 3 → spnG g t e (3 + t') = g (3 + t') := fun t' h => spnG_o (by omega) (by omega)
      have hce : ∀ t' e' f', t < t' → t' < 3 → e' < 6 → f' < 6 → spnG g t e (cl t' e' f') = g (cl t' e' f') := fun t' e' f' h1 h2 h3 h4 => spnG_o (by have := cl_lt h2 h3 h4; omega) (cl_ne h3 h4 (by omega) (by omega) (.inl (by omega)))
      have hci2 : CI W (g (cl t e 0) - 16) (spnG g t e) := by
        intro t' h1 h2 e' he'
        rw [hcg t' h2] at he'
        have hc' := hv.2.1 t' h2
        obtain ⟨z1, z2⟩ := hci t' (by omega) h2 e' he'
        refine ⟨z1, fun hw => ?_⟩
        rw [hce t' e' 5 (by omega) h2 (by omega) (by omega), hce t' e' 0 (by omega) h2 (by omega) (by omega)]
        refine ⟨(z2 hw).1, fun h16' => ?_⟩
        have := (hv.2.2 t' e' h2 he').1
        rw [hcg _ (by omega)]
        exact (z2 hw).2 h16'
      obtain ⟨I', y', j9, j10, d1, d2, d3, ⟨d4, d5, d6, d7, d8, d10⟩, d9, hX2⟩ := ih (g (cl t e 0) - 16) _ (spnG g t e) (grW gr t (g (cl t e 3))) yy fd n (.int (nI e)) (.int (nI (g (cl t e 0)))) hlt (by omega) hnB hv2 hl2 hF2 (by rw [spnG_o (by omega) (by omega)]; exact hFB) hyW hfd hn100 hci2 (by rw [hcg _ hlt]; exact hcl (by omega)) (by rw [hx]; exact (aset_c hcg).symm) (fun t' e' h1 h2 h3' => by
        rw [hcg t' h2] at h3'
        have hc' := hv.2.1 t' h2
        rw [hW t' e' (by omega) h2 h3']
        unfold wS
        rw [pw_spn ht (by omega) h2 (by omega) (EV_r (hv.2.2 t' e' h2 h3'))])
      refine ⟨I', y', j9, j10, d1, d2, d3, ⟨d4, d5, ?_, ?_, fun k hk => ?_, fun i hi => ?_⟩, fun k j h => ?_, fun Q => ?_⟩
      · rw [spnG_o (by omega) (by omega)] at d6; exact d6
      · rw [d7, spnG_o (by omega) (by omega)]
      · rw [d8 k hk, spnG_o (by omega) (by omega)]
      · have := d10 i hi
        rw [spnG_o (by omega) (by omega)] at this
        exact this
      · rw [d9 k j h, xu_n _ _ (by omega), xu_n _ _ (by omega)]
      · have hX2 := hX2 Q
        rw [← hX2, X_go, d191_76]
        simp (disch := first | assumption | omega) only [Nat.reduceAdd, X_go, go2_some, stp, ldI, ldA, ldL, stI, stA, stL, o1I, o2I, o2L, brI, brII, gl, s1, s2, k1, sl, go_sN, go_sR, go_CT, go_sT, go_no, go_if, pops, bk_v, bk_0, d191_0, d191_1, d191_4, d191_6, d191_7, d191_8, d191_9, d191_10, d191_11, d191_12, d191_13, d191_14, d191_15, d191_16, d191_18, d191_19, d191_23, d191_24, d191_27, d191_28, d191_29, d191_30, d191_31, d191_34, d191_35, d191_36, d191_37, d191_40, d191_41, d191_42, d191_45, d191_47, d191_48, d191_50, d191_51, d191_54, d191_55, d191_58, d191_60, d191_62, d191_63, d191_66, d191_69, d191_70, d191_73, d191_74, d191_78, d191_79, d191_82, d191_83, d191_85, d191_87, d191_90, d191_92, d191_93, d191_94, d191_96, d191_98, d191_101, d191_102, d191_103, d191_106, d191_108, d191_110, d191_113, d191_114, d191_115, d191_116, d191_117, d191_118, d191_120, d191_122, d191_123, d191_126, d191_127, d191_128, d191_129, d191_131, d191_133, d191_134, d191_137, d191_139, d191_141, d191_144, d191_147, d191_148, d191_150, d191_151, d191_153, d191_155, d191_156, d191_159, d191_162, d191_163, d191_165, d191_167, d191_168, d191_171, d191_172, d191_175, d191_176, d191_178, d191_180, d191_181, d191_184, d191_187, d191_188, d191_189, d191_192, d191_193, d191_195, d191_198, d191_200, d191_202, d191_203, d191_205, d191_211, d191_214, d191_215, d191_217, d191_219, d191_220, d191_223, d191_224, d191_227, d191_229, d191_231, d191_232, d191_233, d191_236, d191_239, d191_240, d191_243, d191_245, d191_247, d191_248, d191_249, d191_250, d191_251, d191_254, d191_257, d191_259, d191_260, d191_263, d191_265, d191_267, d191_268, d191_269, d191_271, d191_274, d191_275, d191_278, d191_280, d191_281, d191_284, d191_287, d191_289, n_lt, n_le, n_eq, n_lt0, n_ge0, n_gt0, n_le0, n_eq0, m_lt, m_le, m_gt, m_ge, m_eq, m_eq', m_lt0, m_ge0, m_gt0, m_le0, m_ltm, m_lem, n_in, m_in, n_cl, n_ti, n_div, n_rem', n_dec, n_l, nI_add, pk_mul, an0, an1, decide_eq_true_eq, if_true, if_false, ite_true, ite_false, and_true, true_and, and_false, false_and, not_true, not_false_iff, or_false, false_or, or_true, true_or, eq_self, va_some, Bool.false_eq_true, reduceIte, catS_n, catS_i, catS_r, catS_l, catS_d, Nat.zero_add, Nat.add_zero, decide_true, decide_false, Nat.reduceLeDiff, cat_r, cat_i, cat_l, nle_T, nle_F, nlt_T, nlt_F, neq_T, neq_F, k0, p0, y1, e16, h192, h194, c163, cl_f, rA5, c167 hM hnA, oA, n_or0, c167 hM hnB, oB, c160, h16, n_sub]
        done
