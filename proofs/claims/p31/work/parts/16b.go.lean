/-! CHANCES: going on and handing on -/
theorem CB_spW {g : GS} {x : Int32} {sp gr : SP} {t e : Nat} (hx : CB g x sp gr) (hv : TV g) (ht : t < 3) (he : e < g (3 + t)) : CB g (x ||| ((if g (cl t e 4) = 0 then nI 0 else nI 1 <<< (nI (6 * t + e) &&& 31)) ||| (if g (cl t e 3) = 0 then nI 0 else nI 1 <<< (nI (18 + 4 * t + g (cl t e 3)) &&& 31)))) (spW g sp t e) (grW gr t (g (cl t e 3))) := by
  have hc := hv.2.1 t ht
  have h3 := (hv.2.2 t e ht he).2.2.2.2.2.1
  refine ⟨fun t' e' h he' => ?_, fun t' k h h1 hk => ?_⟩
  · have hc' := hv.2.1 t' h
    rw [b_or, b_or, b_if (by omega) (by omega), b_if (by omega) (by omega), hx.1 t' e' h he', decide_eq_false (show ¬ 6 * t' + e' = 18 + 4 * t + g (cl t e 3) by omega), Bool.and_false, Bool.or_false]
    unfold spW
    congr 1
    rw [Bool.and_comm]
    congr 1
    exact decide_eq_decide.mpr ⟨fun q => by omega, fun q => by omega⟩
  · rw [b_or, b_or, b_if (by omega) (by omega), b_if (by omega) (by omega), hx.2 t' k h h1 hk, decide_eq_false (show ¬ 18 + 4 * t' + k = 6 * t + e by omega), Bool.and_false, Bool.false_or]
    unfold grW
    rw [Bool.or_comm]
    congr 1
    rw [Bool.and_comm]
    congr 1
    exact decide_eq_decide.mpr ⟨fun q => by omega, fun q => by omega⟩
def gof (H n k j : Nat) : Prop := k < H + 1 ∨ H + 7 < k ∨ (1 ≤ n ∧ (k ≤ H + 3 ∨ (k = H + 7 ∧ j = 0))) ∨ 2 ≤ n
def hof (H n k j : Nat) : Prop := k < H + 1 ∨ H + 7 < k ∨ k ≤ H + 3 ∨ (n = 1 ∧ (k ≤ H + 6 ∨ (k = H + 7 ∧ j = 0)))
/-- going on is as it should be -/
def GOk (P : MP) (C : MC) (H b top : Nat) (g : GS) (d n r : Nat) : Prop := ∀ (I : MI) (L : ML) (x : Int32) (sp gr : SP) (w0 w1 fd s : Nat), RC I b g → I H 6 = nI top → CB g x sp gr → (1 ≤ n → I (H + 7) 0 = fI w0) → (2 ≤ n → I (H + 7) 1 = fI w1) → w0 ≤ 16 → w1 ≤ 16 → fd ≤ 4 → s ≤ 1000000000 → ∃ I', (∀ k j, gof H n k j → I' k j = I k j) ∧ ∀ Q, CT d 77 [.ref H, .ref b, .int (nI n), .int x, .int (fI fd), .long (lN s)] P I L C Q = Q (.inl none) P I' (addL H (goV g top r n w0 w1 sp gr fd s) L) C
def WH (I : MI) (D : Nat) (g : GS) (W : Nat → Nat → Nat) (t : Nat) : Prop := ∀ t', t ≤ t' → t' < 3 → I (D + 2) t' = nI (sm (g (3 + t')) (W t')) ∧ ∀ e, e < g (3 + t') → I (D + 1) (6 * t' + e) = nI (W t' e)
/-- weights within bounds, links lead on -/
def CI2 (W : Nat → Nat → Nat) (g : GS) : Prop := ∀ t, t < 3 → ∀ e, e < g (3 + t) → W t e ≤ 102000 ∧ (0 < W t e → 16 ≤ g (cl t e 0) → 0 < sm (g (3 + (g (cl t e 0) - 16))) (W (g (cl t e 0) - 16)))
theorem CI2_wt {g : GS} {q : Nat} {sp gr : SP} (hv : TV g) (hl : LV g) : CI2 (wt g q sp gr) g := by
  intro t ht e he
  refine ⟨wt_b hv hl ht he, fun hp h16 => ?_⟩
  have hcan := (wt_p hv hl ht he).mp hp
  have hE := hv.2.2 t e ht he
  unfold can ca at hcan
  have h4 := ((Bool.and_eq_true _ _).mp hcan).2
  rw [if_neg (by omega)] at h4
  have := hE.2.2.1 h16
  have := hE.1
  exact (sw_p hv hl (show g (cl t e 0) - 16 < 3 by omega)).mpr h4
def HOk (P : MP) (C : MC) (H b D top : Nat) (g : GS) (W : Nat → Nat → Nat) (K : SP → SP → Nat → Nat → Nat → CV) (n w0 d f : Nat) : Prop := ∀ (t : Nat) (I : MI) (L : ML) (x : Int32) (sp gr : SP) (fd s : Nat), t < 3 → 3 ≤ t + f → RC I b g → I H 6 = nI top → CB g x sp gr → (n = 1 → I (H + 7) 0 = fI w0) → WH I D g W t → 0 < sm (g (3 + t)) (W t) → fd ≤ 4 → s ≤ 1000000000 → ∃ I', (∀ k j, hof H n k j → I' k j = I k j) ∧ ∀ Q, CT d 79 [.ref H, .ref b, .int (nI t), .int (nI n), .int x, .int (fI fd), .long (lN s)] P I L C Q = Q (.inl none) P I' (addL H (hV g W K f t sp gr fd s) L) C
theorem RC_hof {I I' : MI} {H b n : Nat} {g : GS} (hg : RC I b g) (hbH : b + 17 < H) (h : ∀ k j, hof H n k j → I' k j = I k j) : RC I' b g := RC_fr hg fun k j h1 h2 => h k j (.inl (by omega))
theorem WH_hof {I I' : MI} {H D n : Nat} {g : GS} {W : Nat → Nat → Nat} {t t' : Nat} (hw : WH I D g W t) (hD : (n = 0 ∧ D = H + 1) ∨ (n = 1 ∧ D = H + 4)) (h : ∀ k j, hof H n k j → I' k j = I k j) (ht : t ≤ t') : WH I' D g W t' := by
  intro a h1 h2
  obtain ⟨q1, q2⟩ := hw a (by omega) h2
  refine ⟨?_, fun e he => ?_⟩
  · rw [h _ _ (by unfold hof; omega)]; exact q1
  · rw [h _ _ (by unfold hof; omega)]; exact q2 e he
theorem d79_0 : dec 79 0 = some (.aload_n 1, 1, []) := rfl
theorem d79_1 : dec 79 1 = some (.getfield 46, 3, [1, 6, 0, 2, 1, 140]) := rfl
theorem d79_4 : dec 79 4 = some (.astore 8, 2, []) := rfl
theorem d79_6 : dec 79 6 = some (.iload_n 3, 1, []) := rfl
theorem d79_7 : dec 79 7 = some (.ifCond .ne 10, 3, [17]) := rfl
theorem d79_10 : dec 79 10 = some (.aload_n 0, 1, []) := rfl
theorem d79_11 : dec 79 11 = some (.getfield 12, 3, [1, 0, 0, 2, 0, 243]) := rfl
theorem d79_14 : dec 79 14 = some (.goto 7, 3, [21]) := rfl
theorem d79_17 : dec 79 17 = some (.aload_n 0, 1, []) := rfl
theorem d79_18 : dec 79 18 = some (.getfield 18, 3, [1, 0, 1, 2, 0, 244]) := rfl
theorem d79_21 : dec 79 21 = some (.astore 9, 2, []) := rfl
theorem d79_23 : dec 79 23 = some (.aload 9, 2, []) := rfl
theorem d79_25 : dec 79 25 = some (.iload_n 2, 1, []) := rfl
theorem d79_26 : dec 79 26 = some (.invokevirtual 82, 3, [2, 70, 2, 1, 0, 838, 0]) := rfl
theorem d79_29 : dec 79 29 = some (.i2l, 1, []) := rfl
theorem d79_30 : dec 79 30 = some (.lstore 10, 2, []) := rfl
theorem d79_32 : dec 79 32 = some (.iload_n 2, 1, []) := rfl
theorem d79_33 : dec 79 33 = some (.ifCond .lt 10, 3, [43]) := rfl
theorem d79_36 : dec 79 36 = some (.lload 10, 2, []) := rfl
theorem d79_38 : dec 79 38 = some (.lconst 0, 1, [0]) := rfl
theorem d79_39 : dec 79 39 = some (.lcmp, 1, []) := rfl
theorem d79_40 : dec 79 40 = some (.ifCond .gt 4, 3, [44]) := rfl
theorem d79_43 : dec 79 43 = some (.return_, 1, []) := rfl
theorem d79_44 : dec 79 44 = some (.iload_n 2, 1, []) := rfl
theorem d79_45 : dec 79 45 = some (.iconst 0, 1, [0]) := rfl
theorem d79_46 : dec 79 46 = some (.invokestatic 94, 3, [2, 27, 0, 9, 1, 843, 0, 0]) := rfl
theorem d79_49 : dec 79 49 = some (.istore 12, 2, []) := rfl
theorem d79_51 : dec 79 51 = some (.bipush 18, 2, [18]) := rfl
theorem d79_53 : dec 79 53 = some (.iload 12, 2, []) := rfl
theorem d79_55 : dec 79 55 = some (.aload 8, 2, []) := rfl
theorem d79_57 : dec 79 57 = some (.iload_n 2, 1, []) := rfl
theorem d79_58 : dec 79 58 = some (.invokevirtual 98, 3, [2, 25, 2, 7, 0, 844, 0]) := rfl
theorem d79_61 : dec 79 61 = some (.iadd, 1, []) := rfl
theorem d79_62 : dec 79 62 = some (.invokestatic 101, 3, [10, 845]) := rfl
theorem d79_65 : dec 79 65 = some (.istore 13, 2, []) := rfl
theorem d79_67 : dec 79 67 = some (.iload 12, 2, []) := rfl
theorem d79_69 : dec 79 69 = some (.istore 14, 2, []) := rfl
theorem d79_71 : dec 79 71 = some (.iload 14, 2, []) := rfl
theorem d79_73 : dec 79 73 = some (.iload 13, 2, []) := rfl
theorem d79_75 : dec 79 75 = some (.if_icmp .ge 133, 3, [208]) := rfl
theorem d79_78 : dec 79 78 = some (.aload 9, 2, []) := rfl
theorem d79_80 : dec 79 80 = some (.getfield 106, 3, [1, 1, 0, 2, 1, 209]) := rfl
theorem d79_83 : dec 79 83 = some (.iload 14, 2, []) := rfl
theorem d79_85 : dec 79 85 = some (.iaload, 1, []) := rfl
theorem d79_86 : dec 79 86 = some (.istore 15, 2, []) := rfl
theorem d79_88 : dec 79 88 = some (.iload 15, 2, []) := rfl
theorem d79_90 : dec 79 90 = some (.ifCond .gt 6, 3, [96]) := rfl
theorem d79_93 : dec 79 93 = some (.goto 109, 3, [202]) := rfl
theorem d79_96 : dec 79 96 = some (.lload 6, 2, []) := rfl
theorem d79_98 : dec 79 98 = some (.iload 15, 2, []) := rfl
theorem d79_100 : dec 79 100 = some (.i2l, 1, []) := rfl
theorem d79_101 : dec 79 101 = some (.lmul, 1, []) := rfl
theorem d79_102 : dec 79 102 = some (.lload 10, 2, []) := rfl
theorem d79_104 : dec 79 104 = some (.ldiv, 1, []) := rfl
theorem d79_105 : dec 79 105 = some (.lstore 16, 2, []) := rfl
theorem d79_107 : dec 79 107 = some (.iload 4, 2, []) := rfl
theorem d79_109 : dec 79 109 = some (.aload 8, 2, []) := rfl
theorem d79_111 : dec 79 111 = some (.iload_n 2, 1, []) := rfl
theorem d79_112 : dec 79 112 = some (.iload 14, 2, []) := rfl
theorem d79_114 : dec 79 114 = some (.invokevirtual 109, 3, [2, 80, 2, 7, 0, 846, 0, 0]) := rfl
theorem d79_117 : dec 79 117 = some (.ior, 1, []) := rfl
theorem d79_118 : dec 79 118 = some (.istore 18, 2, []) := rfl
theorem d79_120 : dec 79 120 = some (.aload 8, 2, []) := rfl
theorem d79_122 : dec 79 122 = some (.getfield 112, 3, [1, 7, 2, 2, 1, 49]) := rfl
theorem d79_125 : dec 79 125 = some (.iload 14, 2, []) := rfl
theorem d79_127 : dec 79 127 = some (.iaload, 1, []) := rfl
theorem d79_128 : dec 79 128 = some (.istore 19, 2, []) := rfl
theorem d79_130 : dec 79 130 = some (.iload 19, 2, []) := rfl
theorem d79_132 : dec 79 132 = some (.invokestatic 115, 3, [2, 51, 0, 9, 1, 847, 0]) := rfl
theorem d79_135 : dec 79 135 = some (.ifCond .ne 41, 3, [176]) := rfl
theorem d79_138 : dec 79 138 = some (.aload_n 0, 1, []) := rfl
theorem d79_139 : dec 79 139 = some (.getfield 21, 3, [1, 0, 2, 2, 0, 245]) := rfl
theorem d79_142 : dec 79 142 = some (.iload_n 3, 1, []) := rfl
theorem d79_143 : dec 79 143 = some (.iload 19, 2, []) := rfl
theorem d79_145 : dec 79 145 = some (.invokestatic 90, 3, [2, 44, 0, 9, 1, 848, 0, 0, 2]) := rfl
theorem d79_148 : dec 79 148 = some (.aload_n 0, 1, []) := rfl
theorem d79_149 : dec 79 149 = some (.aload_n 1, 1, []) := rfl
theorem d79_150 : dec 79 150 = some (.iload_n 3, 1, []) := rfl
theorem d79_151 : dec 79 151 = some (.iconst 1, 1, [1]) := rfl
theorem d79_152 : dec 79 152 = some (.iadd, 1, []) := rfl
theorem d79_153 : dec 79 153 = some (.iload 18, 2, []) := rfl
theorem d79_155 : dec 79 155 = some (.iload 5, 2, []) := rfl
theorem d79_157 : dec 79 157 = some (.aload 8, 2, []) := rfl
theorem d79_159 : dec 79 159 = some (.getfield 119, 3, [1, 7, 4, 2, 1, 58]) := rfl
theorem d79_162 : dec 79 162 = some (.iload 14, 2, []) := rfl
theorem d79_164 : dec 79 164 = some (.iaload, 1, []) := rfl
theorem d79_165 : dec 79 165 = some (.invokestatic 122, 3, [11, 849]) := rfl
theorem d79_168 : dec 79 168 = some (.lload 16, 2, []) := rfl
theorem d79_170 : dec 79 170 = some (.invokevirtual 60, 3, [2, 77, 2, 0, 0, 828, 1, 0, 0, 0, 2]) := rfl
theorem d79_173 : dec 79 173 = some (.goto 29, 3, [202]) := rfl
theorem d79_176 : dec 79 176 = some (.iload 19, 2, []) := rfl
theorem d79_178 : dec 79 178 = some (.invokestatic 125, 3, [2, 52, 0, 9, 1, 850, 0]) := rfl
theorem d79_181 : dec 79 181 = some (.iload_n 2, 1, []) := rfl
theorem d79_182 : dec 79 182 = some (.if_icmp .le 20, 3, [202]) := rfl
theorem d79_185 : dec 79 185 = some (.aload_n 0, 1, []) := rfl
theorem d79_186 : dec 79 186 = some (.aload_n 1, 1, []) := rfl
theorem d79_187 : dec 79 187 = some (.iload 19, 2, []) := rfl
theorem d79_189 : dec 79 189 = some (.invokestatic 125, 3, [2, 52, 0, 9, 1, 850, 0]) := rfl
theorem d79_192 : dec 79 192 = some (.iload_n 3, 1, []) := rfl
theorem d79_193 : dec 79 193 = some (.iload 18, 2, []) := rfl
theorem d79_195 : dec 79 195 = some (.iload 5, 2, []) := rfl
theorem d79_197 : dec 79 197 = some (.lload 16, 2, []) := rfl
theorem d79_199 : dec 79 199 = some (.invokevirtual 86, 3, [2, 79, 2, 0, 0, 839, 1, 0, 0, 0, 0, 2]) := rfl
theorem d79_202 : dec 79 202 = some (.iinc 14 1, 3, [1]) := rfl
theorem d79_205 : dec 79 205 = some (.goto (-134), 3, [71]) := rfl
theorem d79_208 : dec 79 208 = some (.return_, 1, []) := rfl
theorem l79 : mL 79 = 20 := rfl
theorem f79 {d : Nat} {P : MP} {C : MC} {H b D top n w0 w1 r f t s fd : Nat} {x : Int32} {sp gr : SP} {g : GS} {W : Nat → Nat → Nat} {K : SP → SP → Nat → Nat → Nat → CV} (hH : HB P H) (hb : SB P b) (hbH : b + 17 < H) (hv : TV g) (hci : CI2 W g) (hDn : (n = 0 ∧ D = H + 1) ∨ (n = 1 ∧ D = H + 4)) (hG : GOk P C H b top g d (n + 1) r) (hK : ∀ sp gr fd w s, K sp gr fd w s = goV g top r (n + 1) (if n = 0 then w else w0) (if n = 0 then w1 else w) sp gr fd s) (hR : HOk P C H b D top g W K n w0 d f) (hd : 4 ≤ d) (ht : t < 3) (htf : 3 ≤ t + (f + 1)) (hx : CB g x sp gr) (hpos : 0 < sm (g (3 + t)) (W t)) (hfd : fd ≤ 4) (hs : s ≤ 1000000000) (hw0 : w0 ≤ 16) (hw1 : w1 ≤ 16) : ∀ m e (I : MI) (L : ML) (u15 u16 u17 u18 u19 : Value), e + m = g (3 + t) → RC I b g → I H 6 = nI top → (n = 1 → I (H + 7) 0 = fI w0) → WH I D g W t → ∃ I', (∀ k j, hof H n k j → I' k j = I k j) ∧ ∀ Q, X d 79 71 [.ref H, .ref b, .int (nI t), .int (nI n), .int x, .int (fI fd), .long (lN s), UN, .ref (b + 1), .ref D, .long (lN (sm (g (3 + t)) (W t))), UN, .int (nI (6 * t)), .int (nI (6 * t + g (3 + t))), .int (nI (6 * t + e)), u15, u16, u17, u18, u19] [] P I L C Q = Q (.inl none) P I' (addL H (sE (hE g W K (hV g W K f) t sp gr fd s) e m) L) C := by
  have hH' := hH
  have hb' := hb
  obtain ⟨k0, p0, p1, p2, p3, p4, hD1, hD4, y7, y8, y9⟩ := hH'
  obtain ⟨l0, r0, r1, r2, hT, hKK, hF⟩ := hb'
  have hT' := hT
  obtain ⟨⟨m0, q0, q1, q2, q3, q4, q5, q6, q7⟩, z1, z2, z3, z4, z5, z6, z7, z8⟩ := hT'
  have hDB : DB P D := by
    rcases hDn with ⟨_, rfl⟩ | ⟨_, rfl⟩
    · exact hD1
    · exact hD4
  obtain ⟨c0, a0, a1, a2, a3⟩ := hDB
  have hc := hv.2.1 t ht
  have hn : n ≤ 1 := by omega
  intro m
  induction m with
  | zero =>
    intro e I L u15 u16 u17 u18 u19 hm hg h6 h7 hW
    refine ⟨I, fun _ _ _ => rfl, fun Q => ?_⟩
    have he : e = g (3 + t) := by omega
    subst he
    rw [show sE (hE g W K (hV g W K f) t sp gr fd s) (g (3 + t)) 0 = cv0 from rfl, addL_0, X_go, d79_71]
    simp (disch := first | assumption | omega) only [Nat.reduceAdd, X_go, go2_some, stp, ldI, ldA, ldL, stI, stA, stL, o1I, o2I, o2L, brI, brII, gl, s1, s2, k1, sl, go_sN, go_sR, go_CT, go_sT, go_no, go_if, pops, bk_v, bk_0, d79_0, d79_1, d79_4, d79_6, d79_7, d79_10, d79_11, d79_14, d79_17, d79_18, d79_21, d79_23, d79_25, d79_26, d79_29, d79_30, d79_32, d79_33, d79_36, d79_38, d79_39, d79_40, d79_43, d79_44, d79_45, d79_46, d79_49, d79_51, d79_53, d79_55, d79_57, d79_58, d79_61, d79_62, d79_65, d79_67, d79_69, d79_73, d79_75, d79_78, d79_80, d79_83, d79_85, d79_86, d79_88, d79_90, d79_93, d79_96, d79_98, d79_100, d79_101, d79_102, d79_104, d79_105, d79_107, d79_109, d79_111, d79_112, d79_114, d79_117, d79_118, d79_120, d79_122, d79_125, d79_127, d79_128, d79_130, d79_132, d79_135, d79_138, d79_139, d79_142, d79_143, d79_145, d79_148, d79_149, d79_150, d79_151, d79_152, d79_153, d79_155, d79_157, d79_159, d79_162, d79_164, d79_165, d79_168, d79_170, d79_173, d79_176, d79_178, d79_181, d79_182, d79_185, d79_186, d79_187, d79_189, d79_192, d79_193, d79_195, d79_197, d79_199, d79_202, d79_205, d79_208, n_lt, n_le, n_eq, n_lt0, n_ge0, n_gt0, n_le0, n_eq0, m_lt, m_le, m_gt, m_ge, m_eq, m_eq', m_lt0, m_ge0, m_gt0, m_le0, m_ltm, m_lem, n_in, m_in, n_cl, n_ti, n_div, n_rem', n_dec, n_l, nI_add, pk_mul, an0, an1, decide_eq_true_eq, if_true, if_false, ite_true, ite_false, and_true, true_and, and_false, false_and, not_true, not_false_iff, or_false, false_or, or_true, true_or, eq_self, va_some, Bool.false_eq_true, reduceIte, catS_n, catS_i, catS_r, catS_l, catS_d, Nat.zero_add, Nat.add_zero, decide_true, decide_false, Nat.reduceLeDiff, cat_r, cat_i, cat_l, nle_T, nle_F, nlt_T, nlt_F, neq_T, neq_F]
  | succ m ih =>
    intro e I L u15 u16 u17 u18 u19 hm hg h6 h7 hW
    have he : e < g (3 + t) := by omega
    obtain ⟨hwb, hlk⟩ := hci t ht e he
    obtain ⟨E0, E1, E2, E3, E4, E5, E6, E7⟩ := hv.2.2 t e ht he
    obtain ⟨R0, R1, R2, R3, R4, R5⟩ := hg.1.2.2 t e ht he
    have hWe := (hW t (Nat.le_refl t) ht).2 e he
    have hsp : W t e ≤ sm (g (3 + t)) (W t) := sm_split he
    have hsm := sm_le (n := g (3 + t)) (b := 102000) (f := W t) (fun i hi => (hci t ht i hi).1)
    have hsm2 : g (3 + t) * 102000 ≤ 6 * 102000 := Nat.mul_le_mul_right _ hc
    have hmul : s * W t e ≤ 1000000000 * 102000 := Nat.mul_le_mul hs hwb
    rw [sE_s, ← addL_A]
    by_cases hz : W t e = 0
    · have e1 : hE g W K (hV g W K f) t sp gr fd s e = cv0 := if_pos hz
      rw [e1, addL_0]
      obtain ⟨I', hI', hQ⟩ := ih (e + 1) I L (.int (nI (W t e))) u16 u17 u18 u19 (by omega) hg h6 h7 hW
      refine ⟨I', hI', fun Q => ?_⟩
      rw [X_go, d79_71]
      simp (disch := first | assumption | omega) only [Nat.reduceAdd, X_go, go2_some, stp, ldI, ldA, ldL, stI, stA, stL, o1I, o2I, o2L, brI, brII, gl, s1, s2, k1, sl, go_sN, go_sR, go_CT, go_sT, go_no, go_if, pops, bk_v, bk_0, d79_0, d79_1, d79_4, d79_6, d79_7, d79_10, d79_11, d79_14, d79_17, d79_18, d79_21, d79_23, d79_25, d79_26, d79_29, d79_30, d79_32, d79_33, d79_36, d79_38, d79_39, d79_40, d79_43, d79_44, d79_45, d79_46, d79_49, d79_51, d79_53, d79_55, d79_57, d79_58, d79_61, d79_62, d79_65, d79_67, d79_69, d79_73, d79_75, d79_78, d79_80, d79_83, d79_85, d79_86, d79_88, d79_90, d79_93, d79_96, d79_98, d79_100, d79_101, d79_102, d79_104, d79_105, d79_107, d79_109, d79_111, d79_112, d79_114, d79_117, d79_118, d79_120, d79_122, d79_125, d79_127, d79_128, d79_130, d79_132, d79_135, d79_138, d79_139, d79_142, d79_143, d79_145, d79_148, d79_149, d79_150, d79_151, d79_152, d79_153, d79_155, d79_157, d79_159, d79_162, d79_164, d79_165, d79_168, d79_170, d79_173, d79_176, d79_178, d79_181, d79_182, d79_185, d79_186, d79_187, d79_189, d79_192, d79_193, d79_195, d79_197, d79_199, d79_202, d79_205, d79_208, n_lt, n_le, n_eq, n_lt0, n_ge0, n_gt0, n_le0, n_eq0, m_lt, m_le, m_gt, m_ge, m_eq, m_eq', m_lt0, m_ge0, m_gt0, m_le0, m_ltm, m_lem, n_in, m_in, n_cl, n_ti, n_div, n_rem', n_dec, n_l, nI_add, pk_mul, an0, an1, decide_eq_true_eq, if_true, if_false, ite_true, ite_false, and_true, true_and, and_false, false_and, not_true, not_false_iff, or_false, false_or, or_true, true_or, eq_self, va_some, Bool.false_eq_true, reduceIte, catS_n, catS_i, catS_r, catS_l, catS_d, Nat.zero_add, Nat.add_zero, decide_true, decide_false, Nat.reduceLeDiff, cat_r, cat_i, cat_l, nle_T, nle_F, nlt_T, nlt_F, neq_T, neq_F, c0, a0, a2, hWe, hz]
      simp only [← X_go]
      rw [hz] at hQ
      exact hQ Q
    · have hpart : s * W t e / sm (g (3 + t)) (W t) ≤ 1000000000 := by
        have : s * W t e ≤ s * sm (g (3 + t)) (W t) := Nat.mul_le_mul_left _ hsp
        exact Nat.le_trans (Nat.div_le_of_le_mul (by rw [Nat.mul_comm _ s]; exact this)) hs
      have hdiv : lN (s * W t e) / lN (sm (g (3 + t)) (W t)) = lN (s * W t e / sm (g (3 + t)) (W t)) := pk_lDiv (by omega) hpos (by omega)
      have hl0 : (lN (sm (g (3 + t)) (W t)) = 0) = False := eq_false fun q => by have := (lN_eq (b := 0) (by omega) (by omega)).mp q; omega
      have hxx := CB_spW hx hv ht he
      have hm2 : (if fI fd < nI (g (cl t e 2)) then nI (g (cl t e 2)) else fI fd) = fI (max fd (g (cl t e 2) + 1)) := by
        have q : (fI fd < nI (g (cl t e 2))) = (fd ≤ g (cl t e 2)) := fI_lt (by omega) (by omega)
        by_cases z : fd ≤ g (cl t e 2)
        · rw [if_pos (q.mpr z), Nat.max_eq_right (by omega), fI_s]
        · rw [if_neg (fun w => z (q.mp w)), Nat.max_eq_left (by omega)]
      by_cases h16 : g (cl t e 0) < 16
      · have h3 := E1 h16
        have e1 : hE g W K (hV g W K f) t sp gr fd s e = goV g top r (n + 1) (if n = 0 then g (cl t e 0) + 1 else w0) (if n = 0 then w1 else g (cl t e 0) + 1) (spW g sp t e) (grW gr t (g (cl t e 3))) (max fd (g (cl t e 2) + 1)) (s * W t e / sm (g (3 + t)) (W t)) := by
          unfold hE
          rw [if_neg hz, if_pos h16, hK]
        rw [e1]
        have hJh : ∀ k j, hof H n k j → xu I (H + 7) n (nI (g (cl t e 0))) k j = I k j := fun k j h => xu_n _ _ (by unfold hof at h; omega)
        obtain ⟨I1, hI1, hQ1⟩ := hG (xu I (H + 7) n (nI (g (cl t e 0)))) L _ _ _ (if n = 0 then g (cl t e 0) + 1 else w0) (if n = 0 then w1 else g (cl t e 0) + 1) (max fd (g (cl t e 2) + 1)) (s * W t e / sm (g (3 + t)) (W t)) (RC_hof hg hbH hJh) (by rw [hJh _ _ (by unfold hof; omega)]; exact h6) hxx (fun _ => by
          rcases hDn with ⟨rfl, _⟩ | ⟨rfl, _⟩
          · rw [if_pos rfl, xu_s, fI_s]
          · rw [if_neg (by omega), xu_n _ _ (by omega)]; exact h7 rfl) (fun h2 => by
          have : n = 1 := by omega
          subst this
          rw [if_neg (by omega), xu_s, fI_s]) (by split <;> omega) (by split <;> omega) (by omega) hpart
        have hI1h : ∀ k j, hof H n k j → I1 k j = I k j := fun k j h => by rw [hI1 k j (by unfold hof at h; unfold gof; omega), hJh k j h]
        obtain ⟨I', hI', hQ⟩ := ih (e + 1) I1 (addL H (goV g top r (n + 1) (if n = 0 then g (cl t e 0) + 1 else w0) (if n = 0 then w1 else g (cl t e 0) + 1) (spW g sp t e) (grW gr t (g (cl t e 3))) (max fd (g (cl t e 2) + 1)) (s * W t e / sm (g (3 + t)) (W t))) L) (.int (nI (W t e))) (.long (lN (s * W t e / sm (g (3 + t)) (W t)))) UN (.int (x ||| ((if g (cl t e 4) = 0 then nI 0 else nI 1 <<< (nI (6 * t + e) &&& 31)) ||| (if g (cl t e 3) = 0 then nI 0 else nI 1 <<< (nI (18 + 4 * t + g (cl t e 3)) &&& 31))))) (.int (nI (g (cl t e 0)))) (by omega) (RC_hof hg hbH hI1h) (by rw [hI1h _ _ (by unfold hof; omega)]; exact h6) (fun q => by rw [hI1h _ _ (by unfold hof; omega)]; exact h7 q) (WH_hof hW hDn hI1h (Nat.le_refl t))
        refine ⟨I', fun k j h => by rw [hI' k j h, hI1h k j h], fun Q => ?_⟩
        rw [X_go, d79_71]
        simp (disch := first | assumption | omega) only [Nat.reduceAdd, X_go, go2_some, stp, ldI, ldA, ldL, stI, stA, stL, o1I, o2I, o2L, brI, brII, gl, s1, s2, k1, sl, go_sN, go_sR, go_CT, go_sT, go_no, go_if, pops, bk_v, bk_0, d79_0, d79_1, d79_4, d79_6, d79_7, d79_10, d79_11, d79_14, d79_17, d79_18, d79_21, d79_23, d79_25, d79_26, d79_29, d79_30, d79_32, d79_33, d79_36, d79_38, d79_39, d79_40, d79_43, d79_44, d79_45, d79_46, d79_49, d79_51, d79_53, d79_55, d79_57, d79_58, d79_61, d79_62, d79_65, d79_67, d79_69, d79_73, d79_75, d79_78, d79_80, d79_83, d79_85, d79_86, d79_88, d79_90, d79_93, d79_96, d79_98, d79_100, d79_101, d79_102, d79_104, d79_105, d79_107, d79_109, d79_111, d79_112, d79_114, d79_117, d79_118, d79_120, d79_122, d79_125, d79_127, d79_128, d79_130, d79_132, d79_135, d79_138, d79_139, d79_142, d79_143, d79_145, d79_148, d79_149, d79_150, d79_151, d79_152, d79_153, d79_155, d79_157, d79_159, d79_162, d79_164, d79_165, d79_168, d79_170, d79_173, d79_176, d79_178, d79_181, d79_182, d79_185, d79_186, d79_187, d79_189, d79_192, d79_193, d79_195, d79_197, d79_199, d79_202, d79_205, d79_208, n_lt, n_le, n_eq, n_lt0, n_ge0, n_gt0, n_le0, n_eq0, m_lt, m_le, m_gt, m_ge, m_eq, m_eq', m_lt0, m_ge0, m_gt0, m_le0, m_ltm, m_lem, n_in, m_in, n_cl, n_ti, n_div, n_rem', n_dec, n_l, nI_add, pk_mul, an0, an1, decide_eq_true_eq, if_true, if_false, ite_true, ite_false, and_true, true_and, and_false, false_and, not_true, not_false_iff, or_false, false_or, or_true, true_or, eq_self, va_some, Bool.false_eq_true, reduceIte, catS_n, catS_i, catS_r, catS_l, catS_d, Nat.zero_add, Nat.add_zero, decide_true, decide_false, Nat.reduceLeDiff, cat_r, cat_i, cat_l, nle_T, nle_F, nlt_T, nlt_F, neq_T, neq_F, c0, a0, a2, k0, p2, m0, q2, q4, z3, z5, R0, R2, hWe, hz, lN_mul, hdiv, hl0, c80 hT hg.1 hv ht he, c51, c44 y7, h16, xu_n, hm2, hQ1]
        simp only [← X_go]
        exact hQ Q
      · have hE2 := E2 (by omega)
        have hlk := hlk (by omega) (by omega)
        have hgt : ¬ g (cl t e 0) - 16 ≤ t := by omega
        have e1 : hE g W K (hV g W K f) t sp gr fd s e = hV g W K f (g (cl t e 0) - 16) (spW g sp t e) (grW gr t (g (cl t e 3))) fd (s * W t e / sm (g (3 + t)) (W t)) := by
          unfold hE
          rw [if_neg hz, if_neg h16]
        rw [e1]
        obtain ⟨I1, hI1, hQ1⟩ := hR (g (cl t e 0) - 16) I L _ _ _ fd (s * W t e / sm (g (3 + t)) (W t)) (by omega) (by omega) hg h6 hxx h7 (fun a h1 h2 => hW a (by omega) h2) hlk hfd hpart
        obtain ⟨I', hI', hQ⟩ := ih (e + 1) I1 (addL H (hV g W K f (g (cl t e 0) - 16) (spW g sp t e) (grW gr t (g (cl t e 3))) fd (s * W t e / sm (g (3 + t)) (W t))) L) (.int (nI (W t e))) (.long (lN (s * W t e / sm (g (3 + t)) (W t)))) UN (.int (x ||| ((if g (cl t e 4) = 0 then nI 0 else nI 1 <<< (nI (6 * t + e) &&& 31)) ||| (if g (cl t e 3) = 0 then nI 0 else nI 1 <<< (nI (18 + 4 * t + g (cl t e 3)) &&& 31))))) (.int (nI (g (cl t e 0)))) (by omega) (RC_hof hg hbH hI1) (by rw [hI1 _ _ (by unfold hof; omega)]; exact h6) (fun q => by rw [hI1 _ _ (by unfold hof; omega)]; exact h7 q) (WH_hof hW hDn hI1 (Nat.le_refl t))
        refine ⟨I', fun k j h => by rw [hI' k j h, hI1 k j h], fun Q => ?_⟩
        rw [X_go, d79_71]
        simp (disch := first | assumption | omega) only [Nat.reduceAdd, X_go, go2_some, stp, ldI, ldA, ldL, stI, stA, stL, o1I, o2I, o2L, brI, brII, gl, s1, s2, k1, sl, go_sN, go_sR, go_CT, go_sT, go_no, go_if, pops, bk_v, bk_0, d79_0, d79_1, d79_4, d79_6, d79_7, d79_10, d79_11, d79_14, d79_17, d79_18, d79_21, d79_23, d79_25, d79_26, d79_29, d79_30, d79_32, d79_33, d79_36, d79_38, d79_39, d79_40, d79_43, d79_44, d79_45, d79_46, d79_49, d79_51, d79_53, d79_55, d79_57, d79_58, d79_61, d79_62, d79_65, d79_67, d79_69, d79_73, d79_75, d79_78, d79_80, d79_83, d79_85, d79_86, d79_88, d79_90, d79_93, d79_96, d79_98, d79_100, d79_101, d79_102, d79_104, d79_105, d79_107, d79_109, d79_111, d79_112, d79_114, d79_117, d79_118, d79_120, d79_122, d79_125, d79_127, d79_128, d79_130, d79_132, d79_135, d79_138, d79_139, d79_142, d79_143, d79_145, d79_148, d79_149, d79_150, d79_151, d79_152, d79_153, d79_155, d79_157, d79_159, d79_162, d79_164, d79_165, d79_168, d79_170, d79_173, d79_176, d79_178, d79_181, d79_182, d79_185, d79_186, d79_187, d79_189, d79_192, d79_193, d79_195, d79_197, d79_199, d79_202, d79_205, d79_208, n_lt, n_le, n_eq, n_lt0, n_ge0, n_gt0, n_le0, n_eq0, m_lt, m_le, m_gt, m_ge, m_eq, m_eq', m_lt0, m_ge0, m_gt0, m_le0, m_ltm, m_lem, n_in, m_in, n_cl, n_ti, n_div, n_rem', n_dec, n_l, nI_add, pk_mul, an0, an1, decide_eq_true_eq, if_true, if_false, ite_true, ite_false, and_true, true_and, and_false, false_and, not_true, not_false_iff, or_false, false_or, or_true, true_or, eq_self, va_some, Bool.false_eq_true, reduceIte, catS_n, catS_i, catS_r, catS_l, catS_d, Nat.zero_add, Nat.add_zero, decide_true, decide_false, Nat.reduceLeDiff, cat_r, cat_i, cat_l, nle_T, nle_F, nlt_T, nlt_F, neq_T, neq_F, c0, a0, a2, k0, p2, m0, q2, q4, z3, z5, R0, R2, hWe, hz, lN_mul, hdiv, hl0, c80 hT hg.1 hv ht he, c51, c52, h16, hgt, hQ1]
        simp only [← X_go]
        exact hQ Q
