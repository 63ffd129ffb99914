/-! THE MODEL: an opening, whole -/
theorem NR_120 {g g' : GS} {k : Nat} (h : ∀ k, k ≠ 122 → g' k = g k) (hk : k ≠ 122) : g' k = g k := h k hk
theorem c191 {d : Nat} {P : MP} {I : MI} {L : ML} {C : MC} {top B : Nat} {g : GS} (hM : MB P) (hn : NR I g) (hv : TV g) (hl : LV g) (hF : FV B g) (hd : 8 ≤ d) (ht : top < 3) : ∃ I', NR I' (opn top g) ∧ GV (B + 1) (opn top g) ∧ (opN top g ≤ 2 ∧ ∀ i, i < 16 → g (124 + i) ≤ opn top g (124 + i)) ∧ (∀ k j, k ≠ 151 → I' k j = I k j) ∧ ∀ Q, CT d 191 [.ref 150, .int (nI top)] P I L C Q = Q (.inl (some (.int (nI (opN top g))))) P I' L C := by
  have hM' := hM
  obtain ⟨⟨k0, p0, p1, p2, p5, y1, _⟩, _⟩ := hM'
  have hdr := hv.1 top ht
  obtain ⟨g0, hg0⟩ : ∃ g0 : GS, g0 = ud g 122 (g 122 + 1) := ⟨_, rfl⟩
  have h2 : ∀ k, k ≠ 122 → g0 k = g k := fun k h => by rw [hg0]; exact ud_n h
  have h122 : g0 122 = g 122 + 1 := by rw [hg0]; exact ud_s
  have hop : op2 top g = if g top = 1 then drw top (g0, noG, 0, 0) else drw top (drw top (g0, noG, 0, 0)) := by rw [hg0]; rfl
  have hn0 : NR (xu I 151 122 (nI (g 122 + 1))) g0 := by rw [hg0]; exact NR_ud hn
  have hv0 : TV g0 := TV_g (fun k hk => h2 k (by omega)) hv
  have hl0 : LV g0 := LV_g (fun k h h' => h2 k (by omega)) hl
  have hFv0 : FV (B + 1) g0 := by
    obtain ⟨v1, v2, v3, v4, v5⟩ := hF
    refine ⟨by rw [h122]; omega, by rw [h2 _ (by omega)]; omega, by rw [h2 _ (by omega), h2 _ (by omega)]; exact v3, fun i hi => by rw [h2 _ (by omega), h2 _ (by omega)]; exact v4 i hi, fun i hi => ?_⟩
    rw [h2 _ (by omega)] at hi
    rw [h2 _ (by omega), h2 _ (by omega), h2 _ (by omega), h122]
    have := v5 i hi
    omega
  have hF123 := hF.2.1
  have e123 : g0 123 = g 123 := h2 _ (by omega)
  have e0 : g0 top = g top := h2 _ (by omega)
  have hc122 := hn 122 (by omega)
  obtain ⟨J1, y1', v6, v7, v8, v9, v10, a1, ⟨⟨a2, a3, a4⟩, a5, a6, a7, a8, a9⟩, a10, a11, a12, hX1⟩ := g191 (d := d - 1) (I := xu I 151 122 (nI (g 122 + 1))) (L := L) (C := C) (top := top) (k := 0) (B := B + 1) (fd := 0) (n := 0) (u6 := UN) (u7 := UN) (u8 := UN) (u9 := UN) (u10 := UN) hM hn0 hv0 hl0 hFv0 (by omega) MGr_0 (by omega) ht (by omega) (by omega) (by omega)
  unfold opn opN
  rw [hop]
  generalize drw top (g0, noG, 0, 0) = s at a1 a2 a3 a4 a5 a6 a7 a8 a9 a10 a11 hX1 ⊢
  obtain ⟨g1, gr1, fd1, n1⟩ := s
  dsimp only at a1 a2 a3 a4 a5 a6 a7 a8 a9 a10 a11 hX1 ⊢
  have start : ∀ Q, X (d - 1) 191 21 [.ref 150, .int (nI top), .int (nI 0), .int (fI 0), .int (nI 0), .int (nI 0), UN, UN, UN, UN, UN] [] P (xu I 151 122 (nI (g 122 + 1))) L C Q = CT d 191 [.ref 150, .int (nI top)] P I L C Q := fun Q => by
    rw [CT_e (mj := 191) (e := [.ref 150, .int (nI top), UN, UN, UN, UN, UN, UN, UN, UN, UN]) (by omega) rfl (Nat.le_of_ble_eq_true rfl), fI_0]
    symm
    rw [X_go]
    simp (disch := first | assumption | omega) only [Nat.reduceAdd, X_go, go2_some, stp, ldI, ldA, ldL, stI, stA, stL, o1I, o2I, o2L, brI, brII, gl, s1, s2, k1, sl, go_sN, go_sR, go_CT, go_sT, go_no, go_if, pops, bk_v, bk_0, d191_0, d191_1, d191_4, d191_6, d191_7, d191_8, d191_9, d191_10, d191_11, d191_12, d191_13, d191_14, d191_15, d191_16, d191_18, d191_19, d191_23, d191_24, d191_27, d191_28, d191_29, d191_30, d191_31, d191_34, d191_35, d191_36, d191_37, d191_40, d191_41, d191_42, d191_45, d191_47, d191_48, d191_50, d191_51, d191_54, d191_55, d191_58, d191_60, d191_62, d191_63, d191_66, d191_69, d191_70, d191_73, d191_74, d191_76, d191_78, d191_79, d191_82, d191_83, d191_85, d191_87, d191_90, d191_92, d191_93, d191_94, d191_96, d191_98, d191_101, d191_102, d191_103, d191_106, d191_108, d191_110, d191_113, d191_114, d191_115, d191_116, d191_117, d191_118, d191_120, d191_122, d191_123, d191_126, d191_127, d191_128, d191_129, d191_131, d191_133, d191_134, d191_137, d191_139, d191_141, d191_144, d191_147, d191_148, d191_150, d191_151, d191_153, d191_155, d191_156, d191_159, d191_162, d191_163, d191_165, d191_167, d191_168, d191_171, d191_172, d191_175, d191_176, d191_178, d191_180, d191_181, d191_184, d191_187, d191_188, d191_189, d191_192, d191_193, d191_195, d191_198, d191_200, d191_202, d191_203, d191_205, d191_208, d191_211, d191_214, d191_215, d191_217, d191_219, d191_220, d191_223, d191_224, d191_227, d191_229, d191_231, d191_232, d191_233, d191_236, d191_239, d191_240, d191_243, d191_245, d191_247, d191_248, d191_249, d191_250, d191_251, d191_254, d191_257, d191_259, d191_260, d191_263, d191_265, d191_267, d191_268, d191_269, d191_271, d191_274, d191_275, d191_278, d191_280, d191_281, d191_284, d191_287, d191_289, n_lt, n_le, n_eq, n_lt0, n_ge0, n_gt0, n_le0, n_eq0, m_lt, m_le, m_gt, m_ge, m_eq, m_eq', m_lt0, m_ge0, m_gt0, m_le0, m_ltm, m_lem, n_in, m_in, n_cl, n_ti, n_div, n_rem', n_dec, n_l, nI_add, pk_mul, an0, an1, decide_eq_true_eq, if_true, if_false, ite_true, ite_false, and_true, true_and, and_false, false_and, not_true, not_false_iff, or_false, false_or, or_true, true_or, eq_self, va_some, Bool.false_eq_true, reduceIte, catS_n, catS_i, catS_r, catS_l, catS_d, Nat.zero_add, Nat.add_zero, decide_true, decide_false, Nat.reduceLeDiff, cat_r, cat_i, cat_l, nle_T, nle_F, nlt_T, nlt_F, neq_T, neq_F, k0, p0, y1, hc122]
    done
  have ex : ∀ (I' : MI) (g' : GS) (y' : Int32) (fd' n' k : Nat) (w6 w7 w8 w9 w10 : Value) Q, NR I' g' → g' top ≤ k → k < 10 → X (d - 1) 191 21 [.ref 150, .int (nI top), .int y', .int (fI fd'), .int (nI n'), .int (nI k), w6, w7, w8, w9, w10] [] P I' L C Q = X (d - 1) 191 214 [.ref 150, .int (nI top), .int y', .int (fI fd'), .int (nI n'), .int (nI k), w6, w7, w8, w9, w10] [] P I' L C Q := fun I' g' y' fd' n' k w6 w7 w8 w9 w10 Q hN hle hk => by
    have := hN top (by omega)
    rw [X_go, d191_21]
    simp (disch := first | assumption | omega) only [Nat.reduceAdd, X_go, go2_some, stp, ldI, ldA, ldL, stI, stA, stL, o1I, o2I, o2L, brI, brII, gl, s1, s2, k1, sl, go_sN, go_sR, go_CT, go_sT, go_no, go_if, pops, bk_v, bk_0, d191_0, d191_1, d191_4, d191_6, d191_7, d191_8, d191_9, d191_10, d191_11, d191_12, d191_13, d191_14, d191_15, d191_16, d191_18, d191_19, d191_23, d191_24, d191_27, d191_28, d191_29, d191_30, d191_31, d191_34, d191_35, d191_36, d191_37, d191_40, d191_41, d191_42, d191_45, d191_47, d191_48, d191_50, d191_51, d191_54, d191_55, d191_58, d191_60, d191_62, d191_63, d191_66, d191_69, d191_70, d191_73, d191_74, d191_76, d191_78, d191_79, d191_82, d191_83, d191_85, d191_87, d191_90, d191_92, d191_93, d191_94, d191_96, d191_98, d191_101, d191_102, d191_103, d191_106, d191_108, d191_110, d191_113, d191_114, d191_115, d191_116, d191_117, d191_118, d191_120, d191_122, d191_123, d191_126, d191_127, d191_128, d191_129, d191_131, d191_133, d191_134, d191_137, d191_139, d191_141, d191_144, d191_147, d191_148, d191_150, d191_151, d191_153, d191_155, d191_156, d191_159, d191_162, d191_163, d191_165, d191_167, d191_168, d191_171, d191_172, d191_175, d191_176, d191_178, d191_180, d191_181, d191_184, d191_187, d191_188, d191_189, d191_192, d191_193, d191_195, d191_198, d191_200, d191_202, d191_203, d191_205, d191_208, d191_211, d191_215, d191_217, d191_219, d191_220, d191_223, d191_224, d191_227, d191_229, d191_231, d191_232, d191_233, d191_236, d191_239, d191_240, d191_243, d191_245, d191_247, d191_248, d191_249, d191_250, d191_251, d191_254, d191_257, d191_259, d191_260, d191_263, d191_265, d191_267, d191_268, d191_269, d191_271, d191_274, d191_275, d191_278, d191_280, d191_281, d191_284, d191_287, d191_289, n_lt, n_le, n_eq, n_lt0, n_ge0, n_gt0, n_le0, n_eq0, m_lt, m_le, m_gt, m_ge, m_eq, m_eq', m_lt0, m_ge0, m_gt0, m_le0, m_ltm, m_lem, n_in, m_in, n_cl, n_ti, n_div, n_rem', n_dec, n_l, nI_add, pk_mul, an0, an1, decide_eq_true_eq, if_true, if_false, ite_true, ite_false, and_true, true_and, and_false, false_and, not_true, not_false_iff, or_false, false_or, or_true, true_or, eq_self, va_some, Bool.false_eq_true, reduceIte, catS_n, catS_i, catS_r, catS_l, catS_d, Nat.zero_add, Nat.add_zero, decide_true, decide_false, Nat.reduceLeDiff, cat_r, cat_i, cat_l, nle_T, nle_F, nlt_T, nlt_F, neq_T, neq_F, k0, p0, y1, this]
    done
  by_cases z : g top = 1
  · rw [if_pos z]
    dsimp only
    obtain ⟨I', b1, b2, b3⟩ := i191 (d := d - 1) (I := J1) (L := L) (C := C) (top := top) (n := n1) (y := y1') (u5 := .int (nI 1)) (u6 := v6) (u7 := v7) (u8 := v8) (u9 := v9) (u10 := v10) hM a1 a3 (by omega) a5
    refine ⟨I', b1, ⟨TV_g (fun k hk => couG_o (by omega)) a2, LV_cou a3, FV_g (fun k h h' => couG_o (by omega)) a4⟩, ⟨by omega, fun i hi => ?_⟩, fun k j h => by rw [b2 k j h, a12 k j h, xu_n _ _ (by omega)], fun Q => ?_⟩
    · rw [couG_o (by omega), ← h2 (124 + i) (by omega)]; exact a9 i hi
    · rw [← start, hX1, ex J1 g1 _ _ _ _ _ _ _ _ _ _ a1 (by rw [a8 top (by omega), e0]; omega) (by omega)]
      exact b3 Q
  · rw [if_neg z]
    have z2 : g top = 2 := by omega
    obtain ⟨J2, y2', w6, w7, w8, w9, w10, c1, ⟨⟨c2, c3, c4⟩, c5, c6, c7, c8, c9⟩, c10, c11, c12, hX2⟩ := g191 (d := d - 1) (I := J1) (L := L) (C := C) (top := top) (k := 0 + 1) (B := B + 1) (fd := fd1) (n := n1) (u6 := v6) (u7 := v7) (u8 := v8) (u9 := v9) (u10 := v10) hM a1 a2 a3 a4 (by omega) a10 (by omega) ht (by rw [a8 top (by omega), e0]; omega) a5 (by omega)
    generalize drw top (g1, gr1, fd1, n1) = s at c1 c2 c3 c4 c5 c6 c7 c8 c9 c10 c11 hX2 ⊢
    obtain ⟨g2, gr2, fd2, n2⟩ := s
    dsimp only at c1 c2 c3 c4 c5 c6 c7 c8 c9 c10 c11 hX2 ⊢
    obtain ⟨I', b1, b2, b3⟩ := i191 (d := d - 1) (I := J2) (L := L) (C := C) (top := top) (n := n2) (y := y2') (u5 := .int (nI (0 + 1 + 1))) (u6 := w6) (u7 := w7) (u8 := w8) (u9 := w9) (u10 := w10) hM c1 c3 (by omega) c5
    refine ⟨I', b1, ⟨TV_g (fun k hk => couG_o (by omega)) c2, LV_cou c3, FV_g (fun k h h' => couG_o (by omega)) c4⟩, ⟨by omega, fun i hi => ?_⟩, fun k j h => by rw [b2 k j h, c12 k j h, a12 k j h, xu_n _ _ (by omega)], fun Q => ?_⟩
    · have q1 := a9 i hi
      have q2 := c9 i hi
      rw [h2 (124 + i) (by omega)] at q1
      rw [couG_o (by omega)]
      omega
    · rw [← start, hX1, hX2, ex J2 g2 _ _ _ _ _ _ _ _ _ _ c1 (by rw [c8 top (by omega), a8 top (by omega), e0]; omega) (by omega)]
      exact b3 Q
