/-! WEIGH and PREPARE -/
theorem d66_0 : dec 66 0 = some (.iconst 2, 1, [2]) := rfl
theorem d66_1 : dec 66 1 = some (.istore 5, 2, []) := rfl
theorem d66_3 : dec 66 3 = some (.iload 5, 2, []) := rfl
theorem d66_5 : dec 66 5 = some (.iload_n 2, 1, []) := rfl
theorem d66_6 : dec 66 6 = some (.if_icmp .lt 154, 3, [160]) := rfl
theorem d66_9 : dec 66 9 = some (.iload 5, 2, []) := rfl
theorem d66_11 : dec 66 11 = some (.ifCond .lt 149, 3, [160]) := rfl
theorem d66_14 : dec 66 14 = some (.iload 5, 2, []) := rfl
theorem d66_16 : dec 66 16 = some (.iconst 0, 1, [0]) := rfl
theorem d66_17 : dec 66 17 = some (.invokestatic 42, 3, [2, 27, 0, 9, 1, 549, 0, 0]) := rfl
theorem d66_20 : dec 66 20 = some (.istore 6, 2, []) := rfl
theorem d66_22 : dec 66 22 = some (.bipush 18, 2, [18]) := rfl
theorem d66_24 : dec 66 24 = some (.iload 6, 2, []) := rfl
theorem d66_26 : dec 66 26 = some (.aload_n 1, 1, []) := rfl
theorem d66_27 : dec 66 27 = some (.getfield 46, 3, [1, 6, 0, 2, 1, 139]) := rfl
theorem d66_30 : dec 66 30 = some (.iload 5, 2, []) := rfl
theorem d66_32 : dec 66 32 = some (.invokevirtual 50, 3, [2, 25, 2, 7, 0, 550, 0]) := rfl
theorem d66_35 : dec 66 35 = some (.iadd, 1, []) := rfl
theorem d66_36 : dec 66 36 = some (.invokestatic 55, 3, [10, 551]) := rfl
theorem d66_39 : dec 66 39 = some (.istore 7, 2, []) := rfl
theorem d66_41 : dec 66 41 = some (.iconst 0, 1, [0]) := rfl
theorem d66_42 : dec 66 42 = some (.istore 8, 2, []) := rfl
theorem d66_44 : dec 66 44 = some (.iload 6, 2, []) := rfl
theorem d66_46 : dec 66 46 = some (.istore 9, 2, []) := rfl
theorem d66_48 : dec 66 48 = some (.iload 9, 2, []) := rfl
theorem d66_50 : dec 66 50 = some (.iload 7, 2, []) := rfl
theorem d66_52 : dec 66 52 = some (.if_icmp .ge 93, 3, [145]) := rfl
theorem d66_55 : dec 66 55 = some (.iload_n 3, 1, []) := rfl
theorem d66_56 : dec 66 56 = some (.aload_n 1, 1, []) := rfl
theorem d66_57 : dec 66 57 = some (.getfield 46, 3, [1, 6, 0, 2, 1, 139]) := rfl
theorem d66_60 : dec 66 60 = some (.iload 5, 2, []) := rfl
theorem d66_62 : dec 66 62 = some (.iload 9, 2, []) := rfl
theorem d66_64 : dec 66 64 = some (.invokevirtual 60, 3, [2, 67, 2, 7, 0, 552, 0, 0]) := rfl
theorem d66_67 : dec 66 67 = some (.iand, 1, []) := rfl
theorem d66_68 : dec 66 68 = some (.ifCond .ne 7, 3, [75]) := rfl
theorem d66_71 : dec 66 71 = some (.iconst 1, 1, [1]) := rfl
theorem d66_72 : dec 66 72 = some (.goto 4, 3, [76]) := rfl
theorem d66_75 : dec 66 75 = some (.iconst 0, 1, [0]) := rfl
theorem d66_76 : dec 66 76 = some (.istore 10, 2, []) := rfl
theorem d66_78 : dec 66 78 = some (.iload 10, 2, []) := rfl
theorem d66_80 : dec 66 80 = some (.ifCond .eq 22, 3, [102]) := rfl
theorem d66_83 : dec 66 83 = some (.aload_n 0, 1, []) := rfl
theorem d66_84 : dec 66 84 = some (.aload_n 1, 1, []) := rfl
theorem d66_85 : dec 66 85 = some (.getfield 46, 3, [1, 6, 0, 2, 1, 139]) := rfl
theorem d66_88 : dec 66 88 = some (.iload 9, 2, []) := rfl
theorem d66_90 : dec 66 90 = some (.iload 4, 2, []) := rfl
theorem d66_92 : dec 66 92 = some (.invokevirtual 63, 3, [2, 69, 2, 1, 0, 559, 0, 0, 2]) := rfl
theorem d66_95 : dec 66 95 = some (.ifCond .eq 7, 3, [102]) := rfl
theorem d66_98 : dec 66 98 = some (.iconst 1, 1, [1]) := rfl
theorem d66_99 : dec 66 99 = some (.goto 4, 3, [103]) := rfl
theorem d66_102 : dec 66 102 = some (.iconst 0, 1, [0]) := rfl
theorem d66_103 : dec 66 103 = some (.istore 11, 2, []) := rfl
theorem d66_105 : dec 66 105 = some (.aload_n 0, 1, []) := rfl
theorem d66_106 : dec 66 106 = some (.getfield 9, 3, [1, 1, 0, 2, 0, 208]) := rfl
theorem d66_109 : dec 66 109 = some (.iload 9, 2, []) := rfl
theorem d66_111 : dec 66 111 = some (.iload 11, 2, []) := rfl
theorem d66_113 : dec 66 113 = some (.ifCond .eq 12, 3, [125]) := rfl
theorem d66_116 : dec 66 116 = some (.aload_n 1, 1, []) := rfl
theorem d66_117 : dec 66 117 = some (.iload 9, 2, []) := rfl
theorem d66_119 : dec 66 119 = some (.invokevirtual 67, 3, [2, 71, 2, 6, 0, 573, 0]) := rfl
theorem d66_122 : dec 66 122 = some (.goto 4, 3, [126]) := rfl
theorem d66_125 : dec 66 125 = some (.iconst 0, 1, [0]) := rfl
theorem d66_126 : dec 66 126 = some (.iastore, 1, []) := rfl
theorem d66_127 : dec 66 127 = some (.iload 8, 2, []) := rfl
theorem d66_129 : dec 66 129 = some (.aload_n 0, 1, []) := rfl
theorem d66_130 : dec 66 130 = some (.getfield 9, 3, [1, 1, 0, 2, 0, 208]) := rfl
theorem d66_133 : dec 66 133 = some (.iload 9, 2, []) := rfl
theorem d66_135 : dec 66 135 = some (.iaload, 1, []) := rfl
theorem d66_136 : dec 66 136 = some (.iadd, 1, []) := rfl
theorem d66_137 : dec 66 137 = some (.istore 8, 2, []) := rfl
theorem d66_139 : dec 66 139 = some (.iinc 9 1, 3, [1]) := rfl
theorem d66_142 : dec 66 142 = some (.goto (-94), 3, [48]) := rfl
theorem d66_145 : dec 66 145 = some (.aload_n 0, 1, []) := rfl
theorem d66_146 : dec 66 146 = some (.getfield 15, 3, [1, 1, 1, 2, 0, 210]) := rfl
theorem d66_149 : dec 66 149 = some (.iload 5, 2, []) := rfl
theorem d66_151 : dec 66 151 = some (.iload 8, 2, []) := rfl
theorem d66_153 : dec 66 153 = some (.iastore, 1, []) := rfl
theorem d66_154 : dec 66 154 = some (.iinc 5 (-1), 3, [4294967295]) := rfl
theorem d66_157 : dec 66 157 = some (.goto (-154), 3, [3]) := rfl
theorem d66_160 : dec 66 160 = some (.return_, 1, []) := rfl
theorem l66 : mL 66 = 12 := rfl
/-- the places of one table are weighed -/
def wI (I : MI) (D : Nat) (g : GS) (q : Nat) (sp gr : SP) (t e : Nat) : MI := fun k j => if k = D + 1 ∧ 6 * t + e ≤ j ∧ j < 6 * t + g (3 + t) then nI (wt g q sp gr t (j - 6 * t)) else I k j
theorem f66 {d : Nat} {P : MP} {L : ML} {C : MC} {Q : QT} {D b t q : Nat} {x : Int32} {lo_ : Value} {g : GS} {sp gr : SP} (hD : DB P D) (hb : SB P b) (hv : TV g) (hl : LV g) (hx : CB g x sp gr) (hd : 4 ≤ d) (ht : t < 3) (hq : q ≤ 3) (hbD : b + 17 < D) : ∀ m e (I : MI) (u1 u2 : Value), e + m = g (3 + t) → RC I b g → (∀ t', t < t' → t' < 3 → I (D + 2) t' = nI (sw g q sp gr t')) → ∃ v1 v2, X d 66 48 [.ref D, .ref b, lo_, .int x, .int (nI q), .int (nI t), .int (nI (6 * t)), .int (nI (6 * t + g (3 + t))), .int (nI (sm e (wt g q sp gr t))), .int (nI (6 * t + e)), u1, u2] [] P I L C Q = X d 66 145 [.ref D, .ref b, lo_, .int x, .int (nI q), .int (nI t), .int (nI (6 * t)), .int (nI (6 * t + g (3 + t))), .int (nI (sw g q sp gr t)), .int (nI (6 * t + g (3 + t))), v1, v2] [] P (wI I D g q sp gr t e) L C Q := by
  have hD' := hD
  have hb' := hb
  obtain ⟨k0, p0, p1, z1, z2⟩ := hD'
  obtain ⟨l0, r0, r1, r2, hT, hK, hF⟩ := hb'
  have hT0 := hT.1.1
  have hc := hv.2.1 t ht
  intro m
  induction m with
  | zero =>
    intro e I u1 u2 h hg hs
    have he : e = g (3 + t) := by omega
    have hI : wI I D g q sp gr t e = I := by
      funext k j
      unfold wI
      rw [if_neg (by omega)]
    refine ⟨u1, u2, ?_⟩
    rw [X_go, d66_48, hI]
    subst he
    simp (disch := first | assumption | omega) only [Nat.reduceAdd, X_go, go2_some, stp, ldI, ldA, ldL, stI, stA, stL, o1I, o2I, o2L, brI, brII, gl, s1, s2, k1, sl, go_sN, go_sR, go_CT, go_sT, go_no, go_if, pops, bk_v, bk_0, d66_0, d66_1, d66_3, d66_5, d66_6, d66_9, d66_11, d66_14, d66_16, d66_17, d66_20, d66_22, d66_24, d66_26, d66_27, d66_30, d66_32, d66_35, d66_36, d66_39, d66_41, d66_42, d66_44, d66_46, d66_50, d66_52, d66_55, d66_56, d66_57, d66_60, d66_62, d66_64, d66_67, d66_68, d66_71, d66_72, d66_75, d66_76, d66_78, d66_80, d66_83, d66_84, d66_85, d66_88, d66_90, d66_92, d66_95, d66_98, d66_99, d66_102, d66_103, d66_105, d66_106, d66_109, d66_111, d66_113, d66_116, d66_117, d66_119, d66_122, d66_125, d66_126, d66_127, d66_129, d66_130, d66_133, d66_135, d66_136, d66_137, d66_139, d66_142, d66_146, d66_149, d66_151, d66_153, d66_154, d66_157, d66_160, n_lt, n_le, n_eq, n_lt0, n_ge0, n_gt0, n_le0, n_eq0, m_lt, m_le, m_gt, m_ge, m_eq, m_eq', m_lt0, m_ge0, m_gt0, m_le0, m_ltm, m_lem, n_in, m_in, n_cl, n_ti, n_div, n_rem', n_dec, n_l, nI_add, pk_mul, an0, an1, decide_eq_true_eq, if_true, if_false, ite_true, ite_false, and_true, true_and, and_false, false_and, not_true, not_false_iff, or_false, false_or, or_true, true_or, eq_self, va_some, Bool.false_eq_true, reduceIte, catS_n, catS_i, catS_r, catS_l, catS_d, Nat.zero_add, Nat.add_zero, decide_true, decide_false, Nat.reduceLeDiff, cat_r, cat_i, cat_l, nle_T, nle_F, nlt_T, nlt_F, neq_T, neq_F]
    simp only [← X_go]
    rfl
  | succ m ih =>
    intro e I u1 u2 h hg hs
    have he : e < g (3 + t) := by omega
    have hw : wt g q sp gr t e ≤ 102000 := wt_b hv hl ht he
    have hsm := sm_le (n := e) (b := 102000) (f := wt g q sp gr t) (fun i hi => wt_b hv hl ht (by omega))
    have hfre := CB_fre hv hx ht he
    have hstep : ∀ v1 v2, ∃ w1 w2, X d 66 48 [.ref D, .ref b, lo_, .int x, .int (nI q), .int (nI t), .int (nI (6 * t)), .int (nI (6 * t + g (3 + t))), .int (nI (sm (e + 1) (wt g q sp gr t))), .int (nI (6 * t + (e + 1))), v1, v2] [] P (xu I (D + 1) (6 * t + e) (nI (wt g q sp gr t e))) L C Q = X d 66 145 [.ref D, .ref b, lo_, .int x, .int (nI q), .int (nI t), .int (nI (6 * t)), .int (nI (6 * t + g (3 + t))), .int (nI (sw g q sp gr t)), .int (nI (6 * t + g (3 + t))), w1, w2] [] P (wI I D g q sp gr t e) L C Q := by
      intro v1 v2
      obtain ⟨w1, w2, hw⟩ := ih (e + 1) (xu I (D + 1) (6 * t + e) (nI (wt g q sp gr t e))) v1 v2 (by omega) (RC_fr hg fun k j _ _ => xu_n _ _ (by omega)) (fun t' h1 h2 => by rw [xu_n _ _ (by omega)]; exact hs t' h1 h2)
      refine ⟨w1, w2, hw.trans ?_⟩
      have hI : wI (xu I (D + 1) (6 * t + e) (nI (wt g q sp gr t e))) D g q sp gr t (e + 1) = wI I D g q sp gr t e := by
        funext k j
        unfold wI
        by_cases z : k = D + 1 ∧ j = 6 * t + e
        · obtain ⟨rfl, rfl⟩ := z
          rw [if_neg (by omega), if_pos (by omega), xu_s, show 6 * t + e - 6 * t = e by omega]
        · by_cases y : k = D + 1 ∧ 6 * t + (e + 1) ≤ j ∧ j < 6 * t + g (3 + t)
          · rw [if_pos y, if_pos (by omega)]
          · rw [if_neg y, if_neg (by omega), xu_n _ _ (by omega)]
      rw [hI]
    by_cases hf : fre g sp gr t e = true
    · by_cases hr : (if g (cl t e 0) < 16 then decide (q ≤ g (cl t e 2)) else has g q sp gr (g (cl t e 0) - 16)) = true
      · have hcan : can g q sp gr t e = true := by unfold can ca; rw [hf, hr]; rfl
        have hwt : wt g q sp gr t e = pw g t e := by unfold wt; rw [if_pos hcan]
        obtain ⟨w1, w2, hw2⟩ := hstep (.int (nI 1)) (.int (nI 1))
        refine ⟨w1, w2, ?_⟩
        rw [X_go, d66_48]
        rw [sm, hwt] at hw2
        rw [hwt] at hw
        simp (disch := first | assumption | omega) only [Nat.reduceAdd, X_go, go2_some, stp, ldI, ldA, ldL, stI, stA, stL, o1I, o2I, o2L, brI, brII, gl, s1, s2, k1, sl, go_sN, go_sR, go_CT, go_sT, go_no, go_if, pops, bk_v, bk_0, d66_0, d66_1, d66_3, d66_5, d66_6, d66_9, d66_11, d66_14, d66_16, d66_17, d66_20, d66_22, d66_24, d66_26, d66_27, d66_30, d66_32, d66_35, d66_36, d66_39, d66_41, d66_42, d66_44, d66_46, d66_50, d66_52, d66_55, d66_56, d66_57, d66_60, d66_62, d66_64, d66_67, d66_68, d66_71, d66_72, d66_75, d66_76, d66_78, d66_80, d66_83, d66_84, d66_85, d66_88, d66_90, d66_92, d66_95, d66_98, d66_99, d66_102, d66_103, d66_105, d66_106, d66_109, d66_111, d66_113, d66_116, d66_117, d66_119, d66_122, d66_125, d66_126, d66_127, d66_129, d66_130, d66_133, d66_135, d66_136, d66_137, d66_139, d66_142, d66_146, d66_149, d66_151, d66_153, d66_154, d66_157, d66_160, n_lt, n_le, n_eq, n_lt0, n_ge0, n_gt0, n_le0, n_eq0, m_lt, m_le, m_gt, m_ge, m_eq, m_eq', m_lt0, m_ge0, m_gt0, m_le0, m_ltm, m_lem, n_in, m_in, n_cl, n_ti, n_div, n_rem', n_dec, n_l, nI_add, pk_mul, an0, an1, decide_eq_true_eq, if_true, if_false, ite_true, ite_false, and_true, true_and, and_false, false_and, not_true, not_false_iff, or_false, false_or, or_true, true_or, eq_self, va_some, Bool.false_eq_true, reduceIte, catS_n, catS_i, catS_r, catS_l, catS_d, Nat.zero_add, Nat.add_zero, decide_true, decide_false, Nat.reduceLeDiff, cat_r, cat_i, cat_l, nle_T, nle_F, nlt_T, nlt_F, neq_T, neq_F, k0, p0, z1, l0, r0, hT0, c67 hT hg.1 hv, hfre, hf, c69 hD hT hg.1 hv hl hs, hr, c71 hb hg hv hl, xu_s]
        simp only [← X_go]
        exact hw2
      · have hcan : ¬ can g q sp gr t e = true := by unfold can ca; rw [hf, Bool.true_and]; exact hr
        have hwt : wt g q sp gr t e = 0 := by unfold wt; rw [if_neg hcan]
        obtain ⟨w1, w2, hw2⟩ := hstep (.int (nI 1)) (.int (nI 0))
        refine ⟨w1, w2, ?_⟩
        rw [X_go, d66_48]
        rw [sm, hwt, Nat.add_zero] at hw2
        simp (disch := first | assumption | omega) only [Nat.reduceAdd, X_go, go2_some, stp, ldI, ldA, ldL, stI, stA, stL, o1I, o2I, o2L, brI, brII, gl, s1, s2, k1, sl, go_sN, go_sR, go_CT, go_sT, go_no, go_if, pops, bk_v, bk_0, d66_0, d66_1, d66_3, d66_5, d66_6, d66_9, d66_11, d66_14, d66_16, d66_17, d66_20, d66_22, d66_24, d66_26, d66_27, d66_30, d66_32, d66_35, d66_36, d66_39, d66_41, d66_42, d66_44, d66_46, d66_50, d66_52, d66_55, d66_56, d66_57, d66_60, d66_62, d66_64, d66_67, d66_68, d66_71, d66_72, d66_75, d66_76, d66_78, d66_80, d66_83, d66_84, d66_85, d66_88, d66_90, d66_92, d66_95, d66_98, d66_99, d66_102, d66_103, d66_105, d66_106, d66_109, d66_111, d66_113, d66_116, d66_117, d66_119, d66_122, d66_125, d66_126, d66_127, d66_129, d66_130, d66_133, d66_135, d66_136, d66_137, d66_139, d66_142, d66_146, d66_149, d66_151, d66_153, d66_154, d66_157, d66_160, n_lt, n_le, n_eq, n_lt0, n_ge0, n_gt0, n_le0, n_eq0, m_lt, m_le, m_gt, m_ge, m_eq, m_eq', m_lt0, m_ge0, m_gt0, m_le0, m_ltm, m_lem, n_in, m_in, n_cl, n_ti, n_div, n_rem', n_dec, n_l, nI_add, pk_mul, an0, an1, decide_eq_true_eq, if_true, if_false, ite_true, ite_false, and_true, true_and, and_false, false_and, not_true, not_false_iff, or_false, false_or, or_true, true_or, eq_self, va_some, Bool.false_eq_true, reduceIte, catS_n, catS_i, catS_r, catS_l, catS_d, Nat.zero_add, Nat.add_zero, decide_true, decide_false, Nat.reduceLeDiff, cat_r, cat_i, cat_l, nle_T, nle_F, nlt_T, nlt_F, neq_T, neq_F, k0, p0, z1, l0, r0, hT0, c67 hT hg.1 hv, hfre, hf, c69 hD hT hg.1 hv hl hs, hr, xu_s]
        simp only [← X_go]
        exact hw2
    · have hcan : ¬ can g q sp gr t e = true := by unfold can ca; rw [Bool.not_eq_true] at hf; rw [hf]; exact Bool.false_ne_true
      have hwt : wt g q sp gr t e = 0 := by unfold wt; rw [if_neg hcan]
      obtain ⟨w1, w2, hw2⟩ := hstep (.int (nI 0)) (.int (nI 0))
      refine ⟨w1, w2, ?_⟩
      rw [X_go, d66_48]
      rw [sm, hwt, Nat.add_zero] at hw2
      simp (disch := first | assumption | omega) only [Nat.reduceAdd, X_go, go2_some, stp, ldI, ldA, ldL, stI, stA, stL, o1I, o2I, o2L, brI, brII, gl, s1, s2, k1, sl, go_sN, go_sR, go_CT, go_sT, go_no, go_if, pops, bk_v, bk_0, d66_0, d66_1, d66_3, d66_5, d66_6, d66_9, d66_11, d66_14, d66_16, d66_17, d66_20, d66_22, d66_24, d66_26, d66_27, d66_30, d66_32, d66_35, d66_36, d66_39, d66_41, d66_42, d66_44, d66_46, d66_50, d66_52, d66_55, d66_56, d66_57, d66_60, d66_62, d66_64, d66_67, d66_68, d66_71, d66_72, d66_75, d66_76, d66_78, d66_80, d66_83, d66_84, d66_85, d66_88, d66_90, d66_92, d66_95, d66_98, d66_99, d66_102, d66_103, d66_105, d66_106, d66_109, d66_111, d66_113, d66_116, d66_117, d66_119, d66_122, d66_125, d66_126, d66_127, d66_129, d66_130, d66_133, d66_135, d66_136, d66_137, d66_139, d66_142, d66_146, d66_149, d66_151, d66_153, d66_154, d66_157, d66_160, n_lt, n_le, n_eq, n_lt0, n_ge0, n_gt0, n_le0, n_eq0, m_lt, m_le, m_gt, m_ge, m_eq, m_eq', m_lt0, m_ge0, m_gt0, m_le0, m_ltm, m_lem, n_in, m_in, n_cl, n_ti, n_div, n_rem', n_dec, n_l, nI_add, pk_mul, an0, an1, decide_eq_true_eq, if_true, if_false, ite_true, ite_false, and_true, true_and, and_false, false_and, not_true, not_false_iff, or_false, false_or, or_true, true_or, eq_self, va_some, Bool.false_eq_true, reduceIte, catS_n, catS_i, catS_r, catS_l, catS_d, Nat.zero_add, Nat.add_zero, decide_true, decide_false, Nat.reduceLeDiff, cat_r, cat_i, cat_l, nle_T, nle_F, nlt_T, nlt_F, neq_T, neq_F, k0, p0, z1, l0, r0, hT0, c67 hT hg.1 hv, hfre, hf, xu_s]
      simp only [← X_go]
      exact hw2
/-- one table weighed -/
def wM1 (I : MI) (D : Nat) (g : GS) (q : Nat) (sp gr : SP) (t : Nat) : MI := xu (wI I D g q sp gr t 0) (D + 2) t (nI (sw g q sp gr t))
theorem wM1_n {I : MI} {D : Nat} {g : GS} {q : Nat} {sp gr : SP} {t k j : Nat} (h : k ≠ D + 1) (h2 : k ≠ D + 2 ∨ j ≠ t) : wM1 I D g q sp gr t k j = I k j := by
  unfold wM1
  rw [xu_n _ _ h2]
  unfold wI
  rw [if_neg (by omega)]
theorem wM1_s {I : MI} {D : Nat} {g : GS} {q : Nat} {sp gr : SP} {t : Nat} : wM1 I D g q sp gr t (D + 2) t = nI (sw g q sp gr t) := xu_s _ _ _ _
theorem wM1_w {I : MI} {D : Nat} {g : GS} {q : Nat} {sp gr : SP} {t e : Nat} (he : e < g (3 + t)) : wM1 I D g q sp gr t (D + 1) (6 * t + e) = nI (wt g q sp gr t e) := by
  unfold wM1
  rw [xu_n _ _ (by omega)]
  unfold wI
  rw [if_pos (by omega), show 6 * t + e - 6 * t = e by omega]
theorem wM1_o {I : MI} {D : Nat} {g : GS} {q : Nat} {sp gr : SP} {t t' e : Nat} (hc : g (3 + t) ≤ 6) (he : e < 6) (h : t' ≠ t) : wM1 I D g q sp gr t (D + 1) (6 * t' + e) = I (D + 1) (6 * t' + e) := by
  unfold wM1
  rw [xu_n _ _ (by omega)]
  unfold wI
  rw [if_neg (by omega)]
theorem g66 {d : Nat} {P : MP} {I : MI} {L : ML} {C : MC} {Q : QT} {D b t q lo : Nat} {x : Int32} {g : GS} {sp gr : SP} {u1 u2 u3 u4 u5 u6 : Value} (hD : DB P D) (hb : SB P b) (hg : RC I b g) (hv : TV g) (hl : LV g) (hx : CB g x sp gr) (hs : ∀ t', t < t' → t' < 3 → I (D + 2) t' = nI (sw g q sp gr t')) (hd : 4 ≤ d) (ht : t < 3) (hlo : lo ≤ t) (hq : q ≤ 3) (hbD : b + 17 < D) : ∃ v1 v2 v3 v4 v5 v6, X d 66 3 [.ref D, .ref b, .int (nI lo), .int x, .int (nI q), .int (nI t), u1, u2, u3, u4, u5, u6] [] P I L C Q = X d 66 3 [.ref D, .ref b, .int (nI lo), .int x, .int (nI q), .int (nI (t + 4294967295)), v1, v2, v3, v4, v5, v6] [] P (wM1 I D g q sp gr t) L C Q := by
  have hD' := hD
  have hb' := hb
  obtain ⟨k0, p0, p1, z1, z2⟩ := hD'
  obtain ⟨l0, r0, r1, r2, hT, hK, hF⟩ := hb'
  have hT0 := hT.1.1
  have hc := hv.2.1 t ht
  have hsw := sw_b (q := q) (sp := sp) (gr := gr) hv hl ht
  obtain ⟨v1, v2, e⟩ := f66 (lo_ := .int (nI lo)) (d := d) (P := P) (L := L) (C := C) (Q := Q) (q := q) hD hb hv hl hx hd ht hq hbD (g (3 + t)) 0 I u5 u6 (by omega) hg hs
  have hmin : (if 6 * t + g (3 + t) < 18 then nI (6 * t + g (3 + t)) else nI 18) = nI (6 * t + g (3 + t)) := by
    split
    · rfl
    · exact congrArg nI (by omega)
  refine ⟨.int (nI (6 * t)), .int (nI (6 * t + g (3 + t))), .int (nI (sw g q sp gr t)), .int (nI (6 * t + g (3 + t))), v1, v2, ?_⟩
  rw [X_go, d66_3]
  simp (disch := first | assumption | omega) only [Nat.reduceAdd, X_go, go2_some, stp, ldI, ldA, ldL, stI, stA, stL, o1I, o2I, o2L, brI, brII, gl, s1, s2, k1, sl, go_sN, go_sR, go_CT, go_sT, go_no, go_if, pops, bk_v, bk_0, d66_0, d66_1, d66_5, d66_6, d66_9, d66_11, d66_14, d66_16, d66_17, d66_20, d66_22, d66_24, d66_26, d66_27, d66_30, d66_32, d66_35, d66_36, d66_39, d66_41, d66_42, d66_44, d66_46, d66_50, d66_52, d66_55, d66_56, d66_57, d66_60, d66_62, d66_64, d66_67, d66_68, d66_71, d66_72, d66_75, d66_76, d66_78, d66_80, d66_83, d66_84, d66_85, d66_88, d66_90, d66_92, d66_95, d66_98, d66_99, d66_102, d66_103, d66_105, d66_106, d66_109, d66_111, d66_113, d66_116, d66_117, d66_119, d66_122, d66_125, d66_126, d66_127, d66_129, d66_130, d66_133, d66_135, d66_136, d66_137, d66_139, d66_142, d66_145, d66_146, d66_149, d66_151, d66_153, d66_154, d66_157, d66_160, n_lt, n_le, n_eq, n_lt0, n_ge0, n_gt0, n_le0, n_eq0, m_lt, m_le, m_gt, m_ge, m_eq, m_eq', m_lt0, m_ge0, m_gt0, m_le0, m_ltm, m_lem, n_in, m_in, n_cl, n_ti, n_div, n_rem', n_dec, n_l, nI_add, pk_mul, an0, an1, decide_eq_true_eq, if_true, if_false, ite_true, ite_false, and_true, true_and, and_false, false_and, not_true, not_false_iff, or_false, false_or, or_true, true_or, eq_self, va_some, Bool.false_eq_true, reduceIte, catS_n, catS_i, catS_r, catS_l, catS_d, Nat.zero_add, Nat.add_zero, decide_true, decide_false, Nat.reduceLeDiff, cat_r, cat_i, cat_l, nle_T, nle_F, nlt_T, nlt_F, neq_T, neq_F, k0, p0, z1, l0, r0, hT0, c27, c25g hT hg.1, hmin]
  simp only [← X_go]
  have h0 : nI (sm 0 (wt g q sp gr t)) = nI 0 := rfl
  rw [h0] at e
  simp only [Nat.add_zero] at e
  rw [e, X_go]
  simp (disch := first | assumption | omega) only [Nat.reduceAdd, X_go, go2_some, stp, ldI, ldA, ldL, stI, stA, stL, o1I, o2I, o2L, brI, brII, gl, s1, s2, k1, sl, go_sN, go_sR, go_CT, go_sT, go_no, go_if, pops, bk_v, bk_0, d66_0, d66_1, d66_5, d66_6, d66_9, d66_11, d66_14, d66_16, d66_17, d66_20, d66_22, d66_24, d66_26, d66_27, d66_30, d66_32, d66_35, d66_36, d66_39, d66_41, d66_42, d66_44, d66_46, d66_50, d66_52, d66_55, d66_56, d66_57, d66_60, d66_62, d66_64, d66_67, d66_68, d66_71, d66_72, d66_75, d66_76, d66_78, d66_80, d66_83, d66_84, d66_85, d66_88, d66_90, d66_92, d66_95, d66_98, d66_99, d66_102, d66_103, d66_105, d66_106, d66_109, d66_111, d66_113, d66_116, d66_117, d66_119, d66_122, d66_125, d66_126, d66_127, d66_129, d66_130, d66_133, d66_135, d66_136, d66_137, d66_139, d66_142, d66_145, d66_146, d66_149, d66_151, d66_153, d66_154, d66_157, d66_160, n_lt, n_le, n_eq, n_lt0, n_ge0, n_gt0, n_le0, n_eq0, m_lt, m_le, m_gt, m_ge, m_eq, m_eq', m_lt0, m_ge0, m_gt0, m_le0, m_ltm, m_lem, n_in, m_in, n_cl, n_ti, n_div, n_rem', n_dec, n_l, nI_add, pk_mul, an0, an1, decide_eq_true_eq, if_true, if_false, ite_true, ite_false, and_true, true_and, and_false, false_and, not_true, not_false_iff, or_false, false_or, or_true, true_or, eq_self, va_some, Bool.false_eq_true, reduceIte, catS_n, catS_i, catS_r, catS_l, catS_d, Nat.zero_add, Nat.add_zero, decide_true, decide_false, Nat.reduceLeDiff, cat_r, cat_i, cat_l, nle_T, nle_F, nlt_T, nlt_F, neq_T, neq_F, k0, p1, z2]
  simp only [← X_go]
  rfl
/-- all tables from the lowest on -/
def wM (I : MI) (D : Nat) (g : GS) (q : Nat) (sp gr : SP) (lo : Nat) : MI := match lo with
  | 0 => wM1 (wM1 (wM1 I D g q sp gr 2) D g q sp gr 1) D g q sp gr 0
  | 1 => wM1 (wM1 I D g q sp gr 2) D g q sp gr 1
  | _ => wM1 I D g q sp gr 2
theorem wM_n {I : MI} {D : Nat} {g : GS} {q : Nat} {sp gr : SP} {lo k j : Nat} (h : k ≠ D + 1) (h2 : k ≠ D + 2) : wM I D g q sp gr lo k j = I k j := by
  unfold wM
  split <;> simp only [wM1_n h (.inl h2)]
theorem wM_s {I : MI} {D : Nat} {g : GS} {q : Nat} {sp gr : SP} {lo t : Nat} (h : lo ≤ t) (ht : t < 3) : wM I D g q sp gr lo (D + 2) t = nI (sw g q sp gr t) := by
  have e0 : t = 0 ∨ t = 1 ∨ t = 2 := by omega
  unfold wM
  split
  · rcases e0 with rfl | rfl | rfl <;> simp (disch := omega) only [wM1_s, wM1_n]
  · rcases e0 with rfl | rfl | rfl
    · omega
    · simp (disch := omega) only [wM1_s, wM1_n]
    · simp (disch := omega) only [wM1_s, wM1_n]
  · rename_i n0 n1
    have : t = 2 := by
      have : lo ≠ 0 := fun z => n0 z
      have : lo ≠ 1 := fun z => n1 z
      omega
    subst this
    exact wM1_s
theorem wM_w {I : MI} {D : Nat} {g : GS} {q : Nat} {sp gr : SP} {lo t e : Nat} (hv : TV g) (h : lo ≤ t) (ht : t < 3) (he : e < g (3 + t)) : wM I D g q sp gr lo (D + 1) (6 * t + e) = nI (wt g q sp gr t e) := by
  have hc := hv.2.1 t ht
  have c0 := hv.2.1 0 (by omega)
  have c1 := hv.2.1 1 (by omega)
  have e0 : t = 0 ∨ t = 1 ∨ t = 2 := by omega
  unfold wM
  split
  · rcases e0 with rfl | rfl | rfl
    · exact wM1_w he
    · rw [wM1_o c0 (by omega) (by omega)]; exact wM1_w he
    · rw [wM1_o c0 (by omega) (by omega), wM1_o c1 (by omega) (by omega)]; exact wM1_w he
  · rcases e0 with rfl | rfl | rfl
    · omega
    · exact wM1_w he
    · rw [wM1_o c1 (by omega) (by omega)]; exact wM1_w he
  · rename_i n0 n1
    have : t = 2 := by
      have : lo ≠ 0 := fun z => n0 z
      have : lo ≠ 1 := fun z => n1 z
      omega
    subst this
    exact wM1_w he
theorem c66 {d : Nat} {P : MP} {I : MI} {L : ML} {C : MC} {Q : QT} {D b q lo : Nat} {x : Int32} {g : GS} {sp gr : SP} (hD : DB P D) (hb : SB P b) (hg : RC I b g) (hv : TV g) (hl : LV g) (hx : CB g x sp gr) (hbD : b + 17 < D) (hd : 5 ≤ d) (hlo : lo < 3) (hq : q ≤ 3) : CT d 66 [.ref D, .ref b, .int (nI lo), .int x, .int (nI q)] P I L C Q = Q (.inl none) P (wM I D g q sp gr lo) L C := by
  rw [CT_e (mj := 66) (e := [.ref D, .ref b, .int (nI lo), .int x, .int (nI q), UN, UN, UN, UN, UN, UN, UN]) (by omega) rfl (Nat.le_of_ble_eq_true rfl)]
  have i2 : RC (wM1 I D g q sp gr 2) b g := RC_fr hg fun k j _ _ => wM1_n (by omega) (by omega)
  have i1 : RC (wM1 (wM1 I D g q sp gr 2) D g q sp gr 1) b g := RC_fr i2 fun k j _ _ => wM1_n (by omega) (by omega)
  simp (disch := first | assumption | omega) only [Nat.reduceAdd, X_go, go2_some, stp, ldI, ldA, ldL, stI, stA, stL, o1I, o2I, o2L, brI, brII, gl, s1, s2, k1, sl, go_sN, go_sR, go_CT, go_sT, go_no, go_if, pops, bk_v, bk_0, d66_0, d66_1, d66_5, d66_6, d66_9, d66_11, d66_14, d66_16, d66_17, d66_20, d66_22, d66_24, d66_26, d66_27, d66_30, d66_32, d66_35, d66_36, d66_39, d66_41, d66_42, d66_44, d66_46, d66_50, d66_52, d66_55, d66_56, d66_57, d66_60, d66_62, d66_64, d66_67, d66_68, d66_71, d66_72, d66_75, d66_76, d66_78, d66_80, d66_83, d66_84, d66_85, d66_88, d66_90, d66_92, d66_95, d66_98, d66_99, d66_102, d66_103, d66_105, d66_106, d66_109, d66_111, d66_113, d66_116, d66_117, d66_119, d66_122, d66_125, d66_126, d66_127, d66_129, d66_130, d66_133, d66_135, d66_136, d66_137, d66_139, d66_142, d66_145, d66_146, d66_149, d66_151, d66_153, d66_154, d66_157, d66_160, n_lt, n_le, n_eq, n_lt0, n_ge0, n_gt0, n_le0, n_eq0, m_lt, m_le, m_gt, m_ge, m_eq, m_eq', m_lt0, m_ge0, m_gt0, m_le0, m_ltm, m_lem, n_in, m_in, n_cl, n_ti, n_div, n_rem', n_dec, n_l, nI_add, pk_mul, an0, an1, decide_eq_true_eq, if_true, if_false, ite_true, ite_false, and_true, true_and, and_false, false_and, not_true, not_false_iff, or_false, false_or, or_true, true_or, eq_self, va_some, Bool.false_eq_true, reduceIte, catS_n, catS_i, catS_r, catS_l, catS_d, Nat.zero_add, Nat.add_zero, decide_true, decide_false, Nat.reduceLeDiff, cat_r, cat_i, cat_l, nle_T, nle_F, nlt_T, nlt_F, neq_T, neq_F]
  simp only [← X_go]
  obtain ⟨v1, v2, v3, v4, v5, v6, e⟩ := g66 (d := d - 1) (L := L) (C := C) (Q := Q) (t := 2) (u1 := UN) (u2 := UN) (u3 := UN) (u4 := UN) (u5 := UN) (u6 := UN) hD hb hg hv hl hx (fun t' h1 h2 => absurd h1 (by omega)) (by omega) (by omega) (by omega : lo ≤ 2) hq hbD
  rw [e, n_dec (by omega)]
  have e0 : lo = 0 ∨ lo = 1 ∨ lo = 2 := by omega
  rcases e0 with rfl | rfl | rfl
  · obtain ⟨w1, w2, w3, w4, w5, w6, e⟩ := g66 (d := d - 1) (L := L) (C := C) (Q := Q) (t := 1) (u1 := v1) (u2 := v2) (u3 := v3) (u4 := v4) (u5 := v5) (u6 := v6) hD hb i2 hv hl hx (fun t' h1 h2 => by rw [show t' = 2 by omega]; exact wM1_s) (by omega) (by omega) (by omega : 0 ≤ 1) hq hbD
    rw [e, n_dec (by omega)]
    obtain ⟨z1, z2, z3, z4, z5, z6, e⟩ := g66 (d := d - 1) (L := L) (C := C) (Q := Q) (t := 0) (u1 := w1) (u2 := w2) (u3 := w3) (u4 := w4) (u5 := w5) (u6 := w6) hD hb i1 hv hl hx (fun t' h1 h2 => by
      have : t' = 1 ∨ t' = 2 := by omega
      rcases this with rfl | rfl <;> simp (disch := omega) only [wM1_s, wM1_n]) (by omega) (by omega) (by omega : 0 ≤ 0) hq hbD
    rw [e, X_go, d66_3]
    simp (disch := first | assumption | omega) only [Nat.reduceAdd, X_go, go2_some, stp, ldI, ldA, ldL, stI, stA, stL, o1I, o2I, o2L, brI, brII, gl, s1, s2, k1, sl, go_sN, go_sR, go_CT, go_sT, go_no, go_if, pops, bk_v, bk_0, d66_0, d66_1, d66_5, d66_6, d66_9, d66_11, d66_14, d66_16, d66_17, d66_20, d66_22, d66_24, d66_26, d66_27, d66_30, d66_32, d66_35, d66_36, d66_39, d66_41, d66_42, d66_44, d66_46, d66_50, d66_52, d66_55, d66_56, d66_57, d66_60, d66_62, d66_64, d66_67, d66_68, d66_71, d66_72, d66_75, d66_76, d66_78, d66_80, d66_83, d66_84, d66_85, d66_88, d66_90, d66_92, d66_95, d66_98, d66_99, d66_102, d66_103, d66_105, d66_106, d66_109, d66_111, d66_113, d66_116, d66_117, d66_119, d66_122, d66_125, d66_126, d66_127, d66_129, d66_130, d66_133, d66_135, d66_136, d66_137, d66_139, d66_142, d66_145, d66_146, d66_149, d66_151, d66_153, d66_154, d66_157, d66_160, n_lt, n_le, n_eq, n_lt0, n_ge0, n_gt0, n_le0, n_eq0, m_lt, m_le, m_gt, m_ge, m_eq, m_eq', m_lt0, m_ge0, m_gt0, m_le0, m_ltm, m_lem, n_in, m_in, n_cl, n_ti, n_div, n_rem', n_dec, n_l, nI_add, pk_mul, an0, an1, decide_eq_true_eq, if_true, if_false, ite_true, ite_false, and_true, true_and, and_false, false_and, not_true, not_false_iff, or_false, false_or, or_true, true_or, eq_self, va_some, Bool.false_eq_true, reduceIte, catS_n, catS_i, catS_r, catS_l, catS_d, Nat.zero_add, Nat.add_zero, decide_true, decide_false, Nat.reduceLeDiff, cat_r, cat_i, cat_l, nle_T, nle_F, nlt_T, nlt_F, neq_T, neq_F]
    rfl
  · obtain ⟨w1, w2, w3, w4, w5, w6, e⟩ := g66 (d := d - 1) (L := L) (C := C) (Q := Q) (t := 1) (u1 := v1) (u2 := v2) (u3 := v3) (u4 := v4) (u5 := v5) (u6 := v6) hD hb i2 hv hl hx (fun t' h1 h2 => by rw [show t' = 2 by omega]; exact wM1_s) (by omega) (by omega) (by omega : 1 ≤ 1) hq hbD
    rw [e, n_dec (by omega), X_go, d66_3]
    simp (disch := first | assumption | omega) only [Nat.reduceAdd, X_go, go2_some, stp, ldI, ldA, ldL, stI, stA, stL, o1I, o2I, o2L, brI, brII, gl, s1, s2, k1, sl, go_sN, go_sR, go_CT, go_sT, go_no, go_if, pops, bk_v, bk_0, d66_0, d66_1, d66_5, d66_6, d66_9, d66_11, d66_14, d66_16, d66_17, d66_20, d66_22, d66_24, d66_26, d66_27, d66_30, d66_32, d66_35, d66_36, d66_39, d66_41, d66_42, d66_44, d66_46, d66_50, d66_52, d66_55, d66_56, d66_57, d66_60, d66_62, d66_64, d66_67, d66_68, d66_71, d66_72, d66_75, d66_76, d66_78, d66_80, d66_83, d66_84, d66_85, d66_88, d66_90, d66_92, d66_95, d66_98, d66_99, d66_102, d66_103, d66_105, d66_106, d66_109, d66_111, d66_113, d66_116, d66_117, d66_119, d66_122, d66_125, d66_126, d66_127, d66_129, d66_130, d66_133, d66_135, d66_136, d66_137, d66_139, d66_142, d66_145, d66_146, d66_149, d66_151, d66_153, d66_154, d66_157, d66_160, n_lt, n_le, n_eq, n_lt0, n_ge0, n_gt0, n_le0, n_eq0, m_lt, m_le, m_gt, m_ge, m_eq, m_eq', m_lt0, m_ge0, m_gt0, m_le0, m_ltm, m_lem, n_in, m_in, n_cl, n_ti, n_div, n_rem', n_dec, n_l, nI_add, pk_mul, an0, an1, decide_eq_true_eq, if_true, if_false, ite_true, ite_false, and_true, true_and, and_false, false_and, not_true, not_false_iff, or_false, false_or, or_true, true_or, eq_self, va_some, Bool.false_eq_true, reduceIte, catS_n, catS_i, catS_r, catS_l, catS_d, Nat.zero_add, Nat.add_zero, decide_true, decide_false, Nat.reduceLeDiff, cat_r, cat_i, cat_l, nle_T, nle_F, nlt_T, nlt_F, neq_T, neq_F]
    rfl
  · rw [X_go, d66_3]
    simp (disch := first | assumption | omega) only [Nat.reduceAdd, X_go, go2_some, stp, ldI, ldA, ldL, stI, stA, stL, o1I, o2I, o2L, brI, brII, gl, s1, s2, k1, sl, go_sN, go_sR, go_CT, go_sT, go_no, go_if, pops, bk_v, bk_0, d66_0, d66_1, d66_5, d66_6, d66_9, d66_11, d66_14, d66_16, d66_17, d66_20, d66_22, d66_24, d66_26, d66_27, d66_30, d66_32, d66_35, d66_36, d66_39, d66_41, d66_42, d66_44, d66_46, d66_50, d66_52, d66_55, d66_56, d66_57, d66_60, d66_62, d66_64, d66_67, d66_68, d66_71, d66_72, d66_75, d66_76, d66_78, d66_80, d66_83, d66_84, d66_85, d66_88, d66_90, d66_92, d66_95, d66_98, d66_99, d66_102, d66_103, d66_105, d66_106, d66_109, d66_111, d66_113, d66_116, d66_117, d66_119, d66_122, d66_125, d66_126, d66_127, d66_129, d66_130, d66_133, d66_135, d66_136, d66_137, d66_139, d66_142, d66_145, d66_146, d66_149, d66_151, d66_153, d66_154, d66_157, d66_160, n_lt, n_le, n_eq, n_lt0, n_ge0, n_gt0, n_le0, n_eq0, m_lt, m_le, m_gt, m_ge, m_eq, m_eq', m_lt0, m_ge0, m_gt0, m_le0, m_ltm, m_lem, n_in, m_in, n_cl, n_ti, n_div, n_rem', n_dec, n_l, nI_add, pk_mul, an0, an1, decide_eq_true_eq, if_true, if_false, ite_true, ite_false, and_true, true_and, and_false, false_and, not_true, not_false_iff, or_false, false_or, or_true, true_or, eq_self, va_some, Bool.false_eq_true, reduceIte, catS_n, catS_i, catS_r, catS_l, catS_d, Nat.zero_add, Nat.add_zero, decide_true, decide_false, Nat.reduceLeDiff, cat_r, cat_i, cat_l, nle_T, nle_F, nlt_T, nlt_F, neq_T, neq_F]
    rfl
