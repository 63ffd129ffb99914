/-! THE MODEL: what can be drawn, what is wanted -/
def dn (t e i : Nat) : Bool := decide (6 * t + 6 ≤ i ∧ i < 18 ∨ 6 * t ≤ i ∧ i < 6 * t + e)
theorem d176_0 : dec 176 0 = some (.iconst 0, 1, [0]) := rfl
theorem d176_1 : dec 176 1 = some (.istore 4, 2, []) := rfl
theorem d176_3 : dec 176 3 = some (.iconst 2, 1, [2]) := rfl
theorem d176_4 : dec 176 4 = some (.istore 5, 2, []) := rfl
theorem d176_6 : dec 176 6 = some (.iload 5, 2, []) := rfl
theorem d176_8 : dec 176 8 = some (.ifCond .lt 179, 3, [187]) := rfl
theorem d176_11 : dec 176 11 = some (.iconst 0, 1, [0]) := rfl
theorem d176_12 : dec 176 12 = some (.istore 6, 2, []) := rfl
theorem d176_14 : dec 176 14 = some (.iload 6, 2, []) := rfl
theorem d176_16 : dec 176 16 = some (.aload_n 0, 1, []) := rfl
theorem d176_17 : dec 176 17 = some (.getfield 7, 3, [1, 10, 0, 2, 0, 994]) := rfl
theorem d176_20 : dec 176 20 = some (.iconst 3, 1, [3]) := rfl
theorem d176_21 : dec 176 21 = some (.iload 5, 2, []) := rfl
theorem d176_23 : dec 176 23 = some (.iadd, 1, []) := rfl
theorem d176_24 : dec 176 24 = some (.iaload, 1, []) := rfl
theorem d176_25 : dec 176 25 = some (.if_icmp .ge 156, 3, [181]) := rfl
theorem d176_28 : dec 176 28 = some (.aload_n 0, 1, []) := rfl
theorem d176_29 : dec 176 29 = some (.iload 5, 2, []) := rfl
theorem d176_31 : dec 176 31 = some (.iload 6, 2, []) := rfl
theorem d176_33 : dec 176 33 = some (.iconst 3, 1, [3]) := rfl
theorem d176_34 : dec 176 34 = some (.invokevirtual 107, 3, [2, 167, 2, 10, 0, 1131, 0, 0, 0]) := rfl
theorem d176_37 : dec 176 37 = some (.istore 7, 2, []) := rfl
theorem d176_39 : dec 176 39 = some (.aload_n 0, 1, []) := rfl
theorem d176_40 : dec 176 40 = some (.iload 5, 2, []) := rfl
theorem d176_42 : dec 176 42 = some (.iload 6, 2, []) := rfl
theorem d176_44 : dec 176 44 = some (.iconst 0, 1, [0]) := rfl
theorem d176_45 : dec 176 45 = some (.invokevirtual 107, 3, [2, 167, 2, 10, 0, 1131, 0, 0, 0]) := rfl
theorem d176_48 : dec 176 48 = some (.istore 8, 2, []) := rfl
theorem d176_50 : dec 176 50 = some (.iload_n 2, 1, []) := rfl
theorem d176_51 : dec 176 51 = some (.bipush 6, 2, [6]) := rfl
theorem d176_53 : dec 176 53 = some (.iload 5, 2, []) := rfl
theorem d176_55 : dec 176 55 = some (.imul, 1, []) := rfl
theorem d176_56 : dec 176 56 = some (.iload 6, 2, []) := rfl
theorem d176_58 : dec 176 58 = some (.iadd, 1, []) := rfl
theorem d176_59 : dec 176 59 = some (.ishr, 1, []) := rfl
theorem d176_60 : dec 176 60 = some (.iconst 1, 1, [1]) := rfl
theorem d176_61 : dec 176 61 = some (.iand, 1, []) := rfl
theorem d176_62 : dec 176 62 = some (.ifCond .ne 28, 3, [90]) := rfl
theorem d176_65 : dec 176 65 = some (.iload 7, 2, []) := rfl
theorem d176_67 : dec 176 67 = some (.ifCond .eq 19, 3, [86]) := rfl
theorem d176_70 : dec 176 70 = some (.iload_n 3, 1, []) := rfl
theorem d176_71 : dec 176 71 = some (.iconst 3, 1, [3]) := rfl
theorem d176_72 : dec 176 72 = some (.iload 5, 2, []) := rfl
theorem d176_74 : dec 176 74 = some (.imul, 1, []) := rfl
theorem d176_75 : dec 176 75 = some (.iload 7, 2, []) := rfl
theorem d176_77 : dec 176 77 = some (.iadd, 1, []) := rfl
theorem d176_78 : dec 176 78 = some (.iconst 1, 1, [1]) := rfl
theorem d176_79 : dec 176 79 = some (.isub, 1, []) := rfl
theorem d176_80 : dec 176 80 = some (.ishr, 1, []) := rfl
theorem d176_81 : dec 176 81 = some (.iconst 1, 1, [1]) := rfl
theorem d176_82 : dec 176 82 = some (.iand, 1, []) := rfl
theorem d176_83 : dec 176 83 = some (.ifCond .ne 7, 3, [90]) := rfl
theorem d176_86 : dec 176 86 = some (.iconst 1, 1, [1]) := rfl
theorem d176_87 : dec 176 87 = some (.goto 4, 3, [91]) := rfl
theorem d176_90 : dec 176 90 = some (.iconst 0, 1, [0]) := rfl
theorem d176_91 : dec 176 91 = some (.istore 9, 2, []) := rfl
theorem d176_93 : dec 176 93 = some (.iload 8, 2, []) := rfl
theorem d176_95 : dec 176 95 = some (.invokestatic 90, 3, [2, 160, 0, 10, 0, 1106, 0]) := rfl
theorem d176_98 : dec 176 98 = some (.ifCond .eq 24, 3, [122]) := rfl
theorem d176_101 : dec 176 101 = some (.aload_n 0, 1, []) := rfl
theorem d176_102 : dec 176 102 = some (.iload 5, 2, []) := rfl
theorem d176_104 : dec 176 104 = some (.iload 6, 2, []) := rfl
theorem d176_106 : dec 176 106 = some (.iconst 2, 1, [2]) := rfl
theorem d176_107 : dec 176 107 = some (.invokevirtual 107, 3, [2, 167, 2, 10, 0, 1131, 0, 0, 0]) := rfl
theorem d176_110 : dec 176 110 = some (.iload_n 1, 1, []) := rfl
theorem d176_111 : dec 176 111 = some (.if_icmp .lt 7, 3, [118]) := rfl
theorem d176_114 : dec 176 114 = some (.iconst 1, 1, [1]) := rfl
theorem d176_115 : dec 176 115 = some (.goto 29, 3, [144]) := rfl
theorem d176_118 : dec 176 118 = some (.iconst 0, 1, [0]) := rfl
theorem d176_119 : dec 176 119 = some (.goto 25, 3, [144]) := rfl
theorem d176_122 : dec 176 122 = some (.iload 4, 2, []) := rfl
theorem d176_124 : dec 176 124 = some (.bipush 6, 2, [6]) := rfl
theorem d176_126 : dec 176 126 = some (.iload 8, 2, []) := rfl
theorem d176_128 : dec 176 128 = some (.bipush 16, 2, [16]) := rfl
theorem d176_130 : dec 176 130 = some (.isub, 1, []) := rfl
theorem d176_131 : dec 176 131 = some (.imul, 1, []) := rfl
theorem d176_132 : dec 176 132 = some (.ishr, 1, []) := rfl
theorem d176_133 : dec 176 133 = some (.bipush 63, 2, [63]) := rfl
theorem d176_135 : dec 176 135 = some (.iand, 1, []) := rfl
theorem d176_136 : dec 176 136 = some (.ifCond .eq 7, 3, [143]) := rfl
theorem d176_139 : dec 176 139 = some (.iconst 1, 1, [1]) := rfl
theorem d176_140 : dec 176 140 = some (.goto 4, 3, [144]) := rfl
theorem d176_143 : dec 176 143 = some (.iconst 0, 1, [0]) := rfl
theorem d176_144 : dec 176 144 = some (.istore 10, 2, []) := rfl
theorem d176_146 : dec 176 146 = some (.iload 4, 2, []) := rfl
theorem d176_148 : dec 176 148 = some (.iload 9, 2, []) := rfl
theorem d176_150 : dec 176 150 = some (.ifCond .eq 21, 3, [171]) := rfl
theorem d176_153 : dec 176 153 = some (.iload 10, 2, []) := rfl
theorem d176_155 : dec 176 155 = some (.ifCond .eq 16, 3, [171]) := rfl
theorem d176_158 : dec 176 158 = some (.iconst 1, 1, [1]) := rfl
theorem d176_159 : dec 176 159 = some (.bipush 6, 2, [6]) := rfl
theorem d176_161 : dec 176 161 = some (.iload 5, 2, []) := rfl
theorem d176_163 : dec 176 163 = some (.imul, 1, []) := rfl
theorem d176_164 : dec 176 164 = some (.iload 6, 2, []) := rfl
theorem d176_166 : dec 176 166 = some (.iadd, 1, []) := rfl
theorem d176_167 : dec 176 167 = some (.ishl, 1, []) := rfl
theorem d176_168 : dec 176 168 = some (.goto 4, 3, [172]) := rfl
theorem d176_171 : dec 176 171 = some (.iconst 0, 1, [0]) := rfl
theorem d176_172 : dec 176 172 = some (.ior, 1, []) := rfl
theorem d176_173 : dec 176 173 = some (.istore 4, 2, []) := rfl
theorem d176_175 : dec 176 175 = some (.iinc 6 1, 3, [1]) := rfl
theorem d176_178 : dec 176 178 = some (.goto (-164), 3, [14]) := rfl
theorem d176_181 : dec 176 181 = some (.iinc 5 (-1), 3, [4294967295]) := rfl
theorem d176_184 : dec 176 184 = some (.goto (-178), 3, [6]) := rfl
theorem d176_187 : dec 176 187 = some (.iload 4, 2, []) := rfl
theorem d176_189 : dec 176 189 = some (.ireturn, 1, [0]) := rfl
theorem l176 : mL 176 = 11 := rfl
theorem f176 {d : Nat} {P : MP} {I : MI} {L : ML} {C : MC} {Q : QT} {t q : Nat} {x y : Int32} {sp gr : SP} {g : GS} (hM : MB P) (hn : NR I g) (hv : TV g) (hx : MSp g x sp) (hy : MGr y gr) (ht : t < 3) (hq : q ≤ 3) (hd : 3 ≤ d) : ∀ m e z (u7 u8 u9 u10 : Value), e + m = g (3 + t) → (∀ i, i < 32 → bt z i = (dn t e i && pb g (can g q sp gr) i)) → ∃ z' v7 v8 v9 v10, (∀ i, i < 32 → bt z' i = (dn t 6 i && pb g (can g q sp gr) i)) ∧ X d 176 14 [.ref 150, .int (nI q), .int x, .int y, .int z, .int (nI t), .int (nI e), u7, u8, u9, u10] [] P I L C Q = X d 176 181 [.ref 150, .int (nI q), .int x, .int y, .int z', .int (nI t), .int (nI (g (3 + t))), v7, v8, v9, v10] [] P I L C Q := by
  have hM' := hM
  obtain ⟨⟨k0, p0, p1, p2, p5, y1, _⟩, _⟩ := hM'
  have hc := hv.2.1 t ht
  have hnc := hn (3 + t) (by omega)
  intro m
  induction m with
  | zero =>
    intro e z u7 u8 u9 u10 h hb
    have : e = g (3 + t) := by omega
    subst this
    refine ⟨z, u7, u8, u9, u10, fun i hi => ?_, ?_⟩
    · rw [hb i hi]
      by_cases w : i < 6 * t + g (3 + t) ∨ 6 * t + 6 ≤ i ∨ i < 6 * t
      · congr 1
        exact decide_eq_decide.mpr (by omega)
      · have : pb g (can g q sp gr) i = false := by
          unfold pb
          rw [show i / 6 = t by omega, decide_eq_false (by omega), Bool.false_and]
        rw [this, Bool.and_false, Bool.and_false]
    · rw [X_go, d176_14]
      simp (disch := first | assumption | omega) only [Nat.reduceAdd, X_go, go2_some, stp, ldI, ldA, ldL, stI, stA, stL, o1I, o2I, o2L, brI, brII, gl, s1, s2, k1, sl, go_sN, go_sR, go_CT, go_sT, go_no, go_if, pops, bk_v, bk_0, d176_0, d176_1, d176_3, d176_4, d176_6, d176_8, d176_11, d176_12, d176_16, d176_17, d176_20, d176_21, d176_23, d176_24, d176_25, d176_28, d176_29, d176_31, d176_33, d176_34, d176_37, d176_39, d176_40, d176_42, d176_44, d176_45, d176_48, d176_50, d176_51, d176_53, d176_55, d176_56, d176_58, d176_59, d176_60, d176_61, d176_62, d176_65, d176_67, d176_70, d176_71, d176_72, d176_74, d176_75, d176_77, d176_78, d176_79, d176_80, d176_81, d176_82, d176_83, d176_86, d176_87, d176_90, d176_91, d176_93, d176_95, d176_98, d176_101, d176_102, d176_104, d176_106, d176_107, d176_110, d176_111, d176_114, d176_115, d176_118, d176_119, d176_122, d176_124, d176_126, d176_128, d176_130, d176_131, d176_132, d176_133, d176_135, d176_136, d176_139, d176_140, d176_143, d176_144, d176_146, d176_148, d176_150, d176_153, d176_155, d176_158, d176_159, d176_161, d176_163, d176_164, d176_166, d176_167, d176_168, d176_171, d176_172, d176_173, d176_175, d176_178, d176_184, d176_187, d176_189, n_lt, n_le, n_eq, n_lt0, n_ge0, n_gt0, n_le0, n_eq0, m_lt, m_le, m_gt, m_ge, m_eq, m_eq', m_lt0, m_ge0, m_gt0, m_le0, m_ltm, m_lem, n_in, m_in, n_cl, n_ti, n_div, n_rem', n_dec, n_l, nI_add, pk_mul, an0, an1, decide_eq_true_eq, if_true, if_false, ite_true, ite_false, and_true, true_and, and_false, false_and, not_true, not_false_iff, or_false, false_or, or_true, true_or, eq_self, va_some, Bool.false_eq_true, reduceIte, catS_n, catS_i, catS_r, catS_l, catS_d, Nat.zero_add, Nat.add_zero, decide_true, decide_false, Nat.reduceLeDiff, cat_r, cat_i, cat_l, nle_T, nle_F, nlt_T, nlt_F, neq_T, neq_F, k0, p0, y1, hnc]
  | succ m ih =>
    intro e z u7 u8 u9 u10 h hb
    have he : e < g (3 + t) := by omega
    obtain ⟨E0, E1, E2, E3, E4, E5, E6, E7⟩ := hv.2.2 t e ht he
    have hpb : pb g (can g q sp gr) (6 * t + e) = can g q sp gr t e := by
      rw [pb_e (by omega), decide_eq_true he, Bool.true_and]
    have hs1 : (x >>> (nI (6 * t + e) &&& 31)) &&& nI 1 = nI (if sp t e = true then 1 else 0) := by
      have := b_tst (x := x) (n := 6 * t + e) (by omega)
      rw [hx t e ht he] at this
      exact this
    have hfre : fre g sp gr t e = (!sp t e && (decide (g (cl t e 3) = 0) || !gr t (g (cl t e 3)))) := rfl
    have hcan : can g q sp gr t e = (fre g sp gr t e && (if g (cl t e 0) < 16 then decide (q ≤ g (cl t e 2)) else has g q sp gr (g (cl t e 0) - 16))) := rfl
    -- the new set
    have step : ∀ z', z' = (if can g q sp gr t e = true then z ||| (nI 1 <<< (nI (6 * t + e) &&& 31)) else z) → ∀ i, i < 32 → bt z' i = (dn t (e + 1) i && pb g (can g q sp gr) i) := by
      intro z' hz' i hi
      by_cases w : i = 6 * t + e
      · subst w
        have d1 : dn t (e + 1) (6 * t + e) = true := decide_eq_true (by omega)
        have d0 : dn t e (6 * t + e) = false := decide_eq_false (by omega)
        rw [d1, Bool.true_and, hpb, hz']
        by_cases v : can g q sp gr t e = true
        · rw [if_pos v, b_or, b_one (by omega) hi, decide_eq_true rfl, Bool.or_true, v]
        · rw [if_neg v, hb _ hi, d0, Bool.false_and]
          exact (Bool.not_eq_true _ ▸ v : can g q sp gr t e = false).symm
      · have d1 : dn t (e + 1) i = dn t e i := decide_eq_decide.mpr (by omega)
        rw [d1, hz']
        split
        · rw [b_or, b_one (by omega) hi, decide_eq_false w, Bool.or_false, hb i hi]
        · exact hb i hi
    have h18 : t < 2 → ∀ w, 16 ≤ w → t + 16 < w → w ≤ 18 → ((z >>> (nI (6 * (w - 16)) &&& 31)) &&& nI 63 = 0) = (¬ has g q sp gr (w - 16) = true) := by
      intro _ w w1 w2 w3
      rw [b_six (by omega)]
      have hcw := hv.2.1 (w - 16) (by omega)
      have hbz : ∀ i, i < 6 → bt z (6 * (w - 16) + i) = (decide (i < g (3 + (w - 16))) && can g q sp gr (w - 16) i) := fun i hi => by
        rw [hb _ (by omega), pb_e hi]
        have : dn t e (6 * (w - 16) + i) = true := decide_eq_true (by omega)
        rw [this, Bool.true_and]
      rw [has_eq hv (by omega), any_t]
      apply propext
      constructor
      · rintro q1 ⟨i, hi, hp⟩
        have := q1 i (by omega)
        rw [hbz i (by omega), decide_eq_true hi, hp] at this
        exact absurd this (by decide)
      · intro q1 i hi
        rw [hbz i hi]
        cases hd : decide (i < g (3 + (w - 16))) && can g q sp gr (w - 16) i
        · rfl
        · have := (Bool.and_eq_true _ _).mp hd
          exact absurd ⟨i, of_decide_eq_true this.1, this.2⟩ q1
    have hg3 : ∀ k, g (cl t e 3) = k → 1 ≤ k → (y >>> (nI (3 * t + k - 1) &&& 31)) &&& nI 1 = nI (if gr t k = true then 1 else 0) := by
      intro k hk h1
      have := b_tst (x := y) (n := 3 * t + k - 1) (by omega)
      rw [hy t k ht h1 (by omega)] at this
      exact this
    -- what may be drawn: fre
    have hor : z ||| nI 0 = z := by
      apply b_ext
      intro i hi
      rw [b_or, show nI 0 = 0 from rfl, b_0, Bool.or_false]
    obtain ⟨z', v7, v8, v9, v10, h1, h2⟩ := ih (e + 1) (if can g q sp gr t e = true then z ||| (nI 1 <<< (nI (6 * t + e) &&& 31)) else z) (.int (nI (g (cl t e 3)))) (.int (nI (g (cl t e 0)))) (.int (nI (if fre g sp gr t e = true then 1 else 0))) (.int (nI (if (if g (cl t e 0) < 16 then decide (q ≤ g (cl t e 2)) else has g q sp gr (g (cl t e 0) - 16)) = true then 1 else 0))) (by omega) (step _ rfl)
    refine ⟨z', v7, v8, v9, v10, h1, ?_⟩
    rw [← h2, X_go, d176_14]
    rw [hcan]
    have hf : ∀ b : Bool, (b = true) ∨ (b = false) := by decide
    rcases hf (sp t e) with s0 | s0
    · have ef : fre g sp gr t e = false := by rw [hfre, s0]; rfl
      rw [s0] at hs1
      by_cases w16 : g (cl t e 0) < 16
      · by_cases wq : q ≤ g (cl t e 2)
        · simp (disch := first | assumption | omega) only [Nat.reduceAdd, X_go, go2_some, stp, ldI, ldA, ldL, stI, stA, stL, o1I, o2I, o2L, brI, brII, gl, s1, s2, k1, sl, go_sN, go_sR, go_CT, go_sT, go_no, go_if, pops, bk_v, bk_0, d176_0, d176_1, d176_3, d176_4, d176_6, d176_8, d176_11, d176_12, d176_16, d176_17, d176_20, d176_21, d176_23, d176_24, d176_25, d176_28, d176_29, d176_31, d176_33, d176_34, d176_37, d176_39, d176_40, d176_42, d176_44, d176_45, d176_48, d176_50, d176_51, d176_53, d176_55, d176_56, d176_58, d176_59, d176_60, d176_61, d176_62, d176_65, d176_67, d176_70, d176_71, d176_72, d176_74, d176_75, d176_77, d176_78, d176_79, d176_80, d176_81, d176_82, d176_83, d176_86, d176_87, d176_90, d176_91, d176_93, d176_95, d176_98, d176_101, d176_102, d176_104, d176_106, d176_107, d176_110, d176_111, d176_114, d176_115, d176_118, d176_119, d176_122, d176_124, d176_126, d176_128, d176_130, d176_131, d176_132, d176_133, d176_135, d176_136, d176_139, d176_140, d176_143, d176_144, d176_146, d176_148, d176_150, d176_153, d176_155, d176_158, d176_159, d176_161, d176_163, d176_164, d176_166, d176_167, d176_168, d176_171, d176_172, d176_173, d176_175, d176_178, d176_184, d176_187, d176_189, n_lt, n_le, n_eq, n_lt0, n_ge0, n_gt0, n_le0, n_eq0, m_lt, m_le, m_gt, m_ge, m_eq, m_eq', m_lt0, m_ge0, m_gt0, m_le0, m_ltm, m_lem, n_in, m_in, n_cl, n_ti, n_div, n_rem', n_dec, n_l, nI_add, pk_mul, an0, an1, decide_eq_true_eq, if_true, if_false, ite_true, ite_false, and_true, true_and, and_false, false_and, not_true, not_false_iff, or_false, false_or, or_true, true_or, eq_self, va_some, Bool.false_eq_true, reduceIte, catS_n, catS_i, catS_r, catS_l, catS_d, Nat.zero_add, Nat.add_zero, decide_true, decide_false, Nat.reduceLeDiff, cat_r, cat_i, cat_l, nle_T, nle_F, nlt_T, nlt_F, neq_T, neq_F, k0, p0, y1, hnc, c167 hM hn, c160, hs1, ef, w16, wq, hor, Bool.false_and, n_sub]
          done
        · simp (disch := first | assumption | omega) only [Nat.reduceAdd, X_go, go2_some, stp, ldI, ldA, ldL, stI, stA, stL, o1I, o2I, o2L, brI, brII, gl, s1, s2, k1, sl, go_sN, go_sR, go_CT, go_sT, go_no, go_if, pops, bk_v, bk_0, d176_0, d176_1, d176_3, d176_4, d176_6, d176_8, d176_11, d176_12, d176_16, d176_17, d176_20, d176_21, d176_23, d176_24, d176_25, d176_28, d176_29, d176_31, d176_33, d176_34, d176_37, d176_39, d176_40, d176_42, d176_44, d176_45, d176_48, d176_50, d176_51, d176_53, d176_55, d176_56, d176_58, d176_59, d176_60, d176_61, d176_62, d176_65, d176_67, d176_70, d176_71, d176_72, d176_74, d176_75, d176_77, d176_78, d176_79, d176_80, d176_81, d176_82, d176_83, d176_86, d176_87, d176_90, d176_91, d176_93, d176_95, d176_98, d176_101, d176_102, d176_104, d176_106, d176_107, d176_110, d176_111, d176_114, d176_115, d176_118, d176_119, d176_122, d176_124, d176_126, d176_128, d176_130, d176_131, d176_132, d176_133, d176_135, d176_136, d176_139, d176_140, d176_143, d176_144, d176_146, d176_148, d176_150, d176_153, d176_155, d176_158, d176_159, d176_161, d176_163, d176_164, d176_166, d176_167, d176_168, d176_171, d176_172, d176_173, d176_175, d176_178, d176_184, d176_187, d176_189, n_lt, n_le, n_eq, n_lt0, n_ge0, n_gt0, n_le0, n_eq0, m_lt, m_le, m_gt, m_ge, m_eq, m_eq', m_lt0, m_ge0, m_gt0, m_le0, m_ltm, m_lem, n_in, m_in, n_cl, n_ti, n_div, n_rem', n_dec, n_l, nI_add, pk_mul, an0, an1, decide_eq_true_eq, if_true, if_false, ite_true, ite_false, and_true, true_and, and_false, false_and, not_true, not_false_iff, or_false, false_or, or_true, true_or, eq_self, va_some, Bool.false_eq_true, reduceIte, catS_n, catS_i, catS_r, catS_l, catS_d, Nat.zero_add, Nat.add_zero, decide_true, decide_false, Nat.reduceLeDiff, cat_r, cat_i, cat_l, nle_T, nle_F, nlt_T, nlt_F, neq_T, neq_F, k0, p0, y1, hnc, c167 hM hn, c160, hs1, ef, w16, wq, hor, Bool.false_and, n_sub]
          done
      · have hE2 := E2 (by omega)
        have h18 := h18 (by omega) _ (by omega) hE2.1 E0
        rcases hf (has g q sp gr (g (cl t e 0) - 16)) with hz | hz
        · have h18' : ((z >>> (nI (6 * (g (cl t e 0) - 16)) &&& 31)) &&& nI 63 = 0) = False := by rw [h18, hz]; simp
          simp (disch := first | assumption | omega) only [Nat.reduceAdd, X_go, go2_some, stp, ldI, ldA, ldL, stI, stA, stL, o1I, o2I, o2L, brI, brII, gl, s1, s2, k1, sl, go_sN, go_sR, go_CT, go_sT, go_no, go_if, pops, bk_v, bk_0, d176_0, d176_1, d176_3, d176_4, d176_6, d176_8, d176_11, d176_12, d176_16, d176_17, d176_20, d176_21, d176_23, d176_24, d176_25, d176_28, d176_29, d176_31, d176_33, d176_34, d176_37, d176_39, d176_40, d176_42, d176_44, d176_45, d176_48, d176_50, d176_51, d176_53, d176_55, d176_56, d176_58, d176_59, d176_60, d176_61, d176_62, d176_65, d176_67, d176_70, d176_71, d176_72, d176_74, d176_75, d176_77, d176_78, d176_79, d176_80, d176_81, d176_82, d176_83, d176_86, d176_87, d176_90, d176_91, d176_93, d176_95, d176_98, d176_101, d176_102, d176_104, d176_106, d176_107, d176_110, d176_111, d176_114, d176_115, d176_118, d176_119, d176_122, d176_124, d176_126, d176_128, d176_130, d176_131, d176_132, d176_133, d176_135, d176_136, d176_139, d176_140, d176_143, d176_144, d176_146, d176_148, d176_150, d176_153, d176_155, d176_158, d176_159, d176_161, d176_163, d176_164, d176_166, d176_167, d176_168, d176_171, d176_172, d176_173, d176_175, d176_178, d176_184, d176_187, d176_189, n_lt, n_le, n_eq, n_lt0, n_ge0, n_gt0, n_le0, n_eq0, m_lt, m_le, m_gt, m_ge, m_eq, m_eq', m_lt0, m_ge0, m_gt0, m_le0, m_ltm, m_lem, n_in, m_in, n_cl, n_ti, n_div, n_rem', n_dec, n_l, nI_add, pk_mul, an0, an1, decide_eq_true_eq, if_true, if_false, ite_true, ite_false, and_true, true_and, and_false, false_and, not_true, not_false_iff, or_false, false_or, or_true, true_or, eq_self, va_some, Bool.false_eq_true, reduceIte, catS_n, catS_i, catS_r, catS_l, catS_d, Nat.zero_add, Nat.add_zero, decide_true, decide_false, Nat.reduceLeDiff, cat_r, cat_i, cat_l, nle_T, nle_F, nlt_T, nlt_F, neq_T, neq_F, k0, p0, y1, hnc, c167 hM hn, c160, hs1, ef, w16, hz, h18', hor, Bool.false_and, n_sub]
          done
        · have h18' : ((z >>> (nI (6 * (g (cl t e 0) - 16)) &&& 31)) &&& nI 63 = 0) = True := by rw [h18, hz]; simp
          simp (disch := first | assumption | omega) only [Nat.reduceAdd, X_go, go2_some, stp, ldI, ldA, ldL, stI, stA, stL, o1I, o2I, o2L, brI, brII, gl, s1, s2, k1, sl, go_sN, go_sR, go_CT, go_sT, go_no, go_if, pops, bk_v, bk_0, d176_0, d176_1, d176_3, d176_4, d176_6, d176_8, d176_11, d176_12, d176_16, d176_17, d176_20, d176_21, d176_23, d176_24, d176_25, d176_28, d176_29, d176_31, d176_33, d176_34, d176_37, d176_39, d176_40, d176_42, d176_44, d176_45, d176_48, d176_50, d176_51, d176_53, d176_55, d176_56, d176_58, d176_59, d176_60, d176_61, d176_62, d176_65, d176_67, d176_70, d176_71, d176_72, d176_74, d176_75, d176_77, d176_78, d176_79, d176_80, d176_81, d176_82, d176_83, d176_86, d176_87, d176_90, d176_91, d176_93, d176_95, d176_98, d176_101, d176_102, d176_104, d176_106, d176_107, d176_110, d176_111, d176_114, d176_115, d176_118, d176_119, d176_122, d176_124, d176_126, d176_128, d176_130, d176_131, d176_132, d176_133, d176_135, d176_136, d176_139, d176_140, d176_143, d176_144, d176_146, d176_148, d176_150, d176_153, d176_155, d176_158, d176_159, d176_161, d176_163, d176_164, d176_166, d176_167, d176_168, d176_171, d176_172, d176_173, d176_175, d176_178, d176_184, d176_187, d176_189, n_lt, n_le, n_eq, n_lt0, n_ge0, n_gt0, n_le0, n_eq0, m_lt, m_le, m_gt, m_ge, m_eq, m_eq', m_lt0, m_ge0, m_gt0, m_le0, m_ltm, m_lem, n_in, m_in, n_cl, n_ti, n_div, n_rem', n_dec, n_l, nI_add, pk_mul, an0, an1, decide_eq_true_eq, if_true, if_false, ite_true, ite_false, and_true, true_and, and_false, false_and, not_true, not_false_iff, or_false, false_or, or_true, true_or, eq_self, va_some, Bool.false_eq_true, reduceIte, catS_n, catS_i, catS_r, catS_l, catS_d, Nat.zero_add, Nat.add_zero, decide_true, decide_false, Nat.reduceLeDiff, cat_r, cat_i, cat_l, nle_T, nle_F, nlt_T, nlt_F, neq_T, neq_F, k0, p0, y1, hnc, c167 hM hn, c160, hs1, ef, w16, hz, h18', hor, Bool.false_and, n_sub]
          done
    · rw [s0] at hs1
      have key : ∀ b, fre g sp gr t e = b → (b = true → g (cl t e 3) = 0 ∨ (1 ≤ g (cl t e 3) ∧ gr t (g (cl t e 3)) = false)) ∧ (b = false → 1 ≤ g (cl t e 3) ∧ gr t (g (cl t e 3)) = true) := by
        intro b hb2
        rw [hfre, s0] at hb2
        by_cases z3 : g (cl t e 3) = 0
        · rw [z3, decide_eq_true rfl] at hb2
          refine ⟨fun _ => .inl z3, fun q1 => ?_⟩
          rw [q1, Bool.true_or] at hb2
          exact absurd hb2 (by decide)
        · rw [decide_eq_false z3] at hb2
          rcases hf (gr t (g (cl t e 3))) with q2 | q2
          · rw [q2] at hb2
            refine ⟨fun q1 => ?_, fun _ => ⟨by omega, q2⟩⟩
            rw [q1] at hb2
            exact absurd hb2 (by decide)
          · rw [q2] at hb2
            refine ⟨fun _ => .inr ⟨by omega, q2⟩, fun q1 => ?_⟩
            rw [q1] at hb2
            exact absurd hb2 (by decide)
      rcases hf (fre g sp gr t e) with ef | ef
      · have cases3 := (key true ef).1 rfl
        by_cases w16 : g (cl t e 0) < 16
        · by_cases wq : q ≤ g (cl t e 2)
          · rcases cases3 with g3 | ⟨g3, gz⟩
            · simp (disch := first | assumption | omega) only [Nat.reduceAdd, X_go, go2_some, stp, ldI, ldA, ldL, stI, stA, stL, o1I, o2I, o2L, brI, brII, gl, s1, s2, k1, sl, go_sN, go_sR, go_CT, go_sT, go_no, go_if, pops, bk_v, bk_0, d176_0, d176_1, d176_3, d176_4, d176_6, d176_8, d176_11, d176_12, d176_16, d176_17, d176_20, d176_21, d176_23, d176_24, d176_25, d176_28, d176_29, d176_31, d176_33, d176_34, d176_37, d176_39, d176_40, d176_42, d176_44, d176_45, d176_48, d176_50, d176_51, d176_53, d176_55, d176_56, d176_58, d176_59, d176_60, d176_61, d176_62, d176_65, d176_67, d176_70, d176_71, d176_72, d176_74, d176_75, d176_77, d176_78, d176_79, d176_80, d176_81, d176_82, d176_83, d176_86, d176_87, d176_90, d176_91, d176_93, d176_95, d176_98, d176_101, d176_102, d176_104, d176_106, d176_107, d176_110, d176_111, d176_114, d176_115, d176_118, d176_119, d176_122, d176_124, d176_126, d176_128, d176_130, d176_131, d176_132, d176_133, d176_135, d176_136, d176_139, d176_140, d176_143, d176_144, d176_146, d176_148, d176_150, d176_153, d176_155, d176_158, d176_159, d176_161, d176_163, d176_164, d176_166, d176_167, d176_168, d176_171, d176_172, d176_173, d176_175, d176_178, d176_184, d176_187, d176_189, n_lt, n_le, n_eq, n_lt0, n_ge0, n_gt0, n_le0, n_eq0, m_lt, m_le, m_gt, m_ge, m_eq, m_eq', m_lt0, m_ge0, m_gt0, m_le0, m_ltm, m_lem, n_in, m_in, n_cl, n_ti, n_div, n_rem', n_dec, n_l, nI_add, pk_mul, an0, an1, decide_eq_true_eq, if_true, if_false, ite_true, ite_false, and_true, true_and, and_false, false_and, not_true, not_false_iff, or_false, false_or, or_true, true_or, eq_self, va_some, Bool.false_eq_true, reduceIte, catS_n, catS_i, catS_r, catS_l, catS_d, Nat.zero_add, Nat.add_zero, decide_true, decide_false, Nat.reduceLeDiff, cat_r, cat_i, cat_l, nle_T, nle_F, nlt_T, nlt_F, neq_T, neq_F, k0, p0, y1, hnc, c167 hM hn, c160, hs1, ef, g3, w16, wq, hor, Bool.true_and, n_sub]
              done
            · have hg3 := hg3 _ rfl g3
              rw [gz] at hg3
              simp (disch := first | assumption | omega) only [Nat.reduceAdd, X_go, go2_some, stp, ldI, ldA, ldL, stI, stA, stL, o1I, o2I, o2L, brI, brII, gl, s1, s2, k1, sl, go_sN, go_sR, go_CT, go_sT, go_no, go_if, pops, bk_v, bk_0, d176_0, d176_1, d176_3, d176_4, d176_6, d176_8, d176_11, d176_12, d176_16, d176_17, d176_20, d176_21, d176_23, d176_24, d176_25, d176_28, d176_29, d176_31, d176_33, d176_34, d176_37, d176_39, d176_40, d176_42, d176_44, d176_45, d176_48, d176_50, d176_51, d176_53, d176_55, d176_56, d176_58, d176_59, d176_60, d176_61, d176_62, d176_65, d176_67, d176_70, d176_71, d176_72, d176_74, d176_75, d176_77, d176_78, d176_79, d176_80, d176_81, d176_82, d176_83, d176_86, d176_87, d176_90, d176_91, d176_93, d176_95, d176_98, d176_101, d176_102, d176_104, d176_106, d176_107, d176_110, d176_111, d176_114, d176_115, d176_118, d176_119, d176_122, d176_124, d176_126, d176_128, d176_130, d176_131, d176_132, d176_133, d176_135, d176_136, d176_139, d176_140, d176_143, d176_144, d176_146, d176_148, d176_150, d176_153, d176_155, d176_158, d176_159, d176_161, d176_163, d176_164, d176_166, d176_167, d176_168, d176_171, d176_172, d176_173, d176_175, d176_178, d176_184, d176_187, d176_189, n_lt, n_le, n_eq, n_lt0, n_ge0, n_gt0, n_le0, n_eq0, m_lt, m_le, m_gt, m_ge, m_eq, m_eq', m_lt0, m_ge0, m_gt0, m_le0, m_ltm, m_lem, n_in, m_in, n_cl, n_ti, n_div, n_rem', n_dec, n_l, nI_add, pk_mul, an0, an1, decide_eq_true_eq, if_true, if_false, ite_true, ite_false, and_true, true_and, and_false, false_and, not_true, not_false_iff, or_false, false_or, or_true, true_or, eq_self, va_some, Bool.false_eq_true, reduceIte, catS_n, catS_i, catS_r, catS_l, catS_d, Nat.zero_add, Nat.add_zero, decide_true, decide_false, Nat.reduceLeDiff, cat_r, cat_i, cat_l, nle_T, nle_F, nlt_T, nlt_F, neq_T, neq_F, k0, p0, y1, hnc, c167 hM hn, c160, hs1, ef, hg3, w16, wq, hor, Bool.true_and, n_sub]
              done
          · rcases cases3 with g3 | ⟨g3, gz⟩
            · simp (disch := first | assumption | omega) only [Nat.reduceAdd, X_go, go2_some, stp, ldI, ldA, ldL, stI, stA, stL, o1I, o2I, o2L, brI, brII, gl, s1, s2, k1, sl, go_sN, go_sR, go_CT, go_sT, go_no, go_if, pops, bk_v, bk_0, d176_0, d176_1, d176_3, d176_4, d176_6, d176_8, d176_11, d176_12, d176_16, d176_17, d176_20, d176_21, d176_23, d176_24, d176_25, d176_28, d176_29, d176_31, d176_33, d176_34, d176_37, d176_39, d176_40, d176_42, d176_44, d176_45, d176_48, d176_50, d176_51, d176_53, d176_55, d176_56, d176_58, d176_59, d176_60, d176_61, d176_62, d176_65, d176_67, d176_70, d176_71, d176_72, d176_74, d176_75, d176_77, d176_78, d176_79, d176_80, d176_81, d176_82, d176_83, d176_86, d176_87, d176_90, d176_91, d176_93, d176_95, d176_98, d176_101, d176_102, d176_104, d176_106, d176_107, d176_110, d176_111, d176_114, d176_115, d176_118, d176_119, d176_122, d176_124, d176_126, d176_128, d176_130, d176_131, d176_132, d176_133, d176_135, d176_136, d176_139, d176_140, d176_143, d176_144, d176_146, d176_148, d176_150, d176_153, d176_155, d176_158, d176_159, d176_161, d176_163, d176_164, d176_166, d176_167, d176_168, d176_171, d176_172, d176_173, d176_175, d176_178, d176_184, d176_187, d176_189, n_lt, n_le, n_eq, n_lt0, n_ge0, n_gt0, n_le0, n_eq0, m_lt, m_le, m_gt, m_ge, m_eq, m_eq', m_lt0, m_ge0, m_gt0, m_le0, m_ltm, m_lem, n_in, m_in, n_cl, n_ti, n_div, n_rem', n_dec, n_l, nI_add, pk_mul, an0, an1, decide_eq_true_eq, if_true, if_false, ite_true, ite_false, and_true, true_and, and_false, false_and, not_true, not_false_iff, or_false, false_or, or_true, true_or, eq_self, va_some, Bool.false_eq_true, reduceIte, catS_n, catS_i, catS_r, catS_l, catS_d, Nat.zero_add, Nat.add_zero, decide_true, decide_false, Nat.reduceLeDiff, cat_r, cat_i, cat_l, nle_T, nle_F, nlt_T, nlt_F, neq_T, neq_F, k0, p0, y1, hnc, c167 hM hn, c160, hs1, ef, g3, w16, wq, hor, Bool.true_and, n_sub]
              done
            · have hg3 := hg3 _ rfl g3
              rw [gz] at hg3
              simp (disch := first | assumption | omega) only [Nat.reduceAdd, X_go, go2_some, stp, ldI, ldA, ldL, stI, stA, stL, o1I, o2I, o2L, brI, brII, gl, s1, s2, k1, sl, go_sN, go_sR, go_CT, go_sT, go_no, go_if, pops, bk_v, bk_0, d176_0, d176_1, d176_3, d176_4, d176_6, d176_8, d176_11, d176_12, d176_16, d176_17, d176_20, d176_21, d176_23, d176_24, d176_25, d176_28, d176_29, d176_31, d176_33, d176_34, d176_37, d176_39, d176_40, d176_42, d176_44, d176_45, d176_48, d176_50, d176_51, d176_53, d176_55, d176_56, d176_58, d176_59, d176_60, d176_61, d176_62, d176_65, d176_67, d176_70, d176_71, d176_72, d176_74, d176_75, d176_77, d176_78, d176_79, d176_80, d176_81, d176_82, d176_83, d176_86, d176_87, d176_90, d176_91, d176_93, d176_95, d176_98, d176_101, d176_102, d176_104, d176_106, d176_107, d176_110, d176_111, d176_114, d176_115, d176_118, d176_119, d176_122, d176_124, d176_126, d176_128, d176_130, d176_131, d176_132, d176_133, d176_135, d176_136, d176_139, d176_140, d176_143, d176_144, d176_146, d176_148, d176_150, d176_153, d176_155, d176_158, d176_159, d176_161, d176_163, d176_164, d176_166, d176_167, d176_168, d176_171, d176_172, d176_173, d176_175, d176_178, d176_184, d176_187, d176_189, n_lt, n_le, n_eq, n_lt0, n_ge0, n_gt0, n_le0, n_eq0, m_lt, m_le, m_gt, m_ge, m_eq, m_eq', m_lt0, m_ge0, m_gt0, m_le0, m_ltm, m_lem, n_in, m_in, n_cl, n_ti, n_div, n_rem', n_dec, n_l, nI_add, pk_mul, an0, an1, decide_eq_true_eq, if_true, if_false, ite_true, ite_false, and_true, true_and, and_false, false_and, not_true, not_false_iff, or_false, false_or, or_true, true_or, eq_self, va_some, Bool.false_eq_true, reduceIte, catS_n, catS_i, catS_r, catS_l, catS_d, Nat.zero_add, Nat.add_zero, decide_true, decide_false, Nat.reduceLeDiff, cat_r, cat_i, cat_l, nle_T, nle_F, nlt_T, nlt_F, neq_T, neq_F, k0, p0, y1, hnc, c167 hM hn, c160, hs1, ef, hg3, w16, wq, hor, Bool.true_and, n_sub]
              done
        · have hE2 := E2 (by omega)
          have h18 := h18 (by omega) _ (by omega) hE2.1 E0
          rcases hf (has g q sp gr (g (cl t e 0) - 16)) with hz | hz
          · have h18' : ((z >>> (nI (6 * (g (cl t e 0) - 16)) &&& 31)) &&& nI 63 = 0) = False := by rw [h18, hz]; simp
            rcases cases3 with g3 | ⟨g3, gz⟩
            · simp (disch := first | assumption | omega) only [Nat.reduceAdd, X_go, go2_some, stp, ldI, ldA, ldL, stI, stA, stL, o1I, o2I, o2L, brI, brII, gl, s1, s2, k1, sl, go_sN, go_sR, go_CT, go_sT, go_no, go_if, pops, bk_v, bk_0, d176_0, d176_1, d176_3, d176_4, d176_6, d176_8, d176_11, d176_12, d176_16, d176_17, d176_20, d176_21, d176_23, d176_24, d176_25, d176_28, d176_29, d176_31, d176_33, d176_34, d176_37, d176_39, d176_40, d176_42, d176_44, d176_45, d176_48, d176_50, d176_51, d176_53, d176_55, d176_56, d176_58, d176_59, d176_60, d176_61, d176_62, d176_65, d176_67, d176_70, d176_71, d176_72, d176_74, d176_75, d176_77, d176_78, d176_79, d176_80, d176_81, d176_82, d176_83, d176_86, d176_87, d176_90, d176_91, d176_93, d176_95, d176_98, d176_101, d176_102, d176_104, d176_106, d176_107, d176_110, d176_111, d176_114, d176_115, d176_118, d176_119, d176_122, d176_124, d176_126, d176_128, d176_130, d176_131, d176_132, d176_133, d176_135, d176_136, d176_139, d176_140, d176_143, d176_144, d176_146, d176_148, d176_150, d176_153, d176_155, d176_158, d176_159, d176_161, d176_163, d176_164, d176_166, d176_167, d176_168, d176_171, d176_172, d176_173, d176_175, d176_178, d176_184, d176_187, d176_189, n_lt, n_le, n_eq, n_lt0, n_ge0, n_gt0, n_le0, n_eq0, m_lt, m_le, m_gt, m_ge, m_eq, m_eq', m_lt0, m_ge0, m_gt0, m_le0, m_ltm, m_lem, n_in, m_in, n_cl, n_ti, n_div, n_rem', n_dec, n_l, nI_add, pk_mul, an0, an1, decide_eq_true_eq, if_true, if_false, ite_true, ite_false, and_true, true_and, and_false, false_and, not_true, not_false_iff, or_false, false_or, or_true, true_or, eq_self, va_some, Bool.false_eq_true, reduceIte, catS_n, catS_i, catS_r, catS_l, catS_d, Nat.zero_add, Nat.add_zero, decide_true, decide_false, Nat.reduceLeDiff, cat_r, cat_i, cat_l, nle_T, nle_F, nlt_T, nlt_F, neq_T, neq_F, k0, p0, y1, hnc, c167 hM hn, c160, hs1, ef, g3, w16, hz, h18', hor, Bool.true_and, n_sub]
              done
            · have hg3 := hg3 _ rfl g3
              rw [gz] at hg3
              simp (disch := first | assumption | omega) only [Nat.reduceAdd, X_go, go2_some, stp, ldI, ldA, ldL, stI, stA, stL, o1I, o2I, o2L, brI, brII, gl, s1, s2, k1, sl, go_sN, go_sR, go_CT, go_sT, go_no, go_if, pops, bk_v, bk_0, d176_0, d176_1, d176_3, d176_4, d176_6, d176_8, d176_11, d176_12, d176_16, d176_17, d176_20, d176_21, d176_23, d176_24, d176_25, d176_28, d176_29, d176_31, d176_33, d176_34, d176_37, d176_39, d176_40, d176_42, d176_44, d176_45, d176_48, d176_50, d176_51, d176_53, d176_55, d176_56, d176_58, d176_59, d176_60, d176_61, d176_62, d176_65, d176_67, d176_70, d176_71, d176_72, d176_74, d176_75, d176_77, d176_78, d176_79, d176_80, d176_81, d176_82, d176_83, d176_86, d176_87, d176_90, d176_91, d176_93, d176_95, d176_98, d176_101, d176_102, d176_104, d176_106, d176_107, d176_110, d176_111, d176_114, d176_115, d176_118, d176_119, d176_122, d176_124, d176_126, d176_128, d176_130, d176_131, d176_132, d176_133, d176_135, d176_136, d176_139, d176_140, d176_143, d176_144, d176_146, d176_148, d176_150, d176_153, d176_155, d176_158, d176_159, d176_161, d176_163, d176_164, d176_166, d176_167, d176_168, d176_171, d176_172, d176_173, d176_175, d176_178, d176_184, d176_187, d176_189, n_lt, n_le, n_eq, n_lt0, n_ge0, n_gt0, n_le0, n_eq0, m_lt, m_le, m_gt, m_ge, m_eq, m_eq', m_lt0, m_ge0, m_gt0, m_le0, m_ltm, m_lem, n_in, m_in, n_cl, n_ti, n_div, n_rem', n_dec, n_l, nI_add, pk_mul, an0, an1, decide_eq_true_eq, if_true, if_false, ite_true, ite_false, and_true, true_and, and_false, false_and, not_true, not_false_iff, or_false, false_or, or_true, true_or, eq_self, va_some, Bool.false_eq_true, reduceIte, catS_n, catS_i, catS_r, catS_l, catS_d, Nat.zero_add, Nat.add_zero, decide_true, decide_false, Nat.reduceLeDiff, cat_r, cat_i, cat_l, nle_T, nle_F, nlt_T, nlt_F, neq_T, neq_F, k0, p0, y1, hnc, c167 hM hn, c160, hs1, ef, hg3, w16, hz, h18', hor, Bool.true_and, n_sub]
              done
          · have h18' : ((z >>> (nI (6 * (g (cl t e 0) - 16)) &&& 31)) &&& nI 63 = 0) = True := by rw [h18, hz]; simp
            rcases cases3 with g3 | ⟨g3, gz⟩
            · simp (disch := first | assumption | omega) only [Nat.reduceAdd, X_go, go2_some, stp, ldI, ldA, ldL, stI, stA, stL, o1I, o2I, o2L, brI, brII, gl, s1, s2, k1, sl, go_sN, go_sR, go_CT, go_sT, go_no, go_if, pops, bk_v, bk_0, d176_0, d176_1, d176_3, d176_4, d176_6, d176_8, d176_11, d176_12, d176_16, d176_17, d176_20, d176_21, d176_23, d176_24, d176_25, d176_28, d176_29, d176_31, d176_33, d176_34, d176_37, d176_39, d176_40, d176_42, d176_44, d176_45, d176_48, d176_50, d176_51, d176_53, d176_55, d176_56, d176_58, d176_59, d176_60, d176_61, d176_62, d176_65, d176_67, d176_70, d176_71, d176_72, d176_74, d176_75, d176_77, d176_78, d176_79, d176_80, d176_81, d176_82, d176_83, d176_86, d176_87, d176_90, d176_91, d176_93, d176_95, d176_98, d176_101, d176_102, d176_104, d176_106, d176_107, d176_110, d176_111, d176_114, d176_115, d176_118, d176_119, d176_122, d176_124, d176_126, d176_128, d176_130, d176_131, d176_132, d176_133, d176_135, d176_136, d176_139, d176_140, d176_143, d176_144, d176_146, d176_148, d176_150, d176_153, d176_155, d176_158, d176_159, d176_161, d176_163, d176_164, d176_166, d176_167, d176_168, d176_171, d176_172, d176_173, d176_175, d176_178, d176_184, d176_187, d176_189, n_lt, n_le, n_eq, n_lt0, n_ge0, n_gt0, n_le0, n_eq0, m_lt, m_le, m_gt, m_ge, m_eq, m_eq', m_lt0, m_ge0, m_gt0, m_le0, m_ltm, m_lem, n_in, m_in, n_cl, n_ti, n_div, n_rem', n_dec, n_l, nI_add, pk_mul, an0, an1, decide_eq_true_eq, if_true, if_false, ite_true, ite_false, and_true, true_and, and_false, false_and, not_true, not_false_iff, or_false, false_or, or_true, true_or, eq_self, va_some, Bool.false_eq_true, reduceIte, catS_n, catS_i, catS_r, catS_l, catS_d, Nat.zero_add, Nat.add_zero, decide_true, decide_false, Nat.reduceLeDiff, cat_r, cat_i, cat_l, nle_T, nle_F, nlt_T, nlt_F, neq_T, neq_F, k0, p0, y1, hnc, c167 hM hn, c160, hs1, ef, g3, w16, hz, h18', hor, Bool.true_and, n_sub]
              done
            · have hg3 := hg3 _ rfl g3
              rw [gz] at hg3
              simp (disch := first | assumption | omega) only [Nat.reduceAdd, X_go, go2_some, stp, ldI, ldA, ldL, stI, stA, stL, o1I, o2I, o2L, brI, brII, gl, s1, s2, k1, sl, go_sN, go_sR, go_CT, go_sT, go_no, go_if, pops, bk_v, bk_0, d176_0, d176_1, d176_3, d176_4, d176_6, d176_8, d176_11, d176_12, d176_16, d176_17, d176_20, d176_21, d176_23, d176_24, d176_25, d176_28, d176_29, d176_31, d176_33, d176_34, d176_37, d176_39, d176_40, d176_42, d176_44, d176_45, d176_48, d176_50, d176_51, d176_53, d176_55, d176_56, d176_58, d176_59, d176_60, d176_61, d176_62, d176_65, d176_67, d176_70, d176_71, d176_72, d176_74, d176_75, d176_77, d176_78, d176_79, d176_80, d176_81, d176_82, d176_83, d176_86, d176_87, d176_90, d176_91, d176_93, d176_95, d176_98, d176_101, d176_102, d176_104, d176_106, d176_107, d176_110, d176_111, d176_114, d176_115, d176_118, d176_119, d176_122, d176_124, d176_126, d176_128, d176_130, d176_131, d176_132, d176_133, d176_135, d176_136, d176_139, d176_140, d176_143, d176_144, d176_146, d176_148, d176_150, d176_153, d176_155, d176_158, d176_159, d176_161, d176_163, d176_164, d176_166, d176_167, d176_168, d176_171, d176_172, d176_173, d176_175, d176_178, d176_184, d176_187, d176_189, n_lt, n_le, n_eq, n_lt0, n_ge0, n_gt0, n_le0, n_eq0, m_lt, m_le, m_gt, m_ge, m_eq, m_eq', m_lt0, m_ge0, m_gt0, m_le0, m_ltm, m_lem, n_in, m_in, n_cl, n_ti, n_div, n_rem', n_dec, n_l, nI_add, pk_mul, an0, an1, decide_eq_true_eq, if_true, if_false, ite_true, ite_false, and_true, true_and, and_false, false_and, not_true, not_false_iff, or_false, false_or, or_true, true_or, eq_self, va_some, Bool.false_eq_true, reduceIte, catS_n, catS_i, catS_r, catS_l, catS_d, Nat.zero_add, Nat.add_zero, decide_true, decide_false, Nat.reduceLeDiff, cat_r, cat_i, cat_l, nle_T, nle_F, nlt_T, nlt_F, neq_T, neq_F, k0, p0, y1, hnc, c167 hM hn, c160, hs1, ef, hg3, w16, hz, h18', hor, Bool.true_and, n_sub]
              done
      · have ⟨g3, gz⟩ := (key false ef).2 rfl
        have hg3 := hg3 _ rfl g3
        rw [gz] at hg3
        by_cases w16 : g (cl t e 0) < 16
        · by_cases wq : q ≤ g (cl t e 2)
          · simp (disch := first | assumption | omega) only [Nat.reduceAdd, X_go, go2_some, stp, ldI, ldA, ldL, stI, stA, stL, o1I, o2I, o2L, brI, brII, gl, s1, s2, k1, sl, go_sN, go_sR, go_CT, go_sT, go_no, go_if, pops, bk_v, bk_0, d176_0, d176_1, d176_3, d176_4, d176_6, d176_8, d176_11, d176_12, d176_16, d176_17, d176_20, d176_21, d176_23, d176_24, d176_25, d176_28, d176_29, d176_31, d176_33, d176_34, d176_37, d176_39, d176_40, d176_42, d176_44, d176_45, d176_48, d176_50, d176_51, d176_53, d176_55, d176_56, d176_58, d176_59, d176_60, d176_61, d176_62, d176_65, d176_67, d176_70, d176_71, d176_72, d176_74, d176_75, d176_77, d176_78, d176_79, d176_80, d176_81, d176_82, d176_83, d176_86, d176_87, d176_90, d176_91, d176_93, d176_95, d176_98, d176_101, d176_102, d176_104, d176_106, d176_107, d176_110, d176_111, d176_114, d176_115, d176_118, d176_119, d176_122, d176_124, d176_126, d176_128, d176_130, d176_131, d176_132, d176_133, d176_135, d176_136, d176_139, d176_140, d176_143, d176_144, d176_146, d176_148, d176_150, d176_153, d176_155, d176_158, d176_159, d176_161, d176_163, d176_164, d176_166, d176_167, d176_168, d176_171, d176_172, d176_173, d176_175, d176_178, d176_184, d176_187, d176_189, n_lt, n_le, n_eq, n_lt0, n_ge0, n_gt0, n_le0, n_eq0, m_lt, m_le, m_gt, m_ge, m_eq, m_eq', m_lt0, m_ge0, m_gt0, m_le0, m_ltm, m_lem, n_in, m_in, n_cl, n_ti, n_div, n_rem', n_dec, n_l, nI_add, pk_mul, an0, an1, decide_eq_true_eq, if_true, if_false, ite_true, ite_false, and_true, true_and, and_false, false_and, not_true, not_false_iff, or_false, false_or, or_true, true_or, eq_self, va_some, Bool.false_eq_true, reduceIte, catS_n, catS_i, catS_r, catS_l, catS_d, Nat.zero_add, Nat.add_zero, decide_true, decide_false, Nat.reduceLeDiff, cat_r, cat_i, cat_l, nle_T, nle_F, nlt_T, nlt_F, neq_T, neq_F, k0, p0, y1, hnc, c167 hM hn, c160, hs1, ef, hg3, w16, wq, hor, Bool.false_and, n_sub]
            done
          · simp (disch := first | assumption | omega) only [Nat.reduceAdd, X_go, go2_some, stp, ldI, ldA, ldL, stI, stA, stL, o1I, o2I, o2L, brI, brII, gl, s1, s2, k1, sl, go_sN, go_sR, go_CT, go_sT, go_no, go_if, pops, bk_v, bk_0, d176_0, d176_1, d176_3, d176_4, d176_6, d176_8, d176_11, d176_12, d176_16, d176_17, d176_20, d176_21, d176_23, d176_24, d176_25, d176_28, d176_29, d176_31, d176_33, d176_34, d176_37, d176_39, d176_40, d176_42, d176_44, d176_45, d176_48, d176_50, d176_51, d176_53, d176_55, d176_56, d176_58, d176_59, d176_60, d176_61, d176_62, d176_65, d176_67, d176_70, d176_71, d176_72, d176_74, d176_75, d176_77, d176_78, d176_79, d176_80, d176_81, d176_82, d176_83, d176_86, d176_87, d176_90, d176_91, d176_93, d176_95, d176_98, d176_101, d176_102, d176_104, d176_106, d176_107, d176_110, d176_111, d176_114, d176_115, d176_118, d176_119, d176_122, d176_124, d176_126, d176_128, d176_130, d176_131, d176_132, d176_133, d176_135, d176_136, d176_139, d176_140, d176_143, d176_144, d176_146, d176_148, d176_150, d176_153, d176_155, d176_158, d176_159, d176_161, d176_163, d176_164, d176_166, d176_167, d176_168, d176_171, d176_172, d176_173, d176_175, d176_178, d176_184, d176_187, d176_189, n_lt, n_le, n_eq, n_lt0, n_ge0, n_gt0, n_le0, n_eq0, m_lt, m_le, m_gt, m_ge, m_eq, m_eq', m_lt0, m_ge0, m_gt0, m_le0, m_ltm, m_lem, n_in, m_in, n_cl, n_ti, n_div, n_rem', n_dec, n_l, nI_add, pk_mul, an0, an1, decide_eq_true_eq, if_true, if_false, ite_true, ite_false, and_true, true_and, and_false, false_and, not_true, not_false_iff, or_false, false_or, or_true, true_or, eq_self, va_some, Bool.false_eq_true, reduceIte, catS_n, catS_i, catS_r, catS_l, catS_d, Nat.zero_add, Nat.add_zero, decide_true, decide_false, Nat.reduceLeDiff, cat_r, cat_i, cat_l, nle_T, nle_F, nlt_T, nlt_F, neq_T, neq_F, k0, p0, y1, hnc, c167 hM hn, c160, hs1, ef, hg3, w16, wq, hor, Bool.false_and, n_sub]
            done
        · have hE2 := E2 (by omega)
          have h18 := h18 (by omega) _ (by omega) hE2.1 E0
          rcases hf (has g q sp gr (g (cl t e 0) - 16)) with hz | hz
          · have h18' : ((z >>> (nI (6 * (g (cl t e 0) - 16)) &&& 31)) &&& nI 63 = 0) = False := by rw [h18, hz]; simp
            simp (disch := first | assumption | omega) only [Nat.reduceAdd, X_go, go2_some, stp, ldI, ldA, ldL, stI, stA, stL, o1I, o2I, o2L, brI, brII, gl, s1, s2, k1, sl, go_sN, go_sR, go_CT, go_sT, go_no, go_if, pops, bk_v, bk_0, d176_0, d176_1, d176_3, d176_4, d176_6, d176_8, d176_11, d176_12, d176_16, d176_17, d176_20, d176_21, d176_23, d176_24, d176_25, d176_28, d176_29, d176_31, d176_33, d176_34, d176_37, d176_39, d176_40, d176_42, d176_44, d176_45, d176_48, d176_50, d176_51, d176_53, d176_55, d176_56, d176_58, d176_59, d176_60, d176_61, d176_62, d176_65, d176_67, d176_70, d176_71, d176_72, d176_74, d176_75, d176_77, d176_78, d176_79, d176_80, d176_81, d176_82, d176_83, d176_86, d176_87, d176_90, d176_91, d176_93, d176_95, d176_98, d176_101, d176_102, d176_104, d176_106, d176_107, d176_110, d176_111, d176_114, d176_115, d176_118, d176_119, d176_122, d176_124, d176_126, d176_128, d176_130, d176_131, d176_132, d176_133, d176_135, d176_136, d176_139, d176_140, d176_143, d176_144, d176_146, d176_148, d176_150, d176_153, d176_155, d176_158, d176_159, d176_161, d176_163, d176_164, d176_166, d176_167, d176_168, d176_171, d176_172, d176_173, d176_175, d176_178, d176_184, d176_187, d176_189, n_lt, n_le, n_eq, n_lt0, n_ge0, n_gt0, n_le0, n_eq0, m_lt, m_le, m_gt, m_ge, m_eq, m_eq', m_lt0, m_ge0, m_gt0, m_le0, m_ltm, m_lem, n_in, m_in, n_cl, n_ti, n_div, n_rem', n_dec, n_l, nI_add, pk_mul, an0, an1, decide_eq_true_eq, if_true, if_false, ite_true, ite_false, and_true, true_and, and_false, false_and, not_true, not_false_iff, or_false, false_or, or_true, true_or, eq_self, va_some, Bool.false_eq_true, reduceIte, catS_n, catS_i, catS_r, catS_l, catS_d, Nat.zero_add, Nat.add_zero, decide_true, decide_false, Nat.reduceLeDiff, cat_r, cat_i, cat_l, nle_T, nle_F, nlt_T, nlt_F, neq_T, neq_F, k0, p0, y1, hnc, c167 hM hn, c160, hs1, ef, hg3, w16, hz, h18', hor, Bool.false_and, n_sub]
            done
          · have h18' : ((z >>> (nI (6 * (g (cl t e 0) - 16)) &&& 31)) &&& nI 63 = 0) = True := by rw [h18, hz]; simp
            simp (disch := first | assumption | omega) only [Nat.reduceAdd, X_go, go2_some, stp, ldI, ldA, ldL, stI, stA, stL, o1I, o2I, o2L, brI, brII, gl, s1, s2, k1, sl, go_sN, go_sR, go_CT, go_sT, go_no, go_if, pops, bk_v, bk_0, d176_0, d176_1, d176_3, d176_4, d176_6, d176_8, d176_11, d176_12, d176_16, d176_17, d176_20, d176_21, d176_23, d176_24, d176_25, d176_28, d176_29, d176_31, d176_33, d176_34, d176_37, d176_39, d176_40, d176_42, d176_44, d176_45, d176_48, d176_50, d176_51, d176_53, d176_55, d176_56, d176_58, d176_59, d176_60, d176_61, d176_62, d176_65, d176_67, d176_70, d176_71, d176_72, d176_74, d176_75, d176_77, d176_78, d176_79, d176_80, d176_81, d176_82, d176_83, d176_86, d176_87, d176_90, d176_91, d176_93, d176_95, d176_98, d176_101, d176_102, d176_104, d176_106, d176_107, d176_110, d176_111, d176_114, d176_115, d176_118, d176_119, d176_122, d176_124, d176_126, d176_128, d176_130, d176_131, d176_132, d176_133, d176_135, d176_136, d176_139, d176_140, d176_143, d176_144, d176_146, d176_148, d176_150, d176_153, d176_155, d176_158, d176_159, d176_161, d176_163, d176_164, d176_166, d176_167, d176_168, d176_171, d176_172, d176_173, d176_175, d176_178, d176_184, d176_187, d176_189, n_lt, n_le, n_eq, n_lt0, n_ge0, n_gt0, n_le0, n_eq0, m_lt, m_le, m_gt, m_ge, m_eq, m_eq', m_lt0, m_ge0, m_gt0, m_le0, m_ltm, m_lem, n_in, m_in, n_cl, n_ti, n_div, n_rem', n_dec, n_l, nI_add, pk_mul, an0, an1, decide_eq_true_eq, if_true, if_false, ite_true, ite_false, and_true, true_and, and_false, false_and, not_true, not_false_iff, or_false, false_or, or_true, true_or, eq_self, va_some, Bool.false_eq_true, reduceIte, catS_n, catS_i, catS_r, catS_l, catS_d, Nat.zero_add, Nat.add_zero, decide_true, decide_false, Nat.reduceLeDiff, cat_r, cat_i, cat_l, nle_T, nle_F, nlt_T, nlt_F, neq_T, neq_F, k0, p0, y1, hnc, c167 hM hn, c160, hs1, ef, hg3, w16, hz, h18', hor, Bool.false_and, n_sub]
            done
theorem f176o {d : Nat} {P : MP} {I : MI} {L : ML} {C : MC} {Q : QT} {q : Nat} {x y : Int32} {sp gr : SP} {g : GS} (hM : MB P) (hn : NR I g) (hv : TV g) (hx : MSp g x sp) (hy : MGr y gr) (hq : q ≤ 3) (hd : 3 ≤ d) : ∀ t z (u6 u7 u8 u9 u10 : Value), t < 3 → (∀ i, i < 32 → bt z i = (dn t 0 i && pb g (can g q sp gr) i)) → X d 176 6 [.ref 150, .int (nI q), .int x, .int y, .int z, .int (nI t), u6, u7, u8, u9, u10] [] P I L C Q = Q (.inl (some (.int (aset g (can g q sp gr))))) P I L C := by
  intro t
  induction t with
  | zero =>
    intro z u6 u7 u8 u9 u10 ht hb
    obtain ⟨z', v7, v8, v9, v10, h1, h2⟩ := f176 (d := d) (L := L) (C := C) (Q := Q) (q := q) hM hn hv hx hy ht hq hd (g (3 + 0)) 0 z u7 u8 u9 u10 (by omega) hb
    have e : z' = aset g (can g q sp gr) := b_is (by omega) fun i hi => by
      rw [h1 i hi]
      congr 1
      exact decide_eq_decide.mpr (by omega)
    have q1 : X d 176 181 [.ref 150, .int (nI q), .int x, .int y, .int z', .int (nI 0), .int (nI (g (3 + 0))), v7, v8, v9, v10] [] P I L C Q = Q (.inl (some (.int z'))) P I L C := by
      rw [X_go, d176_181]
      simp (disch := first | assumption | omega) only [Nat.reduceAdd, X_go, go2_some, stp, ldI, ldA, ldL, stI, stA, stL, o1I, o2I, o2L, brI, brII, gl, s1, s2, k1, sl, go_sN, go_sR, go_CT, go_sT, go_no, go_if, pops, bk_v, bk_0, d176_0, d176_1, d176_3, d176_4, d176_6, d176_8, d176_11, d176_12, d176_16, d176_17, d176_20, d176_21, d176_23, d176_24, d176_25, d176_28, d176_29, d176_31, d176_33, d176_34, d176_37, d176_39, d176_40, d176_42, d176_44, d176_45, d176_48, d176_50, d176_51, d176_53, d176_55, d176_56, d176_58, d176_59, d176_60, d176_61, d176_62, d176_65, d176_67, d176_70, d176_71, d176_72, d176_74, d176_75, d176_77, d176_78, d176_79, d176_80, d176_81, d176_82, d176_83, d176_86, d176_87, d176_90, d176_91, d176_93, d176_95, d176_98, d176_101, d176_102, d176_104, d176_106, d176_107, d176_110, d176_111, d176_114, d176_115, d176_118, d176_119, d176_122, d176_124, d176_126, d176_128, d176_130, d176_131, d176_132, d176_133, d176_135, d176_136, d176_139, d176_140, d176_143, d176_144, d176_146, d176_148, d176_150, d176_153, d176_155, d176_158, d176_159, d176_161, d176_163, d176_164, d176_166, d176_167, d176_168, d176_171, d176_172, d176_173, d176_175, d176_178, d176_184, d176_187, d176_189, n_lt, n_le, n_eq, n_lt0, n_ge0, n_gt0, n_le0, n_eq0, m_lt, m_le, m_gt, m_ge, m_eq, m_eq', m_lt0, m_ge0, m_gt0, m_le0, m_ltm, m_lem, n_in, m_in, n_cl, n_ti, n_div, n_rem', n_dec, n_l, nI_add, pk_mul, an0, an1, decide_eq_true_eq, if_true, if_false, ite_true, ite_false, and_true, true_and, and_false, false_and, not_true, not_false_iff, or_false, false_or, or_true, true_or, eq_self, va_some, Bool.false_eq_true, reduceIte, catS_n, catS_i, catS_r, catS_l, catS_d, Nat.zero_add, Nat.add_zero, decide_true, decide_false, Nat.reduceLeDiff, cat_r, cat_i, cat_l, nle_T, nle_F, nlt_T, nlt_F, neq_T, neq_F]
    rw [← e, ← q1, ← h2, X_go, d176_6]
    simp (disch := first | assumption | omega) only [Nat.reduceAdd, X_go, go2_some, stp, ldI, ldA, ldL, stI, stA, stL, o1I, o2I, o2L, brI, brII, gl, s1, s2, k1, sl, go_sN, go_sR, go_CT, go_sT, go_no, go_if, pops, bk_v, bk_0, d176_0, d176_1, d176_3, d176_4, d176_8, d176_11, d176_12, d176_16, d176_17, d176_20, d176_21, d176_23, d176_24, d176_25, d176_28, d176_29, d176_31, d176_33, d176_34, d176_37, d176_39, d176_40, d176_42, d176_44, d176_45, d176_48, d176_50, d176_51, d176_53, d176_55, d176_56, d176_58, d176_59, d176_60, d176_61, d176_62, d176_65, d176_67, d176_70, d176_71, d176_72, d176_74, d176_75, d176_77, d176_78, d176_79, d176_80, d176_81, d176_82, d176_83, d176_86, d176_87, d176_90, d176_91, d176_93, d176_95, d176_98, d176_101, d176_102, d176_104, d176_106, d176_107, d176_110, d176_111, d176_114, d176_115, d176_118, d176_119, d176_122, d176_124, d176_126, d176_128, d176_130, d176_131, d176_132, d176_133, d176_135, d176_136, d176_139, d176_140, d176_143, d176_144, d176_146, d176_148, d176_150, d176_153, d176_155, d176_158, d176_159, d176_161, d176_163, d176_164, d176_166, d176_167, d176_168, d176_171, d176_172, d176_173, d176_175, d176_178, d176_184, d176_187, d176_189, n_lt, n_le, n_eq, n_lt0, n_ge0, n_gt0, n_le0, n_eq0, m_lt, m_le, m_gt, m_ge, m_eq, m_eq', m_lt0, m_ge0, m_gt0, m_le0, m_ltm, m_lem, n_in, m_in, n_cl, n_ti, n_div, n_rem', n_dec, n_l, nI_add, pk_mul, an0, an1, decide_eq_true_eq, if_true, if_false, ite_true, ite_false, and_true, true_and, and_false, false_and, not_true, not_false_iff, or_false, false_or, or_true, true_or, eq_self, va_some, Bool.false_eq_true, reduceIte, catS_n, catS_i, catS_r, catS_l, catS_d, Nat.zero_add, Nat.add_zero, decide_true, decide_false, Nat.reduceLeDiff, cat_r, cat_i, cat_l, nle_T, nle_F, nlt_T, nlt_F, neq_T, neq_F]
    done
  | succ t ih =>
    intro z u6 u7 u8 u9 u10 ht hb
    obtain ⟨z', v7, v8, v9, v10, h1, h2⟩ := f176 (d := d) (L := L) (C := C) (Q := Q) (q := q) hM hn hv hx hy ht hq hd (g (3 + (t + 1))) 0 z u7 u8 u9 u10 (by omega) hb
    have ih := ih z' (.int (nI (g (3 + (t + 1))))) v7 v8 v9 v10 (by omega) (fun i hi => by
      rw [h1 i hi]
      congr 1
      exact decide_eq_decide.mpr (by omega))
    have q1 : X d 176 181 [.ref 150, .int (nI q), .int x, .int y, .int z', .int (nI (t + 1)), .int (nI (g (3 + (t + 1)))), v7, v8, v9, v10] [] P I L C Q = X d 176 6 [.ref 150, .int (nI q), .int x, .int y, .int z', .int (nI t), .int (nI (g (3 + (t + 1)))), v7, v8, v9, v10] [] P I L C Q := by
      rw [X_go, d176_181]
      simp (disch := first | assumption | omega) only [Nat.reduceAdd, X_go, go2_some, stp, ldI, ldA, ldL, stI, stA, stL, o1I, o2I, o2L, brI, brII, gl, s1, s2, k1, sl, go_sN, go_sR, go_CT, go_sT, go_no, go_if, pops, bk_v, bk_0, d176_0, d176_1, d176_3, d176_4, d176_8, d176_11, d176_12, d176_16, d176_17, d176_20, d176_21, d176_23, d176_24, d176_25, d176_28, d176_29, d176_31, d176_33, d176_34, d176_37, d176_39, d176_40, d176_42, d176_44, d176_45, d176_48, d176_50, d176_51, d176_53, d176_55, d176_56, d176_58, d176_59, d176_60, d176_61, d176_62, d176_65, d176_67, d176_70, d176_71, d176_72, d176_74, d176_75, d176_77, d176_78, d176_79, d176_80, d176_81, d176_82, d176_83, d176_86, d176_87, d176_90, d176_91, d176_93, d176_95, d176_98, d176_101, d176_102, d176_104, d176_106, d176_107, d176_110, d176_111, d176_114, d176_115, d176_118, d176_119, d176_122, d176_124, d176_126, d176_128, d176_130, d176_131, d176_132, d176_133, d176_135, d176_136, d176_139, d176_140, d176_143, d176_144, d176_146, d176_148, d176_150, d176_153, d176_155, d176_158, d176_159, d176_161, d176_163, d176_164, d176_166, d176_167, d176_168, d176_171, d176_172, d176_173, d176_175, d176_178, d176_184, d176_187, d176_189, n_lt, n_le, n_eq, n_lt0, n_ge0, n_gt0, n_le0, n_eq0, m_lt, m_le, m_gt, m_ge, m_eq, m_eq', m_lt0, m_ge0, m_gt0, m_le0, m_ltm, m_lem, n_in, m_in, n_cl, n_ti, n_div, n_rem', n_dec, n_l, nI_add, pk_mul, an0, an1, decide_eq_true_eq, if_true, if_false, ite_true, ite_false, and_true, true_and, and_false, false_and, not_true, not_false_iff, or_false, false_or, or_true, true_or, eq_self, va_some, Bool.false_eq_true, reduceIte, catS_n, catS_i, catS_r, catS_l, catS_d, Nat.zero_add, Nat.add_zero, decide_true, decide_false, Nat.reduceLeDiff, cat_r, cat_i, cat_l, nle_T, nle_F, nlt_T, nlt_F, neq_T, neq_F, Nat.add_sub_cancel]
    rw [← ih, ← q1, ← h2, X_go, d176_6]
    simp (disch := first | assumption | omega) only [Nat.reduceAdd, X_go, go2_some, stp, ldI, ldA, ldL, stI, stA, stL, o1I, o2I, o2L, brI, brII, gl, s1, s2, k1, sl, go_sN, go_sR, go_CT, go_sT, go_no, go_if, pops, bk_v, bk_0, d176_0, d176_1, d176_3, d176_4, d176_8, d176_11, d176_12, d176_16, d176_17, d176_20, d176_21, d176_23, d176_24, d176_25, d176_28, d176_29, d176_31, d176_33, d176_34, d176_37, d176_39, d176_40, d176_42, d176_44, d176_45, d176_48, d176_50, d176_51, d176_53, d176_55, d176_56, d176_58, d176_59, d176_60, d176_61, d176_62, d176_65, d176_67, d176_70, d176_71, d176_72, d176_74, d176_75, d176_77, d176_78, d176_79, d176_80, d176_81, d176_82, d176_83, d176_86, d176_87, d176_90, d176_91, d176_93, d176_95, d176_98, d176_101, d176_102, d176_104, d176_106, d176_107, d176_110, d176_111, d176_114, d176_115, d176_118, d176_119, d176_122, d176_124, d176_126, d176_128, d176_130, d176_131, d176_132, d176_133, d176_135, d176_136, d176_139, d176_140, d176_143, d176_144, d176_146, d176_148, d176_150, d176_153, d176_155, d176_158, d176_159, d176_161, d176_163, d176_164, d176_166, d176_167, d176_168, d176_171, d176_172, d176_173, d176_175, d176_178, d176_184, d176_187, d176_189, n_lt, n_le, n_eq, n_lt0, n_ge0, n_gt0, n_le0, n_eq0, m_lt, m_le, m_gt, m_ge, m_eq, m_eq', m_lt0, m_ge0, m_gt0, m_le0, m_ltm, m_lem, n_in, m_in, n_cl, n_ti, n_div, n_rem', n_dec, n_l, nI_add, pk_mul, an0, an1, decide_eq_true_eq, if_true, if_false, ite_true, ite_false, and_true, true_and, and_false, false_and, not_true, not_false_iff, or_false, false_or, or_true, true_or, eq_self, va_some, Bool.false_eq_true, reduceIte, catS_n, catS_i, catS_r, catS_l, catS_d, Nat.zero_add, Nat.add_zero, decide_true, decide_false, Nat.reduceLeDiff, cat_r, cat_i, cat_l, nle_T, nle_F, nlt_T, nlt_F, neq_T, neq_F]
    done
theorem c176 {d : Nat} {P : MP} {I : MI} {L : ML} {C : MC} {Q : QT} {q : Nat} {x y : Int32} {sp gr : SP} {g : GS} (hM : MB P) (hn : NR I g) (hv : TV g) (hx : MSp g x sp) (hy : MGr y gr) (hd : 4 ≤ d) (hq : q ≤ 3) : CT d 176 [.ref 150, .int (nI q), .int x, .int y] P I L C Q = Q (.inl (some (.int (aset g (can g q sp gr))))) P I L C := by
  have h := f176o (d := d - 1) (L := L) (C := C) (Q := Q) hM hn hv hx hy hq (by omega) 2 (nI 0) UN UN UN UN UN (by omega) (fun i hi => by
    rw [show nI 0 = 0 from rfl, b_0]
    have : dn 2 0 i = false := decide_eq_false (by omega)
    rw [this, Bool.false_and])
  rw [CT_e (mj := 176) (e := [.ref 150, .int (nI q), .int x, .int y, UN, UN, UN, UN, UN, UN, UN]) (by omega) rfl (Nat.le_of_ble_eq_true rfl)]
  simp (disch := first | assumption | omega) only [Nat.reduceAdd, X_go, go2_some, stp, ldI, ldA, ldL, stI, stA, stL, o1I, o2I, o2L, brI, brII, gl, s1, s2, k1, sl, go_sN, go_sR, go_CT, go_sT, go_no, go_if, pops, bk_v, bk_0, d176_0, d176_1, d176_3, d176_4, d176_8, d176_11, d176_12, d176_14, d176_16, d176_17, d176_20, d176_21, d176_23, d176_24, d176_25, d176_28, d176_29, d176_31, d176_33, d176_34, d176_37, d176_39, d176_40, d176_42, d176_44, d176_45, d176_48, d176_50, d176_51, d176_53, d176_55, d176_56, d176_58, d176_59, d176_60, d176_61, d176_62, d176_65, d176_67, d176_70, d176_71, d176_72, d176_74, d176_75, d176_77, d176_78, d176_79, d176_80, d176_81, d176_82, d176_83, d176_86, d176_87, d176_90, d176_91, d176_93, d176_95, d176_98, d176_101, d176_102, d176_104, d176_106, d176_107, d176_110, d176_111, d176_114, d176_115, d176_118, d176_119, d176_122, d176_124, d176_126, d176_128, d176_130, d176_131, d176_132, d176_133, d176_135, d176_136, d176_139, d176_140, d176_143, d176_144, d176_146, d176_148, d176_150, d176_153, d176_155, d176_158, d176_159, d176_161, d176_163, d176_164, d176_166, d176_167, d176_168, d176_171, d176_172, d176_173, d176_175, d176_178, d176_181, d176_184, d176_187, d176_189, n_lt, n_le, n_eq, n_lt0, n_ge0, n_gt0, n_le0, n_eq0, m_lt, m_le, m_gt, m_ge, m_eq, m_eq', m_lt0, m_ge0, m_gt0, m_le0, m_ltm, m_lem, n_in, m_in, n_cl, n_ti, n_div, n_rem', n_dec, n_l, nI_add, pk_mul, an0, an1, decide_eq_true_eq, if_true, if_false, ite_true, ite_false, and_true, true_and, and_false, false_and, not_true, not_false_iff, or_false, false_or, or_true, true_or, eq_self, va_some, Bool.false_eq_true, reduceIte, catS_n, catS_i, catS_r, catS_l, catS_d, Nat.zero_add, Nat.add_zero, decide_true, decide_false, Nat.reduceLeDiff, cat_r, cat_i, cat_l, nle_T, nle_F, nlt_T, nlt_F, neq_T, neq_F]
  simp only [← X_go]
  exact h
theorem d175_0 : dec 175 0 = some (.iconst 3, 1, [3]) := rfl
theorem d175_1 : dec 175 1 = some (.istore 5, 2, []) := rfl
theorem d175_3 : dec 175 3 = some (.iload 5, 2, []) := rfl
theorem d175_5 : dec 175 5 = some (.ifCond .le 84, 3, [89]) := rfl
theorem d175_8 : dec 175 8 = some (.aload_n 0, 1, []) := rfl
theorem d175_9 : dec 175 9 = some (.getfield 7, 3, [1, 10, 0, 2, 0, 994]) := rfl
theorem d175_12 : dec 175 12 = some (.bipush 116, 2, [116]) := rfl
theorem d175_14 : dec 175 14 = some (.iload 5, 2, []) := rfl
theorem d175_16 : dec 175 16 = some (.iadd, 1, []) := rfl
theorem d175_17 : dec 175 17 = some (.iaload, 1, []) := rfl
theorem d175_18 : dec 175 18 = some (.ifCond .le 39, 3, [57]) := rfl
theorem d175_21 : dec 175 21 = some (.aload_n 0, 1, []) := rfl
theorem d175_22 : dec 175 22 = some (.getfield 7, 3, [1, 10, 0, 2, 0, 994]) := rfl
theorem d175_25 : dec 175 25 = some (.bipush 113, 2, [113]) := rfl
theorem d175_27 : dec 175 27 = some (.iload 5, 2, []) := rfl
theorem d175_29 : dec 175 29 = some (.iadd, 1, []) := rfl
theorem d175_30 : dec 175 30 = some (.iaload, 1, []) := rfl
theorem d175_31 : dec 175 31 = some (.iconst 1, 1, [1]) := rfl
theorem d175_32 : dec 175 32 = some (.iadd, 1, []) := rfl
theorem d175_33 : dec 175 33 = some (.aload_n 0, 1, []) := rfl
theorem d175_34 : dec 175 34 = some (.getfield 7, 3, [1, 10, 0, 2, 0, 994]) := rfl
theorem d175_37 : dec 175 37 = some (.bipush 116, 2, [116]) := rfl
theorem d175_39 : dec 175 39 = some (.iload 5, 2, []) := rfl
theorem d175_41 : dec 175 41 = some (.iadd, 1, []) := rfl
theorem d175_42 : dec 175 42 = some (.iaload, 1, []) := rfl
theorem d175_43 : dec 175 43 = some (.if_icmp .lt 14, 3, [57]) := rfl
theorem d175_46 : dec 175 46 = some (.iload 4, 2, []) := rfl
theorem d175_48 : dec 175 48 = some (.iload 5, 2, []) := rfl
theorem d175_50 : dec 175 50 = some (.if_icmp .ge 7, 3, [57]) := rfl
theorem d175_53 : dec 175 53 = some (.iconst 1, 1, [1]) := rfl
theorem d175_54 : dec 175 54 = some (.goto 4, 3, [58]) := rfl
theorem d175_57 : dec 175 57 = some (.iconst 0, 1, [0]) := rfl
theorem d175_58 : dec 175 58 = some (.istore 6, 2, []) := rfl
theorem d175_60 : dec 175 60 = some (.iload 6, 2, []) := rfl
theorem d175_62 : dec 175 62 = some (.ifCond .eq 21, 3, [83]) := rfl
theorem d175_65 : dec 175 65 = some (.aload_n 0, 1, []) := rfl
theorem d175_66 : dec 175 66 = some (.iload 5, 2, []) := rfl
theorem d175_68 : dec 175 68 = some (.iload_n 2, 1, []) := rfl
theorem d175_69 : dec 175 69 = some (.iload_n 3, 1, []) := rfl
theorem d175_70 : dec 175 70 = some (.invokevirtual 115, 3, [2, 176, 2, 10, 0, 1167, 0, 0, 0]) := rfl
theorem d175_73 : dec 175 73 = some (.iload_n 1, 1, []) := rfl
theorem d175_74 : dec 175 74 = some (.invokestatic 118, 3, [2, 177, 0, 10, 0, 1171, 0, 0]) := rfl
theorem d175_77 : dec 175 77 = some (.ifCond .eq 6, 3, [83]) := rfl
theorem d175_80 : dec 175 80 = some (.iload 5, 2, []) := rfl
theorem d175_82 : dec 175 82 = some (.ireturn, 1, [0]) := rfl
theorem d175_83 : dec 175 83 = some (.iinc 5 (-1), 3, [4294967295]) := rfl
theorem d175_86 : dec 175 86 = some (.goto (-83), 3, [3]) := rfl
theorem d175_89 : dec 175 89 = some (.iconst 0, 1, [0]) := rfl
theorem d175_90 : dec 175 90 = some (.ireturn, 1, [0]) := rfl
theorem l175 : mL 175 = 7 := rfl
theorem f175 {d : Nat} {P : MP} {I : MI} {L : ML} {C : MC} {Q : QT} {t fd : Nat} {x y : Int32} {sp gr : SP} {g : GS} (hM : MB P) (hn : NR I g) (hv : TV g) (hl : LV g) (hx : MSp g x sp) (hy : MGr y gr) (ht : t < 3) (hf : fd ≤ 4) (hd : 5 ≤ d) : ∀ r (u : Value), r ≤ 3 → X d 175 3 [.ref 150, .int (nI t), .int x, .int y, .int (fI fd), .int (nI r), u] [] P I L C Q = Q (.inl (some (.int (nI (wqr g sp gr fd t r))))) P I L C := by
  have hM' := hM
  obtain ⟨⟨k0, p0, p1, p2, p5, y1, _⟩, _⟩ := hM'
  intro r
  induction r with
  | zero =>
    intro u hr
    have e : wqr g sp gr fd t 0 = 0 := rfl
    rw [X_go, d175_3]
    simp (disch := first | assumption | omega) only [Nat.reduceAdd, X_go, go2_some, stp, ldI, ldA, ldL, stI, stA, stL, o1I, o2I, o2L, brI, brII, gl, s1, s2, k1, sl, go_sN, go_sR, go_CT, go_sT, go_no, go_if, pops, bk_v, bk_0, d175_0, d175_1, d175_5, d175_8, d175_9, d175_12, d175_14, d175_16, d175_17, d175_18, d175_21, d175_22, d175_25, d175_27, d175_29, d175_30, d175_31, d175_32, d175_33, d175_34, d175_37, d175_39, d175_41, d175_42, d175_43, d175_46, d175_48, d175_50, d175_53, d175_54, d175_57, d175_58, d175_60, d175_62, d175_65, d175_66, d175_68, d175_69, d175_70, d175_73, d175_74, d175_77, d175_80, d175_82, d175_83, d175_86, d175_89, d175_90, n_lt, n_le, n_eq, n_lt0, n_ge0, n_gt0, n_le0, n_eq0, m_lt, m_le, m_gt, m_ge, m_eq, m_eq', m_lt0, m_ge0, m_gt0, m_le0, m_ltm, m_lem, n_in, m_in, n_cl, n_ti, n_div, n_rem', n_dec, n_l, nI_add, pk_mul, an0, an1, decide_eq_true_eq, if_true, if_false, ite_true, ite_false, and_true, true_and, and_false, false_and, not_true, not_false_iff, or_false, false_or, or_true, true_or, eq_self, va_some, Bool.false_eq_true, reduceIte, catS_n, catS_i, catS_r, catS_l, catS_d, Nat.zero_add, Nat.add_zero, decide_true, decide_false, Nat.reduceLeDiff, cat_r, cat_i, cat_l, nle_T, nle_F, nlt_T, nlt_F, neq_T, neq_F, e]
  | succ r ih =>
    intro u hr
    have h1 := hn (116 + (r + 1)) (by omega)
    have h2 := hn (113 + (r + 1)) (by omega)
    have hb := hl.1 (r + 1) (by omega) (by omega)
    have hlt : (nI (r + 1) ≤ fI fd) = (r + 1 < fd) := fI_le (by omega) (by omega)
    have hae : ∀ q, has g q sp gr t = anyB (g (3 + t)) (can g q sp gr t) := fun q => has_eq hv ht
    unfold wqr due
    rw [X_go, d175_3]
    by_cases a1 : 0 < g (116 + (r + 1))
    · by_cases a2 : g (116 + (r + 1)) ≤ g (113 + (r + 1)) + 1
      · by_cases a3 : fd ≤ r + 1
        · have a3' : ¬ (r + 1 < fd) := by omega
          cases a4 : has g (r + 1) sp gr t
          · have a4' := a4
            rw [hae] at a4'
            simp (disch := first | assumption | omega) only [Nat.reduceAdd, X_go, go2_some, stp, ldI, ldA, ldL, stI, stA, stL, o1I, o2I, o2L, brI, brII, gl, s1, s2, k1, sl, go_sN, go_sR, go_CT, go_sT, go_no, go_if, pops, bk_v, bk_0, d175_0, d175_1, d175_5, d175_8, d175_9, d175_12, d175_14, d175_16, d175_17, d175_18, d175_21, d175_22, d175_25, d175_27, d175_29, d175_30, d175_31, d175_32, d175_33, d175_34, d175_37, d175_39, d175_41, d175_42, d175_43, d175_46, d175_48, d175_50, d175_53, d175_54, d175_57, d175_58, d175_60, d175_62, d175_65, d175_66, d175_68, d175_69, d175_70, d175_73, d175_74, d175_77, d175_80, d175_82, d175_83, d175_86, d175_89, d175_90, n_lt, n_le, n_eq, n_lt0, n_ge0, n_gt0, n_le0, n_eq0, m_lt, m_le, m_gt, m_ge, m_eq, m_eq', m_lt0, m_ge0, m_gt0, m_le0, m_ltm, m_lem, n_in, m_in, n_cl, n_ti, n_div, n_rem', n_dec, n_l, nI_add, pk_mul, an0, an1, decide_eq_true_eq, if_true, if_false, ite_true, ite_false, and_true, true_and, and_false, false_and, not_true, not_false_iff, or_false, false_or, or_true, true_or, eq_self, va_some, Bool.false_eq_true, reduceIte, catS_n, catS_i, catS_r, catS_l, catS_d, Nat.zero_add, Nat.add_zero, decide_true, decide_false, Nat.reduceLeDiff, cat_r, cat_i, cat_l, nle_T, nle_F, nlt_T, nlt_F, neq_T, neq_F, k0, p0, y1, h1, h2, hlt, a1, a2, a3, a3', c176 hM hn hv hx hy, c177 hv, a4, a4', Bool.and_self, Bool.and_false]
            simp only [← X_go]
            exact ih _ (by omega)
          · have a4' := a4
            rw [hae] at a4'
            simp (disch := first | assumption | omega) only [Nat.reduceAdd, X_go, go2_some, stp, ldI, ldA, ldL, stI, stA, stL, o1I, o2I, o2L, brI, brII, gl, s1, s2, k1, sl, go_sN, go_sR, go_CT, go_sT, go_no, go_if, pops, bk_v, bk_0, d175_0, d175_1, d175_5, d175_8, d175_9, d175_12, d175_14, d175_16, d175_17, d175_18, d175_21, d175_22, d175_25, d175_27, d175_29, d175_30, d175_31, d175_32, d175_33, d175_34, d175_37, d175_39, d175_41, d175_42, d175_43, d175_46, d175_48, d175_50, d175_53, d175_54, d175_57, d175_58, d175_60, d175_62, d175_65, d175_66, d175_68, d175_69, d175_70, d175_73, d175_74, d175_77, d175_80, d175_82, d175_83, d175_86, d175_89, d175_90, n_lt, n_le, n_eq, n_lt0, n_ge0, n_gt0, n_le0, n_eq0, m_lt, m_le, m_gt, m_ge, m_eq, m_eq', m_lt0, m_ge0, m_gt0, m_le0, m_ltm, m_lem, n_in, m_in, n_cl, n_ti, n_div, n_rem', n_dec, n_l, nI_add, pk_mul, an0, an1, decide_eq_true_eq, if_true, if_false, ite_true, ite_false, and_true, true_and, and_false, false_and, not_true, not_false_iff, or_false, false_or, or_true, true_or, eq_self, va_some, Bool.false_eq_true, reduceIte, catS_n, catS_i, catS_r, catS_l, catS_d, Nat.zero_add, Nat.add_zero, decide_true, decide_false, Nat.reduceLeDiff, cat_r, cat_i, cat_l, nle_T, nle_F, nlt_T, nlt_F, neq_T, neq_F, k0, p0, y1, h1, h2, hlt, a1, a2, a3, a3', c176 hM hn hv hx hy, c177 hv, a4, a4', Bool.and_self]
            done
        · have a3' : r + 1 < fd := by omega
          simp (disch := first | assumption | omega) only [Nat.reduceAdd, X_go, go2_some, stp, ldI, ldA, ldL, stI, stA, stL, o1I, o2I, o2L, brI, brII, gl, s1, s2, k1, sl, go_sN, go_sR, go_CT, go_sT, go_no, go_if, pops, bk_v, bk_0, d175_0, d175_1, d175_5, d175_8, d175_9, d175_12, d175_14, d175_16, d175_17, d175_18, d175_21, d175_22, d175_25, d175_27, d175_29, d175_30, d175_31, d175_32, d175_33, d175_34, d175_37, d175_39, d175_41, d175_42, d175_43, d175_46, d175_48, d175_50, d175_53, d175_54, d175_57, d175_58, d175_60, d175_62, d175_65, d175_66, d175_68, d175_69, d175_70, d175_73, d175_74, d175_77, d175_80, d175_82, d175_83, d175_86, d175_89, d175_90, n_lt, n_le, n_eq, n_lt0, n_ge0, n_gt0, n_le0, n_eq0, m_lt, m_le, m_gt, m_ge, m_eq, m_eq', m_lt0, m_ge0, m_gt0, m_le0, m_ltm, m_lem, n_in, m_in, n_cl, n_ti, n_div, n_rem', n_dec, n_l, nI_add, pk_mul, an0, an1, decide_eq_true_eq, if_true, if_false, ite_true, ite_false, and_true, true_and, and_false, false_and, not_true, not_false_iff, or_false, false_or, or_true, true_or, eq_self, va_some, Bool.false_eq_true, reduceIte, catS_n, catS_i, catS_r, catS_l, catS_d, Nat.zero_add, Nat.add_zero, decide_true, decide_false, Nat.reduceLeDiff, cat_r, cat_i, cat_l, nle_T, nle_F, nlt_T, nlt_F, neq_T, neq_F, k0, p0, y1, h1, h2, hlt, a1, a2, a3, a3', Bool.and_self, Bool.and_false, Bool.false_and]
          simp only [← X_go]
          exact ih _ (by omega)
      · simp (disch := first | assumption | omega) only [Nat.reduceAdd, X_go, go2_some, stp, ldI, ldA, ldL, stI, stA, stL, o1I, o2I, o2L, brI, brII, gl, s1, s2, k1, sl, go_sN, go_sR, go_CT, go_sT, go_no, go_if, pops, bk_v, bk_0, d175_0, d175_1, d175_5, d175_8, d175_9, d175_12, d175_14, d175_16, d175_17, d175_18, d175_21, d175_22, d175_25, d175_27, d175_29, d175_30, d175_31, d175_32, d175_33, d175_34, d175_37, d175_39, d175_41, d175_42, d175_43, d175_46, d175_48, d175_50, d175_53, d175_54, d175_57, d175_58, d175_60, d175_62, d175_65, d175_66, d175_68, d175_69, d175_70, d175_73, d175_74, d175_77, d175_80, d175_82, d175_83, d175_86, d175_89, d175_90, n_lt, n_le, n_eq, n_lt0, n_ge0, n_gt0, n_le0, n_eq0, m_lt, m_le, m_gt, m_ge, m_eq, m_eq', m_lt0, m_ge0, m_gt0, m_le0, m_ltm, m_lem, n_in, m_in, n_cl, n_ti, n_div, n_rem', n_dec, n_l, nI_add, pk_mul, an0, an1, decide_eq_true_eq, if_true, if_false, ite_true, ite_false, and_true, true_and, and_false, false_and, not_true, not_false_iff, or_false, false_or, or_true, true_or, eq_self, va_some, Bool.false_eq_true, reduceIte, catS_n, catS_i, catS_r, catS_l, catS_d, Nat.zero_add, Nat.add_zero, decide_true, decide_false, Nat.reduceLeDiff, cat_r, cat_i, cat_l, nle_T, nle_F, nlt_T, nlt_F, neq_T, neq_F, k0, p0, y1, h1, h2, hlt, a1, a2, Bool.and_false, Bool.false_and]
        simp only [← X_go]
        exact ih _ (by omega)
    · simp (disch := first | assumption | omega) only [Nat.reduceAdd, X_go, go2_some, stp, ldI, ldA, ldL, stI, stA, stL, o1I, o2I, o2L, brI, brII, gl, s1, s2, k1, sl, go_sN, go_sR, go_CT, go_sT, go_no, go_if, pops, bk_v, bk_0, d175_0, d175_1, d175_5, d175_8, d175_9, d175_12, d175_14, d175_16, d175_17, d175_18, d175_21, d175_22, d175_25, d175_27, d175_29, d175_30, d175_31, d175_32, d175_33, d175_34, d175_37, d175_39, d175_41, d175_42, d175_43, d175_46, d175_48, d175_50, d175_53, d175_54, d175_57, d175_58, d175_60, d175_62, d175_65, d175_66, d175_68, d175_69, d175_70, d175_73, d175_74, d175_77, d175_80, d175_82, d175_83, d175_86, d175_89, d175_90, n_lt, n_le, n_eq, n_lt0, n_ge0, n_gt0, n_le0, n_eq0, m_lt, m_le, m_gt, m_ge, m_eq, m_eq', m_lt0, m_ge0, m_gt0, m_le0, m_ltm, m_lem, n_in, m_in, n_cl, n_ti, n_div, n_rem', n_dec, n_l, nI_add, pk_mul, an0, an1, decide_eq_true_eq, if_true, if_false, ite_true, ite_false, and_true, true_and, and_false, false_and, not_true, not_false_iff, or_false, false_or, or_true, true_or, eq_self, va_some, Bool.false_eq_true, reduceIte, catS_n, catS_i, catS_r, catS_l, catS_d, Nat.zero_add, Nat.add_zero, decide_true, decide_false, Nat.reduceLeDiff, cat_r, cat_i, cat_l, nle_T, nle_F, nlt_T, nlt_F, neq_T, neq_F, k0, p0, y1, h1, h2, hlt, a1, Bool.false_and]
      simp only [← X_go]
      exact ih _ (by omega)
theorem c175 {d : Nat} {P : MP} {I : MI} {L : ML} {C : MC} {Q : QT} {t fd : Nat} {x y : Int32} {sp gr : SP} {g : GS} (hM : MB P) (hn : NR I g) (hv : TV g) (hl : LV g) (hx : MSp g x sp) (hy : MGr y gr) (hd : 6 ≤ d) (ht : t < 3) (hf : fd ≤ 4) : CT d 175 [.ref 150, .int (nI t), .int x, .int y, .int (fI fd)] P I L C Q = Q (.inl (some (.int (nI (wq g sp gr fd t))))) P I L C := by
  have h := f175 (d := d - 1) (L := L) (C := C) (Q := Q) hM hn hv hl hx hy ht hf (by omega) 3 UN (by omega)
  rw [wqr_3] at h
  rw [CT_e (mj := 175) (e := [.ref 150, .int (nI t), .int x, .int y, .int (fI fd), UN, UN]) (by omega) rfl (Nat.le_of_ble_eq_true rfl)]
  simp (disch := first | assumption | omega) only [Nat.reduceAdd, X_go, go2_some, stp, ldI, ldA, ldL, stI, stA, stL, o1I, o2I, o2L, brI, brII, gl, s1, s2, k1, sl, go_sN, go_sR, go_CT, go_sT, go_no, go_if, pops, bk_v, bk_0, d175_0, d175_1, d175_5, d175_8, d175_9, d175_12, d175_14, d175_16, d175_17, d175_18, d175_21, d175_22, d175_25, d175_27, d175_29, d175_30, d175_31, d175_32, d175_33, d175_34, d175_37, d175_39, d175_41, d175_42, d175_43, d175_46, d175_48, d175_50, d175_53, d175_54, d175_57, d175_58, d175_60, d175_62, d175_65, d175_66, d175_68, d175_69, d175_70, d175_73, d175_74, d175_77, d175_80, d175_82, d175_83, d175_86, d175_89, d175_90, n_lt, n_le, n_eq, n_lt0, n_ge0, n_gt0, n_le0, n_eq0, m_lt, m_le, m_gt, m_ge, m_eq, m_eq', m_lt0, m_ge0, m_gt0, m_le0, m_ltm, m_lem, n_in, m_in, n_cl, n_ti, n_div, n_rem', n_dec, n_l, nI_add, pk_mul, an0, an1, decide_eq_true_eq, if_true, if_false, ite_true, ite_false, and_true, true_and, and_false, false_and, not_true, not_false_iff, or_false, false_or, or_true, true_or, eq_self, va_some, Bool.false_eq_true, reduceIte, catS_n, catS_i, catS_r, catS_l, catS_d, Nat.zero_add, Nat.add_zero, decide_true, decide_false, Nat.reduceLeDiff, cat_r, cat_i, cat_l, nle_T, nle_F, nlt_T, nlt_F, neq_T, neq_F]
  simp only [← X_go]
  exact h
theorem d173_0 : dec 173 0 = some (.aload_n 0, 1, []) := rfl
theorem d173_1 : dec 173 1 = some (.invokevirtual 124, 3, [2, 174, 2, 10, 0, 1159]) := rfl
theorem d173_4 : dec 173 4 = some (.istore_n 2, 1, []) := rfl
theorem d173_5 : dec 173 5 = some (.aload_n 0, 1, []) := rfl
theorem d173_6 : dec 173 6 = some (.aload_n 0, 1, []) := rfl
theorem d173_7 : dec 173 7 = some (.iload_n 1, 1, []) := rfl
theorem d173_8 : dec 173 8 = some (.iload_n 2, 1, []) := rfl
theorem d173_9 : dec 173 9 = some (.iconst 0, 1, [0]) := rfl
theorem d173_10 : dec 173 10 = some (.iconst (-1), 1, [4294967295]) := rfl
theorem d173_11 : dec 173 11 = some (.invokevirtual 127, 3, [2, 175, 2, 10, 0, 1163, 0, 0, 0, 0]) := rfl
theorem d173_14 : dec 173 14 = some (.iload_n 2, 1, []) := rfl
theorem d173_15 : dec 173 15 = some (.iconst 0, 1, [0]) := rfl
theorem d173_16 : dec 173 16 = some (.invokevirtual 115, 3, [2, 176, 2, 10, 0, 1167, 0, 0, 0]) := rfl
theorem d173_19 : dec 173 19 = some (.ireturn, 1, [0]) := rfl
theorem l173 : mL 173 = 3 := rfl
theorem c173 {d : Nat} {P : MP} {I : MI} {L : ML} {C : MC} {Q : QT} {t : Nat} {g : GS} (hM : MB P) (hn : NR I g) (hv : TV g) (hl : LV g) (hd : 7 ≤ d) (ht : t < 3) : CT d 173 [.ref 150, .int (nI t)] P I L C Q = Q (.inl (some (.int (aset g (can g (fq g t) (spG g) noG))))) P I L C := by
  have k0 := hM.1.1
  have hb := wq_b g (spG g) noG 0 t
  have h175 : ∀ Q, CT (d - 1) 175 [.ref 150, .int (nI t), .int (sbits g), .int (nI 0), .int (nI 4294967295)] P I L C Q = Q (.inl (some (.int (nI (fq g t))))) P I L C := fun Q => c175 (fd := 0) hM hn hv hl (MSp_s hv) MGr_0 (by omega) ht (by omega)
  have hb : fq g t ≤ 3 := hb
  rw [CT_e (mj := 173) (e := [.ref 150, .int (nI t), UN]) (by omega) rfl (Nat.le_of_ble_eq_true rfl)]
  simp (disch := first | assumption | omega) only [Nat.reduceAdd, X_go, go2_some, stp, ldI, ldA, ldL, stI, stA, stL, o1I, o2I, o2L, brI, brII, gl, s1, s2, k1, sl, go_sN, go_sR, go_CT, go_sT, go_no, go_if, pops, bk_v, bk_0, d173_0, d173_1, d173_4, d173_5, d173_6, d173_7, d173_8, d173_9, d173_10, d173_11, d173_14, d173_15, d173_16, d173_19, n_lt, n_le, n_eq, n_lt0, n_ge0, n_gt0, n_le0, n_eq0, m_lt, m_le, m_gt, m_ge, m_eq, m_eq', m_lt0, m_ge0, m_gt0, m_le0, m_ltm, m_lem, n_in, m_in, n_cl, n_ti, n_div, n_rem', n_dec, n_l, nI_add, pk_mul, an0, an1, decide_eq_true_eq, if_true, if_false, ite_true, ite_false, and_true, true_and, and_false, false_and, not_true, not_false_iff, or_false, false_or, or_true, true_or, eq_self, va_some, Bool.false_eq_true, reduceIte, catS_n, catS_i, catS_r, catS_l, catS_d, Nat.zero_add, Nat.add_zero, decide_true, decide_false, Nat.reduceLeDiff, cat_r, cat_i, cat_l, nle_T, nle_F, nlt_T, nlt_F, neq_T, neq_F, k0, c174 hM hn hv, h175, c176 hM hn hv (MSp_s hv) MGr_0]
  done
