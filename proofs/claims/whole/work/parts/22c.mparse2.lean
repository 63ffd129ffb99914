/-! THE MODEL: parse -/
theorem d216_0 : dec 216 0 = some (.aload_n 0, 1, []) := rfl
theorem d216_1 : dec 216 1 = some (.iconst 0, 1, [0]) := rfl
theorem d216_2 : dec 216 2 = some (.putfield 65, 3, [1, 10, 4, 0, 0, 998]) := rfl
theorem d216_5 : dec 216 5 = some (.aload_n 0, 1, []) := rfl
theorem d216_6 : dec 216 6 = some (.invokevirtual 210, 3, [2, 211, 2, 10, 0, 1311]) := rfl
theorem d216_9 : dec 216 9 = some (.iconst 0, 1, [0]) := rfl
theorem d216_10 : dec 216 10 = some (.istore_n 1, 1, []) := rfl
theorem d216_11 : dec 216 11 = some (.iload_n 1, 1, []) := rfl
theorem d216_12 : dec 216 12 = some (.iconst 3, 1, [3]) := rfl
theorem d216_13 : dec 216 13 = some (.if_icmp .ge 27, 3, [40]) := rfl
theorem d216_16 : dec 216 16 = some (.aload_n 0, 1, []) := rfl
theorem d216_17 : dec 216 17 = some (.getfield 7, 3, [1, 10, 0, 2, 0, 994]) := rfl
theorem d216_20 : dec 216 20 = some (.iconst 0, 1, [0]) := rfl
theorem d216_21 : dec 216 21 = some (.iload_n 1, 1, []) := rfl
theorem d216_22 : dec 216 22 = some (.iadd, 1, []) := rfl
theorem d216_23 : dec 216 23 = some (.iconst 1, 1, [1]) := rfl
theorem d216_24 : dec 216 24 = some (.iastore, 1, []) := rfl
theorem d216_25 : dec 216 25 = some (.aload_n 0, 1, []) := rfl
theorem d216_26 : dec 216 26 = some (.getfield 7, 3, [1, 10, 0, 2, 0, 994]) := rfl
theorem d216_29 : dec 216 29 = some (.iconst 3, 1, [3]) := rfl
theorem d216_30 : dec 216 30 = some (.iload_n 1, 1, []) := rfl
theorem d216_31 : dec 216 31 = some (.iadd, 1, []) := rfl
theorem d216_32 : dec 216 32 = some (.iconst 0, 1, [0]) := rfl
theorem d216_33 : dec 216 33 = some (.iastore, 1, []) := rfl
theorem d216_34 : dec 216 34 = some (.iinc 1 1, 3, [1]) := rfl
theorem d216_37 : dec 216 37 = some (.goto (-26), 3, [11]) := rfl
theorem d216_40 : dec 216 40 = some (.aload_n 0, 1, []) := rfl
theorem d216_41 : dec 216 41 = some (.iconst 0, 1, [0]) := rfl
theorem d216_42 : dec 216 42 = some (.putfield 221, 3, [1, 10, 22, 0, 0, 1016]) := rfl
theorem d216_45 : dec 216 45 = some (.aload_n 0, 1, []) := rfl
theorem d216_46 : dec 216 46 = some (.getfield 221, 3, [1, 10, 22, 0, 0, 1016]) := rfl
theorem d216_49 : dec 216 49 = some (.aload_n 0, 1, []) := rfl
theorem d216_50 : dec 216 50 = some (.getfield 218, 3, [1, 10, 6, 0, 0, 1000]) := rfl
theorem d216_53 : dec 216 53 = some (.if_icmp .ge 50, 3, [103]) := rfl
theorem d216_56 : dec 216 56 = some (.aload_n 0, 1, []) := rfl
theorem d216_57 : dec 216 57 = some (.bipush 100, 2, [100]) := rfl
theorem d216_59 : dec 216 59 = some (.invokevirtual 233, 3, [2, 217, 2, 10, 0, 1336, 0]) := rfl
theorem d216_62 : dec 216 62 = some (.ifCond .eq 13, 3, [75]) := rfl
theorem d216_65 : dec 216 65 = some (.aload_n 0, 1, []) := rfl
theorem d216_66 : dec 216 66 = some (.invokevirtual 239, 3, [2, 218, 2, 10, 0, 1340]) := rfl
theorem d216_69 : dec 216 69 = some (.ifCond .eq 22, 3, [91]) := rfl
theorem d216_72 : dec 216 72 = some (.goto (-27), 3, [45]) := rfl
theorem d216_75 : dec 216 75 = some (.aload_n 0, 1, []) := rfl
theorem d216_76 : dec 216 76 = some (.bipush 101, 2, [101]) := rfl
theorem d216_78 : dec 216 78 = some (.invokevirtual 233, 3, [2, 217, 2, 10, 0, 1336, 0]) := rfl
theorem d216_81 : dec 216 81 = some (.ifCond .eq 10, 3, [91]) := rfl
theorem d216_84 : dec 216 84 = some (.aload_n 0, 1, []) := rfl
theorem d216_85 : dec 216 85 = some (.invokevirtual 243, 3, [2, 221, 2, 10, 0, 1352]) := rfl
theorem d216_88 : dec 216 88 = some (.ifCond .ne (-43), 3, [45]) := rfl
theorem d216_91 : dec 216 91 = some (.aload_n 0, 1, []) := rfl
theorem d216_92 : dec 216 92 = some (.invokevirtual 213, 3, [2, 212, 2, 10, 0, 1315]) := rfl
theorem d216_95 : dec 216 95 = some (.bipush (-10), 2, [4294967286]) := rfl
theorem d216_97 : dec 216 97 = some (.aload_n 0, 1, []) := rfl
theorem d216_98 : dec 216 98 = some (.getfield 221, 3, [1, 10, 22, 0, 0, 1016]) := rfl
theorem d216_101 : dec 216 101 = some (.isub, 1, []) := rfl
theorem d216_102 : dec 216 102 = some (.ireturn, 1, [0]) := rfl
theorem d216_103 : dec 216 103 = some (.iconst 0, 1, [0]) := rfl
theorem d216_104 : dec 216 104 = some (.istore_n 1, 1, []) := rfl
theorem d216_105 : dec 216 105 = some (.iload_n 1, 1, []) := rfl
theorem d216_106 : dec 216 106 = some (.sipush 201, 3, [201]) := rfl
theorem d216_109 : dec 216 109 = some (.if_icmp .ge 21, 3, [130]) := rfl
theorem d216_112 : dec 216 112 = some (.aload_n 0, 1, []) := rfl
theorem d216_113 : dec 216 113 = some (.getfield 62, 3, [1, 10, 24, 2, 0, 1018]) := rfl
theorem d216_116 : dec 216 116 = some (.iload_n 1, 1, []) := rfl
theorem d216_117 : dec 216 117 = some (.aload_n 0, 1, []) := rfl
theorem d216_118 : dec 216 118 = some (.getfield 7, 3, [1, 10, 0, 2, 0, 994]) := rfl
theorem d216_121 : dec 216 121 = some (.iload_n 1, 1, []) := rfl
theorem d216_122 : dec 216 122 = some (.iaload, 1, []) := rfl
theorem d216_123 : dec 216 123 = some (.iastore, 1, []) := rfl
theorem d216_124 : dec 216 124 = some (.iinc 1 1, 3, [1]) := rfl
theorem d216_127 : dec 216 127 = some (.goto (-22), 3, [105]) := rfl
theorem d216_130 : dec 216 130 = some (.aload_n 0, 1, []) := rfl
theorem d216_131 : dec 216 131 = some (.invokevirtual 213, 3, [2, 212, 2, 10, 0, 1315]) := rfl
theorem d216_134 : dec 216 134 = some (.aload_n 0, 1, []) := rfl
theorem d216_135 : dec 216 135 = some (.invokevirtual 87, 3, [2, 157, 2, 10, 0, 1095]) := rfl
theorem d216_138 : dec 216 138 = some (.iconst 0, 1, [0]) := rfl
theorem d216_139 : dec 216 139 = some (.istore_n 1, 1, []) := rfl
theorem d216_140 : dec 216 140 = some (.iload_n 1, 1, []) := rfl
theorem d216_141 : dec 216 141 = some (.sipush 201, 3, [201]) := rfl
theorem d216_144 : dec 216 144 = some (.if_icmp .ge 21, 3, [165]) := rfl
theorem d216_147 : dec 216 147 = some (.aload_n 0, 1, []) := rfl
theorem d216_148 : dec 216 148 = some (.getfield 7, 3, [1, 10, 0, 2, 0, 994]) := rfl
theorem d216_151 : dec 216 151 = some (.iload_n 1, 1, []) := rfl
theorem d216_152 : dec 216 152 = some (.aload_n 0, 1, []) := rfl
theorem d216_153 : dec 216 153 = some (.getfield 62, 3, [1, 10, 24, 2, 0, 1018]) := rfl
theorem d216_156 : dec 216 156 = some (.iload_n 1, 1, []) := rfl
theorem d216_157 : dec 216 157 = some (.iaload, 1, []) := rfl
theorem d216_158 : dec 216 158 = some (.iastore, 1, []) := rfl
theorem d216_159 : dec 216 159 = some (.iinc 1 1, 3, [1]) := rfl
theorem d216_162 : dec 216 162 = some (.goto (-22), 3, [140]) := rfl
theorem d216_165 : dec 216 165 = some (.aload_n 0, 1, []) := rfl
theorem d216_166 : dec 216 166 = some (.iconst 5, 1, [5]) := rfl
theorem d216_167 : dec 216 167 = some (.invokevirtual 154, 3, [2, 188, 2, 10, 0, 1214, 0]) := rfl
theorem d216_170 : dec 216 170 = some (.ireturn, 1, [0]) := rfl
theorem l216 : mL 216 = 2 := rfl
theorem f216 {d : Nat} {P : MP} {L : ML} {C : MC} {len : Nat} {tx : Nat → Nat} {u : Value} (hM : MB P) (hd : 7 ≤ d) : ∀ m p v (g : GS) (I : MI), len ≤ p + m → p ≤ len → TY I len tx → NR I g → TV g → (∃ f w I', rAll tx len m p g = .inl f ∧ f < 1000 ∧ fp I I' ∧ ∀ Q, X d 216 45 [.ref 150, u] [] P (mS I p v) L C Q = X d 216 91 [.ref 150, u] [] P (mS I' f w) L C Q) ∨ (∃ s w g' I', rAll tx len m p g = .inr g' ∧ NR I' g' ∧ TV g' ∧ (∀ k, 114 ≤ k → g' k = g k) ∧ fp I I' ∧ ∀ Q, X d 216 45 [.ref 150, u] [] P (mS I p v) L C Q = X d 216 103 [.ref 150, u] [] P (mS I' s w) L C Q) := by
  have k0 := hM.1.1
  intro m
  have ex : ∀ p v (I : MI) Q, len ≤ p → p ≤ len → TY I len tx → X d 216 45 [.ref 150, u] [] P (mS I p v) L C Q = X d 216 103 [.ref 150, u] [] P (mS I p v) L C Q := fun p v I Q h1 h2 ht => by
    have e1 : mS I p v 150 6 = nI len := by rw [mS_n (by omega)]; exact ht.1.1
    have hlen := ht.2.1
    rw [X_go, d216_45]
    simp (disch := first | assumption | omega) only [Nat.reduceAdd, X_go, go2_some, stp, ldI, ldA, ldL, stI, stA, stL, o1I, o2I, o2L, brI, brII, gl, s1, s2, k1, sl, go_sN, go_sR, go_CT, go_sT, go_no, go_if, pops, bk_v, bk_0, d216_0, d216_1, d216_2, d216_5, d216_6, d216_9, d216_10, d216_11, d216_12, d216_13, d216_16, d216_17, d216_20, d216_21, d216_22, d216_23, d216_24, d216_25, d216_26, d216_29, d216_30, d216_31, d216_32, d216_33, d216_34, d216_37, d216_40, d216_41, d216_42, d216_46, d216_49, d216_50, d216_53, d216_56, d216_57, d216_59, d216_62, d216_65, d216_66, d216_69, d216_72, d216_75, d216_76, d216_78, d216_81, d216_84, d216_85, d216_88, d216_92, d216_95, d216_97, d216_98, d216_101, d216_102, d216_104, d216_105, d216_106, d216_109, d216_112, d216_113, d216_116, d216_117, d216_118, d216_121, d216_122, d216_123, d216_124, d216_127, d216_130, d216_131, d216_134, d216_135, d216_138, d216_139, d216_140, d216_141, d216_144, d216_147, d216_148, d216_151, d216_152, d216_153, d216_156, d216_157, d216_158, d216_159, d216_162, d216_165, d216_166, d216_167, d216_170, n_lt, n_le, n_eq, n_lt0, n_ge0, n_gt0, n_le0, n_eq0, m_lt, m_le, m_gt, m_ge, m_eq, m_eq', m_lt0, m_ge0, m_gt0, m_le0, m_ltm, m_lem, n_in, m_in, n_cl, n_ti, n_div, n_rem', n_dec, n_l, nI_add, pk_mul, an0, an1, decide_eq_true_eq, if_true, if_false, ite_true, ite_false, and_true, true_and, and_false, false_and, not_true, not_false_iff, or_false, false_or, or_true, true_or, eq_self, va_some, Bool.false_eq_true, reduceIte, catS_n, catS_i, catS_r, catS_l, catS_d, Nat.zero_add, Nat.add_zero, decide_true, decide_false, Nat.reduceLeDiff, cat_r, cat_i, cat_l, nle_T, nle_F, nlt_T, nlt_F, neq_T, neq_F, k0, mS_2, e1]
    done
  induction m with
  | zero =>
    intro p v g I h1 h2 ht hn hv
    exact .inr ⟨p, v, g, I, rfl, hn, hv, fun _ _ => rfl, ⟨fun _ _ _ _ => rfl, fun _ _ => rfl⟩, fun Q => ex p v I Q (by omega) h2 ht⟩
  | succ m ih =>
    intro p v g I h1 h2 ht hn hv
    have hlen := ht.2.1
    have e1 : mS I p v 150 6 = nI len := by rw [mS_n (by omega)]; exact ht.1.1
    by_cases hpl : p < len
    · have e0 : rAll tx len (m + 1) p g = match rPart tx len p g with
        | .inl f => .inl f
        | .inr (s, g') => rAll tx len m s g' := if_pos hpl
      rw [e0]
      have rest : ∀ (r : Nat ⊕ (Nat × GS)) (mj : Nat), rPart tx len p g = r → MO P I L C d mj (p + 1) v len g r → (∀ (I' : MI) f w Q, (∀ Q', CT d mj [.ref 150] P (mS I (p + 1) v) L C Q' = Q' (.inl (some (.int (nI 0)))) P (mS I' f w) L C) → X d 216 45 [.ref 150, u] [] P (mS I p v) L C Q = X d 216 91 [.ref 150, u] [] P (mS I' f w) L C Q) → (∀ (I' : MI) f w Q, (∀ Q', CT d mj [.ref 150] P (mS I (p + 1) v) L C Q' = Q' (.inl (some (.int (nI 1)))) P (mS I' f w) L C) → X d 216 45 [.ref 150, u] [] P (mS I p v) L C Q = X d 216 45 [.ref 150, u] [] P (mS I' f w) L C Q) → (∃ f w I', (match rPart tx len p g with
        | .inl f => .inl f
        | .inr (s, g') => rAll tx len m s g') = (.inl f : Nat ⊕ GS) ∧ f < 1000 ∧ fp I I' ∧ ∀ Q, X d 216 45 [.ref 150, u] [] P (mS I p v) L C Q = X d 216 91 [.ref 150, u] [] P (mS I' f w) L C Q) ∨ (∃ s w g' I', (match rPart tx len p g with
        | .inl f => .inl f
        | .inr (s, g') => rAll tx len m s g') = (.inr g' : Nat ⊕ GS) ∧ NR I' g' ∧ TV g' ∧ (∀ k, 114 ≤ k → g' k = g k) ∧ fp I I' ∧ ∀ Q, X d 216 45 [.ref 150, u] [] P (mS I p v) L C Q = X d 216 103 [.ref 150, u] [] P (mS I' s w) L C Q) := by
        intro r mj hr hmo hbad hgood
        rw [hr]
        rcases hmo with ⟨f, w, I', rfl, q2, q3, q4⟩ | ⟨s, w, g', I', rfl, q2, q3, q4, q5, q6, q7, q8⟩
        · exact .inl ⟨f, w, I', rfl, q2, q3, fun Q => hbad I' f w Q q4⟩
        · rcases ih s w g' I' (by omega) q3 (TY_fp ht q7) q4 q5 with ⟨f, w2, I2, z1, z2, z3, z4⟩ | ⟨s2, w2, g2, I2, z1, z2, z3, z4, z5, z6⟩
          · exact .inl ⟨f, w2, I2, z1, z2, fp_t q7 z3, fun Q => by rw [hgood I' s w Q q8, z4]⟩
          · exact .inr ⟨s2, w2, g2, I2, z1, z2, z3, fun k hk => by rw [z4 k hk, q6 k hk], fp_t q7 z5, fun Q => by rw [hgood I' s w Q q8, z6]⟩
      by_cases a1 : ch tx len p 100 = true
      · refine rest _ 218 (if_pos a1) (c218 hM ht hn hv (by omega) (by omega)) (fun I' f w Q h => ?_) (fun I' f w Q h => ?_)
        · rw [X_go, d216_45]
          simp (disch := first | assumption | omega) only [Nat.reduceAdd, X_go, go2_some, stp, ldI, ldA, ldL, stI, stA, stL, o1I, o2I, o2L, brI, brII, gl, s1, s2, k1, sl, go_sN, go_sR, go_CT, go_sT, go_no, go_if, pops, bk_v, bk_0, d216_0, d216_1, d216_2, d216_5, d216_6, d216_9, d216_10, d216_11, d216_12, d216_13, d216_16, d216_17, d216_20, d216_21, d216_22, d216_23, d216_24, d216_25, d216_26, d216_29, d216_30, d216_31, d216_32, d216_33, d216_34, d216_37, d216_40, d216_41, d216_42, d216_46, d216_49, d216_50, d216_53, d216_56, d216_57, d216_59, d216_62, d216_65, d216_66, d216_69, d216_72, d216_75, d216_76, d216_78, d216_81, d216_84, d216_85, d216_88, d216_92, d216_95, d216_97, d216_98, d216_101, d216_102, d216_104, d216_105, d216_106, d216_109, d216_112, d216_113, d216_116, d216_117, d216_118, d216_121, d216_122, d216_123, d216_124, d216_127, d216_130, d216_131, d216_134, d216_135, d216_138, d216_139, d216_140, d216_141, d216_144, d216_147, d216_148, d216_151, d216_152, d216_153, d216_156, d216_157, d216_158, d216_159, d216_162, d216_165, d216_166, d216_167, d216_170, n_lt, n_le, n_eq, n_lt0, n_ge0, n_gt0, n_le0, n_eq0, m_lt, m_le, m_gt, m_ge, m_eq, m_eq', m_lt0, m_ge0, m_gt0, m_le0, m_ltm, m_lem, n_in, m_in, n_cl, n_ti, n_div, n_rem', n_dec, n_l, nI_add, pk_mul, an0, an1, decide_eq_true_eq, if_true, if_false, ite_true, ite_false, and_true, true_and, and_false, false_and, not_true, not_false_iff, or_false, false_or, or_true, true_or, eq_self, va_some, Bool.false_eq_true, reduceIte, catS_n, catS_i, catS_r, catS_l, catS_d, Nat.zero_add, Nat.add_zero, decide_true, decide_false, Nat.reduceLeDiff, cat_r, cat_i, cat_l, nle_T, nle_F, nlt_T, nlt_F, neq_T, neq_F, k0, mS_2, e1, hpl, c217 hM ht a1, h]
          done
        · rw [X_go, d216_45]
          simp (disch := first | assumption | omega) only [Nat.reduceAdd, X_go, go2_some, stp, ldI, ldA, ldL, stI, stA, stL, o1I, o2I, o2L, brI, brII, gl, s1, s2, k1, sl, go_sN, go_sR, go_CT, go_sT, go_no, go_if, pops, bk_v, bk_0, d216_0, d216_1, d216_2, d216_5, d216_6, d216_9, d216_10, d216_11, d216_12, d216_13, d216_16, d216_17, d216_20, d216_21, d216_22, d216_23, d216_24, d216_25, d216_26, d216_29, d216_30, d216_31, d216_32, d216_33, d216_34, d216_37, d216_40, d216_41, d216_42, d216_46, d216_49, d216_50, d216_53, d216_56, d216_57, d216_59, d216_62, d216_65, d216_66, d216_69, d216_72, d216_75, d216_76, d216_78, d216_81, d216_84, d216_85, d216_88, d216_92, d216_95, d216_97, d216_98, d216_101, d216_102, d216_104, d216_105, d216_106, d216_109, d216_112, d216_113, d216_116, d216_117, d216_118, d216_121, d216_122, d216_123, d216_124, d216_127, d216_130, d216_131, d216_134, d216_135, d216_138, d216_139, d216_140, d216_141, d216_144, d216_147, d216_148, d216_151, d216_152, d216_153, d216_156, d216_157, d216_158, d216_159, d216_162, d216_165, d216_166, d216_167, d216_170, n_lt, n_le, n_eq, n_lt0, n_ge0, n_gt0, n_le0, n_eq0, m_lt, m_le, m_gt, m_ge, m_eq, m_eq', m_lt0, m_ge0, m_gt0, m_le0, m_ltm, m_lem, n_in, m_in, n_cl, n_ti, n_div, n_rem', n_dec, n_l, nI_add, pk_mul, an0, an1, decide_eq_true_eq, if_true, if_false, ite_true, ite_false, and_true, true_and, and_false, false_and, not_true, not_false_iff, or_false, false_or, or_true, true_or, eq_self, va_some, Bool.false_eq_true, reduceIte, catS_n, catS_i, catS_r, catS_l, catS_d, Nat.zero_add, Nat.add_zero, decide_true, decide_false, Nat.reduceLeDiff, cat_r, cat_i, cat_l, nle_T, nle_F, nlt_T, nlt_F, neq_T, neq_F, k0, mS_2, e1, hpl, c217 hM ht a1, h]
          done
      · rw [Bool.not_eq_true] at a1
        have r1 : rPart tx len p g = if ch tx len p 101 = true then rEnt tx len (p + 1) g else .inl p := by unfold rPart; rw [a1]; rfl
        by_cases a2 : ch tx len p 101 = true
        · refine rest _ 221 (by rw [r1, if_pos a2]) (c221 hM ht hn hv (by omega) (by omega)) (fun I' f w Q h => ?_) (fun I' f w Q h => ?_)
          · rw [X_go, d216_45]
            simp (disch := first | assumption | omega) only [Nat.reduceAdd, X_go, go2_some, stp, ldI, ldA, ldL, stI, stA, stL, o1I, o2I, o2L, brI, brII, gl, s1, s2, k1, sl, go_sN, go_sR, go_CT, go_sT, go_no, go_if, pops, bk_v, bk_0, d216_0, d216_1, d216_2, d216_5, d216_6, d216_9, d216_10, d216_11, d216_12, d216_13, d216_16, d216_17, d216_20, d216_21, d216_22, d216_23, d216_24, d216_25, d216_26, d216_29, d216_30, d216_31, d216_32, d216_33, d216_34, d216_37, d216_40, d216_41, d216_42, d216_46, d216_49, d216_50, d216_53, d216_56, d216_57, d216_59, d216_62, d216_65, d216_66, d216_69, d216_72, d216_75, d216_76, d216_78, d216_81, d216_84, d216_85, d216_88, d216_92, d216_95, d216_97, d216_98, d216_101, d216_102, d216_104, d216_105, d216_106, d216_109, d216_112, d216_113, d216_116, d216_117, d216_118, d216_121, d216_122, d216_123, d216_124, d216_127, d216_130, d216_131, d216_134, d216_135, d216_138, d216_139, d216_140, d216_141, d216_144, d216_147, d216_148, d216_151, d216_152, d216_153, d216_156, d216_157, d216_158, d216_159, d216_162, d216_165, d216_166, d216_167, d216_170, n_lt, n_le, n_eq, n_lt0, n_ge0, n_gt0, n_le0, n_eq0, m_lt, m_le, m_gt, m_ge, m_eq, m_eq', m_lt0, m_ge0, m_gt0, m_le0, m_ltm, m_lem, n_in, m_in, n_cl, n_ti, n_div, n_rem', n_dec, n_l, nI_add, pk_mul, an0, an1, decide_eq_true_eq, if_true, if_false, ite_true, ite_false, and_true, true_and, and_false, false_and, not_true, not_false_iff, or_false, false_or, or_true, true_or, eq_self, va_some, Bool.false_eq_true, reduceIte, catS_n, catS_i, catS_r, catS_l, catS_d, Nat.zero_add, Nat.add_zero, decide_true, decide_false, Nat.reduceLeDiff, cat_r, cat_i, cat_l, nle_T, nle_F, nlt_T, nlt_F, neq_T, neq_F, k0, mS_2, e1, hpl, c217n hM ht a1, c217 hM ht a2, h]
            done
          · rw [X_go, d216_45]
            simp (disch := first | assumption | omega) only [Nat.reduceAdd, X_go, go2_some, stp, ldI, ldA, ldL, stI, stA, stL, o1I, o2I, o2L, brI, brII, gl, s1, s2, k1, sl, go_sN, go_sR, go_CT, go_sT, go_no, go_if, pops, bk_v, bk_0, d216_0, d216_1, d216_2, d216_5, d216_6, d216_9, d216_10, d216_11, d216_12, d216_13, d216_16, d216_17, d216_20, d216_21, d216_22, d216_23, d216_24, d216_25, d216_26, d216_29, d216_30, d216_31, d216_32, d216_33, d216_34, d216_37, d216_40, d216_41, d216_42, d216_46, d216_49, d216_50, d216_53, d216_56, d216_57, d216_59, d216_62, d216_65, d216_66, d216_69, d216_72, d216_75, d216_76, d216_78, d216_81, d216_84, d216_85, d216_88, d216_92, d216_95, d216_97, d216_98, d216_101, d216_102, d216_104, d216_105, d216_106, d216_109, d216_112, d216_113, d216_116, d216_117, d216_118, d216_121, d216_122, d216_123, d216_124, d216_127, d216_130, d216_131, d216_134, d216_135, d216_138, d216_139, d216_140, d216_141, d216_144, d216_147, d216_148, d216_151, d216_152, d216_153, d216_156, d216_157, d216_158, d216_159, d216_162, d216_165, d216_166, d216_167, d216_170, n_lt, n_le, n_eq, n_lt0, n_ge0, n_gt0, n_le0, n_eq0, m_lt, m_le, m_gt, m_ge, m_eq, m_eq', m_lt0, m_ge0, m_gt0, m_le0, m_ltm, m_lem, n_in, m_in, n_cl, n_ti, n_div, n_rem', n_dec, n_l, nI_add, pk_mul, an0, an1, decide_eq_true_eq, if_true, if_false, ite_true, ite_false, and_true, true_and, and_false, false_and, not_true, not_false_iff, or_false, false_or, or_true, true_or, eq_self, va_some, Bool.false_eq_true, reduceIte, catS_n, catS_i, catS_r, catS_l, catS_d, Nat.zero_add, Nat.add_zero, decide_true, decide_false, Nat.reduceLeDiff, cat_r, cat_i, cat_l, nle_T, nle_F, nlt_T, nlt_F, neq_T, neq_F, k0, mS_2, e1, hpl, c217n hM ht a1, c217 hM ht a2, h]
            done
        · rw [Bool.not_eq_true] at a2
          rw [r1, a2, if_neg (show ¬ (false = true) by decide)]
          refine .inl ⟨p, v, I, rfl, by omega, ⟨fun _ _ _ _ => rfl, fun _ _ => rfl⟩, fun Q => ?_⟩
          rw [X_go, d216_45]
          simp (disch := first | assumption | omega) only [Nat.reduceAdd, X_go, go2_some, stp, ldI, ldA, ldL, stI, stA, stL, o1I, o2I, o2L, brI, brII, gl, s1, s2, k1, sl, go_sN, go_sR, go_CT, go_sT, go_no, go_if, pops, bk_v, bk_0, d216_0, d216_1, d216_2, d216_5, d216_6, d216_9, d216_10, d216_11, d216_12, d216_13, d216_16, d216_17, d216_20, d216_21, d216_22, d216_23, d216_24, d216_25, d216_26, d216_29, d216_30, d216_31, d216_32, d216_33, d216_34, d216_37, d216_40, d216_41, d216_42, d216_46, d216_49, d216_50, d216_53, d216_56, d216_57, d216_59, d216_62, d216_65, d216_66, d216_69, d216_72, d216_75, d216_76, d216_78, d216_81, d216_84, d216_85, d216_88, d216_92, d216_95, d216_97, d216_98, d216_101, d216_102, d216_104, d216_105, d216_106, d216_109, d216_112, d216_113, d216_116, d216_117, d216_118, d216_121, d216_122, d216_123, d216_124, d216_127, d216_130, d216_131, d216_134, d216_135, d216_138, d216_139, d216_140, d216_141, d216_144, d216_147, d216_148, d216_151, d216_152, d216_153, d216_156, d216_157, d216_158, d216_159, d216_162, d216_165, d216_166, d216_167, d216_170, n_lt, n_le, n_eq, n_lt0, n_ge0, n_gt0, n_le0, n_eq0, m_lt, m_le, m_gt, m_ge, m_eq, m_eq', m_lt0, m_ge0, m_gt0, m_le0, m_ltm, m_lem, n_in, m_in, n_cl, n_ti, n_div, n_rem', n_dec, n_l, nI_add, pk_mul, an0, an1, decide_eq_true_eq, if_true, if_false, ite_true, ite_false, and_true, true_and, and_false, false_and, not_true, not_false_iff, or_false, false_or, or_true, true_or, eq_self, va_some, Bool.false_eq_true, reduceIte, catS_n, catS_i, catS_r, catS_l, catS_d, Nat.zero_add, Nat.add_zero, decide_true, decide_false, Nat.reduceLeDiff, cat_r, cat_i, cat_l, nle_T, nle_F, nlt_T, nlt_F, neq_T, neq_F, k0, mS_2, e1, hpl, c217n hM ht a1, c217n hM ht a2]
          done
    · have e0 : rAll tx len (m + 1) p g = .inr g := if_neg hpl
      rw [e0]
      exact .inr ⟨p, v, g, I, rfl, hn, hv, fun _ _ => rfl, ⟨fun _ _ _ _ => rfl, fun _ _ => rfl⟩, fun Q => ex p v I Q (by omega) h2 ht⟩
theorem f216c {d : Nat} {P : MP} {I : MI} {L : ML} {C : MC} {Q : QT} (hM : MB P) (hd : 1 ≤ d) : ∀ m k (R : Nat → Int32), k + m = 201 → X d 216 105 [.ref 150, .int (nI k)] [] P (xr I 168 R) L C Q = X d 216 130 [.ref 150, .int (nI 201)] [] P (xr I 168 (fun j => if k ≤ j ∧ j < 201 then I 151 j else R j)) L C Q := by
  obtain ⟨⟨k0, p0, p1, p2, p5, y1, y2, y3, y4⟩, _, _, r19, r20, r24, s19, s20, s24⟩ := hM
  intro m
  induction m with
  | zero =>
    intro k R h
    have : k = 201 := by omega
    subst this
    have e : (fun j => if 201 ≤ j ∧ j < 201 then I 151 j else R j) = R := funext fun j => if_neg (by omega)
    rw [e, X_go, d216_105]
    simp (disch := first | assumption | omega) only [Nat.reduceAdd, X_go, go2_some, stp, ldI, ldA, ldL, stI, stA, stL, o1I, o2I, o2L, brI, brII, gl, s1, s2, k1, sl, go_sN, go_sR, go_CT, go_sT, go_no, go_if, pops, bk_v, bk_0, d216_0, d216_1, d216_2, d216_5, d216_6, d216_9, d216_10, d216_11, d216_12, d216_13, d216_16, d216_17, d216_20, d216_21, d216_22, d216_23, d216_24, d216_25, d216_26, d216_29, d216_30, d216_31, d216_32, d216_33, d216_34, d216_37, d216_40, d216_41, d216_42, d216_45, d216_46, d216_49, d216_50, d216_53, d216_56, d216_57, d216_59, d216_62, d216_65, d216_66, d216_69, d216_72, d216_75, d216_76, d216_78, d216_81, d216_84, d216_85, d216_88, d216_91, d216_92, d216_95, d216_97, d216_98, d216_101, d216_102, d216_103, d216_104, d216_106, d216_109, d216_112, d216_113, d216_116, d216_117, d216_118, d216_121, d216_122, d216_123, d216_124, d216_127, d216_131, d216_134, d216_135, d216_138, d216_139, d216_140, d216_141, d216_144, d216_147, d216_148, d216_151, d216_152, d216_153, d216_156, d216_157, d216_158, d216_159, d216_162, d216_165, d216_166, d216_167, d216_170, n_lt, n_le, n_eq, n_lt0, n_ge0, n_gt0, n_le0, n_eq0, m_lt, m_le, m_gt, m_ge, m_eq, m_eq', m_lt0, m_ge0, m_gt0, m_le0, m_ltm, m_lem, n_in, m_in, n_cl, n_ti, n_div, n_rem', n_dec, n_l, nI_add, pk_mul, an0, an1, decide_eq_true_eq, if_true, if_false, ite_true, ite_false, and_true, true_and, and_false, false_and, not_true, not_false_iff, or_false, false_or, or_true, true_or, eq_self, va_some, Bool.false_eq_true, reduceIte, catS_n, catS_i, catS_r, catS_l, catS_d, Nat.zero_add, Nat.add_zero, decide_true, decide_false, Nat.reduceLeDiff, cat_r, cat_i, cat_l, nle_T, nle_F, nlt_T, nlt_F, neq_T, neq_F]
  | succ m ih =>
    intro k R h
    have e : (fun j => if k + 1 ≤ j ∧ j < 201 then I 151 j else (fun i => if i = k then I 151 k else R i) j) = (fun j => if k ≤ j ∧ j < 201 then I 151 j else R j) := by
      funext j
      dsimp only
      by_cases z : k + 1 ≤ j ∧ j < 201
      · rw [if_pos z, if_pos (by omega)]
      · rw [if_neg z]
        by_cases y : j = k
        · subst y
          rw [if_pos rfl, if_pos (by omega)]
        · rw [if_neg y, if_neg (by omega)]
    have h151 : xr I 168 R 151 = I 151 := xr_n _ _ (by omega)
    rw [← e, ← ih (k + 1) (fun i => if i = k then I 151 k else R i) (by omega), X_go, d216_105]
    simp (disch := first | assumption | omega) only [Nat.reduceAdd, X_go, go2_some, stp, ldI, ldA, ldL, stI, stA, stL, o1I, o2I, o2L, brI, brII, gl, s1, s2, k1, sl, go_sN, go_sR, go_CT, go_sT, go_no, go_if, pops, bk_v, bk_0, d216_0, d216_1, d216_2, d216_5, d216_6, d216_9, d216_10, d216_11, d216_12, d216_13, d216_16, d216_17, d216_20, d216_21, d216_22, d216_23, d216_24, d216_25, d216_26, d216_29, d216_30, d216_31, d216_32, d216_33, d216_34, d216_37, d216_40, d216_41, d216_42, d216_45, d216_46, d216_49, d216_50, d216_53, d216_56, d216_57, d216_59, d216_62, d216_65, d216_66, d216_69, d216_72, d216_75, d216_76, d216_78, d216_81, d216_84, d216_85, d216_88, d216_91, d216_92, d216_95, d216_97, d216_98, d216_101, d216_102, d216_103, d216_104, d216_106, d216_109, d216_112, d216_113, d216_116, d216_117, d216_118, d216_121, d216_122, d216_123, d216_124, d216_127, d216_131, d216_134, d216_135, d216_138, d216_139, d216_140, d216_141, d216_144, d216_147, d216_148, d216_151, d216_152, d216_153, d216_156, d216_157, d216_158, d216_159, d216_162, d216_165, d216_166, d216_167, d216_170, n_lt, n_le, n_eq, n_lt0, n_ge0, n_gt0, n_le0, n_eq0, m_lt, m_le, m_gt, m_ge, m_eq, m_eq', m_lt0, m_ge0, m_gt0, m_le0, m_ltm, m_lem, n_in, m_in, n_cl, n_ti, n_div, n_rem', n_dec, n_l, nI_add, pk_mul, an0, an1, decide_eq_true_eq, if_true, if_false, ite_true, ite_false, and_true, true_and, and_false, false_and, not_true, not_false_iff, or_false, false_or, or_true, true_or, eq_self, va_some, Bool.false_eq_true, reduceIte, catS_n, catS_i, catS_r, catS_l, catS_d, Nat.zero_add, Nat.add_zero, decide_true, decide_false, Nat.reduceLeDiff, cat_r, cat_i, cat_l, nle_T, nle_F, nlt_T, nlt_F, neq_T, neq_F, k0, p0, r24, y1, s24, h151, xu_xr]
    done
theorem f216d {d : Nat} {P : MP} {I : MI} {L : ML} {C : MC} {Q : QT} (hM : MB P) (hd : 1 ≤ d) : ∀ m k (R : Nat → Int32), k + m = 201 → X d 216 140 [.ref 150, .int (nI k)] [] P (xr I 151 R) L C Q = X d 216 165 [.ref 150, .int (nI 201)] [] P (xr I 151 (fun j => if k ≤ j ∧ j < 201 then I 168 j else R j)) L C Q := by
  obtain ⟨⟨k0, p0, p1, p2, p5, y1, y2, y3, y4⟩, _, _, r19, r20, r24, s19, s20, s24⟩ := hM
  intro m
  induction m with
  | zero =>
    intro k R h
    have : k = 201 := by omega
    subst this
    have e : (fun j => if 201 ≤ j ∧ j < 201 then I 168 j else R j) = R := funext fun j => if_neg (by omega)
    rw [e, X_go, d216_140]
    simp (disch := first | assumption | omega) only [Nat.reduceAdd, X_go, go2_some, stp, ldI, ldA, ldL, stI, stA, stL, o1I, o2I, o2L, brI, brII, gl, s1, s2, k1, sl, go_sN, go_sR, go_CT, go_sT, go_no, go_if, pops, bk_v, bk_0, d216_0, d216_1, d216_2, d216_5, d216_6, d216_9, d216_10, d216_11, d216_12, d216_13, d216_16, d216_17, d216_20, d216_21, d216_22, d216_23, d216_24, d216_25, d216_26, d216_29, d216_30, d216_31, d216_32, d216_33, d216_34, d216_37, d216_40, d216_41, d216_42, d216_45, d216_46, d216_49, d216_50, d216_53, d216_56, d216_57, d216_59, d216_62, d216_65, d216_66, d216_69, d216_72, d216_75, d216_76, d216_78, d216_81, d216_84, d216_85, d216_88, d216_91, d216_92, d216_95, d216_97, d216_98, d216_101, d216_102, d216_103, d216_104, d216_105, d216_106, d216_109, d216_112, d216_113, d216_116, d216_117, d216_118, d216_121, d216_122, d216_123, d216_124, d216_127, d216_130, d216_131, d216_134, d216_135, d216_138, d216_139, d216_141, d216_144, d216_147, d216_148, d216_151, d216_152, d216_153, d216_156, d216_157, d216_158, d216_159, d216_162, d216_166, d216_167, d216_170, n_lt, n_le, n_eq, n_lt0, n_ge0, n_gt0, n_le0, n_eq0, m_lt, m_le, m_gt, m_ge, m_eq, m_eq', m_lt0, m_ge0, m_gt0, m_le0, m_ltm, m_lem, n_in, m_in, n_cl, n_ti, n_div, n_rem', n_dec, n_l, nI_add, pk_mul, an0, an1, decide_eq_true_eq, if_true, if_false, ite_true, ite_false, and_true, true_and, and_false, false_and, not_true, not_false_iff, or_false, false_or, or_true, true_or, eq_self, va_some, Bool.false_eq_true, reduceIte, catS_n, catS_i, catS_r, catS_l, catS_d, Nat.zero_add, Nat.add_zero, decide_true, decide_false, Nat.reduceLeDiff, cat_r, cat_i, cat_l, nle_T, nle_F, nlt_T, nlt_F, neq_T, neq_F]
  | succ m ih =>
    intro k R h
    have e : (fun j => if k + 1 ≤ j ∧ j < 201 then I 168 j else (fun i => if i = k then I 168 k else R i) j) = (fun j => if k ≤ j ∧ j < 201 then I 168 j else R j) := by
      funext j
      dsimp only
      by_cases z : k + 1 ≤ j ∧ j < 201
      · rw [if_pos z, if_pos (by omega)]
      · rw [if_neg z]
        by_cases y : j = k
        · subst y
          rw [if_pos rfl, if_pos (by omega)]
        · rw [if_neg y, if_neg (by omega)]
    have h168 : xr I 151 R 168 = I 168 := xr_n _ _ (by omega)
    rw [← e, ← ih (k + 1) (fun i => if i = k then I 168 k else R i) (by omega), X_go, d216_140]
    simp (disch := first | assumption | omega) only [Nat.reduceAdd, X_go, go2_some, stp, ldI, ldA, ldL, stI, stA, stL, o1I, o2I, o2L, brI, brII, gl, s1, s2, k1, sl, go_sN, go_sR, go_CT, go_sT, go_no, go_if, pops, bk_v, bk_0, d216_0, d216_1, d216_2, d216_5, d216_6, d216_9, d216_10, d216_11, d216_12, d216_13, d216_16, d216_17, d216_20, d216_21, d216_22, d216_23, d216_24, d216_25, d216_26, d216_29, d216_30, d216_31, d216_32, d216_33, d216_34, d216_37, d216_40, d216_41, d216_42, d216_45, d216_46, d216_49, d216_50, d216_53, d216_56, d216_57, d216_59, d216_62, d216_65, d216_66, d216_69, d216_72, d216_75, d216_76, d216_78, d216_81, d216_84, d216_85, d216_88, d216_91, d216_92, d216_95, d216_97, d216_98, d216_101, d216_102, d216_103, d216_104, d216_105, d216_106, d216_109, d216_112, d216_113, d216_116, d216_117, d216_118, d216_121, d216_122, d216_123, d216_124, d216_127, d216_130, d216_131, d216_134, d216_135, d216_138, d216_139, d216_141, d216_144, d216_147, d216_148, d216_151, d216_152, d216_153, d216_156, d216_157, d216_158, d216_159, d216_162, d216_166, d216_167, d216_170, n_lt, n_le, n_eq, n_lt0, n_ge0, n_gt0, n_le0, n_eq0, m_lt, m_le, m_gt, m_ge, m_eq, m_eq', m_lt0, m_ge0, m_gt0, m_le0, m_ltm, m_lem, n_in, m_in, n_cl, n_ti, n_div, n_rem', n_dec, n_l, nI_add, pk_mul, an0, an1, decide_eq_true_eq, if_true, if_false, ite_true, ite_false, and_true, true_and, and_false, false_and, not_true, not_false_iff, or_false, false_or, or_true, true_or, eq_self, va_some, Bool.false_eq_true, reduceIte, catS_n, catS_i, catS_r, catS_l, catS_d, Nat.zero_add, Nat.add_zero, decide_true, decide_false, Nat.reduceLeDiff, cat_r, cat_i, cat_l, nle_T, nle_F, nlt_T, nlt_F, neq_T, neq_F, k0, p0, r24, y1, s24, h168, xu_xr]
    done
/-- the tables emptied by the model -/
def emI (I : MI) : MI := xu (xu (xu (xu (xu (xu I 151 0 (nI 1)) 151 3 (nI 0)) 151 1 (nI 1)) 151 4 (nI 0)) 151 2 (nI 1)) 151 5 (nI 0)
theorem emI_o {I : MI} {k j : Nat} (h : k ≠ 151) : emI I k j = I k j := by
  unfold emI
  simp (disch := omega) only [xu_n]
theorem NR_em {I : MI} {g : GS} (h : NR I g) : NR (emI I) (empG g) := by
  have q := NR_ud (c := 5) (v := 0) (NR_ud (c := 2) (v := 1) (NR_ud (c := 4) (v := 0) (NR_ud (c := 1) (v := 1) (NR_ud (c := 3) (v := 0) (NR_ud (c := 0) (v := 1) h)))))
  refine NR_c q fun k _ => ?_
  unfold empG ud
  by_cases h5 : k = 5
  · subst h5; rfl
  · rw [if_neg h5]
    by_cases h2 : k = 2
    · subst h2; rfl
    · rw [if_neg h2]
      by_cases h4 : k = 4
      · subst h4; rfl
      · rw [if_neg h4]
        by_cases h1 : k = 1
        · subst h1; rfl
        · rw [if_neg h1]
          by_cases h3 : k = 3
          · subst h3; rfl
          · rw [if_neg h3]
            by_cases h0 : k = 0
            · subst h0; rfl
            · rw [if_neg h0, if_neg (by omega), if_neg (by omega)]
