/-! TABLES, changed -/
theorem TR_fr {I I' : MI} {T : Nat} {g : GS} (hg : TR I T g) (h : ∀ k j, T + 1 ≤ k → k ≤ T + 8 → I' k j = I k j) : TR I' T g := by
  refine ⟨fun t ht => ?_, fun t ht => ?_, fun t e ht he => ?_⟩
  · rw [h _ _ (by omega) (by omega)]; exact hg.1 t ht
  · rw [h _ _ (by omega) (by omega)]; exact hg.2.1 t ht
  · rw [h _ _ (by omega) (by omega), h _ _ (by omega) (by omega), h _ _ (by omega) (by omega), h _ _ (by omega) (by omega), h _ _ (by omega) (by omega), h _ _ (by omega) (by omega)]
    exact hg.2.2 t e ht he
theorem LR_fr {I I' : MI} {K : Nat} {g : GS} (hg : LR I K g) (h : ∀ k j, K ≤ k → k ≤ K + 2 → I' k j = I k j) : LR I' K g := by
  refine ⟨fun r h1 h2 => ?_, ?_, ?_⟩
  · rw [h _ _ (by omega) (by omega), h _ _ (by omega) (by omega)]; exact hg.1 r h1 h2
  · rw [h _ _ (by omega) (by omega)]; exact hg.2.1
  · rw [h _ _ (by omega) (by omega)]; exact hg.2.2
theorem FR_fr {I I' : MI} {F : Nat} {g : GS} (hg : FR' I F g) (h : ∀ k j, F ≤ k → k ≤ F + 4 → I' k j = I k j) : FR' I' F g := by
  refine ⟨fun i hi => ?_, ?_, ?_, fun i hi => ?_⟩
  · rw [h _ _ (by omega) (by omega)]; exact hg.1 i hi
  · rw [h _ _ (by omega) (by omega)]; exact hg.2.1
  · rw [h _ _ (by omega) (by omega)]; exact hg.2.2.1
  · rw [h _ _ (by omega) (by omega), h _ _ (by omega) (by omega), h _ _ (by omega) (by omega)]; exact hg.2.2.2 i hi
theorem RC_fr {I I' : MI} {b : Nat} {g : GS} (hg : RC I b g) (h : ∀ k j, b ≤ k → k ≤ b + 17 → I' k j = I k j) : RC I' b g :=
  ⟨TR_fr hg.1 fun k j h1 h2 => h k j (by omega) (by omega), LR_fr hg.2.1 fun k j h1 h2 => h k j (by omega) (by omega), FR_fr hg.2.2 fun k j h1 h2 => h k j (by omega) (by omega)⟩
theorem TR_g {I : MI} {T : Nat} {g g' : GS} (hg : TR I T g) (h : ∀ k, k < 114 → g' k = g k) (hv : TV g) : TR I T g' := by
  refine ⟨fun t ht => ?_, fun t ht => ?_, fun t e ht he => ?_⟩
  · rw [h _ (by omega)]; exact hg.1 t ht
  · rw [h _ (by omega)]; exact hg.2.1 t ht
  · rw [h _ (by omega)] at he
    have := hv.2.1 t ht
    rw [h _ (by unfold cl; omega), h _ (by unfold cl; omega), h _ (by unfold cl; omega), h _ (by unfold cl; omega), h _ (by unfold cl; omega), h _ (by unfold cl; omega)]
    exact hg.2.2 t e ht he
theorem LR_g {I : MI} {K : Nat} {g g' : GS} (hg : LR I K g) (h : ∀ k, 114 ≤ k → k < 122 → g' k = g k) : LR I K g' := by
  refine ⟨fun r h1 h2 => ?_, ?_, ?_⟩
  · rw [h _ (by omega) (by omega), h _ (by omega) (by omega)]; exact hg.1 r h1 h2
  · rw [h _ (by omega) (by omega)]; exact hg.2.1
  · rw [h _ (by omega) (by omega)]; exact hg.2.2
theorem FR_g {I : MI} {F : Nat} {g g' : GS} (hg : FR' I F g) (h : ∀ k, 122 ≤ k → k < 201 → g' k = g k) (hv : g 140 ≤ 20) : FR' I F g' := by
  have h140 := h 140 (by omega) (by omega)
  refine ⟨fun i hi => ?_, ?_, ?_, fun i hi => ?_⟩
  · rw [h _ (by omega) (by omega)]; exact hg.1 i hi
  · rw [h _ (by omega) (by omega)]; exact hg.2.1
  · rw [h _ (by omega) (by omega)]; exact hg.2.2.1
  · rw [h140] at hi
    rw [h _ (by omega) (by omega), h _ (by omega) (by omega), h _ (by omega) (by omega), h _ (by omega) (by omega)]; exact hg.2.2.2 i hi
theorem EV_g {g g' : GS} {t e e' : Nat} (h : ∀ f, f < 6 → g' (cl t e' f) = g (cl t e f)) (hE : EV g t e) : EV g' t e' := by
  unfold EV
  rw [h 0 (by omega), h 1 (by omega), h 2 (by omega), h 3 (by omega), h 4 (by omega), h 5 (by omega)]
  exact hE
theorem d55_0 : dec 55 0 = some (.aload_n 0, 1, []) := rfl
theorem d55_1 : dec 55 1 = some (.iload_n 1, 1, []) := rfl
theorem d55_2 : dec 55 2 = some (.invokevirtual 50, 3, [2, 25, 2, 7, 0, 466, 0]) := rfl
theorem d55_5 : dec 55 5 = some (.istore 7, 2, []) := rfl
theorem d55_7 : dec 55 7 = some (.iload_n 1, 1, []) := rfl
theorem d55_8 : dec 55 8 = some (.iload 7, 2, []) := rfl
theorem d55_10 : dec 55 10 = some (.invokestatic 54, 3, [2, 27, 0, 9, 1, 481, 0, 0]) := rfl
theorem d55_13 : dec 55 13 = some (.istore 8, 2, []) := rfl
theorem d55_15 : dec 55 15 = some (.aload_n 0, 1, []) := rfl
theorem d55_16 : dec 55 16 = some (.getfield 18, 3, [1, 7, 2, 2, 0, 46]) := rfl
theorem d55_19 : dec 55 19 = some (.iload 8, 2, []) := rfl
theorem d55_21 : dec 55 21 = some (.iload_n 2, 1, []) := rfl
theorem d55_22 : dec 55 22 = some (.invokestatic 58, 3, [2, 44, 0, 9, 1, 676, 0, 0, 2]) := rfl
theorem d55_25 : dec 55 25 = some (.aload_n 0, 1, []) := rfl
theorem d55_26 : dec 55 26 = some (.getfield 21, 3, [1, 7, 3, 2, 0, 51]) := rfl
theorem d55_29 : dec 55 29 = some (.iload 8, 2, []) := rfl
theorem d55_31 : dec 55 31 = some (.iload_n 3, 1, []) := rfl
theorem d55_32 : dec 55 32 = some (.invokestatic 58, 3, [2, 44, 0, 9, 1, 676, 0, 0, 2]) := rfl
theorem d55_35 : dec 55 35 = some (.aload_n 0, 1, []) := rfl
theorem d55_36 : dec 55 36 = some (.getfield 24, 3, [1, 7, 4, 2, 0, 54]) := rfl
theorem d55_39 : dec 55 39 = some (.iload 8, 2, []) := rfl
theorem d55_41 : dec 55 41 = some (.iload 4, 2, []) := rfl
theorem d55_43 : dec 55 43 = some (.invokestatic 58, 3, [2, 44, 0, 9, 1, 676, 0, 0, 2]) := rfl
theorem d55_46 : dec 55 46 = some (.aload_n 0, 1, []) := rfl
theorem d55_47 : dec 55 47 = some (.getfield 27, 3, [1, 7, 5, 2, 0, 60]) := rfl
theorem d55_50 : dec 55 50 = some (.iload 8, 2, []) := rfl
theorem d55_52 : dec 55 52 = some (.iload 5, 2, []) := rfl
theorem d55_54 : dec 55 54 = some (.invokestatic 58, 3, [2, 44, 0, 9, 1, 676, 0, 0, 2]) := rfl
theorem d55_57 : dec 55 57 = some (.aload_n 0, 1, []) := rfl
theorem d55_58 : dec 55 58 = some (.getfield 30, 3, [1, 7, 6, 2, 0, 62]) := rfl
theorem d55_61 : dec 55 61 = some (.iload 8, 2, []) := rfl
theorem d55_63 : dec 55 63 = some (.iload 6, 2, []) := rfl
theorem d55_65 : dec 55 65 = some (.ifCond .eq 7, 3, [72]) := rfl
theorem d55_68 : dec 55 68 = some (.iconst 1, 1, [1]) := rfl
theorem d55_69 : dec 55 69 = some (.goto 4, 3, [73]) := rfl
theorem d55_72 : dec 55 72 = some (.iconst 0, 1, [0]) := rfl
theorem d55_73 : dec 55 73 = some (.invokestatic 58, 3, [2, 44, 0, 9, 1, 676, 0, 0, 2]) := rfl
theorem d55_76 : dec 55 76 = some (.aload_n 0, 1, []) := rfl
theorem d55_77 : dec 55 77 = some (.getfield 33, 3, [1, 7, 7, 2, 0, 64]) := rfl
theorem d55_80 : dec 55 80 = some (.iload 8, 2, []) := rfl
theorem d55_82 : dec 55 82 = some (.iconst 0, 1, [0]) := rfl
theorem d55_83 : dec 55 83 = some (.invokestatic 58, 3, [2, 44, 0, 9, 1, 676, 0, 0, 2]) := rfl
theorem d55_86 : dec 55 86 = some (.aload_n 0, 1, []) := rfl
theorem d55_87 : dec 55 87 = some (.getfield 15, 3, [1, 7, 1, 2, 0, 45]) := rfl
theorem d55_90 : dec 55 90 = some (.iload_n 1, 1, []) := rfl
theorem d55_91 : dec 55 91 = some (.iload 7, 2, []) := rfl
theorem d55_93 : dec 55 93 = some (.iconst 1, 1, [1]) := rfl
theorem d55_94 : dec 55 94 = some (.iadd, 1, []) := rfl
theorem d55_95 : dec 55 95 = some (.invokestatic 58, 3, [2, 44, 0, 9, 1, 676, 0, 0, 2]) := rfl
theorem d55_98 : dec 55 98 = some (.iload 7, 2, []) := rfl
theorem d55_100 : dec 55 100 = some (.ireturn, 1, [0]) := rfl
theorem l55 : mL 55 = 9 := rfl
theorem c55 {d : Nat} {P : MP} {I : MI} {L : ML} {C : MC} {Q : QT} {T t w we ra gr on : Nat} {g : GS} (hT : TB P T) (hg : TR I T g) (hd : 3 ≤ d) (ht : t < 3) (hc : g (3 + t) < 6) (ho : on ≤ 1) : CT d 55 [.ref T, .int (nI t), .int (nI w), .int (nI we), .int (nI ra), .int (nI gr), .int (nI on)] P I L C Q = Q (.inl (some (.int (nI (g (3 + t)))))) P (xu (xu (xu (xu (xu (xu (xu I (T + 3) (6 * t + g (3 + t)) (nI w)) (T + 4) (6 * t + g (3 + t)) (nI we)) (T + 5) (6 * t + g (3 + t)) (nI ra)) (T + 6) (6 * t + g (3 + t)) (nI gr)) (T + 7) (6 * t + g (3 + t)) (nI on)) (T + 8) (6 * t + g (3 + t)) (nI 0)) (T + 2) t (nI (g (3 + t) + 1))) L C := by
  have hT' := hT
  obtain ⟨⟨k0, p0, p1, p2, p3, p4, p5, p6, p7⟩, y1, y2, y3, y4, y5, y6, y7, y8⟩ := hT'
  rw [CT_e (mj := 55) (e := [.ref T, .int (nI t), .int (nI w), .int (nI we), .int (nI ra), .int (nI gr), .int (nI on), UN, UN]) (by omega) rfl (Nat.le_of_ble_eq_true rfl)]
  have ho : on = 0 ∨ on = 1 := by omega
  rcases ho with rfl | rfl
  · simp (disch := first | assumption | omega) only [Nat.reduceAdd, X_go, go2_some, stp, ldI, ldA, ldL, stI, stA, stL, o1I, o2I, o2L, brI, brII, gl, s1, s2, k1, sl, go_sN, go_sR, go_CT, go_sT, go_no, go_if, pops, bk_v, bk_0, d55_0, d55_1, d55_2, d55_5, d55_7, d55_8, d55_10, d55_13, d55_15, d55_16, d55_19, d55_21, d55_22, d55_25, d55_26, d55_29, d55_31, d55_32, d55_35, d55_36, d55_39, d55_41, d55_43, d55_46, d55_47, d55_50, d55_52, d55_54, d55_57, d55_58, d55_61, d55_63, d55_65, d55_68, d55_69, d55_72, d55_73, d55_76, d55_77, d55_80, d55_82, d55_83, d55_86, d55_87, d55_90, d55_91, d55_93, d55_94, d55_95, d55_98, d55_100, n_lt, n_le, n_eq, n_lt0, n_ge0, n_gt0, n_le0, n_eq0, m_lt, m_le, m_gt, m_ge, m_eq, m_eq', m_lt0, m_ge0, m_gt0, m_le0, m_ltm, m_lem, n_in, m_in, n_cl, n_ti, n_div, n_rem', n_dec, n_l, nI_add, pk_mul, an0, an1, decide_eq_true_eq, if_true, if_false, ite_true, ite_false, and_true, true_and, and_false, false_and, not_true, not_false_iff, or_false, false_or, or_true, true_or, eq_self, va_some, Bool.false_eq_true, reduceIte, catS_n, catS_i, catS_r, catS_l, catS_d, Nat.zero_add, Nat.add_zero, decide_true, decide_false, Nat.reduceLeDiff, cat_r, cat_i, cat_l, nle_T, nle_F, nlt_T, nlt_F, neq_T, neq_F, k0, p1, p2, p3, p4, p5, p6, p7, c25g hT hg, c27, c44 y3, c44 y4, c44 y5, c44 y6, c44 y7, c44 y8, c44 y2]
  · simp (disch := first | assumption | omega) only [Nat.reduceAdd, X_go, go2_some, stp, ldI, ldA, ldL, stI, stA, stL, o1I, o2I, o2L, brI, brII, gl, s1, s2, k1, sl, go_sN, go_sR, go_CT, go_sT, go_no, go_if, pops, bk_v, bk_0, d55_0, d55_1, d55_2, d55_5, d55_7, d55_8, d55_10, d55_13, d55_15, d55_16, d55_19, d55_21, d55_22, d55_25, d55_26, d55_29, d55_31, d55_32, d55_35, d55_36, d55_39, d55_41, d55_43, d55_46, d55_47, d55_50, d55_52, d55_54, d55_57, d55_58, d55_61, d55_63, d55_65, d55_68, d55_69, d55_72, d55_73, d55_76, d55_77, d55_80, d55_82, d55_83, d55_86, d55_87, d55_90, d55_91, d55_93, d55_94, d55_95, d55_98, d55_100, n_lt, n_le, n_eq, n_lt0, n_ge0, n_gt0, n_le0, n_eq0, m_lt, m_le, m_gt, m_ge, m_eq, m_eq', m_lt0, m_ge0, m_gt0, m_le0, m_ltm, m_lem, n_in, m_in, n_cl, n_ti, n_div, n_rem', n_dec, n_l, nI_add, pk_mul, an0, an1, decide_eq_true_eq, if_true, if_false, ite_true, ite_false, and_true, true_and, and_false, false_and, not_true, not_false_iff, or_false, false_or, or_true, true_or, eq_self, va_some, Bool.false_eq_true, reduceIte, catS_n, catS_i, catS_r, catS_l, catS_d, Nat.zero_add, Nat.add_zero, decide_true, decide_false, Nat.reduceLeDiff, cat_r, cat_i, cat_l, nle_T, nle_F, nlt_T, nlt_F, neq_T, neq_F, k0, p1, p2, p3, p4, p5, p6, p7, c25g hT hg, c27, c44 y3, c44 y4, c44 y5, c44 y6, c44 y7, c44 y8, c44 y2]
def addG (g : GS) (t w we ra gr on : Nat) : GS := ud (ud (ud (ud (ud (ud (ud g (cl t (g (3 + t)) 0) w) (cl t (g (3 + t)) 1) we) (cl t (g (3 + t)) 2) ra) (cl t (g (3 + t)) 3) gr) (cl t (g (3 + t)) 4) on) (cl t (g (3 + t)) 5) 0) (3 + t) (g (3 + t) + 1)
theorem addG_c {g : GS} {t w we ra gr on t' : Nat} (ht : t' < 3) : addG g t w we ra gr on (3 + t') = if t' = t then g (3 + t) + 1 else g (3 + t') := by
  unfold addG cl
  by_cases z : t' = t
  · rw [if_pos z, z, ud_s]
  · rw [if_neg z]; simp (disch := omega) only [ud_n]
theorem addG_o {g : GS} {t w we ra gr on k : Nat} (ht : t < 3) (hc : g (3 + t) < 6) (h : k < 3 ∨ 114 ≤ k) : addG g t w we ra gr on k = g k := by
  unfold addG cl
  simp (disch := omega) only [ud_n]
theorem addG_e {g : GS} {t w we ra gr on t' e f : Nat} (ht : t < 3) (ht' : t' < 3) (hc : g (3 + t) < 6) (he : e < 6) (hf : f < 6) (h : ¬ (t' = t ∧ e = g (3 + t))) : addG g t w we ra gr on (cl t' e f) = g (cl t' e f) := by
  unfold addG cl
  simp (disch := omega) only [ud_n]
theorem addG_n {g : GS} {t w we ra gr on : Nat} (ht : t < 3) : (addG g t w we ra gr on (cl t (g (3 + t)) 0) = w ∧ addG g t w we ra gr on (cl t (g (3 + t)) 1) = we ∧ addG g t w we ra gr on (cl t (g (3 + t)) 2) = ra) ∧ addG g t w we ra gr on (cl t (g (3 + t)) 3) = gr ∧ addG g t w we ra gr on (cl t (g (3 + t)) 4) = on ∧ addG g t w we ra gr on (cl t (g (3 + t)) 5) = 0 := by
  unfold addG cl
  simp (disch := omega) only [ud_n, ud_s, and_self]
theorem TV_add {g : GS} {t w we ra gr on : Nat} (hv : TV g) (ht : t < 3) (hc : g (3 + t) < 6) (h0 : w ≤ 18) (h1 : w < 16 → ra ≤ 3) (h2 : 16 ≤ w → t + 16 < w ∧ ra = 0) (h3 : 1 ≤ we) (h4 : we ≤ 1000) (h5 : gr ≤ 3) (h6 : on ≤ 1) : TV (addG g t w we ra gr on) := by
  refine ⟨fun t' h => ?_, fun t' h => ?_, fun t' e h he => ?_⟩
  · rw [addG_o ht hc (by omega)]; exact hv.1 t' h
  · rw [addG_c h]
    have := hv.2.1 t' h
    split <;> omega
  · rw [addG_c h] at he
    by_cases z : t' = t ∧ e = g (3 + t)
    · obtain ⟨rfl, rfl⟩ := z
      obtain ⟨⟨n0, n1, n2⟩, n3, n4, n5⟩ := addG_n (g := g) (w := w) (we := we) (ra := ra) (gr := gr) (on := on) ht
      unfold EV
      rw [n0, n1, n2, n3, n4, n5]
      exact ⟨h0, h1, h2, h3, h4, h5, h6, by omega⟩
    · have hc' := hv.2.1 t' h
      have he' : e < g (3 + t') := by
        split at he
        · rename_i q; subst q; omega
        · exact he
      exact EV_g (fun f hf => addG_e ht h hc (by omega) hf z) (hv.2.2 t' e h he')
theorem TR_add {I : MI} {T : Nat} {g : GS} {t w we ra gr on : Nat} (hg : TR I T g) (hv : TV g) (ht : t < 3) (hc : g (3 + t) < 6) : TR (xu (xu (xu (xu (xu (xu (xu I (T + 3) (6 * t + g (3 + t)) (nI w)) (T + 4) (6 * t + g (3 + t)) (nI we)) (T + 5) (6 * t + g (3 + t)) (nI ra)) (T + 6) (6 * t + g (3 + t)) (nI gr)) (T + 7) (6 * t + g (3 + t)) (nI on)) (T + 8) (6 * t + g (3 + t)) (nI 0)) (T + 2) t (nI (g (3 + t) + 1))) T (addG g t w we ra gr on) := by
  refine ⟨fun t' h => ?_, fun t' h => ?_, fun t' e h he => ?_⟩
  · rw [addG_o ht hc (by omega)]
    simp (disch := omega) only [xu_n]
    exact hg.1 t' h
  · rw [addG_c h]
    by_cases z : t' = t
    · rw [if_pos z, z, xu_s]
    · rw [if_neg z]
      simp (disch := omega) only [xu_n]
      exact hg.2.1 t' h
  · rw [addG_c h] at he
    by_cases z : t' = t ∧ e = g (3 + t)
    · obtain ⟨rfl, rfl⟩ := z
      obtain ⟨⟨n0, n1, n2⟩, n3, n4, n5⟩ := addG_n (g := g) (w := w) (we := we) (ra := ra) (gr := gr) (on := on) ht
      rw [n0, n1, n2, n3, n4, n5]
      simp (disch := omega) only [xu_n, xu_s, and_self]
    · have hc' := hv.2.1 t' h
      have he' : e < g (3 + t') := by
        split at he
        · rename_i q; subst q; omega
        · exact he
      rw [addG_e ht h hc (by omega) (by omega) z, addG_e ht h hc (by omega) (by omega) z, addG_e ht h hc (by omega) (by omega) z, addG_e ht h hc (by omega) (by omega) z, addG_e ht h hc (by omega) (by omega) z, addG_e ht h hc (by omega) (by omega) z]
      simp (disch := omega) only [xu_n]
      exact hg.2.2 t' e h he'
theorem d56_0 : dec 56 0 = some (.iconst 0, 1, [0]) := rfl
theorem d56_1 : dec 56 1 = some (.istore_n 1, 1, []) := rfl
theorem d56_2 : dec 56 2 = some (.iconst 0, 1, [0]) := rfl
theorem d56_3 : dec 56 3 = some (.istore_n 2, 1, []) := rfl
theorem d56_4 : dec 56 4 = some (.iload_n 2, 1, []) := rfl
theorem d56_5 : dec 56 5 = some (.iconst 3, 1, [3]) := rfl
theorem d56_6 : dec 56 6 = some (.if_icmp .ge 17, 3, [23]) := rfl
theorem d56_9 : dec 56 9 = some (.iload_n 1, 1, []) := rfl
theorem d56_10 : dec 56 10 = some (.aload_n 0, 1, []) := rfl
theorem d56_11 : dec 56 11 = some (.iload_n 2, 1, []) := rfl
theorem d56_12 : dec 56 12 = some (.invokevirtual 50, 3, [2, 25, 2, 7, 0, 466, 0]) := rfl
theorem d56_15 : dec 56 15 = some (.iadd, 1, []) := rfl
theorem d56_16 : dec 56 16 = some (.istore_n 1, 1, []) := rfl
theorem d56_17 : dec 56 17 = some (.iinc 2 1, 3, [1]) := rfl
theorem d56_20 : dec 56 20 = some (.goto (-16), 3, [4]) := rfl
theorem d56_23 : dec 56 23 = some (.iload_n 1, 1, []) := rfl
theorem d56_24 : dec 56 24 = some (.ireturn, 1, [0]) := rfl
theorem l56 : mL 56 = 3 := rfl
theorem c56 {d : Nat} {P : MP} {I : MI} {L : ML} {C : MC} {Q : QT} {T : Nat} {g : GS} (hT : TB P T) (hg : TR I T g) (hd : 3 ≤ d) : CT d 56 [.ref T] P I L C Q = Q (.inl (some (.int (nI (g 3 + g 4 + g 5))))) P I L C := by
  have k0 := hT.1.1
  rw [CT_e (mj := 56) (e := [.ref T, UN, UN]) (by omega) rfl (Nat.le_of_ble_eq_true rfl)]
  simp (disch := first | assumption | omega) only [Nat.reduceAdd, X_go, go2_some, stp, ldI, ldA, ldL, stI, stA, stL, o1I, o2I, o2L, brI, brII, gl, s1, s2, k1, sl, go_sN, go_sR, go_CT, go_sT, go_no, go_if, pops, bk_v, bk_0, d56_0, d56_1, d56_2, d56_3, d56_4, d56_5, d56_6, d56_9, d56_10, d56_11, d56_12, d56_15, d56_16, d56_17, d56_20, d56_23, d56_24, n_lt, n_le, n_eq, n_lt0, n_ge0, n_gt0, n_le0, n_eq0, m_lt, m_le, m_gt, m_ge, m_eq, m_eq', m_lt0, m_ge0, m_gt0, m_le0, m_ltm, m_lem, n_in, m_in, n_cl, n_ti, n_div, n_rem', n_dec, n_l, nI_add, pk_mul, an0, an1, decide_eq_true_eq, if_true, if_false, ite_true, ite_false, and_true, true_and, and_false, false_and, not_true, not_false_iff, or_false, false_or, or_true, true_or, eq_self, va_some, Bool.false_eq_true, reduceIte, catS_n, catS_i, catS_r, catS_l, catS_d, Nat.zero_add, Nat.add_zero, decide_true, decide_false, Nat.reduceLeDiff, cat_r, cat_i, cat_l, nle_T, nle_F, nlt_T, nlt_F, neq_T, neq_F, k0, c25g hT hg]
  done
/-- an entry moved -/
def mvM (I : MI) (T a b : Nat) : MI := fun k j => if T + 3 ≤ k ∧ k ≤ T + 8 ∧ j = b then I k a else I k j
theorem d95_0 : dec 95 0 = some (.aload_n 0, 1, []) := rfl
theorem d95_1 : dec 95 1 = some (.getfield 18, 3, [1, 7, 2, 2, 0, 46]) := rfl
theorem d95_4 : dec 95 4 = some (.iload_n 2, 1, []) := rfl
theorem d95_5 : dec 95 5 = some (.aload_n 0, 1, []) := rfl
theorem d95_6 : dec 95 6 = some (.getfield 18, 3, [1, 7, 2, 2, 0, 46]) := rfl
theorem d95_9 : dec 95 9 = some (.iload_n 1, 1, []) := rfl
theorem d95_10 : dec 95 10 = some (.invokestatic 46, 3, [2, 26, 0, 9, 1, 470, 0, 2]) := rfl
theorem d95_13 : dec 95 13 = some (.invokestatic 58, 3, [2, 44, 0, 9, 1, 676, 0, 0, 2]) := rfl
theorem d95_16 : dec 95 16 = some (.aload_n 0, 1, []) := rfl
theorem d95_17 : dec 95 17 = some (.getfield 21, 3, [1, 7, 3, 2, 0, 51]) := rfl
theorem d95_20 : dec 95 20 = some (.iload_n 2, 1, []) := rfl
theorem d95_21 : dec 95 21 = some (.aload_n 0, 1, []) := rfl
theorem d95_22 : dec 95 22 = some (.getfield 21, 3, [1, 7, 3, 2, 0, 51]) := rfl
theorem d95_25 : dec 95 25 = some (.iload_n 1, 1, []) := rfl
theorem d95_26 : dec 95 26 = some (.invokestatic 46, 3, [2, 26, 0, 9, 1, 470, 0, 2]) := rfl
theorem d95_29 : dec 95 29 = some (.invokestatic 58, 3, [2, 44, 0, 9, 1, 676, 0, 0, 2]) := rfl
theorem d95_32 : dec 95 32 = some (.aload_n 0, 1, []) := rfl
theorem d95_33 : dec 95 33 = some (.getfield 24, 3, [1, 7, 4, 2, 0, 54]) := rfl
theorem d95_36 : dec 95 36 = some (.iload_n 2, 1, []) := rfl
theorem d95_37 : dec 95 37 = some (.aload_n 0, 1, []) := rfl
theorem d95_38 : dec 95 38 = some (.getfield 24, 3, [1, 7, 4, 2, 0, 54]) := rfl
theorem d95_41 : dec 95 41 = some (.iload_n 1, 1, []) := rfl
theorem d95_42 : dec 95 42 = some (.invokestatic 46, 3, [2, 26, 0, 9, 1, 470, 0, 2]) := rfl
theorem d95_45 : dec 95 45 = some (.invokestatic 58, 3, [2, 44, 0, 9, 1, 676, 0, 0, 2]) := rfl
theorem d95_48 : dec 95 48 = some (.aload_n 0, 1, []) := rfl
theorem d95_49 : dec 95 49 = some (.getfield 27, 3, [1, 7, 5, 2, 0, 60]) := rfl
theorem d95_52 : dec 95 52 = some (.iload_n 2, 1, []) := rfl
theorem d95_53 : dec 95 53 = some (.aload_n 0, 1, []) := rfl
theorem d95_54 : dec 95 54 = some (.getfield 27, 3, [1, 7, 5, 2, 0, 60]) := rfl
theorem d95_57 : dec 95 57 = some (.iload_n 1, 1, []) := rfl
theorem d95_58 : dec 95 58 = some (.invokestatic 46, 3, [2, 26, 0, 9, 1, 470, 0, 2]) := rfl
theorem d95_61 : dec 95 61 = some (.invokestatic 58, 3, [2, 44, 0, 9, 1, 676, 0, 0, 2]) := rfl
theorem d95_64 : dec 95 64 = some (.aload_n 0, 1, []) := rfl
theorem d95_65 : dec 95 65 = some (.getfield 30, 3, [1, 7, 6, 2, 0, 62]) := rfl
theorem d95_68 : dec 95 68 = some (.iload_n 2, 1, []) := rfl
theorem d95_69 : dec 95 69 = some (.aload_n 0, 1, []) := rfl
theorem d95_70 : dec 95 70 = some (.getfield 30, 3, [1, 7, 6, 2, 0, 62]) := rfl
theorem d95_73 : dec 95 73 = some (.iload_n 1, 1, []) := rfl
theorem d95_74 : dec 95 74 = some (.invokestatic 46, 3, [2, 26, 0, 9, 1, 470, 0, 2]) := rfl
theorem d95_77 : dec 95 77 = some (.invokestatic 58, 3, [2, 44, 0, 9, 1, 676, 0, 0, 2]) := rfl
theorem d95_80 : dec 95 80 = some (.aload_n 0, 1, []) := rfl
theorem d95_81 : dec 95 81 = some (.getfield 33, 3, [1, 7, 7, 2, 0, 64]) := rfl
theorem d95_84 : dec 95 84 = some (.iload_n 2, 1, []) := rfl
theorem d95_85 : dec 95 85 = some (.aload_n 0, 1, []) := rfl
theorem d95_86 : dec 95 86 = some (.getfield 33, 3, [1, 7, 7, 2, 0, 64]) := rfl
theorem d95_89 : dec 95 89 = some (.iload_n 1, 1, []) := rfl
theorem d95_90 : dec 95 90 = some (.invokestatic 46, 3, [2, 26, 0, 9, 1, 470, 0, 2]) := rfl
theorem d95_93 : dec 95 93 = some (.invokestatic 58, 3, [2, 44, 0, 9, 1, 676, 0, 0, 2]) := rfl
theorem d95_96 : dec 95 96 = some (.return_, 1, []) := rfl
theorem l95 : mL 95 = 3 := rfl
theorem c95 {d : Nat} {P : MP} {I : MI} {L : ML} {C : MC} {Q : QT} {T a b : Nat} (hT : TB P T) (hd : 2 ≤ d) (ha : a < 18) (hb : b < 18) : CT d 95 [.ref T, .int (nI a), .int (nI b)] P I L C Q = Q (.inl none) P (mvM I T a b) L C := by
  have hT' := hT
  obtain ⟨⟨k0, p0, p1, p2, p3, p4, p5, p6, p7⟩, y1, y2, y3, y4, y5, y6, y7, y8⟩ := hT'
  have e : xu (xu (xu (xu (xu (xu I (T + 3) b (I (T + 3) a)) (T + 4) b (I (T + 4) a)) (T + 5) b (I (T + 5) a)) (T + 6) b (I (T + 6) a)) (T + 7) b (I (T + 7) a)) (T + 8) b (I (T + 8) a) = mvM I T a b := by
    funext k j
    unfold mvM
    by_cases z : T + 3 ≤ k ∧ k ≤ T + 8 ∧ j = b
    · rw [if_pos z]
      obtain ⟨z1, z2, rfl⟩ := z
      have q : k = T + 3 ∨ k = T + 4 ∨ k = T + 5 ∨ k = T + 6 ∨ k = T + 7 ∨ k = T + 8 := by omega
      rcases q with rfl | rfl | rfl | rfl | rfl | rfl <;> simp (disch := omega) only [xu_n, xu_s]
    · rw [if_neg z]
      simp (disch := omega) only [xu_n]
  rw [CT_e (mj := 95) (e := [.ref T, .int (nI a), .int (nI b)]) (by omega) rfl (Nat.le_of_ble_eq_true rfl)]
  simp (disch := first | assumption | omega) only [Nat.reduceAdd, X_go, go2_some, stp, ldI, ldA, ldL, stI, stA, stL, o1I, o2I, o2L, brI, brII, gl, s1, s2, k1, sl, go_sN, go_sR, go_CT, go_sT, go_no, go_if, pops, bk_v, bk_0, d95_0, d95_1, d95_4, d95_5, d95_6, d95_9, d95_10, d95_13, d95_16, d95_17, d95_20, d95_21, d95_22, d95_25, d95_26, d95_29, d95_32, d95_33, d95_36, d95_37, d95_38, d95_41, d95_42, d95_45, d95_48, d95_49, d95_52, d95_53, d95_54, d95_57, d95_58, d95_61, d95_64, d95_65, d95_68, d95_69, d95_70, d95_73, d95_74, d95_77, d95_80, d95_81, d95_84, d95_85, d95_86, d95_89, d95_90, d95_93, d95_96, n_lt, n_le, n_eq, n_lt0, n_ge0, n_gt0, n_le0, n_eq0, m_lt, m_le, m_gt, m_ge, m_eq, m_eq', m_lt0, m_ge0, m_gt0, m_le0, m_ltm, m_lem, n_in, m_in, n_cl, n_ti, n_div, n_rem', n_dec, n_l, nI_add, pk_mul, an0, an1, decide_eq_true_eq, if_true, if_false, ite_true, ite_false, and_true, true_and, and_false, false_and, not_true, not_false_iff, or_false, false_or, or_true, true_or, eq_self, va_some, Bool.false_eq_true, reduceIte, catS_n, catS_i, catS_r, catS_l, catS_d, Nat.zero_add, Nat.add_zero, decide_true, decide_false, Nat.reduceLeDiff, cat_r, cat_i, cat_l, nle_T, nle_F, nlt_T, nlt_F, neq_T, neq_F, k0, p2, p3, p4, p5, p6, p7, c26 y3, c26 y4, c26 y5, c26 y6, c26 y7, c26 y8, c44 y3, c44 y4, c44 y5, c44 y6, c44 y7, c44 y8, xu_row, e]
  done
/-- the entries of places moved down by one -/
def mvR (I : MI) (T lo hi : Nat) : MI := fun k j => if T + 3 ≤ k ∧ k ≤ T + 8 ∧ lo ≤ j ∧ j < hi then I k (j + 1) else I k j
theorem d94_0 : dec 94 0 = some (.aload_n 0, 1, []) := rfl
theorem d94_1 : dec 94 1 = some (.iload_n 1, 1, []) := rfl
theorem d94_2 : dec 94 2 = some (.invokevirtual 50, 3, [2, 25, 2, 7, 0, 466, 0]) := rfl
theorem d94_5 : dec 94 5 = some (.iconst 1, 1, [1]) := rfl
theorem d94_6 : dec 94 6 = some (.isub, 1, []) := rfl
theorem d94_7 : dec 94 7 = some (.istore_n 3, 1, []) := rfl
theorem d94_8 : dec 94 8 = some (.iload_n 2, 1, []) := rfl
theorem d94_9 : dec 94 9 = some (.istore 4, 2, []) := rfl
theorem d94_11 : dec 94 11 = some (.iload 4, 2, []) := rfl
theorem d94_13 : dec 94 13 = some (.iload_n 3, 1, []) := rfl
theorem d94_14 : dec 94 14 = some (.if_icmp .ge 27, 3, [41]) := rfl
theorem d94_17 : dec 94 17 = some (.aload_n 0, 1, []) := rfl
theorem d94_18 : dec 94 18 = some (.iload_n 1, 1, []) := rfl
theorem d94_19 : dec 94 19 = some (.iload 4, 2, []) := rfl
theorem d94_21 : dec 94 21 = some (.iconst 1, 1, [1]) := rfl
theorem d94_22 : dec 94 22 = some (.iadd, 1, []) := rfl
theorem d94_23 : dec 94 23 = some (.invokestatic 54, 3, [2, 27, 0, 9, 1, 481, 0, 0]) := rfl
theorem d94_26 : dec 94 26 = some (.iload_n 1, 1, []) := rfl
theorem d94_27 : dec 94 27 = some (.iload 4, 2, []) := rfl
theorem d94_29 : dec 94 29 = some (.invokestatic 54, 3, [2, 27, 0, 9, 1, 481, 0, 0]) := rfl
theorem d94_32 : dec 94 32 = some (.invokevirtual 62, 3, [2, 95, 2, 7, 0, 688, 0, 0]) := rfl
theorem d94_35 : dec 94 35 = some (.iinc 4 1, 3, [1]) := rfl
theorem d94_38 : dec 94 38 = some (.goto (-27), 3, [11]) := rfl
theorem d94_41 : dec 94 41 = some (.aload_n 0, 1, []) := rfl
theorem d94_42 : dec 94 42 = some (.getfield 15, 3, [1, 7, 1, 2, 0, 45]) := rfl
theorem d94_45 : dec 94 45 = some (.iload_n 1, 1, []) := rfl
theorem d94_46 : dec 94 46 = some (.iload_n 3, 1, []) := rfl
theorem d94_47 : dec 94 47 = some (.invokestatic 58, 3, [2, 44, 0, 9, 1, 676, 0, 0, 2]) := rfl
theorem d94_50 : dec 94 50 = some (.iload_n 3, 1, []) := rfl
theorem d94_51 : dec 94 51 = some (.ireturn, 1, [0]) := rfl
theorem l94 : mL 94 = 5 := rfl
theorem f94 {d : Nat} {P : MP} {L : ML} {C : MC} {Q : QT} {T t n : Nat} {u : Value} (hT : TB P T) (hd : 2 ≤ d) (ht : t < 3) (hn : n < 6) : ∀ m e (I : MI), e + m = n → X d 94 11 [.ref T, .int (nI t), u, .int (nI n), .int (nI e)] [] P I L C Q = Q (.inl (some (.int (nI n)))) P (xu (mvR I T (6 * t + e) (6 * t + n)) (T + 2) t (nI n)) L C := by
  have hT' := hT
  obtain ⟨⟨k0, p0, p1, p2, p3, p4, p5, p6, p7⟩, y1, y2, y3, y4, y5, y6, y7, y8⟩ := hT'
  intro m
  induction m with
  | zero =>
    intro e I h
    have hI : mvR I T (6 * t + e) (6 * t + n) = I := by
      funext k j
      unfold mvR
      rw [if_neg (by omega)]
    rw [X_go, d94_11, hI]
    simp (disch := first | assumption | omega) only [Nat.reduceAdd, X_go, go2_some, stp, ldI, ldA, ldL, stI, stA, stL, o1I, o2I, o2L, brI, brII, gl, s1, s2, k1, sl, go_sN, go_sR, go_CT, go_sT, go_no, go_if, pops, bk_v, bk_0, d94_0, d94_1, d94_2, d94_5, d94_6, d94_7, d94_8, d94_9, d94_13, d94_14, d94_17, d94_18, d94_19, d94_21, d94_22, d94_23, d94_26, d94_27, d94_29, d94_32, d94_35, d94_38, d94_41, d94_42, d94_45, d94_46, d94_47, d94_50, d94_51, n_lt, n_le, n_eq, n_lt0, n_ge0, n_gt0, n_le0, n_eq0, m_lt, m_le, m_gt, m_ge, m_eq, m_eq', m_lt0, m_ge0, m_gt0, m_le0, m_ltm, m_lem, n_in, m_in, n_cl, n_ti, n_div, n_rem', n_dec, n_l, nI_add, pk_mul, an0, an1, decide_eq_true_eq, if_true, if_false, ite_true, ite_false, and_true, true_and, and_false, false_and, not_true, not_false_iff, or_false, false_or, or_true, true_or, eq_self, va_some, Bool.false_eq_true, reduceIte, catS_n, catS_i, catS_r, catS_l, catS_d, Nat.zero_add, Nat.add_zero, decide_true, decide_false, Nat.reduceLeDiff, cat_r, cat_i, cat_l, nle_T, nle_F, nlt_T, nlt_F, neq_T, neq_F, k0, p1, c44 y2]
  | succ m ih =>
    intro e I h
    rw [X_go, d94_11]
    simp (disch := first | assumption | omega) only [Nat.reduceAdd, X_go, go2_some, stp, ldI, ldA, ldL, stI, stA, stL, o1I, o2I, o2L, brI, brII, gl, s1, s2, k1, sl, go_sN, go_sR, go_CT, go_sT, go_no, go_if, pops, bk_v, bk_0, d94_0, d94_1, d94_2, d94_5, d94_6, d94_7, d94_8, d94_9, d94_13, d94_14, d94_17, d94_18, d94_19, d94_21, d94_22, d94_23, d94_26, d94_27, d94_29, d94_32, d94_35, d94_38, d94_41, d94_42, d94_45, d94_46, d94_47, d94_50, d94_51, n_lt, n_le, n_eq, n_lt0, n_ge0, n_gt0, n_le0, n_eq0, m_lt, m_le, m_gt, m_ge, m_eq, m_eq', m_lt0, m_ge0, m_gt0, m_le0, m_ltm, m_lem, n_in, m_in, n_cl, n_ti, n_div, n_rem', n_dec, n_l, nI_add, pk_mul, an0, an1, decide_eq_true_eq, if_true, if_false, ite_true, ite_false, and_true, true_and, and_false, false_and, not_true, not_false_iff, or_false, false_or, or_true, true_or, eq_self, va_some, Bool.false_eq_true, reduceIte, catS_n, catS_i, catS_r, catS_l, catS_d, Nat.zero_add, Nat.add_zero, decide_true, decide_false, Nat.reduceLeDiff, cat_r, cat_i, cat_l, nle_T, nle_F, nlt_T, nlt_F, neq_T, neq_F, k0, c27, c95 hT]
    simp only [← X_go]
    rw [ih (e + 1) _ (by omega)]
    have hI : mvR (mvM I T (6 * t + (e + 1)) (6 * t + e)) T (6 * t + (e + 1)) (6 * t + n) = mvR I T (6 * t + e) (6 * t + n) := by
      funext k j
      unfold mvR mvM
      by_cases z : T + 3 ≤ k ∧ k ≤ T + 8
      · by_cases y : j = 6 * t + e
        · rw [if_neg (by omega), if_pos (by omega), if_pos (by omega), y]; rfl
        · by_cases x : 6 * t + (e + 1) ≤ j ∧ j < 6 * t + n
          · rw [if_pos (by omega), if_neg (by omega), if_pos (by omega)]
          · rw [if_neg (by omega), if_neg (by omega), if_neg (by omega)]
      · rw [if_neg (by omega), if_neg (by omega), if_neg (by omega)]
    rw [hI]
theorem c94 {d : Nat} {P : MP} {I : MI} {L : ML} {C : MC} {Q : QT} {T t e : Nat} {g : GS} (hT : TB P T) (hg : TR I T g) (hv : TV g) (hd : 3 ≤ d) (ht : t < 3) (he : e < g (3 + t)) : CT d 94 [.ref T, .int (nI t), .int (nI e)] P I L C Q = Q (.inl (some (.int (nI (g (3 + t) - 1))))) P (xu (mvR I T (6 * t + e) (6 * t + (g (3 + t) - 1))) (T + 2) t (nI (g (3 + t) - 1))) L C := by
  have k0 := hT.1.1
  have hc := hv.2.1 t ht
  rw [CT_e (mj := 94) (e := [.ref T, .int (nI t), .int (nI e), UN, UN]) (by omega) rfl (Nat.le_of_ble_eq_true rfl)]
  simp (disch := first | assumption | omega) only [Nat.reduceAdd, X_go, go2_some, stp, ldI, ldA, ldL, stI, stA, stL, o1I, o2I, o2L, brI, brII, gl, s1, s2, k1, sl, go_sN, go_sR, go_CT, go_sT, go_no, go_if, pops, bk_v, bk_0, d94_0, d94_1, d94_2, d94_5, d94_6, d94_7, d94_8, d94_9, d94_13, d94_14, d94_17, d94_18, d94_19, d94_21, d94_22, d94_23, d94_26, d94_27, d94_29, d94_32, d94_35, d94_38, d94_41, d94_42, d94_45, d94_46, d94_47, d94_50, d94_51, n_lt, n_le, n_eq, n_lt0, n_ge0, n_gt0, n_le0, n_eq0, m_lt, m_le, m_gt, m_ge, m_eq, m_eq', m_lt0, m_ge0, m_gt0, m_le0, m_ltm, m_lem, n_in, m_in, n_cl, n_ti, n_div, n_rem', n_dec, n_l, nI_add, pk_mul, an0, an1, decide_eq_true_eq, if_true, if_false, ite_true, ite_false, and_true, true_and, and_false, false_and, not_true, not_false_iff, or_false, false_or, or_true, true_or, eq_self, va_some, Bool.false_eq_true, reduceIte, catS_n, catS_i, catS_r, catS_l, catS_d, Nat.zero_add, Nat.add_zero, decide_true, decide_false, Nat.reduceLeDiff, cat_r, cat_i, cat_l, nle_T, nle_F, nlt_T, nlt_F, neq_T, neq_F, k0, c25g hT hg, n_sub]
  simp only [← X_go]
  rw [f94 hT (by omega) ht (by omega) (g (3 + t) - 1 - e) e I (by omega)]
def remG (g : GS) (t e : Nat) : GS := fun k => if k = 3 + t then g k - 1 else if cl t e 0 ≤ k ∧ k < cl t (g (3 + t) - 1) 0 then g (k + 6) else g k
theorem remG_c {g : GS} {t e t' : Nat} (ht : t' < 3) : remG g t e (3 + t') = if t' = t then g (3 + t) - 1 else g (3 + t') := by
  unfold remG cl
  by_cases z : t' = t
  · rw [if_pos z, if_pos (by omega), z]
  · rw [if_neg z, if_neg (by omega), if_neg (by omega)]
theorem remG_o {g : GS} {t e k : Nat} (ht : t < 3) (hc : g (3 + t) ≤ 6) (h : k < 3 ∨ 114 ≤ k) : remG g t e k = g k := by
  unfold remG cl
  rw [if_neg (by omega), if_neg (by omega)]
theorem remG_e {g : GS} {t e t' e' f : Nat} (ht : t < 3) (ht' : t' < 3) (hc : g (3 + t) ≤ 6) (he : e' < 6) (hf : f < 6) : remG g t e (cl t' e' f) = if t' = t ∧ e ≤ e' ∧ e' < g (3 + t) - 1 then g (cl t' (e' + 1) f) else g (cl t' e' f) := by
  unfold remG cl
  rw [if_neg (by omega)]
  by_cases z : t' = t ∧ e ≤ e' ∧ e' < g (3 + t) - 1
  · rw [if_pos z, if_pos (by omega)]
    congr 1; omega
  · rw [if_neg z, if_neg (by omega)]
theorem TV_rem {g : GS} {t e : Nat} (hv : TV g) (ht : t < 3) (he : e < g (3 + t)) : TV (remG g t e) := by
  have hc := hv.2.1 t ht
  refine ⟨fun t' h => ?_, fun t' h => ?_, fun t' e' h he' => ?_⟩
  · rw [remG_o ht hc (by omega)]; exact hv.1 t' h
  · rw [remG_c h]
    have := hv.2.1 t' h
    split <;> omega
  · rw [remG_c h] at he'
    have hc' := hv.2.1 t' h
    by_cases z : t' = t ∧ e ≤ e' ∧ e' < g (3 + t) - 1
    · obtain ⟨rfl, z1, z2⟩ := z
      rw [if_pos rfl] at he'
      exact EV_g (fun f hf => by rw [remG_e ht h hc (by omega) hf, if_pos ⟨rfl, z1, z2⟩]) (hv.2.2 t' (e' + 1) h (by omega))
    · have he2 : e' < g (3 + t') := by
        split at he'
        · rename_i q; subst q; omega
        · exact he'
      exact EV_g (fun f hf => by rw [remG_e ht h hc (by omega) hf, if_neg z]) (hv.2.2 t' e' h he2)
theorem TR_rem {I : MI} {T : Nat} {g : GS} {t e : Nat} (hg : TR I T g) (hv : TV g) (ht : t < 3) (he : e < g (3 + t)) : TR (xu (mvR I T (6 * t + e) (6 * t + (g (3 + t) - 1))) (T + 2) t (nI (g (3 + t) - 1))) T (remG g t e) := by
  have hc := hv.2.1 t ht
  refine ⟨fun t' h => ?_, fun t' h => ?_, fun t' e' h he' => ?_⟩
  · rw [remG_o ht hc (by omega), xu_n _ _ (by omega)]
    unfold mvR
    rw [if_neg (by omega)]
    exact hg.1 t' h
  · rw [remG_c h]
    by_cases z : t' = t
    · rw [if_pos z, z, xu_s]
    · rw [if_neg z, xu_n _ _ (by omega)]
      unfold mvR
      rw [if_neg (by omega)]
      exact hg.2.1 t' h
  · rw [remG_c h] at he'
    have hc' := hv.2.1 t' h
    have he2 : e' < 6 := by
      split at he'
      · omega
      · omega
    rw [remG_e ht h hc he2 (by omega), remG_e ht h hc he2 (by omega), remG_e ht h hc he2 (by omega), remG_e ht h hc he2 (by omega), remG_e ht h hc he2 (by omega), remG_e ht h hc he2 (by omega)]
    simp (disch := omega) only [xu_n]
    by_cases z : t' = t ∧ e ≤ e' ∧ e' < g (3 + t) - 1
    · simp only [if_pos z]
      unfold mvR
      obtain ⟨rfl, z1, z2⟩ := z
      have := hg.2.2 t' (e' + 1) h (by omega)
      simp (disch := omega) only [if_pos]
      exact this
    · have he3 : e' < g (3 + t') := by
        split at he'
        · rename_i q; subst q; omega
        · exact he'
      have := hg.2.2 t' e' h he3
      simp only [if_neg z]
      unfold mvR
      simp (disch := omega) only [if_neg]
      exact this
