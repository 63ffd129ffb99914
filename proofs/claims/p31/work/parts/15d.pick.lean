/-! PICK: the entry for a number; finds -/
def pe (w : Nat → Nat) : Nat → Nat → Nat → Nat
  | 0, e, _ => e
  | f + 1, e, l => if l < w e then e else pe w f (e + 1) (l - w e)
theorem pe_p {w : Nat → Nat} : ∀ m e l, sm e w + l < sm (e + m) w → e ≤ pe w m e l ∧ pe w m e l < e + m ∧ 0 < w (pe w m e l) := by
  intro m
  induction m with
  | zero => intro e l h; rw [Nat.add_zero] at h; omega
  | succ m ih =>
    intro e l h
    unfold pe
    by_cases z : l < w e
    · rw [if_pos z]; omega
    · rw [if_neg z]
      have e1 : sm (e + 1) w = sm e w + w e := rfl
      rw [show e + (m + 1) = e + 1 + m by omega] at h
      have := ih (e + 1) (l - w e) (by omega)
      omega
theorem d118_0 : dec 118 0 = some (.iconst 0, 1, [0]) := rfl
theorem d118_1 : dec 118 1 = some (.istore 4, 2, []) := rfl
theorem d118_3 : dec 118 3 = some (.iconst 0, 1, [0]) := rfl
theorem d118_4 : dec 118 4 = some (.istore 5, 2, []) := rfl
theorem d118_6 : dec 118 6 = some (.iload 5, 2, []) := rfl
theorem d118_8 : dec 118 8 = some (.iload_n 3, 1, []) := rfl
theorem d118_9 : dec 118 9 = some (.if_icmp .ge 33, 3, [42]) := rfl
theorem d118_12 : dec 118 12 = some (.iload 4, 2, []) := rfl
theorem d118_14 : dec 118 14 = some (.aload_n 0, 1, []) := rfl
theorem d118_15 : dec 118 15 = some (.iload_n 1, 1, []) := rfl
theorem d118_16 : dec 118 16 = some (.iload 5, 2, []) := rfl
theorem d118_18 : dec 118 18 = some (.invokestatic 42, 3, [2, 27, 0, 9, 1, 549, 0, 0]) := rfl
theorem d118_21 : dec 118 21 = some (.invokevirtual 86, 3, [2, 74, 2, 1, 0, 753, 0]) := rfl
theorem d118_24 : dec 118 24 = some (.iadd, 1, []) := rfl
theorem d118_25 : dec 118 25 = some (.istore 4, 2, []) := rfl
theorem d118_27 : dec 118 27 = some (.iload 4, 2, []) := rfl
theorem d118_29 : dec 118 29 = some (.iload_n 2, 1, []) := rfl
theorem d118_30 : dec 118 30 = some (.if_icmp .le 6, 3, [36]) := rfl
theorem d118_33 : dec 118 33 = some (.iload 5, 2, []) := rfl
theorem d118_35 : dec 118 35 = some (.ireturn, 1, [0]) := rfl
theorem d118_36 : dec 118 36 = some (.iinc 5 1, 3, [1]) := rfl
theorem d118_39 : dec 118 39 = some (.goto (-33), 3, [6]) := rfl
theorem d118_42 : dec 118 42 = some (.iconst (-1), 1, [4294967295]) := rfl
theorem d118_43 : dec 118 43 = some (.ireturn, 1, [0]) := rfl
theorem l118 : mL 118 = 6 := rfl
theorem f118 {d : Nat} {P : MP} {I : MI} {L : ML} {C : MC} {Q : QT} {D t n c : Nat} {w : Nat → Nat} (hD : DB P D) (hd : 3 ≤ d) (ht : t < 3) (hc : c ≤ 6) (hw : ∀ e, e < c → I (D + 1) (6 * t + e) = nI (w e)) (hb : ∀ e, e < c → w e ≤ 102000) (hn : n < sm c w) : ∀ m e, e + m = c → sm e w ≤ n → X d 118 6 [.ref D, .int (nI t), .int (nI n), .int (nI c), .int (nI (sm e w)), .int (nI e)] [] P I L C Q = Q (.inl (some (.int (nI (pe w m e (n - sm e w)))))) P I L C := by
  have k0 := hD.1
  have hsc := sm_le (n := c) (b := 102000) (f := w) hb
  have hsc2 : c * 102000 ≤ 6 * 102000 := Nat.mul_le_mul_right _ hc
  intro m
  induction m with
  | zero =>
    intro e h hs
    have : e = c := by omega
    subst this
    omega
  | succ m ih =>
    intro e h hs
    have h1 := hw e (by omega)
    have h2 := hb e (by omega)
    have e1 : sm (e + 1) w = sm e w + w e := rfl
    rw [X_go, d118_6]
    unfold pe
    by_cases z : n - sm e w < w e
    · simp (disch := first | assumption | omega) only [Nat.reduceAdd, X_go, go2_some, stp, ldI, ldA, ldL, stI, stA, stL, o1I, o2I, o2L, brI, brII, gl, s1, s2, k1, sl, go_sN, go_sR, go_CT, go_sT, go_no, go_if, pops, bk_v, bk_0, d118_0, d118_1, d118_3, d118_4, d118_8, d118_9, d118_12, d118_14, d118_15, d118_16, d118_18, d118_21, d118_24, d118_25, d118_27, d118_29, d118_30, d118_33, d118_35, d118_36, d118_39, d118_42, d118_43, n_lt, n_le, n_eq, n_lt0, n_ge0, n_gt0, n_le0, n_eq0, m_lt, m_le, m_gt, m_ge, m_eq, m_eq', m_lt0, m_ge0, m_gt0, m_le0, m_ltm, m_lem, n_in, m_in, n_cl, n_ti, n_div, n_rem', n_dec, n_l, nI_add, pk_mul, an0, an1, decide_eq_true_eq, if_true, if_false, ite_true, ite_false, and_true, true_and, and_false, false_and, not_true, not_false_iff, or_false, false_or, or_true, true_or, eq_self, va_some, Bool.false_eq_true, reduceIte, catS_n, catS_i, catS_r, catS_l, catS_d, Nat.zero_add, Nat.add_zero, decide_true, decide_false, Nat.reduceLeDiff, cat_r, cat_i, cat_l, nle_T, nle_F, nlt_T, nlt_F, neq_T, neq_F, k0, c27, c74 hD, h1, z]
    · simp (disch := first | assumption | omega) only [Nat.reduceAdd, X_go, go2_some, stp, ldI, ldA, ldL, stI, stA, stL, o1I, o2I, o2L, brI, brII, gl, s1, s2, k1, sl, go_sN, go_sR, go_CT, go_sT, go_no, go_if, pops, bk_v, bk_0, d118_0, d118_1, d118_3, d118_4, d118_8, d118_9, d118_12, d118_14, d118_15, d118_16, d118_18, d118_21, d118_24, d118_25, d118_27, d118_29, d118_30, d118_33, d118_35, d118_36, d118_39, d118_42, d118_43, n_lt, n_le, n_eq, n_lt0, n_ge0, n_gt0, n_le0, n_eq0, m_lt, m_le, m_gt, m_ge, m_eq, m_eq', m_lt0, m_ge0, m_gt0, m_le0, m_ltm, m_lem, n_in, m_in, n_cl, n_ti, n_div, n_rem', n_dec, n_l, nI_add, pk_mul, an0, an1, decide_eq_true_eq, if_true, if_false, ite_true, ite_false, and_true, true_and, and_false, false_and, not_true, not_false_iff, or_false, false_or, or_true, true_or, eq_self, va_some, Bool.false_eq_true, reduceIte, catS_n, catS_i, catS_r, catS_l, catS_d, Nat.zero_add, Nat.add_zero, decide_true, decide_false, Nat.reduceLeDiff, cat_r, cat_i, cat_l, nle_T, nle_F, nlt_T, nlt_F, neq_T, neq_F, k0, c27, c74 hD, h1, z]
      simp only [← X_go]
      rw [← e1, ih (e + 1) (by omega) (by omega), show n - sm (e + 1) w = n - sm e w - w e by omega]
theorem c118 {d : Nat} {P : MP} {I : MI} {L : ML} {C : MC} {Q : QT} {D t n c : Nat} {w : Nat → Nat} (hD : DB P D) (hw : ∀ e, e < c → I (D + 1) (6 * t + e) = nI (w e)) (hb : ∀ e, e < c → w e ≤ 102000) (hn : n < sm c w) (hd : 4 ≤ d) (ht : t < 3) (hc : c ≤ 6) : CT d 118 [.ref D, .int (nI t), .int (nI n), .int (nI c)] P I L C Q = Q (.inl (some (.int (nI (pe w c 0 n))))) P I L C := by
  rw [CT_e (mj := 118) (e := [.ref D, .int (nI t), .int (nI n), .int (nI c), UN, UN]) (by omega) rfl (Nat.le_of_ble_eq_true rfl)]
  simp (disch := first | assumption | omega) only [Nat.reduceAdd, X_go, go2_some, stp, ldI, ldA, ldL, stI, stA, stL, o1I, o2I, o2L, brI, brII, gl, s1, s2, k1, sl, go_sN, go_sR, go_CT, go_sT, go_no, go_if, pops, bk_v, bk_0, d118_0, d118_1, d118_3, d118_4, d118_8, d118_9, d118_12, d118_14, d118_15, d118_16, d118_18, d118_21, d118_24, d118_25, d118_27, d118_29, d118_30, d118_33, d118_35, d118_36, d118_39, d118_42, d118_43, n_lt, n_le, n_eq, n_lt0, n_ge0, n_gt0, n_le0, n_eq0, m_lt, m_le, m_gt, m_ge, m_eq, m_eq', m_lt0, m_ge0, m_gt0, m_le0, m_ltm, m_lem, n_in, m_in, n_cl, n_ti, n_div, n_rem', n_dec, n_l, nI_add, pk_mul, an0, an1, decide_eq_true_eq, if_true, if_false, ite_true, ite_false, and_true, true_and, and_false, false_and, not_true, not_false_iff, or_false, false_or, or_true, true_or, eq_self, va_some, Bool.false_eq_true, reduceIte, catS_n, catS_i, catS_r, catS_l, catS_d, Nat.zero_add, Nat.add_zero, decide_true, decide_false, Nat.reduceLeDiff, cat_r, cat_i, cat_l, nle_T, nle_F, nlt_T, nlt_F, neq_T, neq_F]
  simp only [← X_go]
  exact f118 hD (by omega) ht hc hw hb hn c 0 (by omega) (Nat.zero_le _)
