/-! THE MODEL: restored, told -/
def zG (T : Nat) (g : GS) : GS := fun k => if (6 ≤ k ∧ k < 114) ∧ (k - 6) % 6 = 5 ∧ (k - 6) / 6 < T ∧ (k - 6) / 6 % 6 < g (3 + (k - 6) / 36) then 0 else g k
theorem zG_o {T : Nat} {g : GS} {k : Nat} (h : k < 6 ∨ 114 ≤ k) : zG T g k = g k := if_neg (by omega)
theorem zG_0 {g : GS} {k : Nat} : zG 0 g k = g k := if_neg (by omega)
theorem zG_18 {g : GS} {k : Nat} : resG g k = zG 18 g k := by
  unfold resG zG
  by_cases h : (6 ≤ k ∧ k < 114) ∧ (k - 6) % 6 = 5 ∧ (k - 6) / 6 % 6 < g (3 + (k - 6) / 36)
  · rw [if_pos h, if_pos ⟨h.1, h.2.1, by omega, h.2.2⟩]
  · rw [if_neg h, if_neg (fun q => h ⟨q.1, q.2.1, q.2.2.2⟩)]
theorem zG_s {g : GS} {t e k : Nat} (ht : t < 3) (he : e < 6) (hc : e < g (3 + t)) : zG (6 * t + (e + 1)) g k = ud (zG (6 * t + e) g) (cl t e 5) 0 k := by
  unfold ud
  by_cases z : k = cl t e 5
  · subst z
    rw [if_pos rfl]
    refine if_pos ⟨by unfold cl; omega, by unfold cl; omega, by unfold cl; omega, ?_⟩
    have q1 : (cl t e 5 - 6) / 36 = t := by unfold cl; omega
    have q2 : (cl t e 5 - 6) / 6 % 6 = e := by unfold cl; omega
    rw [q1, q2]
    exact hc
  · rw [if_neg z]
    unfold zG
    by_cases h : (6 ≤ k ∧ k < 114) ∧ (k - 6) % 6 = 5 ∧ (k - 6) / 6 < 6 * t + e ∧ (k - 6) / 6 % 6 < g (3 + (k - 6) / 36)
    · rw [if_pos h, if_pos ⟨h.1, h.2.1, by omega, h.2.2.2⟩]
    · rw [if_neg h, if_neg (fun q => h ⟨q.1, q.2.1, by unfold cl at z; omega, q.2.2.2⟩)]
theorem zG_t {g : GS} {t k : Nat} (ht : t < 3) (hc : g (3 + t) ≤ 6) : zG (6 * (t + 1)) g k = zG (6 * t + g (3 + t)) g k := by
  unfold zG
  by_cases h : (6 ≤ k ∧ k < 114) ∧ (k - 6) % 6 = 5 ∧ (k - 6) / 6 < 6 * t + g (3 + t) ∧ (k - 6) / 6 % 6 < g (3 + (k - 6) / 36)
  · rw [if_pos h, if_pos ⟨h.1, h.2.1, by omega, h.2.2.2⟩]
  · rw [if_neg h]
    refine if_neg fun q => h ⟨q.1, q.2.1, ?_, q.2.2.2⟩
    rcases Nat.lt_or_ge ((k - 6) / 6) (6 * t + g (3 + t)) with w | w
    · exact w
    · exfalso
      have e1 : (k - 6) / 36 = t := by omega
      have := q.2.2.2
      rw [e1] at this
      omega
theorem d169_0 : dec 169 0 = some (.iconst 0, 1, [0]) := rfl
theorem d169_1 : dec 169 1 = some (.istore_n 1, 1, []) := rfl
theorem d169_2 : dec 169 2 = some (.iconst 0, 1, [0]) := rfl
theorem d169_3 : dec 169 3 = some (.istore_n 2, 1, []) := rfl
theorem d169_4 : dec 169 4 = some (.iload_n 2, 1, []) := rfl
theorem d169_5 : dec 169 5 = some (.iconst 3, 1, [3]) := rfl
theorem d169_6 : dec 169 6 = some (.if_icmp .ge 39, 3, [45]) := rfl
theorem d169_9 : dec 169 9 = some (.iconst 0, 1, [0]) := rfl
theorem d169_10 : dec 169 10 = some (.istore_n 3, 1, []) := rfl
theorem d169_11 : dec 169 11 = some (.iload_n 3, 1, []) := rfl
theorem d169_12 : dec 169 12 = some (.aload_n 0, 1, []) := rfl
theorem d169_13 : dec 169 13 = some (.getfield 7, 3, [1, 10, 0, 2, 0, 994]) := rfl
theorem d169_16 : dec 169 16 = some (.iconst 3, 1, [3]) := rfl
theorem d169_17 : dec 169 17 = some (.iload_n 2, 1, []) := rfl
theorem d169_18 : dec 169 18 = some (.iadd, 1, []) := rfl
theorem d169_19 : dec 169 19 = some (.iaload, 1, []) := rfl
theorem d169_20 : dec 169 20 = some (.if_icmp .ge 19, 3, [39]) := rfl
theorem d169_23 : dec 169 23 = some (.iload_n 1, 1, []) := rfl
theorem d169_24 : dec 169 24 = some (.aload_n 0, 1, []) := rfl
theorem d169_25 : dec 169 25 = some (.iload_n 2, 1, []) := rfl
theorem d169_26 : dec 169 26 = some (.iload_n 3, 1, []) := rfl
theorem d169_27 : dec 169 27 = some (.iconst 5, 1, [5]) := rfl
theorem d169_28 : dec 169 28 = some (.invokevirtual 107, 3, [2, 167, 2, 10, 0, 1131, 0, 0, 0]) := rfl
theorem d169_31 : dec 169 31 = some (.iadd, 1, []) := rfl
theorem d169_32 : dec 169 32 = some (.istore_n 1, 1, []) := rfl
theorem d169_33 : dec 169 33 = some (.iinc 3 1, 3, [1]) := rfl
theorem d169_36 : dec 169 36 = some (.goto (-25), 3, [11]) := rfl
theorem d169_39 : dec 169 39 = some (.iinc 2 1, 3, [1]) := rfl
theorem d169_42 : dec 169 42 = some (.goto (-38), 3, [4]) := rfl
theorem d169_45 : dec 169 45 = some (.iload_n 1, 1, []) := rfl
theorem d169_46 : dec 169 46 = some (.ireturn, 1, [0]) := rfl
theorem l169 : mL 169 = 4 := rfl
theorem f169 {d : Nat} {P : MP} {I : MI} {L : ML} {C : MC} {Q : QT} {t : Nat} {g : GS} (hM : MB P) (hn : NR I g) (hv : TV g) (ht : t < 3) (hd : 3 ≤ d) : ∀ m e s, e + m = g (3 + t) → X d 169 11 [.ref 150, .int (nI (s + sm e (fun e => g (cl t e 5)))), .int (nI t), .int (nI e)] [] P I L C Q = X d 169 39 [.ref 150, .int (nI (s + sm (g (3 + t)) (fun e => g (cl t e 5)))), .int (nI t), .int (nI (g (3 + t)))] [] P I L C Q := by
  have hM' := hM
  obtain ⟨⟨k0, p0, p1, p2, p5, y1, _⟩, _⟩ := hM'
  have hc := hv.2.1 t ht
  have hnc := hn (3 + t) (by omega)
  intro m
  induction m with
  | zero =>
    intro e s h
    have : e = g (3 + t) := by omega
    subst this
    rw [X_go, d169_11]
    simp (disch := first | assumption | omega) only [Nat.reduceAdd, X_go, go2_some, stp, ldI, ldA, ldL, stI, stA, stL, o1I, o2I, o2L, brI, brII, gl, s1, s2, k1, sl, go_sN, go_sR, go_CT, go_sT, go_no, go_if, pops, bk_v, bk_0, d169_0, d169_1, d169_2, d169_3, d169_4, d169_5, d169_6, d169_9, d169_10, d169_12, d169_13, d169_16, d169_17, d169_18, d169_19, d169_20, d169_23, d169_24, d169_25, d169_26, d169_27, d169_28, d169_31, d169_32, d169_33, d169_36, d169_42, d169_45, d169_46, n_lt, n_le, n_eq, n_lt0, n_ge0, n_gt0, n_le0, n_eq0, m_lt, m_le, m_gt, m_ge, m_eq, m_eq', m_lt0, m_ge0, m_gt0, m_le0, m_ltm, m_lem, n_in, m_in, n_cl, n_ti, n_div, n_rem', n_dec, n_l, nI_add, pk_mul, an0, an1, decide_eq_true_eq, if_true, if_false, ite_true, ite_false, and_true, true_and, and_false, false_and, not_true, not_false_iff, or_false, false_or, or_true, true_or, eq_self, va_some, Bool.false_eq_true, reduceIte, catS_n, catS_i, catS_r, catS_l, catS_d, Nat.zero_add, Nat.add_zero, decide_true, decide_false, Nat.reduceLeDiff, cat_r, cat_i, cat_l, nle_T, nle_F, nlt_T, nlt_F, neq_T, neq_F, k0, p0, y1, hnc]
  | succ m ih =>
    intro e s h
    have he : e < g (3 + t) := by omega
    have e1 : s + sm (e + 1) (fun e => g (cl t e 5)) = s + sm e (fun e => g (cl t e 5)) + g (cl t e 5) := by
      show s + (sm e (fun e => g (cl t e 5)) + g (cl t e 5)) = _
      omega
    rw [← ih (e + 1) s (by omega), e1, X_go, d169_11]
    simp (disch := first | assumption | omega) only [Nat.reduceAdd, X_go, go2_some, stp, ldI, ldA, ldL, stI, stA, stL, o1I, o2I, o2L, brI, brII, gl, s1, s2, k1, sl, go_sN, go_sR, go_CT, go_sT, go_no, go_if, pops, bk_v, bk_0, d169_0, d169_1, d169_2, d169_3, d169_4, d169_5, d169_6, d169_9, d169_10, d169_12, d169_13, d169_16, d169_17, d169_18, d169_19, d169_20, d169_23, d169_24, d169_25, d169_26, d169_27, d169_28, d169_31, d169_32, d169_33, d169_36, d169_42, d169_45, d169_46, n_lt, n_le, n_eq, n_lt0, n_ge0, n_gt0, n_le0, n_eq0, m_lt, m_le, m_gt, m_ge, m_eq, m_eq', m_lt0, m_ge0, m_gt0, m_le0, m_ltm, m_lem, n_in, m_in, n_cl, n_ti, n_div, n_rem', n_dec, n_l, nI_add, pk_mul, an0, an1, decide_eq_true_eq, if_true, if_false, ite_true, ite_false, and_true, true_and, and_false, false_and, not_true, not_false_iff, or_false, false_or, or_true, true_or, eq_self, va_some, Bool.false_eq_true, reduceIte, catS_n, catS_i, catS_r, catS_l, catS_d, Nat.zero_add, Nat.add_zero, decide_true, decide_false, Nat.reduceLeDiff, cat_r, cat_i, cat_l, nle_T, nle_F, nlt_T, nlt_F, neq_T, neq_F, k0, p0, y1, hnc, c167 hM hn]
    done
theorem c169 {d : Nat} {P : MP} {I : MI} {L : ML} {C : MC} {Q : QT} {g : GS} (hM : MB P) (hn : NR I g) (hv : TV g) (hd : 4 ≤ d) : CT d 169 [.ref 150] P I L C Q = Q (.inl (some (.int (nI (spc g))))) P I L C := by
  have q1 : ∀ t s u, t < 3 → X (d - 1) 169 4 [.ref 150, .int (nI s), .int (nI t), u] [] P I L C Q = X (d - 1) 169 4 [.ref 150, .int (nI (s + sm (g (3 + t)) (fun e => g (cl t e 5)))), .int (nI (t + 1)), .int (nI (g (3 + t)))] [] P I L C Q := by
    intro t s u ht
    have h := f169 (d := d - 1) (L := L) (C := C) (Q := Q) hM hn hv ht (by omega) (g (3 + t)) 0 s (by omega)
    have e0 : s + sm 0 (fun e => g (cl t e 5)) = s := rfl
    rw [e0] at h
    have h2 : X (d - 1) 169 39 [.ref 150, .int (nI (s + sm (g (3 + t)) (fun e => g (cl t e 5)))), .int (nI t), .int (nI (g (3 + t)))] [] P I L C Q = X (d - 1) 169 4 [.ref 150, .int (nI (s + sm (g (3 + t)) (fun e => g (cl t e 5)))), .int (nI (t + 1)), .int (nI (g (3 + t)))] [] P I L C Q := by
      rw [X_go, d169_39]
      simp (disch := first | assumption | omega) only [Nat.reduceAdd, X_go, go2_some, stp, ldI, ldA, ldL, stI, stA, stL, o1I, o2I, o2L, brI, brII, gl, s1, s2, k1, sl, go_sN, go_sR, go_CT, go_sT, go_no, go_if, pops, bk_v, bk_0, d169_0, d169_1, d169_2, d169_3, d169_5, d169_6, d169_9, d169_10, d169_11, d169_12, d169_13, d169_16, d169_17, d169_18, d169_19, d169_20, d169_23, d169_24, d169_25, d169_26, d169_27, d169_28, d169_31, d169_32, d169_33, d169_36, d169_42, d169_45, d169_46, n_lt, n_le, n_eq, n_lt0, n_ge0, n_gt0, n_le0, n_eq0, m_lt, m_le, m_gt, m_ge, m_eq, m_eq', m_lt0, m_ge0, m_gt0, m_le0, m_ltm, m_lem, n_in, m_in, n_cl, n_ti, n_div, n_rem', n_dec, n_l, nI_add, pk_mul, an0, an1, decide_eq_true_eq, if_true, if_false, ite_true, ite_false, and_true, true_and, and_false, false_and, not_true, not_false_iff, or_false, false_or, or_true, true_or, eq_self, va_some, Bool.false_eq_true, reduceIte, catS_n, catS_i, catS_r, catS_l, catS_d, Nat.zero_add, Nat.add_zero, decide_true, decide_false, Nat.reduceLeDiff, cat_r, cat_i, cat_l, nle_T, nle_F, nlt_T, nlt_F, neq_T, neq_F]
    rw [← h2, ← h, X_go, d169_4]
    simp (disch := first | assumption | omega) only [Nat.reduceAdd, X_go, go2_some, stp, ldI, ldA, ldL, stI, stA, stL, o1I, o2I, o2L, brI, brII, gl, s1, s2, k1, sl, go_sN, go_sR, go_CT, go_sT, go_no, go_if, pops, bk_v, bk_0, d169_0, d169_1, d169_2, d169_3, d169_5, d169_6, d169_9, d169_10, d169_12, d169_13, d169_16, d169_17, d169_18, d169_19, d169_20, d169_23, d169_24, d169_25, d169_26, d169_27, d169_28, d169_31, d169_32, d169_33, d169_36, d169_42, d169_45, d169_46, n_lt, n_le, n_eq, n_lt0, n_ge0, n_gt0, n_le0, n_eq0, m_lt, m_le, m_gt, m_ge, m_eq, m_eq', m_lt0, m_ge0, m_gt0, m_le0, m_ltm, m_lem, n_in, m_in, n_cl, n_ti, n_div, n_rem', n_dec, n_l, nI_add, pk_mul, an0, an1, decide_eq_true_eq, if_true, if_false, ite_true, ite_false, and_true, true_and, and_false, false_and, not_true, not_false_iff, or_false, false_or, or_true, true_or, eq_self, va_some, Bool.false_eq_true, reduceIte, catS_n, catS_i, catS_r, catS_l, catS_d, Nat.zero_add, Nat.add_zero, decide_true, decide_false, Nat.reduceLeDiff, cat_r, cat_i, cat_l, nle_T, nle_F, nlt_T, nlt_F, neq_T, neq_F]
    done
  have e : spc g = 0 + sm (g (3 + 0)) (fun e => g (cl 0 e 5)) + sm (g (3 + 1)) (fun e => g (cl 1 e 5)) + sm (g (3 + 2)) (fun e => g (cl 2 e 5)) := by
    unfold spc
    rw [Nat.zero_add]
  have h3 : X (d - 1) 169 4 [.ref 150, .int (nI 0), .int (nI 0), UN] [] P I L C Q = Q (.inl (some (.int (nI (spc g))))) P I L C := by
    rw [e, q1 0 0 UN (by omega), q1 1 _ _ (by omega), q1 2 _ _ (by omega), X_go, d169_4]
    simp (disch := first | assumption | omega) only [Nat.reduceAdd, X_go, go2_some, stp, ldI, ldA, ldL, stI, stA, stL, o1I, o2I, o2L, brI, brII, gl, s1, s2, k1, sl, go_sN, go_sR, go_CT, go_sT, go_no, go_if, pops, bk_v, bk_0, d169_0, d169_1, d169_2, d169_3, d169_5, d169_6, d169_9, d169_10, d169_11, d169_12, d169_13, d169_16, d169_17, d169_18, d169_19, d169_20, d169_23, d169_24, d169_25, d169_26, d169_27, d169_28, d169_31, d169_32, d169_33, d169_36, d169_39, d169_42, d169_45, d169_46, n_lt, n_le, n_eq, n_lt0, n_ge0, n_gt0, n_le0, n_eq0, m_lt, m_le, m_gt, m_ge, m_eq, m_eq', m_lt0, m_ge0, m_gt0, m_le0, m_ltm, m_lem, n_in, m_in, n_cl, n_ti, n_div, n_rem', n_dec, n_l, nI_add, pk_mul, an0, an1, decide_eq_true_eq, if_true, if_false, ite_true, ite_false, and_true, true_and, and_false, false_and, not_true, not_false_iff, or_false, false_or, or_true, true_or, eq_self, va_some, Bool.false_eq_true, reduceIte, catS_n, catS_i, catS_r, catS_l, catS_d, Nat.zero_add, Nat.add_zero, decide_true, decide_false, Nat.reduceLeDiff, cat_r, cat_i, cat_l, nle_T, nle_F, nlt_T, nlt_F, neq_T, neq_F]
  rw [CT_e (mj := 169) (e := [.ref 150, UN, UN, UN]) (by omega) rfl (Nat.le_of_ble_eq_true rfl)]
  simp (disch := first | assumption | omega) only [Nat.reduceAdd, X_go, go2_some, stp, ldI, ldA, ldL, stI, stA, stL, o1I, o2I, o2L, brI, brII, gl, s1, s2, k1, sl, go_sN, go_sR, go_CT, go_sT, go_no, go_if, pops, bk_v, bk_0, d169_0, d169_1, d169_2, d169_3, d169_5, d169_6, d169_9, d169_10, d169_11, d169_12, d169_13, d169_16, d169_17, d169_18, d169_19, d169_20, d169_23, d169_24, d169_25, d169_26, d169_27, d169_28, d169_31, d169_32, d169_33, d169_36, d169_39, d169_42, d169_45, d169_46, n_lt, n_le, n_eq, n_lt0, n_ge0, n_gt0, n_le0, n_eq0, m_lt, m_le, m_gt, m_ge, m_eq, m_eq', m_lt0, m_ge0, m_gt0, m_le0, m_ltm, m_lem, n_in, m_in, n_cl, n_ti, n_div, n_rem', n_dec, n_l, nI_add, pk_mul, an0, an1, decide_eq_true_eq, if_true, if_false, ite_true, ite_false, and_true, true_and, and_false, false_and, not_true, not_false_iff, or_false, false_or, or_true, true_or, eq_self, va_some, Bool.false_eq_true, reduceIte, catS_n, catS_i, catS_r, catS_l, catS_d, Nat.zero_add, Nat.add_zero, decide_true, decide_false, Nat.reduceLeDiff, cat_r, cat_i, cat_l, nle_T, nle_F, nlt_T, nlt_F, neq_T, neq_F]
  simp only [← X_go]
  exact h3
theorem d168_0 : dec 168 0 = some (.aload_n 0, 1, []) := rfl
theorem d168_1 : dec 168 1 = some (.iconst 0, 1, [0]) := rfl
theorem d168_2 : dec 168 2 = some (.putfield 65, 3, [1, 10, 4, 0, 0, 998]) := rfl
theorem d168_5 : dec 168 5 = some (.aload_n 0, 1, []) := rfl
theorem d168_6 : dec 168 6 = some (.invokevirtual 87, 3, [2, 157, 2, 10, 0, 1095]) := rfl
theorem d168_9 : dec 168 9 = some (.aload_n 0, 1, []) := rfl
theorem d168_10 : dec 168 10 = some (.invokevirtual 111, 3, [2, 169, 2, 10, 0, 1139]) := rfl
theorem d168_13 : dec 168 13 = some (.istore_n 1, 1, []) := rfl
theorem d168_14 : dec 168 14 = some (.iconst 0, 1, [0]) := rfl
theorem d168_15 : dec 168 15 = some (.istore_n 2, 1, []) := rfl
theorem d168_16 : dec 168 16 = some (.iload_n 2, 1, []) := rfl
theorem d168_17 : dec 168 17 = some (.iconst 3, 1, [3]) := rfl
theorem d168_18 : dec 168 18 = some (.if_icmp .ge 42, 3, [60]) := rfl
theorem d168_21 : dec 168 21 = some (.iconst 0, 1, [0]) := rfl
theorem d168_22 : dec 168 22 = some (.istore_n 3, 1, []) := rfl
theorem d168_23 : dec 168 23 = some (.iload_n 3, 1, []) := rfl
theorem d168_24 : dec 168 24 = some (.aload_n 0, 1, []) := rfl
theorem d168_25 : dec 168 25 = some (.getfield 7, 3, [1, 10, 0, 2, 0, 994]) := rfl
theorem d168_28 : dec 168 28 = some (.iconst 3, 1, [3]) := rfl
theorem d168_29 : dec 168 29 = some (.iload_n 2, 1, []) := rfl
theorem d168_30 : dec 168 30 = some (.iadd, 1, []) := rfl
theorem d168_31 : dec 168 31 = some (.iaload, 1, []) := rfl
theorem d168_32 : dec 168 32 = some (.if_icmp .ge 22, 3, [54]) := rfl
theorem d168_35 : dec 168 35 = some (.aload_n 0, 1, []) := rfl
theorem d168_36 : dec 168 36 = some (.getfield 7, 3, [1, 10, 0, 2, 0, 994]) := rfl
theorem d168_39 : dec 168 39 = some (.iload_n 2, 1, []) := rfl
theorem d168_40 : dec 168 40 = some (.iload_n 3, 1, []) := rfl
theorem d168_41 : dec 168 41 = some (.invokestatic 80, 3, [2, 163, 0, 10, 0, 1116, 0, 0]) := rfl
theorem d168_44 : dec 168 44 = some (.iconst 5, 1, [5]) := rfl
theorem d168_45 : dec 168 45 = some (.iadd, 1, []) := rfl
theorem d168_46 : dec 168 46 = some (.iconst 0, 1, [0]) := rfl
theorem d168_47 : dec 168 47 = some (.iastore, 1, []) := rfl
theorem d168_48 : dec 168 48 = some (.iinc 3 1, 3, [1]) := rfl
theorem d168_51 : dec 168 51 = some (.goto (-28), 3, [23]) := rfl
theorem d168_54 : dec 168 54 = some (.iinc 2 1, 3, [1]) := rfl
theorem d168_57 : dec 168 57 = some (.goto (-41), 3, [16]) := rfl
theorem d168_60 : dec 168 60 = some (.iload_n 1, 1, []) := rfl
theorem d168_61 : dec 168 61 = some (.ireturn, 1, [0]) := rfl
theorem l168 : mL 168 = 4 := rfl
theorem f168 {d : Nat} {P : MP} {L : ML} {C : MC} {t w : Nat} {g : GS} (hM : MB P) (hv : TV g) (ht : t < 3) (hd : 2 ≤ d) : ∀ m e (I : MI), e + m = g (3 + t) → NR I (zG (6 * t + e) g) → ∃ I', NR I' (zG (6 * (t + 1)) g) ∧ (∀ k j, k ≠ 151 → I' k j = I k j) ∧ ∀ Q, X d 168 23 [.ref 150, .int (nI w), .int (nI t), .int (nI e)] [] P I L C Q = X d 168 54 [.ref 150, .int (nI w), .int (nI t), .int (nI (g (3 + t)))] [] P I' L C Q := by
  obtain ⟨⟨k0, p0, p1, p2, p5, y1, _⟩, _⟩ := hM
  have hc := hv.2.1 t ht
  intro m
  induction m with
  | zero =>
    intro e I h hn
    have : e = g (3 + t) := by omega
    subst this
    have hnc := hn (3 + t) (by omega)
    rw [zG_o (by omega)] at hnc
    refine ⟨I, NR_c hn fun k _ => zG_t ht hc, fun _ _ _ => rfl, fun Q => ?_⟩
    rw [X_go, d168_23]
    simp (disch := first | assumption | omega) only [Nat.reduceAdd, X_go, go2_some, stp, ldI, ldA, ldL, stI, stA, stL, o1I, o2I, o2L, brI, brII, gl, s1, s2, k1, sl, go_sN, go_sR, go_CT, go_sT, go_no, go_if, pops, bk_v, bk_0, d168_0, d168_1, d168_2, d168_5, d168_6, d168_9, d168_10, d168_13, d168_14, d168_15, d168_16, d168_17, d168_18, d168_21, d168_22, d168_24, d168_25, d168_28, d168_29, d168_30, d168_31, d168_32, d168_35, d168_36, d168_39, d168_40, d168_41, d168_44, d168_45, d168_46, d168_47, d168_48, d168_51, d168_57, d168_60, d168_61, n_lt, n_le, n_eq, n_lt0, n_ge0, n_gt0, n_le0, n_eq0, m_lt, m_le, m_gt, m_ge, m_eq, m_eq', m_lt0, m_ge0, m_gt0, m_le0, m_ltm, m_lem, n_in, m_in, n_cl, n_ti, n_div, n_rem', n_dec, n_l, nI_add, pk_mul, an0, an1, decide_eq_true_eq, if_true, if_false, ite_true, ite_false, and_true, true_and, and_false, false_and, not_true, not_false_iff, or_false, false_or, or_true, true_or, eq_self, va_some, Bool.false_eq_true, reduceIte, catS_n, catS_i, catS_r, catS_l, catS_d, Nat.zero_add, Nat.add_zero, decide_true, decide_false, Nat.reduceLeDiff, cat_r, cat_i, cat_l, nle_T, nle_F, nlt_T, nlt_F, neq_T, neq_F, k0, p0, y1, hnc]
  | succ m ih =>
    intro e I h hn
    have he : e < g (3 + t) := by omega
    have hnc := hn (3 + t) (by omega)
    rw [zG_o (by omega)] at hnc
    have hcl := cl_lt (f := 5) ht (show e < 6 by omega) (by omega)
    obtain ⟨I', a1, a2, a3⟩ := ih (e + 1) (xu I 151 (cl t e 5) (nI 0)) (by omega) (NR_c (NR_ud hn) fun k _ => zG_s ht (by omega) he)
    refine ⟨I', a1, fun k j h => by rw [a2 k j h, xu_n _ _ (by omega)], fun Q => ?_⟩
    have a3 := a3 Q
    rw [← a3, X_go, d168_23]
    simp (disch := first | assumption | omega) only [Nat.reduceAdd, X_go, go2_some, stp, ldI, ldA, ldL, stI, stA, stL, o1I, o2I, o2L, brI, brII, gl, s1, s2, k1, sl, go_sN, go_sR, go_CT, go_sT, go_no, go_if, pops, bk_v, bk_0, d168_0, d168_1, d168_2, d168_5, d168_6, d168_9, d168_10, d168_13, d168_14, d168_15, d168_16, d168_17, d168_18, d168_21, d168_22, d168_24, d168_25, d168_28, d168_29, d168_30, d168_31, d168_32, d168_35, d168_36, d168_39, d168_40, d168_41, d168_44, d168_45, d168_46, d168_47, d168_48, d168_51, d168_57, d168_60, d168_61, n_lt, n_le, n_eq, n_lt0, n_ge0, n_gt0, n_le0, n_eq0, m_lt, m_le, m_gt, m_ge, m_eq, m_eq', m_lt0, m_ge0, m_gt0, m_le0, m_ltm, m_lem, n_in, m_in, n_cl, n_ti, n_div, n_rem', n_dec, n_l, nI_add, pk_mul, an0, an1, decide_eq_true_eq, if_true, if_false, ite_true, ite_false, and_true, true_and, and_false, false_and, not_true, not_false_iff, or_false, false_or, or_true, true_or, eq_self, va_some, Bool.false_eq_true, reduceIte, catS_n, catS_i, catS_r, catS_l, catS_d, Nat.zero_add, Nat.add_zero, decide_true, decide_false, Nat.reduceLeDiff, cat_r, cat_i, cat_l, nle_T, nle_F, nlt_T, nlt_F, neq_T, neq_F, k0, p0, y1, hnc, c163, cl_f]
    done
theorem g168 {d : Nat} {P : MP} {L : ML} {C : MC} {w : Nat} {g : GS} (hM : MB P) (hv : TV g) (hd : 2 ≤ d) : ∀ m t (I : MI) (u : Value), t + m = 3 → NR I (zG (6 * t) g) → ∃ I', NR I' (resG g) ∧ (∀ k j, k ≠ 151 → I' k j = I k j) ∧ ∀ Q, X d 168 16 [.ref 150, .int (nI w), .int (nI t), u] [] P I L C Q = Q (.inl (some (.int (nI w)))) P I' L C := by
  intro m
  induction m with
  | zero =>
    intro t I u h hn
    have : t = 3 := by omega
    subst this
    refine ⟨I, NR_c hn fun k _ => zG_18, fun _ _ _ => rfl, fun Q => ?_⟩
    rw [X_go, d168_16]
    simp (disch := first | assumption | omega) only [Nat.reduceAdd, X_go, go2_some, stp, ldI, ldA, ldL, stI, stA, stL, o1I, o2I, o2L, brI, brII, gl, s1, s2, k1, sl, go_sN, go_sR, go_CT, go_sT, go_no, go_if, pops, bk_v, bk_0, d168_0, d168_1, d168_2, d168_5, d168_6, d168_9, d168_10, d168_13, d168_14, d168_15, d168_17, d168_18, d168_21, d168_22, d168_23, d168_24, d168_25, d168_28, d168_29, d168_30, d168_31, d168_32, d168_35, d168_36, d168_39, d168_40, d168_41, d168_44, d168_45, d168_46, d168_47, d168_48, d168_51, d168_54, d168_57, d168_60, d168_61, n_lt, n_le, n_eq, n_lt0, n_ge0, n_gt0, n_le0, n_eq0, m_lt, m_le, m_gt, m_ge, m_eq, m_eq', m_lt0, m_ge0, m_gt0, m_le0, m_ltm, m_lem, n_in, m_in, n_cl, n_ti, n_div, n_rem', n_dec, n_l, nI_add, pk_mul, an0, an1, decide_eq_true_eq, if_true, if_false, ite_true, ite_false, and_true, true_and, and_false, false_and, not_true, not_false_iff, or_false, false_or, or_true, true_or, eq_self, va_some, Bool.false_eq_true, reduceIte, catS_n, catS_i, catS_r, catS_l, catS_d, Nat.zero_add, Nat.add_zero, decide_true, decide_false, Nat.reduceLeDiff, cat_r, cat_i, cat_l, nle_T, nle_F, nlt_T, nlt_F, neq_T, neq_F]
  | succ m ih =>
    intro t I u h hn
    obtain ⟨J, a1, a2, a3⟩ := f168 (d := d) (L := L) (C := C) (w := w) hM hv (show t < 3 by omega) hd (g (3 + t)) 0 I (by omega) hn
    obtain ⟨I', b1, b2, b3⟩ := ih (t + 1) J (.int (nI (g (3 + t)))) (by omega) a1
    refine ⟨I', b1, fun k j h => by rw [b2 k j h, a2 k j h], fun Q => ?_⟩
    have a3 := a3 Q
    have b3 := b3 Q
    have h2 : X d 168 54 [.ref 150, .int (nI w), .int (nI t), .int (nI (g (3 + t)))] [] P J L C Q = X d 168 16 [.ref 150, .int (nI w), .int (nI (t + 1)), .int (nI (g (3 + t)))] [] P J L C Q := by
      rw [X_go, d168_54]
      simp (disch := first | assumption | omega) only [Nat.reduceAdd, X_go, go2_some, stp, ldI, ldA, ldL, stI, stA, stL, o1I, o2I, o2L, brI, brII, gl, s1, s2, k1, sl, go_sN, go_sR, go_CT, go_sT, go_no, go_if, pops, bk_v, bk_0, d168_0, d168_1, d168_2, d168_5, d168_6, d168_9, d168_10, d168_13, d168_14, d168_15, d168_17, d168_18, d168_21, d168_22, d168_23, d168_24, d168_25, d168_28, d168_29, d168_30, d168_31, d168_32, d168_35, d168_36, d168_39, d168_40, d168_41, d168_44, d168_45, d168_46, d168_47, d168_48, d168_51, d168_57, d168_60, d168_61, n_lt, n_le, n_eq, n_lt0, n_ge0, n_gt0, n_le0, n_eq0, m_lt, m_le, m_gt, m_ge, m_eq, m_eq', m_lt0, m_ge0, m_gt0, m_le0, m_ltm, m_lem, n_in, m_in, n_cl, n_ti, n_div, n_rem', n_dec, n_l, nI_add, pk_mul, an0, an1, decide_eq_true_eq, if_true, if_false, ite_true, ite_false, and_true, true_and, and_false, false_and, not_true, not_false_iff, or_false, false_or, or_true, true_or, eq_self, va_some, Bool.false_eq_true, reduceIte, catS_n, catS_i, catS_r, catS_l, catS_d, Nat.zero_add, Nat.add_zero, decide_true, decide_false, Nat.reduceLeDiff, cat_r, cat_i, cat_l, nle_T, nle_F, nlt_T, nlt_F, neq_T, neq_F]
    rw [← b3, ← h2, ← a3, X_go, d168_16]
    simp (disch := first | assumption | omega) only [Nat.reduceAdd, X_go, go2_some, stp, ldI, ldA, ldL, stI, stA, stL, o1I, o2I, o2L, brI, brII, gl, s1, s2, k1, sl, go_sN, go_sR, go_CT, go_sT, go_no, go_if, pops, bk_v, bk_0, d168_0, d168_1, d168_2, d168_5, d168_6, d168_9, d168_10, d168_13, d168_14, d168_15, d168_17, d168_18, d168_21, d168_22, d168_24, d168_25, d168_28, d168_29, d168_30, d168_31, d168_32, d168_35, d168_36, d168_39, d168_40, d168_41, d168_44, d168_45, d168_46, d168_47, d168_48, d168_51, d168_57, d168_60, d168_61, n_lt, n_le, n_eq, n_lt0, n_ge0, n_gt0, n_le0, n_eq0, m_lt, m_le, m_gt, m_ge, m_eq, m_eq', m_lt0, m_ge0, m_gt0, m_le0, m_ltm, m_lem, n_in, m_in, n_cl, n_ti, n_div, n_rem', n_dec, n_l, nI_add, pk_mul, an0, an1, decide_eq_true_eq, if_true, if_false, ite_true, ite_false, and_true, true_and, and_false, false_and, not_true, not_false_iff, or_false, false_or, or_true, true_or, eq_self, va_some, Bool.false_eq_true, reduceIte, catS_n, catS_i, catS_r, catS_l, catS_d, Nat.zero_add, Nat.add_zero, decide_true, decide_false, Nat.reduceLeDiff, cat_r, cat_i, cat_l, nle_T, nle_F, nlt_T, nlt_F, neq_T, neq_F]
    done
theorem c168 {d : Nat} {P : MP} {I : MI} {L : ML} {C : MC} {B n len : Nat} {g : GS} {ps : Nat → GS} {tx : Nat → Nat} (hM : MB P) (hR : ZR I g n ps len tx) (hA : AV B g n ps len tx) (hd : 6 ≤ d) : ∃ I', ZR I' (resG g) (puN n) (puS n ps g) len tx ∧ I' 150 4 = nI 0 ∧ fm I I' ∧ ∀ Q, CT d 168 [.ref 150] P I L C Q = Q (.inl (some (.int (nI (spc g))))) P I' L C := by
  have hM' := hM
  obtain ⟨⟨k0, p0, p1, p2, p5, y1, y2, y3, y4⟩, _⟩ := hM'
  have hR' := hR
  obtain ⟨hN, h3, hps', h6, htx'⟩ := hR'
  have hA' := hA
  obtain ⟨hGV, hps, hn4, hlen, htx⟩ := hA'
  have h140 := GV_140 hGV
  have hv := hGV.1
  have hl := hGV.2.1
  have hFv := hGV.2.2
  have hR0 : ZR (xu I 150 4 (nI 0)) g n ps len tx := ZR_4 hR
  have hN0 := hR0.1
  obtain ⟨J, j1, j2, j3⟩ := c157 (d := d - 1) (L := L) (C := C) hM hR0 hn4 (by omega)
  have hNJ := j1.1
  have j4 : J 150 4 = nI 0 := by rw [j2 _ _ (by omega) (by omega), xu_s]
  have j5 : ∀ k j, k < 150 ∨ 168 < k → J k j = I k j := fun k j h => by rw [j2 _ _ (by omega) (by omega), xu_n _ _ (by omega)]
  obtain ⟨I', a1, a2, a3⟩ := g168 (d := d - 1) (L := L) (C := C) (w := spc g) hM hv (by omega) 3 0 J UN (by omega) (NR_c hNJ fun k _ => zG_0)
  refine ⟨I', ZR_now j1 a1 a2, by rw [a2 _ _ (by omega)]; exact j4, fun k j h => by rw [a2 _ _ (by omega), j5 k j h], fun Q => ?_⟩
  have a3 := a3 Q
  rw [CT_e (mj := 168) (e := [.ref 150, UN, UN, UN]) (by omega) rfl (Nat.le_of_ble_eq_true rfl)]
  simp (disch := first | assumption | omega) only [Nat.reduceAdd, X_go, go2_some, stp, ldI, ldA, ldL, stI, stA, stL, o1I, o2I, o2L, brI, brII, gl, s1, s2, k1, sl, go_sN, go_sR, go_CT, go_sT, go_no, go_if, pops, bk_v, bk_0, d168_0, d168_1, d168_2, d168_5, d168_6, d168_9, d168_10, d168_13, d168_14, d168_15, d168_17, d168_18, d168_21, d168_22, d168_23, d168_24, d168_25, d168_28, d168_29, d168_30, d168_31, d168_32, d168_35, d168_36, d168_39, d168_40, d168_41, d168_44, d168_45, d168_46, d168_47, d168_48, d168_51, d168_54, d168_57, d168_60, d168_61, n_lt, n_le, n_eq, n_lt0, n_ge0, n_gt0, n_le0, n_eq0, m_lt, m_le, m_gt, m_ge, m_eq, m_eq', m_lt0, m_ge0, m_gt0, m_le0, m_ltm, m_lem, n_in, m_in, n_cl, n_ti, n_div, n_rem', n_dec, n_l, nI_add, pk_mul, an0, an1, decide_eq_true_eq, if_true, if_false, ite_true, ite_false, and_true, true_and, and_false, false_and, not_true, not_false_iff, or_false, false_or, or_true, true_or, eq_self, va_some, Bool.false_eq_true, reduceIte, catS_n, catS_i, catS_r, catS_l, catS_d, Nat.zero_add, Nat.add_zero, decide_true, decide_false, Nat.reduceLeDiff, cat_r, cat_i, cat_l, nle_T, nle_F, nlt_T, nlt_F, neq_T, neq_F, k0, j3, c169 hM hNJ hv]
  simp only [← X_go]
  exact a3
theorem d189_0 : dec 189 0 = some (.iconst 0, 1, [0]) := rfl
theorem d189_1 : dec 189 1 = some (.istore_n 1, 1, []) := rfl
theorem d189_2 : dec 189 2 = some (.iconst 0, 1, [0]) := rfl
theorem d189_3 : dec 189 3 = some (.istore_n 2, 1, []) := rfl
theorem d189_4 : dec 189 4 = some (.iload_n 2, 1, []) := rfl
theorem d189_5 : dec 189 5 = some (.bipush 16, 2, [16]) := rfl
theorem d189_7 : dec 189 7 = some (.if_icmp .ge 29, 3, [36]) := rfl
theorem d189_10 : dec 189 10 = some (.iload_n 1, 1, []) := rfl
theorem d189_11 : dec 189 11 = some (.aload_n 0, 1, []) := rfl
theorem d189_12 : dec 189 12 = some (.getfield 7, 3, [1, 10, 0, 2, 0, 994]) := rfl
theorem d189_15 : dec 189 15 = some (.bipush 124, 2, [124]) := rfl
theorem d189_17 : dec 189 17 = some (.iload_n 2, 1, []) := rfl
theorem d189_18 : dec 189 18 = some (.iadd, 1, []) := rfl
theorem d189_19 : dec 189 19 = some (.iaload, 1, []) := rfl
theorem d189_20 : dec 189 20 = some (.ifCond .le 7, 3, [27]) := rfl
theorem d189_23 : dec 189 23 = some (.iconst 1, 1, [1]) := rfl
theorem d189_24 : dec 189 24 = some (.goto 4, 3, [28]) := rfl
theorem d189_27 : dec 189 27 = some (.iconst 0, 1, [0]) := rfl
theorem d189_28 : dec 189 28 = some (.iadd, 1, []) := rfl
theorem d189_29 : dec 189 29 = some (.istore_n 1, 1, []) := rfl
theorem d189_30 : dec 189 30 = some (.iinc 2 1, 3, [1]) := rfl
theorem d189_33 : dec 189 33 = some (.goto (-29), 3, [4]) := rfl
theorem d189_36 : dec 189 36 = some (.iload_n 1, 1, []) := rfl
theorem d189_37 : dec 189 37 = some (.ireturn, 1, [0]) := rfl
theorem l189 : mL 189 = 3 := rfl
theorem f189 {d : Nat} {P : MP} {I : MI} {L : ML} {C : MC} {Q : QT} {g : GS} (hM : MB P) (hn : NR I g) {B : Nat} (hF : FV B g) (hB : B ≤ 1000000) (hd : 1 ≤ d) : ∀ m i, i + m = 16 → X d 189 4 [.ref 150, .int (nI (dif g i)), .int (nI i)] [] P I L C Q = Q (.inl (some (.int (nI (dif g 16))))) P I L C := by
  obtain ⟨⟨k0, p0, p1, p2, p5, y1, _⟩, _⟩ := hM
  intro m
  induction m with
  | zero =>
    intro i h
    have : i = 16 := by omega
    subst this
    rw [X_go, d189_4]
    simp (disch := first | assumption | omega) only [Nat.reduceAdd, X_go, go2_some, stp, ldI, ldA, ldL, stI, stA, stL, o1I, o2I, o2L, brI, brII, gl, s1, s2, k1, sl, go_sN, go_sR, go_CT, go_sT, go_no, go_if, pops, bk_v, bk_0, d189_0, d189_1, d189_2, d189_3, d189_5, d189_7, d189_10, d189_11, d189_12, d189_15, d189_17, d189_18, d189_19, d189_20, d189_23, d189_24, d189_27, d189_28, d189_29, d189_30, d189_33, d189_36, d189_37, n_lt, n_le, n_eq, n_lt0, n_ge0, n_gt0, n_le0, n_eq0, m_lt, m_le, m_gt, m_ge, m_eq, m_eq', m_lt0, m_ge0, m_gt0, m_le0, m_ltm, m_lem, n_in, m_in, n_cl, n_ti, n_div, n_rem', n_dec, n_l, nI_add, pk_mul, an0, an1, decide_eq_true_eq, if_true, if_false, ite_true, ite_false, and_true, true_and, and_false, false_and, not_true, not_false_iff, or_false, false_or, or_true, true_or, eq_self, va_some, Bool.false_eq_true, reduceIte, catS_n, catS_i, catS_r, catS_l, catS_d, Nat.zero_add, Nat.add_zero, decide_true, decide_false, Nat.reduceLeDiff, cat_r, cat_i, cat_l, nle_T, nle_F, nlt_T, nlt_F, neq_T, neq_F]
  | succ m ih =>
    intro i h
    have hc := hn (124 + i) (by omega)
    have hb := hF.2.2.2.1 i (by omega)
    have hb2 := hF.2.1
    have e1 : dif g (i + 1) = dif g i + (if 0 < g (124 + i) then 1 else 0) := rfl
    rw [← ih (i + 1) (by omega), e1, X_go, d189_4]
    by_cases z : 0 < g (124 + i)
    · simp (disch := first | assumption | omega) only [Nat.reduceAdd, X_go, go2_some, stp, ldI, ldA, ldL, stI, stA, stL, o1I, o2I, o2L, brI, brII, gl, s1, s2, k1, sl, go_sN, go_sR, go_CT, go_sT, go_no, go_if, pops, bk_v, bk_0, d189_0, d189_1, d189_2, d189_3, d189_5, d189_7, d189_10, d189_11, d189_12, d189_15, d189_17, d189_18, d189_19, d189_20, d189_23, d189_24, d189_27, d189_28, d189_29, d189_30, d189_33, d189_36, d189_37, n_lt, n_le, n_eq, n_lt0, n_ge0, n_gt0, n_le0, n_eq0, m_lt, m_le, m_gt, m_ge, m_eq, m_eq', m_lt0, m_ge0, m_gt0, m_le0, m_ltm, m_lem, n_in, m_in, n_cl, n_ti, n_div, n_rem', n_dec, n_l, nI_add, pk_mul, an0, an1, decide_eq_true_eq, if_true, if_false, ite_true, ite_false, and_true, true_and, and_false, false_and, not_true, not_false_iff, or_false, false_or, or_true, true_or, eq_self, va_some, Bool.false_eq_true, reduceIte, catS_n, catS_i, catS_r, catS_l, catS_d, Nat.zero_add, Nat.add_zero, decide_true, decide_false, Nat.reduceLeDiff, cat_r, cat_i, cat_l, nle_T, nle_F, nlt_T, nlt_F, neq_T, neq_F, k0, p0, y1, hc, z]
      done
    · simp (disch := first | assumption | omega) only [Nat.reduceAdd, X_go, go2_some, stp, ldI, ldA, ldL, stI, stA, stL, o1I, o2I, o2L, brI, brII, gl, s1, s2, k1, sl, go_sN, go_sR, go_CT, go_sT, go_no, go_if, pops, bk_v, bk_0, d189_0, d189_1, d189_2, d189_3, d189_5, d189_7, d189_10, d189_11, d189_12, d189_15, d189_17, d189_18, d189_19, d189_20, d189_23, d189_24, d189_27, d189_28, d189_29, d189_30, d189_33, d189_36, d189_37, n_lt, n_le, n_eq, n_lt0, n_ge0, n_gt0, n_le0, n_eq0, m_lt, m_le, m_gt, m_ge, m_eq, m_eq', m_lt0, m_ge0, m_gt0, m_le0, m_ltm, m_lem, n_in, m_in, n_cl, n_ti, n_div, n_rem', n_dec, n_l, nI_add, pk_mul, an0, an1, decide_eq_true_eq, if_true, if_false, ite_true, ite_false, and_true, true_and, and_false, false_and, not_true, not_false_iff, or_false, false_or, or_true, true_or, eq_self, va_some, Bool.false_eq_true, reduceIte, catS_n, catS_i, catS_r, catS_l, catS_d, Nat.zero_add, Nat.add_zero, decide_true, decide_false, Nat.reduceLeDiff, cat_r, cat_i, cat_l, nle_T, nle_F, nlt_T, nlt_F, neq_T, neq_F, k0, p0, y1, hc, z]
      done
theorem c189 {d : Nat} {P : MP} {I : MI} {L : ML} {C : MC} {Q : QT} {g : GS} (hM : MB P) (hn : NR I g) {B : Nat} (hF : FV B g) (hB : B ≤ 1000000) (hd : 2 ≤ d) : CT d 189 [.ref 150] P I L C Q = Q (.inl (some (.int (nI (dif g 16))))) P I L C := by
  have h := f189 (d := d - 1) (L := L) (C := C) (Q := Q) hM hn hF hB (by omega) 16 0 (by omega)
  rw [CT_e (mj := 189) (e := [.ref 150, UN, UN]) (by omega) rfl (Nat.le_of_ble_eq_true rfl)]
  simp (disch := first | assumption | omega) only [Nat.reduceAdd, X_go, go2_some, stp, ldI, ldA, ldL, stI, stA, stL, o1I, o2I, o2L, brI, brII, gl, s1, s2, k1, sl, go_sN, go_sR, go_CT, go_sT, go_no, go_if, pops, bk_v, bk_0, d189_0, d189_1, d189_2, d189_3, d189_5, d189_7, d189_10, d189_11, d189_12, d189_15, d189_17, d189_18, d189_19, d189_20, d189_23, d189_24, d189_27, d189_28, d189_29, d189_30, d189_33, d189_36, d189_37, n_lt, n_le, n_eq, n_lt0, n_ge0, n_gt0, n_le0, n_eq0, m_lt, m_le, m_gt, m_ge, m_eq, m_eq', m_lt0, m_ge0, m_gt0, m_le0, m_ltm, m_lem, n_in, m_in, n_cl, n_ti, n_div, n_rem', n_dec, n_l, nI_add, pk_mul, an0, an1, decide_eq_true_eq, if_true, if_false, ite_true, ite_false, and_true, true_and, and_false, false_and, not_true, not_false_iff, or_false, false_or, or_true, true_or, eq_self, va_some, Bool.false_eq_true, reduceIte, catS_n, catS_i, catS_r, catS_l, catS_d, Nat.zero_add, Nat.add_zero, decide_true, decide_false, Nat.reduceLeDiff, cat_r, cat_i, cat_l, nle_T, nle_F, nlt_T, nlt_F, neq_T, neq_F]
  simp only [← X_go]
  exact h
theorem d188_0 : dec 188 0 = some (.iload_n 1, 1, []) := rfl
theorem d188_1 : dec 188 1 = some (.tableswitch 71 4 7 #[31, 40, 61, 66], 31, []) := rfl
theorem d188_32 : dec 188 32 = some (.aload_n 0, 1, []) := rfl
theorem d188_33 : dec 188 33 = some (.getfield 7, 3, [1, 10, 0, 2, 0, 994]) := rfl
theorem d188_36 : dec 188 36 = some (.sipush 140, 3, [140]) := rfl
theorem d188_39 : dec 188 39 = some (.iaload, 1, []) := rfl
theorem d188_40 : dec 188 40 = some (.ireturn, 1, [0]) := rfl
theorem d188_41 : dec 188 41 = some (.aload_n 0, 1, []) := rfl
theorem d188_42 : dec 188 42 = some (.getfield 7, 3, [1, 10, 0, 2, 0, 994]) := rfl
theorem d188_45 : dec 188 45 = some (.iconst 3, 1, [3]) := rfl
theorem d188_46 : dec 188 46 = some (.iaload, 1, []) := rfl
theorem d188_47 : dec 188 47 = some (.aload_n 0, 1, []) := rfl
theorem d188_48 : dec 188 48 = some (.getfield 7, 3, [1, 10, 0, 2, 0, 994]) := rfl
theorem d188_51 : dec 188 51 = some (.iconst 4, 1, [4]) := rfl
theorem d188_52 : dec 188 52 = some (.iaload, 1, []) := rfl
theorem d188_53 : dec 188 53 = some (.iadd, 1, []) := rfl
theorem d188_54 : dec 188 54 = some (.aload_n 0, 1, []) := rfl
theorem d188_55 : dec 188 55 = some (.getfield 7, 3, [1, 10, 0, 2, 0, 994]) := rfl
theorem d188_58 : dec 188 58 = some (.iconst 5, 1, [5]) := rfl
theorem d188_59 : dec 188 59 = some (.iaload, 1, []) := rfl
theorem d188_60 : dec 188 60 = some (.iadd, 1, []) := rfl
theorem d188_61 : dec 188 61 = some (.ireturn, 1, [0]) := rfl
theorem d188_62 : dec 188 62 = some (.aload_n 0, 1, []) := rfl
theorem d188_63 : dec 188 63 = some (.invokevirtual 111, 3, [2, 169, 2, 10, 0, 1139]) := rfl
theorem d188_66 : dec 188 66 = some (.ireturn, 1, [0]) := rfl
theorem d188_67 : dec 188 67 = some (.aload_n 0, 1, []) := rfl
theorem d188_68 : dec 188 68 = some (.invokevirtual 151, 3, [2, 189, 2, 10, 0, 1218]) := rfl
theorem d188_71 : dec 188 71 = some (.ireturn, 1, [0]) := rfl
theorem d188_72 : dec 188 72 = some (.aload_n 0, 1, []) := rfl
theorem d188_73 : dec 188 73 = some (.getfield 7, 3, [1, 10, 0, 2, 0, 994]) := rfl
theorem d188_76 : dec 188 76 = some (.bipush 120, 2, [120]) := rfl
theorem d188_78 : dec 188 78 = some (.iload_n 1, 1, []) := rfl
theorem d188_79 : dec 188 79 = some (.iadd, 1, []) := rfl
theorem d188_80 : dec 188 80 = some (.iaload, 1, []) := rfl
theorem d188_81 : dec 188 81 = some (.ireturn, 1, [0]) := rfl
theorem l188 : mL 188 = 2 := rfl
theorem t188_1_0 {ls st : List Value} {P : MP} {I : MI} {L : ML} {C : MC} : stp 1 (.tableswitch 71 4 7 #[31, 40, 61, 66]) 31 [] ls (.int (nI 0) :: st) P I L C = sN 72 ls st P I L C := rfl
theorem t188_1_1 {ls st : List Value} {P : MP} {I : MI} {L : ML} {C : MC} : stp 1 (.tableswitch 71 4 7 #[31, 40, 61, 66]) 31 [] ls (.int (nI 1) :: st) P I L C = sN 72 ls st P I L C := rfl
theorem t188_1_2 {ls st : List Value} {P : MP} {I : MI} {L : ML} {C : MC} : stp 1 (.tableswitch 71 4 7 #[31, 40, 61, 66]) 31 [] ls (.int (nI 2) :: st) P I L C = sN 72 ls st P I L C := rfl
theorem t188_1_3 {ls st : List Value} {P : MP} {I : MI} {L : ML} {C : MC} : stp 1 (.tableswitch 71 4 7 #[31, 40, 61, 66]) 31 [] ls (.int (nI 3) :: st) P I L C = sN 72 ls st P I L C := rfl
theorem t188_1_4 {ls st : List Value} {P : MP} {I : MI} {L : ML} {C : MC} : stp 1 (.tableswitch 71 4 7 #[31, 40, 61, 66]) 31 [] ls (.int (nI 4) :: st) P I L C = sN 32 ls st P I L C := rfl
theorem t188_1_5 {ls st : List Value} {P : MP} {I : MI} {L : ML} {C : MC} : stp 1 (.tableswitch 71 4 7 #[31, 40, 61, 66]) 31 [] ls (.int (nI 5) :: st) P I L C = sN 41 ls st P I L C := rfl
theorem t188_1_6 {ls st : List Value} {P : MP} {I : MI} {L : ML} {C : MC} : stp 1 (.tableswitch 71 4 7 #[31, 40, 61, 66]) 31 [] ls (.int (nI 6) :: st) P I L C = sN 62 ls st P I L C := rfl
theorem t188_1_7 {ls st : List Value} {P : MP} {I : MI} {L : ML} {C : MC} : stp 1 (.tableswitch 71 4 7 #[31, 40, 61, 66]) 31 [] ls (.int (nI 7) :: st) P I L C = sN 67 ls st P I L C := rfl
theorem c188 {d : Nat} {P : MP} {I : MI} {L : ML} {C : MC} {Q : QT} {w : Nat} {g : GS} (hM : MB P) (hn : NR I g) {B : Nat} (hGV : GV B g) (hB : B ≤ 1000000) (hd : 5 ≤ d) (hw : w < 8) : CT d 188 [.ref 150, .int (nI w)] P I L C Q = Q (.inl (some (.int (nI (vV g w))))) P I L C := by
  have hM' := hM
  obtain ⟨⟨k0, p0, p1, p2, p5, y1, _⟩, _⟩ := hM'
  have e0 := hn 120 (by omega)
  have e1 := hn 121 (by omega)
  have e2 := hn 122 (by omega)
  have e3 := hn 123 (by omega)
  have e4 := hn 140 (by omega)
  have e5 := hn 3 (by omega)
  have e6 := hn 4 (by omega)
  have e7 := hn 5 (by omega)
  have hE : w = 0 ∨ w = 1 ∨ w = 2 ∨ w = 3 ∨ w = 4 ∨ w = 5 ∨ w = 6 ∨ w = 7 := by omega
  rcases hE with rfl | rfl | rfl | rfl | rfl | rfl | rfl | rfl
  · rw [CT_e (mj := 188) (e := [.ref 150, .int (nI 0)]) (by omega) rfl (Nat.le_of_ble_eq_true rfl)]
    simp (disch := first | assumption | omega) only [↓t188_1_0, Nat.reduceAdd, X_go, go2_some, stp, ldI, ldA, ldL, stI, stA, stL, o1I, o2I, o2L, brI, brII, gl, s1, s2, k1, sl, go_sN, go_sR, go_CT, go_sT, go_no, go_if, pops, bk_v, bk_0, d188_0, d188_1, d188_32, d188_33, d188_36, d188_39, d188_40, d188_41, d188_42, d188_45, d188_46, d188_47, d188_48, d188_51, d188_52, d188_53, d188_54, d188_55, d188_58, d188_59, d188_60, d188_61, d188_62, d188_63, d188_66, d188_67, d188_68, d188_71, d188_72, d188_73, d188_76, d188_78, d188_79, d188_80, d188_81, n_lt, n_le, n_eq, n_lt0, n_ge0, n_gt0, n_le0, n_eq0, m_lt, m_le, m_gt, m_ge, m_eq, m_eq', m_lt0, m_ge0, m_gt0, m_le0, m_ltm, m_lem, n_in, m_in, n_cl, n_ti, n_div, n_rem', n_dec, n_l, nI_add, pk_mul, an0, an1, decide_eq_true_eq, if_true, if_false, ite_true, ite_false, and_true, true_and, and_false, false_and, not_true, not_false_iff, or_false, false_or, or_true, true_or, eq_self, va_some, Bool.false_eq_true, reduceIte, catS_n, catS_i, catS_r, catS_l, catS_d, Nat.zero_add, Nat.add_zero, decide_true, decide_false, Nat.reduceLeDiff, cat_r, cat_i, cat_l, nle_T, nle_F, nlt_T, nlt_F, neq_T, neq_F, k0, p0, y1, e0]
    rfl
  · rw [CT_e (mj := 188) (e := [.ref 150, .int (nI 1)]) (by omega) rfl (Nat.le_of_ble_eq_true rfl)]
    simp (disch := first | assumption | omega) only [↓t188_1_1, Nat.reduceAdd, X_go, go2_some, stp, ldI, ldA, ldL, stI, stA, stL, o1I, o2I, o2L, brI, brII, gl, s1, s2, k1, sl, go_sN, go_sR, go_CT, go_sT, go_no, go_if, pops, bk_v, bk_0, d188_0, d188_1, d188_32, d188_33, d188_36, d188_39, d188_40, d188_41, d188_42, d188_45, d188_46, d188_47, d188_48, d188_51, d188_52, d188_53, d188_54, d188_55, d188_58, d188_59, d188_60, d188_61, d188_62, d188_63, d188_66, d188_67, d188_68, d188_71, d188_72, d188_73, d188_76, d188_78, d188_79, d188_80, d188_81, n_lt, n_le, n_eq, n_lt0, n_ge0, n_gt0, n_le0, n_eq0, m_lt, m_le, m_gt, m_ge, m_eq, m_eq', m_lt0, m_ge0, m_gt0, m_le0, m_ltm, m_lem, n_in, m_in, n_cl, n_ti, n_div, n_rem', n_dec, n_l, nI_add, pk_mul, an0, an1, decide_eq_true_eq, if_true, if_false, ite_true, ite_false, and_true, true_and, and_false, false_and, not_true, not_false_iff, or_false, false_or, or_true, true_or, eq_self, va_some, Bool.false_eq_true, reduceIte, catS_n, catS_i, catS_r, catS_l, catS_d, Nat.zero_add, Nat.add_zero, decide_true, decide_false, Nat.reduceLeDiff, cat_r, cat_i, cat_l, nle_T, nle_F, nlt_T, nlt_F, neq_T, neq_F, k0, p0, y1, e1]
    rfl
  · rw [CT_e (mj := 188) (e := [.ref 150, .int (nI 2)]) (by omega) rfl (Nat.le_of_ble_eq_true rfl)]
    simp (disch := first | assumption | omega) only [↓t188_1_2, Nat.reduceAdd, X_go, go2_some, stp, ldI, ldA, ldL, stI, stA, stL, o1I, o2I, o2L, brI, brII, gl, s1, s2, k1, sl, go_sN, go_sR, go_CT, go_sT, go_no, go_if, pops, bk_v, bk_0, d188_0, d188_1, d188_32, d188_33, d188_36, d188_39, d188_40, d188_41, d188_42, d188_45, d188_46, d188_47, d188_48, d188_51, d188_52, d188_53, d188_54, d188_55, d188_58, d188_59, d188_60, d188_61, d188_62, d188_63, d188_66, d188_67, d188_68, d188_71, d188_72, d188_73, d188_76, d188_78, d188_79, d188_80, d188_81, n_lt, n_le, n_eq, n_lt0, n_ge0, n_gt0, n_le0, n_eq0, m_lt, m_le, m_gt, m_ge, m_eq, m_eq', m_lt0, m_ge0, m_gt0, m_le0, m_ltm, m_lem, n_in, m_in, n_cl, n_ti, n_div, n_rem', n_dec, n_l, nI_add, pk_mul, an0, an1, decide_eq_true_eq, if_true, if_false, ite_true, ite_false, and_true, true_and, and_false, false_and, not_true, not_false_iff, or_false, false_or, or_true, true_or, eq_self, va_some, Bool.false_eq_true, reduceIte, catS_n, catS_i, catS_r, catS_l, catS_d, Nat.zero_add, Nat.add_zero, decide_true, decide_false, Nat.reduceLeDiff, cat_r, cat_i, cat_l, nle_T, nle_F, nlt_T, nlt_F, neq_T, neq_F, k0, p0, y1, e2]
    rfl
  · rw [CT_e (mj := 188) (e := [.ref 150, .int (nI 3)]) (by omega) rfl (Nat.le_of_ble_eq_true rfl)]
    simp (disch := first | assumption | omega) only [↓t188_1_3, Nat.reduceAdd, X_go, go2_some, stp, ldI, ldA, ldL, stI, stA, stL, o1I, o2I, o2L, brI, brII, gl, s1, s2, k1, sl, go_sN, go_sR, go_CT, go_sT, go_no, go_if, pops, bk_v, bk_0, d188_0, d188_1, d188_32, d188_33, d188_36, d188_39, d188_40, d188_41, d188_42, d188_45, d188_46, d188_47, d188_48, d188_51, d188_52, d188_53, d188_54, d188_55, d188_58, d188_59, d188_60, d188_61, d188_62, d188_63, d188_66, d188_67, d188_68, d188_71, d188_72, d188_73, d188_76, d188_78, d188_79, d188_80, d188_81, n_lt, n_le, n_eq, n_lt0, n_ge0, n_gt0, n_le0, n_eq0, m_lt, m_le, m_gt, m_ge, m_eq, m_eq', m_lt0, m_ge0, m_gt0, m_le0, m_ltm, m_lem, n_in, m_in, n_cl, n_ti, n_div, n_rem', n_dec, n_l, nI_add, pk_mul, an0, an1, decide_eq_true_eq, if_true, if_false, ite_true, ite_false, and_true, true_and, and_false, false_and, not_true, not_false_iff, or_false, false_or, or_true, true_or, eq_self, va_some, Bool.false_eq_true, reduceIte, catS_n, catS_i, catS_r, catS_l, catS_d, Nat.zero_add, Nat.add_zero, decide_true, decide_false, Nat.reduceLeDiff, cat_r, cat_i, cat_l, nle_T, nle_F, nlt_T, nlt_F, neq_T, neq_F, k0, p0, y1, e3]
    rfl
  · rw [CT_e (mj := 188) (e := [.ref 150, .int (nI 4)]) (by omega) rfl (Nat.le_of_ble_eq_true rfl)]
    simp (disch := first | assumption | omega) only [↓t188_1_4, Nat.reduceAdd, X_go, go2_some, stp, ldI, ldA, ldL, stI, stA, stL, o1I, o2I, o2L, brI, brII, gl, s1, s2, k1, sl, go_sN, go_sR, go_CT, go_sT, go_no, go_if, pops, bk_v, bk_0, d188_0, d188_1, d188_32, d188_33, d188_36, d188_39, d188_40, d188_41, d188_42, d188_45, d188_46, d188_47, d188_48, d188_51, d188_52, d188_53, d188_54, d188_55, d188_58, d188_59, d188_60, d188_61, d188_62, d188_63, d188_66, d188_67, d188_68, d188_71, d188_72, d188_73, d188_76, d188_78, d188_79, d188_80, d188_81, n_lt, n_le, n_eq, n_lt0, n_ge0, n_gt0, n_le0, n_eq0, m_lt, m_le, m_gt, m_ge, m_eq, m_eq', m_lt0, m_ge0, m_gt0, m_le0, m_ltm, m_lem, n_in, m_in, n_cl, n_ti, n_div, n_rem', n_dec, n_l, nI_add, pk_mul, an0, an1, decide_eq_true_eq, if_true, if_false, ite_true, ite_false, and_true, true_and, and_false, false_and, not_true, not_false_iff, or_false, false_or, or_true, true_or, eq_self, va_some, Bool.false_eq_true, reduceIte, catS_n, catS_i, catS_r, catS_l, catS_d, Nat.zero_add, Nat.add_zero, decide_true, decide_false, Nat.reduceLeDiff, cat_r, cat_i, cat_l, nle_T, nle_F, nlt_T, nlt_F, neq_T, neq_F, k0, p0, y1, e4]
    rfl
  · rw [CT_e (mj := 188) (e := [.ref 150, .int (nI 5)]) (by omega) rfl (Nat.le_of_ble_eq_true rfl)]
    simp (disch := first | assumption | omega) only [↓t188_1_5, Nat.reduceAdd, X_go, go2_some, stp, ldI, ldA, ldL, stI, stA, stL, o1I, o2I, o2L, brI, brII, gl, s1, s2, k1, sl, go_sN, go_sR, go_CT, go_sT, go_no, go_if, pops, bk_v, bk_0, d188_0, d188_1, d188_32, d188_33, d188_36, d188_39, d188_40, d188_41, d188_42, d188_45, d188_46, d188_47, d188_48, d188_51, d188_52, d188_53, d188_54, d188_55, d188_58, d188_59, d188_60, d188_61, d188_62, d188_63, d188_66, d188_67, d188_68, d188_71, d188_72, d188_73, d188_76, d188_78, d188_79, d188_80, d188_81, n_lt, n_le, n_eq, n_lt0, n_ge0, n_gt0, n_le0, n_eq0, m_lt, m_le, m_gt, m_ge, m_eq, m_eq', m_lt0, m_ge0, m_gt0, m_le0, m_ltm, m_lem, n_in, m_in, n_cl, n_ti, n_div, n_rem', n_dec, n_l, nI_add, pk_mul, an0, an1, decide_eq_true_eq, if_true, if_false, ite_true, ite_false, and_true, true_and, and_false, false_and, not_true, not_false_iff, or_false, false_or, or_true, true_or, eq_self, va_some, Bool.false_eq_true, reduceIte, catS_n, catS_i, catS_r, catS_l, catS_d, Nat.zero_add, Nat.add_zero, decide_true, decide_false, Nat.reduceLeDiff, cat_r, cat_i, cat_l, nle_T, nle_F, nlt_T, nlt_F, neq_T, neq_F, k0, p0, y1, e5, e6, e7]
    rfl
  · rw [CT_e (mj := 188) (e := [.ref 150, .int (nI 6)]) (by omega) rfl (Nat.le_of_ble_eq_true rfl)]
    simp (disch := first | assumption | omega) only [↓t188_1_6, Nat.reduceAdd, X_go, go2_some, stp, ldI, ldA, ldL, stI, stA, stL, o1I, o2I, o2L, brI, brII, gl, s1, s2, k1, sl, go_sN, go_sR, go_CT, go_sT, go_no, go_if, pops, bk_v, bk_0, d188_0, d188_1, d188_32, d188_33, d188_36, d188_39, d188_40, d188_41, d188_42, d188_45, d188_46, d188_47, d188_48, d188_51, d188_52, d188_53, d188_54, d188_55, d188_58, d188_59, d188_60, d188_61, d188_62, d188_63, d188_66, d188_67, d188_68, d188_71, d188_72, d188_73, d188_76, d188_78, d188_79, d188_80, d188_81, n_lt, n_le, n_eq, n_lt0, n_ge0, n_gt0, n_le0, n_eq0, m_lt, m_le, m_gt, m_ge, m_eq, m_eq', m_lt0, m_ge0, m_gt0, m_le0, m_ltm, m_lem, n_in, m_in, n_cl, n_ti, n_div, n_rem', n_dec, n_l, nI_add, pk_mul, an0, an1, decide_eq_true_eq, if_true, if_false, ite_true, ite_false, and_true, true_and, and_false, false_and, not_true, not_false_iff, or_false, false_or, or_true, true_or, eq_self, va_some, Bool.false_eq_true, reduceIte, catS_n, catS_i, catS_r, catS_l, catS_d, Nat.zero_add, Nat.add_zero, decide_true, decide_false, Nat.reduceLeDiff, cat_r, cat_i, cat_l, nle_T, nle_F, nlt_T, nlt_F, neq_T, neq_F, k0, p0, y1, c169 hM hn hGV.1]
    rfl
  · rw [CT_e (mj := 188) (e := [.ref 150, .int (nI 7)]) (by omega) rfl (Nat.le_of_ble_eq_true rfl)]
    simp (disch := first | assumption | omega) only [↓t188_1_7, Nat.reduceAdd, X_go, go2_some, stp, ldI, ldA, ldL, stI, stA, stL, o1I, o2I, o2L, brI, brII, gl, s1, s2, k1, sl, go_sN, go_sR, go_CT, go_sT, go_no, go_if, pops, bk_v, bk_0, d188_0, d188_1, d188_32, d188_33, d188_36, d188_39, d188_40, d188_41, d188_42, d188_45, d188_46, d188_47, d188_48, d188_51, d188_52, d188_53, d188_54, d188_55, d188_58, d188_59, d188_60, d188_61, d188_62, d188_63, d188_66, d188_67, d188_68, d188_71, d188_72, d188_73, d188_76, d188_78, d188_79, d188_80, d188_81, n_lt, n_le, n_eq, n_lt0, n_ge0, n_gt0, n_le0, n_eq0, m_lt, m_le, m_gt, m_ge, m_eq, m_eq', m_lt0, m_ge0, m_gt0, m_le0, m_ltm, m_lem, n_in, m_in, n_cl, n_ti, n_div, n_rem', n_dec, n_l, nI_add, pk_mul, an0, an1, decide_eq_true_eq, if_true, if_false, ite_true, ite_false, and_true, true_and, and_false, false_and, not_true, not_false_iff, or_false, false_or, or_true, true_or, eq_self, va_some, Bool.false_eq_true, reduceIte, catS_n, catS_i, catS_r, catS_l, catS_d, Nat.zero_add, Nat.add_zero, decide_true, decide_false, Nat.reduceLeDiff, cat_r, cat_i, cat_l, nle_T, nle_F, nlt_T, nlt_F, neq_T, neq_F, k0, p0, y1, c189 hM hn hGV.2.2 hB]
    rfl
theorem d187_0 : dec 187 0 = some (.aload_n 0, 1, []) := rfl
theorem d187_1 : dec 187 1 = some (.iload_n 1, 1, []) := rfl
theorem d187_2 : dec 187 2 = some (.iconst 0, 1, [0]) := rfl
theorem d187_3 : dec 187 3 = some (.bipush 7, 2, [7]) := rfl
theorem d187_5 : dec 187 5 = some (.invokestatic 76, 3, [2, 156, 0, 10, 0, 1092, 0, 0, 0]) := rfl
theorem d187_8 : dec 187 8 = some (.ifCond .eq 7, 3, [15]) := rfl
theorem d187_11 : dec 187 11 = some (.iconst 0, 1, [0]) := rfl
theorem d187_12 : dec 187 12 = some (.goto 4, 3, [16]) := rfl
theorem d187_15 : dec 187 15 = some (.iconst 1, 1, [1]) := rfl
theorem d187_16 : dec 187 16 = some (.invokevirtual 72, 3, [2, 153, 2, 10, 0, 1081, 0]) := rfl
theorem d187_19 : dec 187 19 = some (.ifCond .eq 7, 3, [26]) := rfl
theorem d187_22 : dec 187 22 = some (.iconst 0, 1, [0]) := rfl
theorem d187_23 : dec 187 23 = some (.goto 8, 3, [31]) := rfl
theorem d187_26 : dec 187 26 = some (.aload_n 0, 1, []) := rfl
theorem d187_27 : dec 187 27 = some (.iload_n 1, 1, []) := rfl
theorem d187_28 : dec 187 28 = some (.invokevirtual 154, 3, [2, 188, 2, 10, 0, 1214, 0]) := rfl
theorem d187_31 : dec 187 31 = some (.ireturn, 1, [0]) := rfl
theorem l187 : mL 187 = 2 := rfl
theorem c187 {d : Nat} {P : MP} {I : MI} {L : ML} {C : MC} {Q : QT} {w : Nat} {B n len : Nat} {g : GS} {ps : Nat → GS} {tx : Nat → Nat} (hM : MB P) (hR : ZR I g n ps len tx) (hA : AV B g n ps len tx) (hB : B ≤ 1000000) (hd : 7 ≤ d) (hw : w < 8) : CT d 187 [.ref 150, .int (nI w)] P I L C Q = Q (.inl (some (.int (nI (vV g w))))) P (xu I 150 4 (nI 0)) L C := by
  have hM' := hM
  obtain ⟨⟨k0, p0, p1, p2, p5, y1, y2, y3, y4⟩, _⟩ := hM'
  have hR' := hR
  obtain ⟨hN, h3, hps', h6, htx'⟩ := hR'
  have hA' := hA
  obtain ⟨hGV, hps, hn4, hlen, htx⟩ := hA'
  have h140 := GV_140 hGV
  have hv := hGV.1
  have hl := hGV.2.1
  have hFv := hGV.2.2
  have hR0 : ZR (xu I 150 4 (nI 0)) g n ps len tx := ZR_4 hR
  have hN0 := hR0.1
  rw [CT_e (mj := 187) (e := [.ref 150, .int (nI w)]) (by omega) rfl (Nat.le_of_ble_eq_true rfl)]
  simp (disch := first | assumption | omega) only [Nat.reduceAdd, X_go, go2_some, stp, ldI, ldA, ldL, stI, stA, stL, o1I, o2I, o2L, brI, brII, gl, s1, s2, k1, sl, go_sN, go_sR, go_CT, go_sT, go_no, go_if, pops, bk_v, bk_0, d187_0, d187_1, d187_2, d187_3, d187_5, d187_8, d187_11, d187_12, d187_15, d187_16, d187_19, d187_22, d187_23, d187_26, d187_27, d187_28, d187_31, n_lt, n_le, n_eq, n_lt0, n_ge0, n_gt0, n_le0, n_eq0, m_lt, m_le, m_gt, m_ge, m_eq, m_eq', m_lt0, m_ge0, m_gt0, m_le0, m_ltm, m_lem, n_in, m_in, n_cl, n_ti, n_div, n_rem', n_dec, n_l, nI_add, pk_mul, an0, an1, decide_eq_true_eq, if_true, if_false, ite_true, ite_false, and_true, true_and, and_false, false_and, not_true, not_false_iff, or_false, false_or, or_true, true_or, eq_self, va_some, Bool.false_eq_true, reduceIte, catS_n, catS_i, catS_r, catS_l, catS_d, Nat.zero_add, Nat.add_zero, decide_true, decide_false, Nat.reduceLeDiff, cat_r, cat_i, cat_l, nle_T, nle_F, nlt_T, nlt_F, neq_T, neq_F, k0, c156, c153 hM, c188 hM hN0 hGV hB]
  done
theorem c187b {d : Nat} {P : MP} {I : MI} {L : ML} {C : MC} {Q : QT} {y : Int32} (hM : MB P) (hd : 6 ≤ d) (hy : y < 0 ∨ nI 7 < y) : CT d 187 [.ref 150, .int y] P I L C Q = Q (.inl (some (.int (nI 0)))) P (xu I 150 4 (nI 1)) L C := by
  have k0 := hM.1.1
  rw [CT_e (mj := 187) (e := [.ref 150, .int y]) (by omega) rfl (Nat.le_of_ble_eq_true rfl)]
  simp (disch := first | assumption | omega) only [Nat.reduceAdd, X_go, go2_some, stp, ldI, ldA, ldL, stI, stA, stL, o1I, o2I, o2L, brI, brII, gl, s1, s2, k1, sl, go_sN, go_sR, go_CT, go_sT, go_no, go_if, pops, bk_v, bk_0, d187_0, d187_1, d187_2, d187_3, d187_5, d187_8, d187_11, d187_12, d187_15, d187_16, d187_19, d187_22, d187_23, d187_26, d187_27, d187_28, d187_31, n_lt, n_le, n_eq, n_lt0, n_ge0, n_gt0, n_le0, n_eq0, m_lt, m_le, m_gt, m_ge, m_eq, m_eq', m_lt0, m_ge0, m_gt0, m_le0, m_ltm, m_lem, n_in, m_in, n_cl, n_ti, n_div, n_rem', n_dec, n_l, nI_add, pk_mul, an0, an1, decide_eq_true_eq, if_true, if_false, ite_true, ite_false, and_true, true_and, and_false, false_and, not_true, not_false_iff, or_false, false_or, or_true, true_or, eq_self, va_some, Bool.false_eq_true, reduceIte, catS_n, catS_i, catS_r, catS_l, catS_d, Nat.zero_add, Nat.add_zero, decide_true, decide_false, Nat.reduceLeDiff, cat_r, cat_i, cat_l, nle_T, nle_F, nlt_T, nlt_F, neq_T, neq_F, k0, c156b (y := nI 0) (hx := hy), c153 hM]
  done
theorem d171_0 : dec 171 0 = some (.iload_n 3, 1, []) := rfl
theorem d171_1 : dec 171 1 = some (.lookupswitch 49 #[(6, 27), (7, 34)], 27, []) := rfl
theorem d171_28 : dec 171 28 = some (.aload_n 0, 1, []) := rfl
theorem d171_29 : dec 171 29 = some (.iload_n 1, 1, []) := rfl
theorem d171_30 : dec 171 30 = some (.iload_n 2, 1, []) := rfl
theorem d171_31 : dec 171 31 = some (.invokevirtual 121, 3, [2, 172, 2, 10, 0, 1151, 0, 0]) := rfl
theorem d171_34 : dec 171 34 = some (.ireturn, 1, [0]) := rfl
theorem d171_35 : dec 171 35 = some (.aload_n 0, 1, []) := rfl
theorem d171_36 : dec 171 36 = some (.iload_n 1, 1, []) := rfl
theorem d171_37 : dec 171 37 = some (.invokevirtual 131, 3, [2, 173, 2, 10, 0, 1155, 0]) := rfl
theorem d171_40 : dec 171 40 = some (.bipush 6, 2, [6]) := rfl
theorem d171_42 : dec 171 42 = some (.iload_n 1, 1, []) := rfl
theorem d171_43 : dec 171 43 = some (.imul, 1, []) := rfl
theorem d171_44 : dec 171 44 = some (.iload_n 2, 1, []) := rfl
theorem d171_45 : dec 171 45 = some (.iadd, 1, []) := rfl
theorem d171_46 : dec 171 46 = some (.ishr, 1, []) := rfl
theorem d171_47 : dec 171 47 = some (.iconst 1, 1, [1]) := rfl
theorem d171_48 : dec 171 48 = some (.iand, 1, []) := rfl
theorem d171_49 : dec 171 49 = some (.ireturn, 1, [0]) := rfl
theorem d171_50 : dec 171 50 = some (.aload_n 0, 1, []) := rfl
theorem d171_51 : dec 171 51 = some (.iload_n 1, 1, []) := rfl
theorem d171_52 : dec 171 52 = some (.iload_n 2, 1, []) := rfl
theorem d171_53 : dec 171 53 = some (.iload_n 3, 1, []) := rfl
theorem d171_54 : dec 171 54 = some (.invokevirtual 107, 3, [2, 167, 2, 10, 0, 1131, 0, 0, 0]) := rfl
theorem d171_57 : dec 171 57 = some (.ireturn, 1, [0]) := rfl
theorem l171 : mL 171 = 4 := rfl
theorem t171_1_0 {ls st : List Value} {P : MP} {I : MI} {L : ML} {C : MC} : stp 1 (.lookupswitch 49 #[(6, 27), (7, 34)]) 27 [] ls (.int (nI 0) :: st) P I L C = sN 50 ls st P I L C := rfl
theorem t171_1_1 {ls st : List Value} {P : MP} {I : MI} {L : ML} {C : MC} : stp 1 (.lookupswitch 49 #[(6, 27), (7, 34)]) 27 [] ls (.int (nI 1) :: st) P I L C = sN 50 ls st P I L C := rfl
theorem t171_1_2 {ls st : List Value} {P : MP} {I : MI} {L : ML} {C : MC} : stp 1 (.lookupswitch 49 #[(6, 27), (7, 34)]) 27 [] ls (.int (nI 2) :: st) P I L C = sN 50 ls st P I L C := rfl
theorem t171_1_3 {ls st : List Value} {P : MP} {I : MI} {L : ML} {C : MC} : stp 1 (.lookupswitch 49 #[(6, 27), (7, 34)]) 27 [] ls (.int (nI 3) :: st) P I L C = sN 50 ls st P I L C := rfl
theorem t171_1_4 {ls st : List Value} {P : MP} {I : MI} {L : ML} {C : MC} : stp 1 (.lookupswitch 49 #[(6, 27), (7, 34)]) 27 [] ls (.int (nI 4) :: st) P I L C = sN 50 ls st P I L C := rfl
theorem t171_1_5 {ls st : List Value} {P : MP} {I : MI} {L : ML} {C : MC} : stp 1 (.lookupswitch 49 #[(6, 27), (7, 34)]) 27 [] ls (.int (nI 5) :: st) P I L C = sN 50 ls st P I L C := rfl
theorem t171_1_6 {ls st : List Value} {P : MP} {I : MI} {L : ML} {C : MC} : stp 1 (.lookupswitch 49 #[(6, 27), (7, 34)]) 27 [] ls (.int (nI 6) :: st) P I L C = sN 28 ls st P I L C := rfl
theorem t171_1_7 {ls st : List Value} {P : MP} {I : MI} {L : ML} {C : MC} : stp 1 (.lookupswitch 49 #[(6, 27), (7, 34)]) 27 [] ls (.int (nI 7) :: st) P I L C = sN 35 ls st P I L C := rfl
theorem c171 {d : Nat} {P : MP} {I : MI} {L : ML} {C : MC} {Q : QT} {t e w : Nat} {g : GS} (hM : MB P) (hn : NR I g) (hv : TV g) (hl : LV g) (hd : 9 ≤ d) (ht : t < 3) (he : e < g (3 + t)) (hw : w < 8) : CT d 171 [.ref 150, .int (nI t), .int (nI e), .int (nI w)] P I L C Q = Q (.inl (some (.int (nI (eV g t e w))))) P I L C := by
  have k0 := hM.1.1
  have hc := hv.2.1 t ht
  have hE : w = 0 ∨ w = 1 ∨ w = 2 ∨ w = 3 ∨ w = 4 ∨ w = 5 ∨ w = 6 ∨ w = 7 := by omega
  rcases hE with rfl | rfl | rfl | rfl | rfl | rfl | rfl | rfl
  · rw [CT_e (mj := 171) (e := [.ref 150, .int (nI t), .int (nI e), .int (nI 0)]) (by omega) rfl (Nat.le_of_ble_eq_true rfl)]
    simp (disch := first | assumption | omega) only [↓t171_1_0, Nat.reduceAdd, X_go, go2_some, stp, ldI, ldA, ldL, stI, stA, stL, o1I, o2I, o2L, brI, brII, gl, s1, s2, k1, sl, go_sN, go_sR, go_CT, go_sT, go_no, go_if, pops, bk_v, bk_0, d171_0, d171_1, d171_28, d171_29, d171_30, d171_31, d171_34, d171_35, d171_36, d171_37, d171_40, d171_42, d171_43, d171_44, d171_45, d171_46, d171_47, d171_48, d171_49, d171_50, d171_51, d171_52, d171_53, d171_54, d171_57, n_lt, n_le, n_eq, n_lt0, n_ge0, n_gt0, n_le0, n_eq0, m_lt, m_le, m_gt, m_ge, m_eq, m_eq', m_lt0, m_ge0, m_gt0, m_le0, m_ltm, m_lem, n_in, m_in, n_cl, n_ti, n_div, n_rem', n_dec, n_l, nI_add, pk_mul, an0, an1, decide_eq_true_eq, if_true, if_false, ite_true, ite_false, and_true, true_and, and_false, false_and, not_true, not_false_iff, or_false, false_or, or_true, true_or, eq_self, va_some, Bool.false_eq_true, reduceIte, catS_n, catS_i, catS_r, catS_l, catS_d, Nat.zero_add, Nat.add_zero, decide_true, decide_false, Nat.reduceLeDiff, cat_r, cat_i, cat_l, nle_T, nle_F, nlt_T, nlt_F, neq_T, neq_F, k0, c167 hM hn]
    rfl
  · rw [CT_e (mj := 171) (e := [.ref 150, .int (nI t), .int (nI e), .int (nI 1)]) (by omega) rfl (Nat.le_of_ble_eq_true rfl)]
    simp (disch := first | assumption | omega) only [↓t171_1_1, Nat.reduceAdd, X_go, go2_some, stp, ldI, ldA, ldL, stI, stA, stL, o1I, o2I, o2L, brI, brII, gl, s1, s2, k1, sl, go_sN, go_sR, go_CT, go_sT, go_no, go_if, pops, bk_v, bk_0, d171_0, d171_1, d171_28, d171_29, d171_30, d171_31, d171_34, d171_35, d171_36, d171_37, d171_40, d171_42, d171_43, d171_44, d171_45, d171_46, d171_47, d171_48, d171_49, d171_50, d171_51, d171_52, d171_53, d171_54, d171_57, n_lt, n_le, n_eq, n_lt0, n_ge0, n_gt0, n_le0, n_eq0, m_lt, m_le, m_gt, m_ge, m_eq, m_eq', m_lt0, m_ge0, m_gt0, m_le0, m_ltm, m_lem, n_in, m_in, n_cl, n_ti, n_div, n_rem', n_dec, n_l, nI_add, pk_mul, an0, an1, decide_eq_true_eq, if_true, if_false, ite_true, ite_false, and_true, true_and, and_false, false_and, not_true, not_false_iff, or_false, false_or, or_true, true_or, eq_self, va_some, Bool.false_eq_true, reduceIte, catS_n, catS_i, catS_r, catS_l, catS_d, Nat.zero_add, Nat.add_zero, decide_true, decide_false, Nat.reduceLeDiff, cat_r, cat_i, cat_l, nle_T, nle_F, nlt_T, nlt_F, neq_T, neq_F, k0, c167 hM hn]
    rfl
  · rw [CT_e (mj := 171) (e := [.ref 150, .int (nI t), .int (nI e), .int (nI 2)]) (by omega) rfl (Nat.le_of_ble_eq_true rfl)]
    simp (disch := first | assumption | omega) only [↓t171_1_2, Nat.reduceAdd, X_go, go2_some, stp, ldI, ldA, ldL, stI, stA, stL, o1I, o2I, o2L, brI, brII, gl, s1, s2, k1, sl, go_sN, go_sR, go_CT, go_sT, go_no, go_if, pops, bk_v, bk_0, d171_0, d171_1, d171_28, d171_29, d171_30, d171_31, d171_34, d171_35, d171_36, d171_37, d171_40, d171_42, d171_43, d171_44, d171_45, d171_46, d171_47, d171_48, d171_49, d171_50, d171_51, d171_52, d171_53, d171_54, d171_57, n_lt, n_le, n_eq, n_lt0, n_ge0, n_gt0, n_le0, n_eq0, m_lt, m_le, m_gt, m_ge, m_eq, m_eq', m_lt0, m_ge0, m_gt0, m_le0, m_ltm, m_lem, n_in, m_in, n_cl, n_ti, n_div, n_rem', n_dec, n_l, nI_add, pk_mul, an0, an1, decide_eq_true_eq, if_true, if_false, ite_true, ite_false, and_true, true_and, and_false, false_and, not_true, not_false_iff, or_false, false_or, or_true, true_or, eq_self, va_some, Bool.false_eq_true, reduceIte, catS_n, catS_i, catS_r, catS_l, catS_d, Nat.zero_add, Nat.add_zero, decide_true, decide_false, Nat.reduceLeDiff, cat_r, cat_i, cat_l, nle_T, nle_F, nlt_T, nlt_F, neq_T, neq_F, k0, c167 hM hn]
    rfl
  · rw [CT_e (mj := 171) (e := [.ref 150, .int (nI t), .int (nI e), .int (nI 3)]) (by omega) rfl (Nat.le_of_ble_eq_true rfl)]
    simp (disch := first | assumption | omega) only [↓t171_1_3, Nat.reduceAdd, X_go, go2_some, stp, ldI, ldA, ldL, stI, stA, stL, o1I, o2I, o2L, brI, brII, gl, s1, s2, k1, sl, go_sN, go_sR, go_CT, go_sT, go_no, go_if, pops, bk_v, bk_0, d171_0, d171_1, d171_28, d171_29, d171_30, d171_31, d171_34, d171_35, d171_36, d171_37, d171_40, d171_42, d171_43, d171_44, d171_45, d171_46, d171_47, d171_48, d171_49, d171_50, d171_51, d171_52, d171_53, d171_54, d171_57, n_lt, n_le, n_eq, n_lt0, n_ge0, n_gt0, n_le0, n_eq0, m_lt, m_le, m_gt, m_ge, m_eq, m_eq', m_lt0, m_ge0, m_gt0, m_le0, m_ltm, m_lem, n_in, m_in, n_cl, n_ti, n_div, n_rem', n_dec, n_l, nI_add, pk_mul, an0, an1, decide_eq_true_eq, if_true, if_false, ite_true, ite_false, and_true, true_and, and_false, false_and, not_true, not_false_iff, or_false, false_or, or_true, true_or, eq_self, va_some, Bool.false_eq_true, reduceIte, catS_n, catS_i, catS_r, catS_l, catS_d, Nat.zero_add, Nat.add_zero, decide_true, decide_false, Nat.reduceLeDiff, cat_r, cat_i, cat_l, nle_T, nle_F, nlt_T, nlt_F, neq_T, neq_F, k0, c167 hM hn]
    rfl
  · rw [CT_e (mj := 171) (e := [.ref 150, .int (nI t), .int (nI e), .int (nI 4)]) (by omega) rfl (Nat.le_of_ble_eq_true rfl)]
    simp (disch := first | assumption | omega) only [↓t171_1_4, Nat.reduceAdd, X_go, go2_some, stp, ldI, ldA, ldL, stI, stA, stL, o1I, o2I, o2L, brI, brII, gl, s1, s2, k1, sl, go_sN, go_sR, go_CT, go_sT, go_no, go_if, pops, bk_v, bk_0, d171_0, d171_1, d171_28, d171_29, d171_30, d171_31, d171_34, d171_35, d171_36, d171_37, d171_40, d171_42, d171_43, d171_44, d171_45, d171_46, d171_47, d171_48, d171_49, d171_50, d171_51, d171_52, d171_53, d171_54, d171_57, n_lt, n_le, n_eq, n_lt0, n_ge0, n_gt0, n_le0, n_eq0, m_lt, m_le, m_gt, m_ge, m_eq, m_eq', m_lt0, m_ge0, m_gt0, m_le0, m_ltm, m_lem, n_in, m_in, n_cl, n_ti, n_div, n_rem', n_dec, n_l, nI_add, pk_mul, an0, an1, decide_eq_true_eq, if_true, if_false, ite_true, ite_false, and_true, true_and, and_false, false_and, not_true, not_false_iff, or_false, false_or, or_true, true_or, eq_self, va_some, Bool.false_eq_true, reduceIte, catS_n, catS_i, catS_r, catS_l, catS_d, Nat.zero_add, Nat.add_zero, decide_true, decide_false, Nat.reduceLeDiff, cat_r, cat_i, cat_l, nle_T, nle_F, nlt_T, nlt_F, neq_T, neq_F, k0, c167 hM hn]
    rfl
  · rw [CT_e (mj := 171) (e := [.ref 150, .int (nI t), .int (nI e), .int (nI 5)]) (by omega) rfl (Nat.le_of_ble_eq_true rfl)]
    simp (disch := first | assumption | omega) only [↓t171_1_5, Nat.reduceAdd, X_go, go2_some, stp, ldI, ldA, ldL, stI, stA, stL, o1I, o2I, o2L, brI, brII, gl, s1, s2, k1, sl, go_sN, go_sR, go_CT, go_sT, go_no, go_if, pops, bk_v, bk_0, d171_0, d171_1, d171_28, d171_29, d171_30, d171_31, d171_34, d171_35, d171_36, d171_37, d171_40, d171_42, d171_43, d171_44, d171_45, d171_46, d171_47, d171_48, d171_49, d171_50, d171_51, d171_52, d171_53, d171_54, d171_57, n_lt, n_le, n_eq, n_lt0, n_ge0, n_gt0, n_le0, n_eq0, m_lt, m_le, m_gt, m_ge, m_eq, m_eq', m_lt0, m_ge0, m_gt0, m_le0, m_ltm, m_lem, n_in, m_in, n_cl, n_ti, n_div, n_rem', n_dec, n_l, nI_add, pk_mul, an0, an1, decide_eq_true_eq, if_true, if_false, ite_true, ite_false, and_true, true_and, and_false, false_and, not_true, not_false_iff, or_false, false_or, or_true, true_or, eq_self, va_some, Bool.false_eq_true, reduceIte, catS_n, catS_i, catS_r, catS_l, catS_d, Nat.zero_add, Nat.add_zero, decide_true, decide_false, Nat.reduceLeDiff, cat_r, cat_i, cat_l, nle_T, nle_F, nlt_T, nlt_F, neq_T, neq_F, k0, c167 hM hn]
    rfl
  · rw [CT_e (mj := 171) (e := [.ref 150, .int (nI t), .int (nI e), .int (nI 6)]) (by omega) rfl (Nat.le_of_ble_eq_true rfl)]
    simp (disch := first | assumption | omega) only [↓t171_1_6, Nat.reduceAdd, X_go, go2_some, stp, ldI, ldA, ldL, stI, stA, stL, o1I, o2I, o2L, brI, brII, gl, s1, s2, k1, sl, go_sN, go_sR, go_CT, go_sT, go_no, go_if, pops, bk_v, bk_0, d171_0, d171_1, d171_28, d171_29, d171_30, d171_31, d171_34, d171_35, d171_36, d171_37, d171_40, d171_42, d171_43, d171_44, d171_45, d171_46, d171_47, d171_48, d171_49, d171_50, d171_51, d171_52, d171_53, d171_54, d171_57, n_lt, n_le, n_eq, n_lt0, n_ge0, n_gt0, n_le0, n_eq0, m_lt, m_le, m_gt, m_ge, m_eq, m_eq', m_lt0, m_ge0, m_gt0, m_le0, m_ltm, m_lem, n_in, m_in, n_cl, n_ti, n_div, n_rem', n_dec, n_l, nI_add, pk_mul, an0, an1, decide_eq_true_eq, if_true, if_false, ite_true, ite_false, and_true, true_and, and_false, false_and, not_true, not_false_iff, or_false, false_or, or_true, true_or, eq_self, va_some, Bool.false_eq_true, reduceIte, catS_n, catS_i, catS_r, catS_l, catS_d, Nat.zero_add, Nat.add_zero, decide_true, decide_false, Nat.reduceLeDiff, cat_r, cat_i, cat_l, nle_T, nle_F, nlt_T, nlt_F, neq_T, neq_F, k0, c172 hM hn hv hl]
    rfl
  · have ht1 := b_tst (x := aset g (can g (fq g t) (spG g) noG)) (n := 6 * t + e) (by omega)
    rw [as_b ht (by omega), decide_eq_true he, Bool.true_and] at ht1
    have e7 : eV g t e 7 = if can g (fq g t) (spG g) noG t e = true then 1 else 0 := by
      show (if 0 < fw g t e then 1 else 0) = _
      by_cases z : 0 < fw g t e
      · rw [if_pos z, if_pos ((wt_p hv hl ht he).mp z)]
      · rw [if_neg z, if_neg (fun q => z ((wt_p hv hl ht he).mpr q))]
    rw [e7]
    rw [CT_e (mj := 171) (e := [.ref 150, .int (nI t), .int (nI e), .int (nI 7)]) (by omega) rfl (Nat.le_of_ble_eq_true rfl)]
    simp (disch := first | assumption | omega) only [↓t171_1_7, Nat.reduceAdd, X_go, go2_some, stp, ldI, ldA, ldL, stI, stA, stL, o1I, o2I, o2L, brI, brII, gl, s1, s2, k1, sl, go_sN, go_sR, go_CT, go_sT, go_no, go_if, pops, bk_v, bk_0, d171_0, d171_1, d171_28, d171_29, d171_30, d171_31, d171_34, d171_35, d171_36, d171_37, d171_40, d171_42, d171_43, d171_44, d171_45, d171_46, d171_47, d171_48, d171_49, d171_50, d171_51, d171_52, d171_53, d171_54, d171_57, n_lt, n_le, n_eq, n_lt0, n_ge0, n_gt0, n_le0, n_eq0, m_lt, m_le, m_gt, m_ge, m_eq, m_eq', m_lt0, m_ge0, m_gt0, m_le0, m_ltm, m_lem, n_in, m_in, n_cl, n_ti, n_div, n_rem', n_dec, n_l, nI_add, pk_mul, an0, an1, decide_eq_true_eq, if_true, if_false, ite_true, ite_false, and_true, true_and, and_false, false_and, not_true, not_false_iff, or_false, false_or, or_true, true_or, eq_self, va_some, Bool.false_eq_true, reduceIte, catS_n, catS_i, catS_r, catS_l, catS_d, Nat.zero_add, Nat.add_zero, decide_true, decide_false, Nat.reduceLeDiff, cat_r, cat_i, cat_l, nle_T, nle_F, nlt_T, nlt_F, neq_T, neq_F, k0, c173 hM hn hv hl, ht1]
    done
theorem d170_0 : dec 170 0 = some (.aload_n 0, 1, []) := rfl
theorem d170_1 : dec 170 1 = some (.aload_n 0, 1, []) := rfl
theorem d170_2 : dec 170 2 = some (.iload_n 1, 1, []) := rfl
theorem d170_3 : dec 170 3 = some (.iload_n 2, 1, []) := rfl
theorem d170_4 : dec 170 4 = some (.invokevirtual 103, 3, [2, 165, 2, 10, 0, 1123, 0, 0]) := rfl
theorem d170_7 : dec 170 7 = some (.ifCond .ne 7, 3, [14]) := rfl
theorem d170_10 : dec 170 10 = some (.iconst 1, 1, [1]) := rfl
theorem d170_11 : dec 170 11 = some (.goto 18, 3, [29]) := rfl
theorem d170_14 : dec 170 14 = some (.iload_n 3, 1, []) := rfl
theorem d170_15 : dec 170 15 = some (.iconst 0, 1, [0]) := rfl
theorem d170_16 : dec 170 16 = some (.bipush 7, 2, [7]) := rfl
theorem d170_18 : dec 170 18 = some (.invokestatic 76, 3, [2, 156, 0, 10, 0, 1092, 0, 0, 0]) := rfl
theorem d170_21 : dec 170 21 = some (.ifCond .eq 7, 3, [28]) := rfl
theorem d170_24 : dec 170 24 = some (.iconst 0, 1, [0]) := rfl
theorem d170_25 : dec 170 25 = some (.goto 4, 3, [29]) := rfl
theorem d170_28 : dec 170 28 = some (.iconst 2, 1, [2]) := rfl
theorem d170_29 : dec 170 29 = some (.invokevirtual 72, 3, [2, 153, 2, 10, 0, 1081, 0]) := rfl
theorem d170_32 : dec 170 32 = some (.ifCond .eq 7, 3, [39]) := rfl
theorem d170_35 : dec 170 35 = some (.iconst 0, 1, [0]) := rfl
theorem d170_36 : dec 170 36 = some (.goto 10, 3, [46]) := rfl
theorem d170_39 : dec 170 39 = some (.aload_n 0, 1, []) := rfl
theorem d170_40 : dec 170 40 = some (.iload_n 1, 1, []) := rfl
theorem d170_41 : dec 170 41 = some (.iload_n 2, 1, []) := rfl
theorem d170_42 : dec 170 42 = some (.iload_n 3, 1, []) := rfl
theorem d170_43 : dec 170 43 = some (.invokevirtual 135, 3, [2, 171, 2, 10, 0, 1147, 0, 0, 0]) := rfl
theorem d170_46 : dec 170 46 = some (.ireturn, 1, [0]) := rfl
theorem l170 : mL 170 = 4 := rfl
theorem c170 {d : Nat} {P : MP} {I : MI} {L : ML} {C : MC} {Q : QT} {t e w : Nat} {B n len : Nat} {g : GS} {ps : Nat → GS} {tx : Nat → Nat} (hM : MB P) (hR : ZR I g n ps len tx) (hA : AV B g n ps len tx) (hd : 11 ≤ d) (ht : t < 3) (he : e < g (3 + t)) (hw : w < 8) : CT d 170 [.ref 150, .int (nI t), .int (nI e), .int (nI w)] P I L C Q = Q (.inl (some (.int (nI (eV g t e w))))) P (xu I 150 4 (nI 0)) L C := by
  have hM' := hM
  obtain ⟨⟨k0, p0, p1, p2, p5, y1, y2, y3, y4⟩, _⟩ := hM'
  have hR' := hR
  obtain ⟨hN, h3, hps', h6, htx'⟩ := hR'
  have hA' := hA
  obtain ⟨hGV, hps, hn4, hlen, htx⟩ := hA'
  have h140 := GV_140 hGV
  have hv := hGV.1
  have hl := hGV.2.1
  have hFv := hGV.2.2
  have hR0 : ZR (xu I 150 4 (nI 0)) g n ps len tx := ZR_4 hR
  have hN0 := hR0.1
  rw [CT_e (mj := 170) (e := [.ref 150, .int (nI t), .int (nI e), .int (nI w)]) (by omega) rfl (Nat.le_of_ble_eq_true rfl)]
  simp (disch := first | assumption | omega) only [Nat.reduceAdd, X_go, go2_some, stp, ldI, ldA, ldL, stI, stA, stL, o1I, o2I, o2L, brI, brII, gl, s1, s2, k1, sl, go_sN, go_sR, go_CT, go_sT, go_no, go_if, pops, bk_v, bk_0, d170_0, d170_1, d170_2, d170_3, d170_4, d170_7, d170_10, d170_11, d170_14, d170_15, d170_16, d170_18, d170_21, d170_24, d170_25, d170_28, d170_29, d170_32, d170_35, d170_36, d170_39, d170_40, d170_41, d170_42, d170_43, d170_46, n_lt, n_le, n_eq, n_lt0, n_ge0, n_gt0, n_le0, n_eq0, m_lt, m_le, m_gt, m_ge, m_eq, m_eq', m_lt0, m_ge0, m_gt0, m_le0, m_ltm, m_lem, n_in, m_in, n_cl, n_ti, n_div, n_rem', n_dec, n_l, nI_add, pk_mul, an0, an1, decide_eq_true_eq, if_true, if_false, ite_true, ite_false, and_true, true_and, and_false, false_and, not_true, not_false_iff, or_false, false_or, or_true, true_or, eq_self, va_some, Bool.false_eq_true, reduceIte, catS_n, catS_i, catS_r, catS_l, catS_d, Nat.zero_add, Nat.add_zero, decide_true, decide_false, Nat.reduceLeDiff, cat_r, cat_i, cat_l, nle_T, nle_F, nlt_T, nlt_F, neq_T, neq_F, k0, c165 hM hN hv, c156, c153 hM, c171 hM hN0 hv hl]
  done
theorem c170b {d : Nat} {P : MP} {I : MI} {L : ML} {C : MC} {Q : QT} {x y z : Int32} (hM : MB P) (hd : 6 ≤ d) (hx : x < 0 ∨ nI 3 ≤ x) : CT d 170 [.ref 150, .int x, .int y, .int z] P I L C Q = Q (.inl (some (.int (nI 0)))) P (xu I 150 4 (nI 1)) L C := by
  have k0 := hM.1.1
  rw [CT_e (mj := 170) (e := [.ref 150, .int x, .int y, .int z]) (by omega) rfl (Nat.le_of_ble_eq_true rfl)]
  simp (disch := first | assumption | omega) only [Nat.reduceAdd, X_go, go2_some, stp, ldI, ldA, ldL, stI, stA, stL, o1I, o2I, o2L, brI, brII, gl, s1, s2, k1, sl, go_sN, go_sR, go_CT, go_sT, go_no, go_if, pops, bk_v, bk_0, d170_0, d170_1, d170_2, d170_3, d170_4, d170_7, d170_10, d170_11, d170_14, d170_15, d170_16, d170_18, d170_21, d170_24, d170_25, d170_28, d170_29, d170_32, d170_35, d170_36, d170_39, d170_40, d170_41, d170_42, d170_43, d170_46, n_lt, n_le, n_eq, n_lt0, n_ge0, n_gt0, n_le0, n_eq0, m_lt, m_le, m_gt, m_ge, m_eq, m_eq', m_lt0, m_ge0, m_gt0, m_le0, m_ltm, m_lem, n_in, m_in, n_cl, n_ti, n_div, n_rem', n_dec, n_l, nI_add, pk_mul, an0, an1, decide_eq_true_eq, if_true, if_false, ite_true, ite_false, and_true, true_and, and_false, false_and, not_true, not_false_iff, or_false, false_or, or_true, true_or, eq_self, va_some, Bool.false_eq_true, reduceIte, catS_n, catS_i, catS_r, catS_l, catS_d, Nat.zero_add, Nat.add_zero, decide_true, decide_false, Nat.reduceLeDiff, cat_r, cat_i, cat_l, nle_T, nle_F, nlt_T, nlt_F, neq_T, neq_F, k0, c165t, c153 hM]
  done
theorem c170c {d : Nat} {P : MP} {I : MI} {L : ML} {C : MC} {Q : QT} {t : Nat} {y z : Int32} {g : GS} (hM : MB P) (hN : NR I g) (hv : TV g) (hd : 6 ≤ d) (ht : t < 3) (hy : y < 0 ∨ nI (g (3 + t)) ≤ y) : CT d 170 [.ref 150, .int (nI t), .int y, .int z] P I L C Q = Q (.inl (some (.int (nI 0)))) P (xu I 150 4 (nI 1)) L C := by
  have k0 := hM.1.1
  rw [CT_e (mj := 170) (e := [.ref 150, .int (nI t), .int y, .int z]) (by omega) rfl (Nat.le_of_ble_eq_true rfl)]
  simp (disch := first | assumption | omega) only [Nat.reduceAdd, X_go, go2_some, stp, ldI, ldA, ldL, stI, stA, stL, o1I, o2I, o2L, brI, brII, gl, s1, s2, k1, sl, go_sN, go_sR, go_CT, go_sT, go_no, go_if, pops, bk_v, bk_0, d170_0, d170_1, d170_2, d170_3, d170_4, d170_7, d170_10, d170_11, d170_14, d170_15, d170_16, d170_18, d170_21, d170_24, d170_25, d170_28, d170_29, d170_32, d170_35, d170_36, d170_39, d170_40, d170_41, d170_42, d170_43, d170_46, n_lt, n_le, n_eq, n_lt0, n_ge0, n_gt0, n_le0, n_eq0, m_lt, m_le, m_gt, m_ge, m_eq, m_eq', m_lt0, m_ge0, m_gt0, m_le0, m_ltm, m_lem, n_in, m_in, n_cl, n_ti, n_div, n_rem', n_dec, n_l, nI_add, pk_mul, an0, an1, decide_eq_true_eq, if_true, if_false, ite_true, ite_false, and_true, true_and, and_false, false_and, not_true, not_false_iff, or_false, false_or, or_true, true_or, eq_self, va_some, Bool.false_eq_true, reduceIte, catS_n, catS_i, catS_r, catS_l, catS_d, Nat.zero_add, Nat.add_zero, decide_true, decide_false, Nat.reduceLeDiff, cat_r, cat_i, cat_l, nle_T, nle_F, nlt_T, nlt_F, neq_T, neq_F, k0, c165e hM hN hv, c153 hM]
  done
theorem c170d {d : Nat} {P : MP} {I : MI} {L : ML} {C : MC} {Q : QT} {t e : Nat} {z : Int32} {g : GS} (hM : MB P) (hN : NR I g) (hv : TV g) (hd : 6 ≤ d) (ht : t < 3) (he : e < g (3 + t)) (hz : z < 0 ∨ nI 7 < z) : CT d 170 [.ref 150, .int (nI t), .int (nI e), .int z] P I L C Q = Q (.inl (some (.int (nI 0)))) P (xu I 150 4 (nI 2)) L C := by
  have k0 := hM.1.1
  rw [CT_e (mj := 170) (e := [.ref 150, .int (nI t), .int (nI e), .int z]) (by omega) rfl (Nat.le_of_ble_eq_true rfl)]
  simp (disch := first | assumption | omega) only [Nat.reduceAdd, X_go, go2_some, stp, ldI, ldA, ldL, stI, stA, stL, o1I, o2I, o2L, brI, brII, gl, s1, s2, k1, sl, go_sN, go_sR, go_CT, go_sT, go_no, go_if, pops, bk_v, bk_0, d170_0, d170_1, d170_2, d170_3, d170_4, d170_7, d170_10, d170_11, d170_14, d170_15, d170_16, d170_18, d170_21, d170_24, d170_25, d170_28, d170_29, d170_32, d170_35, d170_36, d170_39, d170_40, d170_41, d170_42, d170_43, d170_46, n_lt, n_le, n_eq, n_lt0, n_ge0, n_gt0, n_le0, n_eq0, m_lt, m_le, m_gt, m_ge, m_eq, m_eq', m_lt0, m_ge0, m_gt0, m_le0, m_ltm, m_lem, n_in, m_in, n_cl, n_ti, n_div, n_rem', n_dec, n_l, nI_add, pk_mul, an0, an1, decide_eq_true_eq, if_true, if_false, ite_true, ite_false, and_true, true_and, and_false, false_and, not_true, not_false_iff, or_false, false_or, or_true, true_or, eq_self, va_some, Bool.false_eq_true, reduceIte, catS_n, catS_i, catS_r, catS_l, catS_d, Nat.zero_add, Nat.add_zero, decide_true, decide_false, Nat.reduceLeDiff, cat_r, cat_i, cat_l, nle_T, nle_F, nlt_T, nlt_F, neq_T, neq_F, k0, c165 hM hN hv, c156b (y := nI 0) (hx := hz), c153 hM]
  done
theorem d179_0 : dec 179 0 = some (.iload_n 2, 1, []) := rfl
theorem d179_1 : dec 179 1 = some (.tableswitch 57 0 2 #[27, 36, 45], 27, []) := rfl
theorem d179_28 : dec 179 28 = some (.aload_n 0, 1, []) := rfl
theorem d179_29 : dec 179 29 = some (.getfield 7, 3, [1, 10, 0, 2, 0, 994]) := rfl
theorem d179_32 : dec 179 32 = some (.iconst 0, 1, [0]) := rfl
theorem d179_33 : dec 179 33 = some (.iload_n 1, 1, []) := rfl
theorem d179_34 : dec 179 34 = some (.iadd, 1, []) := rfl
theorem d179_35 : dec 179 35 = some (.iaload, 1, []) := rfl
theorem d179_36 : dec 179 36 = some (.ireturn, 1, [0]) := rfl
theorem d179_37 : dec 179 37 = some (.aload_n 0, 1, []) := rfl
theorem d179_38 : dec 179 38 = some (.getfield 7, 3, [1, 10, 0, 2, 0, 994]) := rfl
theorem d179_41 : dec 179 41 = some (.iconst 3, 1, [3]) := rfl
theorem d179_42 : dec 179 42 = some (.iload_n 1, 1, []) := rfl
theorem d179_43 : dec 179 43 = some (.iadd, 1, []) := rfl
theorem d179_44 : dec 179 44 = some (.iaload, 1, []) := rfl
theorem d179_45 : dec 179 45 = some (.ireturn, 1, [0]) := rfl
theorem d179_46 : dec 179 46 = some (.aload_n 0, 1, []) := rfl
theorem d179_47 : dec 179 47 = some (.iload_n 1, 1, []) := rfl
theorem d179_48 : dec 179 48 = some (.aload_n 0, 1, []) := rfl
theorem d179_49 : dec 179 49 = some (.invokevirtual 124, 3, [2, 174, 2, 10, 0, 1159]) := rfl
theorem d179_52 : dec 179 52 = some (.iconst 0, 1, [0]) := rfl
theorem d179_53 : dec 179 53 = some (.iconst (-1), 1, [4294967295]) := rfl
theorem d179_54 : dec 179 54 = some (.invokevirtual 127, 3, [2, 175, 2, 10, 0, 1163, 0, 0, 0, 0]) := rfl
theorem d179_57 : dec 179 57 = some (.ireturn, 1, [0]) := rfl
theorem d179_58 : dec 179 58 = some (.aload_n 0, 1, []) := rfl
theorem d179_59 : dec 179 59 = some (.iload_n 1, 1, []) := rfl
theorem d179_60 : dec 179 60 = some (.aload_n 0, 1, []) := rfl
theorem d179_61 : dec 179 61 = some (.iload_n 1, 1, []) := rfl
theorem d179_62 : dec 179 62 = some (.invokevirtual 131, 3, [2, 173, 2, 10, 0, 1155, 0]) := rfl
theorem d179_65 : dec 179 65 = some (.invokevirtual 138, 3, [2, 180, 2, 10, 0, 1182, 0, 0]) := rfl
theorem d179_68 : dec 179 68 = some (.ireturn, 1, [0]) := rfl
theorem l179 : mL 179 = 3 := rfl
theorem t179_1_0 {ls st : List Value} {P : MP} {I : MI} {L : ML} {C : MC} : stp 1 (.tableswitch 57 0 2 #[27, 36, 45]) 27 [] ls (.int (nI 0) :: st) P I L C = sN 28 ls st P I L C := rfl
theorem t179_1_1 {ls st : List Value} {P : MP} {I : MI} {L : ML} {C : MC} : stp 1 (.tableswitch 57 0 2 #[27, 36, 45]) 27 [] ls (.int (nI 1) :: st) P I L C = sN 37 ls st P I L C := rfl
theorem t179_1_2 {ls st : List Value} {P : MP} {I : MI} {L : ML} {C : MC} : stp 1 (.tableswitch 57 0 2 #[27, 36, 45]) 27 [] ls (.int (nI 2) :: st) P I L C = sN 46 ls st P I L C := rfl
theorem t179_1_3 {ls st : List Value} {P : MP} {I : MI} {L : ML} {C : MC} : stp 1 (.tableswitch 57 0 2 #[27, 36, 45]) 27 [] ls (.int (nI 3) :: st) P I L C = sN 58 ls st P I L C := rfl
theorem c179 {d : Nat} {P : MP} {I : MI} {L : ML} {C : MC} {Q : QT} {t w : Nat} {g : GS} (hM : MB P) (hn : NR I g) (hv : TV g) (hl : LV g) (hd : 9 ≤ d) (ht : t < 3) (hw : w < 4) : CT d 179 [.ref 150, .int (nI t), .int (nI w)] P I L C Q = Q (.inl (some (.int (nI (tV g t w))))) P I L C := by
  have hM' := hM
  obtain ⟨⟨k0, p0, p1, p2, p5, y1, _⟩, _⟩ := hM'
  have hc := hv.2.1 t ht
  have e0 := hn t (by omega)
  have e1 := hn (3 + t) (by omega)
  have h175 : ∀ Q, CT (d - 1) 175 [.ref 150, .int (nI t), .int (sbits g), .int (nI 0), .int (nI 4294967295)] P I L C Q = Q (.inl (some (.int (nI (fq g t))))) P I L C := fun Q => c175 (fd := 0) hM hn hv hl (MSp_s hv) MGr_0 (by omega) ht (by omega)
  have hE : w = 0 ∨ w = 1 ∨ w = 2 ∨ w = 3 := by omega
  rcases hE with rfl | rfl | rfl | rfl
  · rw [CT_e (mj := 179) (e := [.ref 150, .int (nI t), .int (nI 0)]) (by omega) rfl (Nat.le_of_ble_eq_true rfl)]
    simp (disch := first | assumption | omega) only [↓t179_1_0, Nat.reduceAdd, X_go, go2_some, stp, ldI, ldA, ldL, stI, stA, stL, o1I, o2I, o2L, brI, brII, gl, s1, s2, k1, sl, go_sN, go_sR, go_CT, go_sT, go_no, go_if, pops, bk_v, bk_0, d179_0, d179_1, d179_28, d179_29, d179_32, d179_33, d179_34, d179_35, d179_36, d179_37, d179_38, d179_41, d179_42, d179_43, d179_44, d179_45, d179_46, d179_47, d179_48, d179_49, d179_52, d179_53, d179_54, d179_57, d179_58, d179_59, d179_60, d179_61, d179_62, d179_65, d179_68, n_lt, n_le, n_eq, n_lt0, n_ge0, n_gt0, n_le0, n_eq0, m_lt, m_le, m_gt, m_ge, m_eq, m_eq', m_lt0, m_ge0, m_gt0, m_le0, m_ltm, m_lem, n_in, m_in, n_cl, n_ti, n_div, n_rem', n_dec, n_l, nI_add, pk_mul, an0, an1, decide_eq_true_eq, if_true, if_false, ite_true, ite_false, and_true, true_and, and_false, false_and, not_true, not_false_iff, or_false, false_or, or_true, true_or, eq_self, va_some, Bool.false_eq_true, reduceIte, catS_n, catS_i, catS_r, catS_l, catS_d, Nat.zero_add, Nat.add_zero, decide_true, decide_false, Nat.reduceLeDiff, cat_r, cat_i, cat_l, nle_T, nle_F, nlt_T, nlt_F, neq_T, neq_F, k0, p0, y1, e0]
    rfl
  · rw [CT_e (mj := 179) (e := [.ref 150, .int (nI t), .int (nI 1)]) (by omega) rfl (Nat.le_of_ble_eq_true rfl)]
    simp (disch := first | assumption | omega) only [↓t179_1_1, Nat.reduceAdd, X_go, go2_some, stp, ldI, ldA, ldL, stI, stA, stL, o1I, o2I, o2L, brI, brII, gl, s1, s2, k1, sl, go_sN, go_sR, go_CT, go_sT, go_no, go_if, pops, bk_v, bk_0, d179_0, d179_1, d179_28, d179_29, d179_32, d179_33, d179_34, d179_35, d179_36, d179_37, d179_38, d179_41, d179_42, d179_43, d179_44, d179_45, d179_46, d179_47, d179_48, d179_49, d179_52, d179_53, d179_54, d179_57, d179_58, d179_59, d179_60, d179_61, d179_62, d179_65, d179_68, n_lt, n_le, n_eq, n_lt0, n_ge0, n_gt0, n_le0, n_eq0, m_lt, m_le, m_gt, m_ge, m_eq, m_eq', m_lt0, m_ge0, m_gt0, m_le0, m_ltm, m_lem, n_in, m_in, n_cl, n_ti, n_div, n_rem', n_dec, n_l, nI_add, pk_mul, an0, an1, decide_eq_true_eq, if_true, if_false, ite_true, ite_false, and_true, true_and, and_false, false_and, not_true, not_false_iff, or_false, false_or, or_true, true_or, eq_self, va_some, Bool.false_eq_true, reduceIte, catS_n, catS_i, catS_r, catS_l, catS_d, Nat.zero_add, Nat.add_zero, decide_true, decide_false, Nat.reduceLeDiff, cat_r, cat_i, cat_l, nle_T, nle_F, nlt_T, nlt_F, neq_T, neq_F, k0, p0, y1, e1]
    rfl
  · rw [CT_e (mj := 179) (e := [.ref 150, .int (nI t), .int (nI 2)]) (by omega) rfl (Nat.le_of_ble_eq_true rfl)]
    simp (disch := first | assumption | omega) only [↓t179_1_2, Nat.reduceAdd, X_go, go2_some, stp, ldI, ldA, ldL, stI, stA, stL, o1I, o2I, o2L, brI, brII, gl, s1, s2, k1, sl, go_sN, go_sR, go_CT, go_sT, go_no, go_if, pops, bk_v, bk_0, d179_0, d179_1, d179_28, d179_29, d179_32, d179_33, d179_34, d179_35, d179_36, d179_37, d179_38, d179_41, d179_42, d179_43, d179_44, d179_45, d179_46, d179_47, d179_48, d179_49, d179_52, d179_53, d179_54, d179_57, d179_58, d179_59, d179_60, d179_61, d179_62, d179_65, d179_68, n_lt, n_le, n_eq, n_lt0, n_ge0, n_gt0, n_le0, n_eq0, m_lt, m_le, m_gt, m_ge, m_eq, m_eq', m_lt0, m_ge0, m_gt0, m_le0, m_ltm, m_lem, n_in, m_in, n_cl, n_ti, n_div, n_rem', n_dec, n_l, nI_add, pk_mul, an0, an1, decide_eq_true_eq, if_true, if_false, ite_true, ite_false, and_true, true_and, and_false, false_and, not_true, not_false_iff, or_false, false_or, or_true, true_or, eq_self, va_some, Bool.false_eq_true, reduceIte, catS_n, catS_i, catS_r, catS_l, catS_d, Nat.zero_add, Nat.add_zero, decide_true, decide_false, Nat.reduceLeDiff, cat_r, cat_i, cat_l, nle_T, nle_F, nlt_T, nlt_F, neq_T, neq_F, k0, c174 hM hn hv, h175]
    rfl
  · rw [CT_e (mj := 179) (e := [.ref 150, .int (nI t), .int (nI 3)]) (by omega) rfl (Nat.le_of_ble_eq_true rfl)]
    simp (disch := first | assumption | omega) only [↓t179_1_3, Nat.reduceAdd, X_go, go2_some, stp, ldI, ldA, ldL, stI, stA, stL, o1I, o2I, o2L, brI, brII, gl, s1, s2, k1, sl, go_sN, go_sR, go_CT, go_sT, go_no, go_if, pops, bk_v, bk_0, d179_0, d179_1, d179_28, d179_29, d179_32, d179_33, d179_34, d179_35, d179_36, d179_37, d179_38, d179_41, d179_42, d179_43, d179_44, d179_45, d179_46, d179_47, d179_48, d179_49, d179_52, d179_53, d179_54, d179_57, d179_58, d179_59, d179_60, d179_61, d179_62, d179_65, d179_68, n_lt, n_le, n_eq, n_lt0, n_ge0, n_gt0, n_le0, n_eq0, m_lt, m_le, m_gt, m_ge, m_eq, m_eq', m_lt0, m_ge0, m_gt0, m_le0, m_ltm, m_lem, n_in, m_in, n_cl, n_ti, n_div, n_rem', n_dec, n_l, nI_add, pk_mul, an0, an1, decide_eq_true_eq, if_true, if_false, ite_true, ite_false, and_true, true_and, and_false, false_and, not_true, not_false_iff, or_false, false_or, or_true, true_or, eq_self, va_some, Bool.false_eq_true, reduceIte, catS_n, catS_i, catS_r, catS_l, catS_d, Nat.zero_add, Nat.add_zero, decide_true, decide_false, Nat.reduceLeDiff, cat_r, cat_i, cat_l, nle_T, nle_F, nlt_T, nlt_F, neq_T, neq_F, k0, c173 hM hn hv hl, c180 hM hn hv hl]
    rfl
theorem d178_0 : dec 178 0 = some (.aload_n 0, 1, []) := rfl
theorem d178_1 : dec 178 1 = some (.iload_n 1, 1, []) := rfl
theorem d178_2 : dec 178 2 = some (.invokestatic 84, 3, [2, 155, 0, 10, 0, 1089, 0]) := rfl
theorem d178_5 : dec 178 5 = some (.ifCond .ne 7, 3, [12]) := rfl
theorem d178_8 : dec 178 8 = some (.iconst 1, 1, [1]) := rfl
theorem d178_9 : dec 178 9 = some (.goto 17, 3, [26]) := rfl
theorem d178_12 : dec 178 12 = some (.iload_n 2, 1, []) := rfl
theorem d178_13 : dec 178 13 = some (.iconst 0, 1, [0]) := rfl
theorem d178_14 : dec 178 14 = some (.iconst 3, 1, [3]) := rfl
theorem d178_15 : dec 178 15 = some (.invokestatic 76, 3, [2, 156, 0, 10, 0, 1092, 0, 0, 0]) := rfl
theorem d178_18 : dec 178 18 = some (.ifCond .eq 7, 3, [25]) := rfl
theorem d178_21 : dec 178 21 = some (.iconst 0, 1, [0]) := rfl
theorem d178_22 : dec 178 22 = some (.goto 4, 3, [26]) := rfl
theorem d178_25 : dec 178 25 = some (.iconst 2, 1, [2]) := rfl
theorem d178_26 : dec 178 26 = some (.invokevirtual 72, 3, [2, 153, 2, 10, 0, 1081, 0]) := rfl
theorem d178_29 : dec 178 29 = some (.ifCond .eq 7, 3, [36]) := rfl
theorem d178_32 : dec 178 32 = some (.iconst 0, 1, [0]) := rfl
theorem d178_33 : dec 178 33 = some (.goto 9, 3, [42]) := rfl
theorem d178_36 : dec 178 36 = some (.aload_n 0, 1, []) := rfl
theorem d178_37 : dec 178 37 = some (.iload_n 1, 1, []) := rfl
theorem d178_38 : dec 178 38 = some (.iload_n 2, 1, []) := rfl
theorem d178_39 : dec 178 39 = some (.invokevirtual 141, 3, [2, 179, 2, 10, 0, 1178, 0, 0]) := rfl
theorem d178_42 : dec 178 42 = some (.ireturn, 1, [0]) := rfl
theorem l178 : mL 178 = 3 := rfl
theorem c178 {d : Nat} {P : MP} {I : MI} {L : ML} {C : MC} {Q : QT} {t w : Nat} {B n len : Nat} {g : GS} {ps : Nat → GS} {tx : Nat → Nat} (hM : MB P) (hR : ZR I g n ps len tx) (hA : AV B g n ps len tx) (hd : 11 ≤ d) (ht : t < 3) (hw : w < 4) : CT d 178 [.ref 150, .int (nI t), .int (nI w)] P I L C Q = Q (.inl (some (.int (nI (tV g t w))))) P (xu I 150 4 (nI 0)) L C := by
  have hM' := hM
  obtain ⟨⟨k0, p0, p1, p2, p5, y1, y2, y3, y4⟩, _⟩ := hM'
  have hR' := hR
  obtain ⟨hN, h3, hps', h6, htx'⟩ := hR'
  have hA' := hA
  obtain ⟨hGV, hps, hn4, hlen, htx⟩ := hA'
  have h140 := GV_140 hGV
  have hv := hGV.1
  have hl := hGV.2.1
  have hFv := hGV.2.2
  have hR0 : ZR (xu I 150 4 (nI 0)) g n ps len tx := ZR_4 hR
  have hN0 := hR0.1
  rw [CT_e (mj := 178) (e := [.ref 150, .int (nI t), .int (nI w)]) (by omega) rfl (Nat.le_of_ble_eq_true rfl)]
  simp (disch := first | assumption | omega) only [Nat.reduceAdd, X_go, go2_some, stp, ldI, ldA, ldL, stI, stA, stL, o1I, o2I, o2L, brI, brII, gl, s1, s2, k1, sl, go_sN, go_sR, go_CT, go_sT, go_no, go_if, pops, bk_v, bk_0, d178_0, d178_1, d178_2, d178_5, d178_8, d178_9, d178_12, d178_13, d178_14, d178_15, d178_18, d178_21, d178_22, d178_25, d178_26, d178_29, d178_32, d178_33, d178_36, d178_37, d178_38, d178_39, d178_42, n_lt, n_le, n_eq, n_lt0, n_ge0, n_gt0, n_le0, n_eq0, m_lt, m_le, m_gt, m_ge, m_eq, m_eq', m_lt0, m_ge0, m_gt0, m_le0, m_ltm, m_lem, n_in, m_in, n_cl, n_ti, n_div, n_rem', n_dec, n_l, nI_add, pk_mul, an0, an1, decide_eq_true_eq, if_true, if_false, ite_true, ite_false, and_true, true_and, and_false, false_and, not_true, not_false_iff, or_false, false_or, or_true, true_or, eq_self, va_some, Bool.false_eq_true, reduceIte, catS_n, catS_i, catS_r, catS_l, catS_d, Nat.zero_add, Nat.add_zero, decide_true, decide_false, Nat.reduceLeDiff, cat_r, cat_i, cat_l, nle_T, nle_F, nlt_T, nlt_F, neq_T, neq_F, k0, c155, c156, c153 hM, c179 hM hN0 hv hl]
  done
theorem c178b {d : Nat} {P : MP} {I : MI} {L : ML} {C : MC} {Q : QT} {x y : Int32} (hM : MB P) (hd : 6 ≤ d) (hx : x < 0 ∨ nI 3 ≤ x) : CT d 178 [.ref 150, .int x, .int y] P I L C Q = Q (.inl (some (.int (nI 0)))) P (xu I 150 4 (nI 1)) L C := by
  have k0 := hM.1.1
  rw [CT_e (mj := 178) (e := [.ref 150, .int x, .int y]) (by omega) rfl (Nat.le_of_ble_eq_true rfl)]
  simp (disch := first | assumption | omega) only [Nat.reduceAdd, X_go, go2_some, stp, ldI, ldA, ldL, stI, stA, stL, o1I, o2I, o2L, brI, brII, gl, s1, s2, k1, sl, go_sN, go_sR, go_CT, go_sT, go_no, go_if, pops, bk_v, bk_0, d178_0, d178_1, d178_2, d178_5, d178_8, d178_9, d178_12, d178_13, d178_14, d178_15, d178_18, d178_21, d178_22, d178_25, d178_26, d178_29, d178_32, d178_33, d178_36, d178_37, d178_38, d178_39, d178_42, n_lt, n_le, n_eq, n_lt0, n_ge0, n_gt0, n_le0, n_eq0, m_lt, m_le, m_gt, m_ge, m_eq, m_eq', m_lt0, m_ge0, m_gt0, m_le0, m_ltm, m_lem, n_in, m_in, n_cl, n_ti, n_div, n_rem', n_dec, n_l, nI_add, pk_mul, an0, an1, decide_eq_true_eq, if_true, if_false, ite_true, ite_false, and_true, true_and, and_false, false_and, not_true, not_false_iff, or_false, false_or, or_true, true_or, eq_self, va_some, Bool.false_eq_true, reduceIte, catS_n, catS_i, catS_r, catS_l, catS_d, Nat.zero_add, Nat.add_zero, decide_true, decide_false, Nat.reduceLeDiff, cat_r, cat_i, cat_l, nle_T, nle_F, nlt_T, nlt_F, neq_T, neq_F, k0, c155b, c153 hM]
  done
theorem c178c {d : Nat} {P : MP} {I : MI} {L : ML} {C : MC} {Q : QT} {t : Nat} {y : Int32} (hM : MB P) (hd : 6 ≤ d) (ht : t < 3) (hy : y < 0 ∨ nI 3 < y) : CT d 178 [.ref 150, .int (nI t), .int y] P I L C Q = Q (.inl (some (.int (nI 0)))) P (xu I 150 4 (nI 2)) L C := by
  have k0 := hM.1.1
  rw [CT_e (mj := 178) (e := [.ref 150, .int (nI t), .int y]) (by omega) rfl (Nat.le_of_ble_eq_true rfl)]
  simp (disch := first | assumption | omega) only [Nat.reduceAdd, X_go, go2_some, stp, ldI, ldA, ldL, stI, stA, stL, o1I, o2I, o2L, brI, brII, gl, s1, s2, k1, sl, go_sN, go_sR, go_CT, go_sT, go_no, go_if, pops, bk_v, bk_0, d178_0, d178_1, d178_2, d178_5, d178_8, d178_9, d178_12, d178_13, d178_14, d178_15, d178_18, d178_21, d178_22, d178_25, d178_26, d178_29, d178_32, d178_33, d178_36, d178_37, d178_38, d178_39, d178_42, n_lt, n_le, n_eq, n_lt0, n_ge0, n_gt0, n_le0, n_eq0, m_lt, m_le, m_gt, m_ge, m_eq, m_eq', m_lt0, m_ge0, m_gt0, m_le0, m_ltm, m_lem, n_in, m_in, n_cl, n_ti, n_div, n_rem', n_dec, n_l, nI_add, pk_mul, an0, an1, decide_eq_true_eq, if_true, if_false, ite_true, ite_false, and_true, true_and, and_false, false_and, not_true, not_false_iff, or_false, false_or, or_true, true_or, eq_self, va_some, Bool.false_eq_true, reduceIte, catS_n, catS_i, catS_r, catS_l, catS_d, Nat.zero_add, Nat.add_zero, decide_true, decide_false, Nat.reduceLeDiff, cat_r, cat_i, cat_l, nle_T, nle_F, nlt_T, nlt_F, neq_T, neq_F, k0, c155, c156b (y := nI 0) (hx := hy), c153 hM]
  done
