/-! TEXT: entries -/
def taF (tx : Nat → Nat) (len p : Nat) (g : GS) : Nat := if isD tx len p 0 2 = true then (if g (3 + (tx p - 48)) < 6 then 0 else p + 1) else p + 1
theorem nuF_b {tx : Nat → Nat} {len k lo hi p : Nat} : nuF tx len k lo hi p ≤ p + k + 1 := by
  have := nuP_b (tx := tx) (len := len) k p
  unfold nuF
  split
  · omega
  · split <;> omega
theorem nuF_0 {tx : Nat → Nat} {len k lo hi p : Nat} (h : nuF tx len k lo hi p = 0) : p < nuP tx len k p ∧ isD tx len (nuP tx len k p) 0 9 = false ∧ lo ≤ nuV tx len k p 0 ∧ nuV tx len k p 0 ≤ hi := by
  have hb := nuP_b (tx := tx) (len := len) k p
  unfold nuF at h
  split at h
  · omega
  · rename_i h1
    split at h
    · omega
    · rename_i h2
      refine ⟨?_, ?_, by omega, by omega⟩
      · rcases Nat.lt_or_ge p (nuP tx len k p) with z | z
        · exact z
        · exact absurd (Or.inl (by omega)) h1
      · cases hz : isD tx len (nuP tx len k p) 0 9
        · rfl
        · exact absurd (Or.inr hz) h1
theorem d46_0 : dec 46 0 = some (.aload_n 0, 1, []) := rfl
theorem d46_1 : dec 46 1 = some (.getfield 24, 3, [1, 8, 2, 0, 0, 186]) := rfl
theorem d46_4 : dec 46 4 = some (.istore_n 2, 1, []) := rfl
theorem d46_5 : dec 46 5 = some (.aload_n 0, 1, []) := rfl
theorem d46_6 : dec 46 6 = some (.iconst 0, 1, [0]) := rfl
theorem d46_7 : dec 46 7 = some (.iconst 2, 1, [2]) := rfl
theorem d46_8 : dec 46 8 = some (.invokevirtual 44, 3, [2, 42, 2, 8, 0, 430, 0, 0]) := rfl
theorem d46_11 : dec 46 11 = some (.istore_n 3, 1, []) := rfl
theorem d46_12 : dec 46 12 = some (.aload_n 0, 1, []) := rfl
theorem d46_13 : dec 46 13 = some (.getfield 27, 3, [1, 8, 3, 0, 0, 187]) := rfl
theorem d46_16 : dec 46 16 = some (.iconst (-1), 1, [4294967295]) := rfl
theorem d46_17 : dec 46 17 = some (.if_icmp .ne 18, 3, [35]) := rfl
theorem d46_20 : dec 46 20 = some (.aload_n 1, 1, []) := rfl
theorem d46_21 : dec 46 21 = some (.iload_n 3, 1, []) := rfl
theorem d46_22 : dec 46 22 = some (.invokevirtual 83, 3, [2, 25, 2, 7, 0, 449, 0]) := rfl
theorem d46_25 : dec 46 25 = some (.bipush 6, 2, [6]) := rfl
theorem d46_27 : dec 46 27 = some (.if_icmp .lt 8, 3, [35]) := rfl
theorem d46_30 : dec 46 30 = some (.aload_n 0, 1, []) := rfl
theorem d46_31 : dec 46 31 = some (.iload_n 2, 1, []) := rfl
theorem d46_32 : dec 46 32 = some (.putfield 27, 3, [1, 8, 3, 0, 0, 187]) := rfl
theorem d46_35 : dec 46 35 = some (.iload_n 3, 1, []) := rfl
theorem d46_36 : dec 46 36 = some (.ireturn, 1, [0]) := rfl
theorem l46 : mL 46 = 4 := rfl
theorem c46 {d : Nat} {P : MP} {I : MI} {L : ML} {C : MC} {Q : QT} {len p : Nat} {g : GS} {tx : Nat → Nat} (hX : XB P) (ht : TX I len tx) (hg : TR I 114 g) (hv : TV g) (hz : isD tx len p 0 2 = true) (hc : g (3 + (tx p - 48)) < 6) (hd : 4 ≤ d) (hp : p < 900) : CT d 46 [.ref 112, .ref 114] P (tS I p (nI 4294967295)) L C Q = Q (.inl (some (.int (nI (tx p - 48))))) P (tS I (p + 1) (nI 4294967295)) L C := by
  have x0 := hX.2.2.2.2.2.1.1
  have hT := hX.2.2.2.2.2.2.1
  have hT0 := hT.1.1
  have hb := isD_b hz
  rw [CT_e (mj := 46) (e := [.ref 112, .ref 114, UN, UN]) (by omega) rfl (Nat.le_of_ble_eq_true rfl)]
  simp (disch := first | assumption | omega) only [Nat.reduceAdd, X_go, go2_some, stp, ldI, ldA, ldL, stI, stA, stL, o1I, o2I, o2L, brI, brII, gl, s1, s2, k1, sl, go_sN, go_sR, go_CT, go_sT, go_no, go_if, pops, bk_v, bk_0, d46_0, d46_1, d46_4, d46_5, d46_6, d46_7, d46_8, d46_11, d46_12, d46_13, d46_16, d46_17, d46_20, d46_21, d46_22, d46_25, d46_27, d46_30, d46_31, d46_32, d46_35, d46_36, n_lt, n_le, n_eq, n_lt0, n_ge0, n_gt0, n_le0, n_eq0, m_lt, m_le, m_gt, m_ge, m_eq, m_eq', m_lt0, m_ge0, m_gt0, m_le0, m_ltm, m_lem, n_in, m_in, n_cl, n_ti, n_div, n_rem', n_dec, n_l, nI_add, pk_mul, an0, an1, decide_eq_true_eq, if_true, if_false, ite_true, ite_false, and_true, true_and, and_false, false_and, not_true, not_false_iff, or_false, false_or, or_true, true_or, eq_self, va_some, Bool.false_eq_true, reduceIte, catS_n, catS_i, catS_r, catS_l, catS_d, Nat.zero_add, Nat.add_zero, decide_true, decide_false, Nat.reduceLeDiff, cat_r, cat_i, cat_l, nle_T, nle_F, nlt_T, nlt_F, neq_T, neq_F, x0, hT0, tS_2, tS_3, tS_f, c42 hX ht hz, c25g (I := tS I (p + 1) (nI 4294967295)) hT (TR_fr hg fun k j (_ : 115 ≤ k) (_ : k ≤ 122) => (tS_n (by omega) : tS I (p + 1) (nI 4294967295) k j = I k j)), hc]
  done
theorem c46r {d : Nat} {P : MP} {I : MI} {L : ML} {C : MC} {Q : QT} {len p : Nat} {g : GS} {tx : Nat → Nat} (hX : XB P) (ht : TX I len tx) (hg : TR I 114 g) (hv : TV g) (hz : isD tx len p 0 2 = true) (hc : ¬ g (3 + (tx p - 48)) < 6) (hd : 4 ≤ d) (hp : p < 900) : CT d 46 [.ref 112, .ref 114] P (tS I p (nI 4294967295)) L C Q = Q (.inl (some (.int (nI (tx p - 48))))) P (tS I (p + 1) (nI p)) L C := by
  have x0 := hX.2.2.2.2.2.1.1
  have hT := hX.2.2.2.2.2.2.1
  have hT0 := hT.1.1
  have hb := isD_b hz
  have h6 := hv.2.1 (tx p - 48) (by omega)
  rw [CT_e (mj := 46) (e := [.ref 112, .ref 114, UN, UN]) (by omega) rfl (Nat.le_of_ble_eq_true rfl)]
  simp (disch := first | assumption | omega) only [Nat.reduceAdd, X_go, go2_some, stp, ldI, ldA, ldL, stI, stA, stL, o1I, o2I, o2L, brI, brII, gl, s1, s2, k1, sl, go_sN, go_sR, go_CT, go_sT, go_no, go_if, pops, bk_v, bk_0, d46_0, d46_1, d46_4, d46_5, d46_6, d46_7, d46_8, d46_11, d46_12, d46_13, d46_16, d46_17, d46_20, d46_21, d46_22, d46_25, d46_27, d46_30, d46_31, d46_32, d46_35, d46_36, n_lt, n_le, n_eq, n_lt0, n_ge0, n_gt0, n_le0, n_eq0, m_lt, m_le, m_gt, m_ge, m_eq, m_eq', m_lt0, m_ge0, m_gt0, m_le0, m_ltm, m_lem, n_in, m_in, n_cl, n_ti, n_div, n_rem', n_dec, n_l, nI_add, pk_mul, an0, an1, decide_eq_true_eq, if_true, if_false, ite_true, ite_false, and_true, true_and, and_false, false_and, not_true, not_false_iff, or_false, false_or, or_true, true_or, eq_self, va_some, Bool.false_eq_true, reduceIte, catS_n, catS_i, catS_r, catS_l, catS_d, Nat.zero_add, Nat.add_zero, decide_true, decide_false, Nat.reduceLeDiff, cat_r, cat_i, cat_l, nle_T, nle_F, nlt_T, nlt_F, neq_T, neq_F, x0, hT0, tS_2, tS_3, tS_f, c42 hX ht hz, c25g (I := tS I (p + 1) (nI 4294967295)) hT (TR_fr hg fun k j (_ : 115 ≤ k) (_ : k ≤ 122) => (tS_n (by omega) : tS I (p + 1) (nI 4294967295) k j = I k j)), hc]
  done
theorem c46n {d : Nat} {P : MP} {I : MI} {L : ML} {C : MC} {Q : QT} {len p : Nat} {tx : Nat → Nat} (hX : XB P) (ht : TX I len tx) (hz : isD tx len p 0 2 = false) (hd : 4 ≤ d) (hp : p < 900) : CT d 46 [.ref 112, .ref 114] P (tS I p (nI 4294967295)) L C Q = Q (.inl (some (.int (nI 0)))) P (tS I p (nI p)) L C := by
  have x0 := hX.2.2.2.2.2.1.1
  rw [CT_e (mj := 46) (e := [.ref 112, .ref 114, UN, UN]) (by omega) rfl (Nat.le_of_ble_eq_true rfl)]
  simp (disch := first | assumption | omega) only [Nat.reduceAdd, X_go, go2_some, stp, ldI, ldA, ldL, stI, stA, stL, o1I, o2I, o2L, brI, brII, gl, s1, s2, k1, sl, go_sN, go_sR, go_CT, go_sT, go_no, go_if, pops, bk_v, bk_0, d46_0, d46_1, d46_4, d46_5, d46_6, d46_7, d46_8, d46_11, d46_12, d46_13, d46_16, d46_17, d46_20, d46_21, d46_22, d46_25, d46_27, d46_30, d46_31, d46_32, d46_35, d46_36, n_lt, n_le, n_eq, n_lt0, n_ge0, n_gt0, n_le0, n_eq0, m_lt, m_le, m_gt, m_ge, m_eq, m_eq', m_lt0, m_ge0, m_gt0, m_le0, m_ltm, m_lem, n_in, m_in, n_cl, n_ti, n_div, n_rem', n_dec, n_l, nI_add, pk_mul, an0, an1, decide_eq_true_eq, if_true, if_false, ite_true, ite_false, and_true, true_and, and_false, false_and, not_true, not_false_iff, or_false, false_or, or_true, true_or, eq_self, va_some, Bool.false_eq_true, reduceIte, catS_n, catS_i, catS_r, catS_l, catS_d, Nat.zero_add, Nat.add_zero, decide_true, decide_false, Nat.reduceLeDiff, cat_r, cat_i, cat_l, nle_T, nle_F, nlt_T, nlt_F, neq_T, neq_F, x0, tS_2, tS_3, tS_f, c42n hX ht hz]
  done
def waF (tx : Nat → Nat) (len t p : Nat) : Nat := if nuF tx len 2 0 18 p = 0 then (if 16 ≤ nuV tx len 2 p 0 ∧ nuV tx len 2 p 0 ≤ t + 16 then p + 1 else 0) else nuF tx len 2 0 18 p
theorem waF_b {tx : Nat → Nat} {len t p : Nat} : waF tx len t p ≤ p + 3 := by
  have := nuF_b (tx := tx) (len := len) (k := 2) (lo := 0) (hi := 18) (p := p)
  unfold waF
  split
  · split <;> omega
  · omega
theorem nuV_2 {tx : Nat → Nat} {len p : Nat} : nuV tx len 2 p 0 < 100 := by
  have := nuV_b (tx := tx) (len := len) 2 p 0
  omega
theorem d47_0 : dec 47 0 = some (.aload_n 0, 1, []) := rfl
theorem d47_1 : dec 47 1 = some (.getfield 24, 3, [1, 8, 2, 0, 0, 186]) := rfl
theorem d47_4 : dec 47 4 = some (.istore_n 2, 1, []) := rfl
theorem d47_5 : dec 47 5 = some (.aload_n 0, 1, []) := rfl
theorem d47_6 : dec 47 6 = some (.iconst 2, 1, [2]) := rfl
theorem d47_7 : dec 47 7 = some (.iconst 0, 1, [0]) := rfl
theorem d47_8 : dec 47 8 = some (.bipush 18, 2, [18]) := rfl
theorem d47_10 : dec 47 10 = some (.invokevirtual 68, 3, [2, 48, 2, 8, 0, 454, 0, 0, 0]) := rfl
theorem d47_13 : dec 47 13 = some (.istore_n 3, 1, []) := rfl
theorem d47_14 : dec 47 14 = some (.aload_n 0, 1, []) := rfl
theorem d47_15 : dec 47 15 = some (.getfield 27, 3, [1, 8, 3, 0, 0, 187]) := rfl
theorem d47_18 : dec 47 18 = some (.iconst (-1), 1, [4294967295]) := rfl
theorem d47_19 : dec 47 19 = some (.if_icmp .ne 16, 3, [35]) := rfl
theorem d47_22 : dec 47 22 = some (.iload_n 1, 1, []) := rfl
theorem d47_23 : dec 47 23 = some (.iload_n 3, 1, []) := rfl
theorem d47_24 : dec 47 24 = some (.invokestatic 86, 3, [2, 50, 0, 9, 1, 461, 0, 0]) := rfl
theorem d47_27 : dec 47 27 = some (.ifCond .eq 8, 3, [35]) := rfl
theorem d47_30 : dec 47 30 = some (.aload_n 0, 1, []) := rfl
theorem d47_31 : dec 47 31 = some (.iload_n 2, 1, []) := rfl
theorem d47_32 : dec 47 32 = some (.putfield 27, 3, [1, 8, 3, 0, 0, 187]) := rfl
theorem d47_35 : dec 47 35 = some (.iload_n 3, 1, []) := rfl
theorem d47_36 : dec 47 36 = some (.ireturn, 1, [0]) := rfl
theorem l47 : mL 47 = 4 := rfl
theorem c47 {d : Nat} {P : MP} {I : MI} {L : ML} {C : MC} {Q : QT} {len t p : Nat} {tx : Nat → Nat} (hX : XB P) (ht : TX I len tx) (hd : 5 ≤ d) (hp : p < 800) (h3 : t < 3) : CT d 47 [.ref 112, .int (nI t)] P (tS I p (nI 4294967295)) L C Q = Q (.inl (some (.int (nI (nuV tx len 2 p 0))))) P (tS I (nuP tx len 2 p) (fI (waF tx len t p))) L C := by
  have x0 := hX.2.2.2.2.2.1.1
  have hw := nuV_2 (tx := tx) (len := len) (p := p)
  have hb := nuF_b (tx := tx) (len := len) (k := 2) (lo := 0) (hi := 18) (p := p)
  rw [CT_e (mj := 47) (e := [.ref 112, .int (nI t), UN, UN]) (by omega) rfl (Nat.le_of_ble_eq_true rfl)]
  unfold waF
  by_cases z : nuF tx len 2 0 18 p = 0
  · rw [if_pos z]
    by_cases y : 16 ≤ nuV tx len 2 p 0 ∧ nuV tx len 2 p 0 ≤ t + 16
    · rw [if_pos y, fI_s]
      simp (disch := first | assumption | omega) only [Nat.reduceAdd, X_go, go2_some, stp, ldI, ldA, ldL, stI, stA, stL, o1I, o2I, o2L, brI, brII, gl, s1, s2, k1, sl, go_sN, go_sR, go_CT, go_sT, go_no, go_if, pops, bk_v, bk_0, d47_0, d47_1, d47_4, d47_5, d47_6, d47_7, d47_8, d47_10, d47_13, d47_14, d47_15, d47_18, d47_19, d47_22, d47_23, d47_24, d47_27, d47_30, d47_31, d47_32, d47_35, d47_36, n_lt, n_le, n_eq, n_lt0, n_ge0, n_gt0, n_le0, n_eq0, m_lt, m_le, m_gt, m_ge, m_eq, m_eq', m_lt0, m_ge0, m_gt0, m_le0, m_ltm, m_lem, n_in, m_in, n_cl, n_ti, n_div, n_rem', n_dec, n_l, nI_add, pk_mul, an0, an1, decide_eq_true_eq, if_true, if_false, ite_true, ite_false, and_true, true_and, and_false, false_and, not_true, not_false_iff, or_false, false_or, or_true, true_or, eq_self, va_some, Bool.false_eq_true, reduceIte, catS_n, catS_i, catS_r, catS_l, catS_d, Nat.zero_add, Nat.add_zero, decide_true, decide_false, Nat.reduceLeDiff, cat_r, cat_i, cat_l, nle_T, nle_F, nlt_T, nlt_F, neq_T, neq_F, x0, tS_2, tS_3, tS_f, c48 hX ht, z, fI_0, c50, y]
      done
    · rw [if_neg y]
      simp (disch := first | assumption | omega) only [Nat.reduceAdd, X_go, go2_some, stp, ldI, ldA, ldL, stI, stA, stL, o1I, o2I, o2L, brI, brII, gl, s1, s2, k1, sl, go_sN, go_sR, go_CT, go_sT, go_no, go_if, pops, bk_v, bk_0, d47_0, d47_1, d47_4, d47_5, d47_6, d47_7, d47_8, d47_10, d47_13, d47_14, d47_15, d47_18, d47_19, d47_22, d47_23, d47_24, d47_27, d47_30, d47_31, d47_32, d47_35, d47_36, n_lt, n_le, n_eq, n_lt0, n_ge0, n_gt0, n_le0, n_eq0, m_lt, m_le, m_gt, m_ge, m_eq, m_eq', m_lt0, m_ge0, m_gt0, m_le0, m_ltm, m_lem, n_in, m_in, n_cl, n_ti, n_div, n_rem', n_dec, n_l, nI_add, pk_mul, an0, an1, decide_eq_true_eq, if_true, if_false, ite_true, ite_false, and_true, true_and, and_false, false_and, not_true, not_false_iff, or_false, false_or, or_true, true_or, eq_self, va_some, Bool.false_eq_true, reduceIte, catS_n, catS_i, catS_r, catS_l, catS_d, Nat.zero_add, Nat.add_zero, decide_true, decide_false, Nat.reduceLeDiff, cat_r, cat_i, cat_l, nle_T, nle_F, nlt_T, nlt_F, neq_T, neq_F, x0, tS_2, tS_3, tS_f, c48 hX ht, z, fI_0, c50, y]
      done
  · rw [if_neg z]
    obtain ⟨f, hf⟩ : ∃ f, nuF tx len 2 0 18 p = f + 1 := ⟨nuF tx len 2 0 18 p - 1, by omega⟩
    simp (disch := first | assumption | omega) only [Nat.reduceAdd, X_go, go2_some, stp, ldI, ldA, ldL, stI, stA, stL, o1I, o2I, o2L, brI, brII, gl, s1, s2, k1, sl, go_sN, go_sR, go_CT, go_sT, go_no, go_if, pops, bk_v, bk_0, d47_0, d47_1, d47_4, d47_5, d47_6, d47_7, d47_8, d47_10, d47_13, d47_14, d47_15, d47_18, d47_19, d47_22, d47_23, d47_24, d47_27, d47_30, d47_31, d47_32, d47_35, d47_36, n_lt, n_le, n_eq, n_lt0, n_ge0, n_gt0, n_le0, n_eq0, m_lt, m_le, m_gt, m_ge, m_eq, m_eq', m_lt0, m_ge0, m_gt0, m_le0, m_ltm, m_lem, n_in, m_in, n_cl, n_ti, n_div, n_rem', n_dec, n_l, nI_add, pk_mul, an0, an1, decide_eq_true_eq, if_true, if_false, ite_true, ite_false, and_true, true_and, and_false, false_and, not_true, not_false_iff, or_false, false_or, or_true, true_or, eq_self, va_some, Bool.false_eq_true, reduceIte, catS_n, catS_i, catS_r, catS_l, catS_d, Nat.zero_add, Nat.add_zero, decide_true, decide_false, Nat.reduceLeDiff, cat_r, cat_i, cat_l, nle_T, nle_F, nlt_T, nlt_F, neq_T, neq_F, x0, tS_2, tS_3, tS_f, c48 hX ht, hf, fI_s]
    done
theorem c47f {d : Nat} {P : MP} {I : MI} {L : ML} {C : MC} {Q : QT} {p f : Nat} {x : Int32} (hX : XB P) (hd : 4 ≤ d) (hf : f < 1000) : CT d 47 [.ref 112, .int x] P (tS I p (nI f)) L C Q = Q (.inl (some (.int (nI 0)))) P (tS I p (nI f)) L C := by
  have x0 := hX.2.2.2.2.2.1.1
  rw [CT_e (mj := 47) (e := [.ref 112, .int x, UN, UN]) (by omega) rfl (Nat.le_of_ble_eq_true rfl)]
  simp (disch := first | assumption | omega) only [Nat.reduceAdd, X_go, go2_some, stp, ldI, ldA, ldL, stI, stA, stL, o1I, o2I, o2L, brI, brII, gl, s1, s2, k1, sl, go_sN, go_sR, go_CT, go_sT, go_no, go_if, pops, bk_v, bk_0, d47_0, d47_1, d47_4, d47_5, d47_6, d47_7, d47_8, d47_10, d47_13, d47_14, d47_15, d47_18, d47_19, d47_22, d47_23, d47_24, d47_27, d47_30, d47_31, d47_32, d47_35, d47_36, n_lt, n_le, n_eq, n_lt0, n_ge0, n_gt0, n_le0, n_eq0, m_lt, m_le, m_gt, m_ge, m_eq, m_eq', m_lt0, m_ge0, m_gt0, m_le0, m_ltm, m_lem, n_in, m_in, n_cl, n_ti, n_div, n_rem', n_dec, n_l, nI_add, pk_mul, an0, an1, decide_eq_true_eq, if_true, if_false, ite_true, ite_false, and_true, true_and, and_false, false_and, not_true, not_false_iff, or_false, false_or, or_true, true_or, eq_self, va_some, Bool.false_eq_true, reduceIte, catS_n, catS_i, catS_r, catS_l, catS_d, Nat.zero_add, Nat.add_zero, decide_true, decide_false, Nat.reduceLeDiff, cat_r, cat_i, cat_l, nle_T, nle_F, nlt_T, nlt_F, neq_T, neq_F, x0, tS_2, tS_3, c48f hX]
  done
/-- an entry of the text, behind its sign -/
def rEnt (tx : Nat → Nat) (len p : Nat) (g : GS) : Nat ⊕ (Nat × GS) :=
  if taF tx len p g ≠ 0 then .inl (taF tx len p g - 1) else
  if ch tx len (p + 1) 44 = false then .inl (p + 1) else
  if waF tx len (tx p - 48) (p + 2) ≠ 0 then .inl (waF tx len (tx p - 48) (p + 2) - 1) else
  if ch tx len (nuP tx len 2 (p + 2)) 44 = false then .inl (nuP tx len 2 (p + 2)) else
  if nuF tx len 4 1 1000 (nuP tx len 2 (p + 2) + 1) ≠ 0 then .inl (nuF tx len 4 1 1000 (nuP tx len 2 (p + 2) + 1) - 1) else
  if ch tx len (nuP tx len 4 (nuP tx len 2 (p + 2) + 1)) 44 = false then .inl (nuP tx len 4 (nuP tx len 2 (p + 2) + 1)) else
  if isD tx len (nuP tx len 4 (nuP tx len 2 (p + 2) + 1) + 1) 0 (if nuV tx len 2 (p + 2) 0 < 16 then 3 else 0) = false then .inl (nuP tx len 4 (nuP tx len 2 (p + 2) + 1) + 1) else
  if isD tx len (nuP tx len 4 (nuP tx len 2 (p + 2) + 1) + 2) 0 3 = false then .inl (nuP tx len 4 (nuP tx len 2 (p + 2) + 1) + 2) else
  if ch tx len (if ch tx len (nuP tx len 4 (nuP tx len 2 (p + 2) + 1) + 3) 111 = true then nuP tx len 4 (nuP tx len 2 (p + 2) + 1) + 4 else nuP tx len 4 (nuP tx len 2 (p + 2) + 1) + 3) 59 = false then .inl (if ch tx len (nuP tx len 4 (nuP tx len 2 (p + 2) + 1) + 3) 111 = true then nuP tx len 4 (nuP tx len 2 (p + 2) + 1) + 4 else nuP tx len 4 (nuP tx len 2 (p + 2) + 1) + 3) else
  .inr ((if ch tx len (nuP tx len 4 (nuP tx len 2 (p + 2) + 1) + 3) 111 = true then nuP tx len 4 (nuP tx len 2 (p + 2) + 1) + 4 else nuP tx len 4 (nuP tx len 2 (p + 2) + 1) + 3) + 1, addG g (tx p - 48) (nuV tx len 2 (p + 2) 0) (nuV tx len 4 (nuP tx len 2 (p + 2) + 1) 0) (tx (nuP tx len 4 (nuP tx len 2 (p + 2) + 1) + 1) - 48) (tx (nuP tx len 4 (nuP tx len 2 (p + 2) + 1) + 2) - 48) (if ch tx len (nuP tx len 4 (nuP tx len 2 (p + 2) + 1) + 3) 111 = true then 1 else 0))
/-- the part read is right: what holds of it -/
def RO (P : MP) (I : MI) (L : ML) (C : MC) (d mj p len : Nat) (g : GS) (r : Nat ⊕ (Nat × GS)) : Prop := (∃ f p', r = .inl f ∧ f < 1000 ∧ ∀ Q, CT d mj [.ref 112, .ref 114] P (tS I p (nI 4294967295)) L C Q = Q (.inl none) P (tS I p' (nI f)) L C) ∨ ∃ s g' I', r = .inr (s, g') ∧ p < s ∧ s ≤ len ∧ TR I' 114 g' ∧ TV g' ∧ (∀ k, 114 ≤ k → g' k = g k) ∧ (∀ k j, k < 114 ∨ 122 < k → I' k j = I k j) ∧ ∀ Q, CT d mj [.ref 112, .ref 114] P (tS I p (nI 4294967295)) L C Q = Q (.inl none) P (tS I' s (nI 4294967295)) L C
theorem d45_0 : dec 45 0 = some (.aload_n 0, 1, []) := rfl
theorem d45_1 : dec 45 1 = some (.aload_n 1, 1, []) := rfl
theorem d45_2 : dec 45 2 = some (.invokevirtual 60, 3, [2, 46, 2, 8, 0, 445, 2]) := rfl
theorem d45_5 : dec 45 5 = some (.istore_n 2, 1, []) := rfl
theorem d45_6 : dec 45 6 = some (.aload_n 0, 1, []) := rfl
theorem d45_7 : dec 45 7 = some (.bipush 44, 2, [44]) := rfl
theorem d45_9 : dec 45 9 = some (.invokevirtual 48, 3, [2, 43, 2, 8, 0, 434, 0]) := rfl
theorem d45_12 : dec 45 12 = some (.aload_n 0, 1, []) := rfl
theorem d45_13 : dec 45 13 = some (.iload_n 2, 1, []) := rfl
theorem d45_14 : dec 45 14 = some (.invokevirtual 64, 3, [2, 47, 2, 8, 0, 450, 0]) := rfl
theorem d45_17 : dec 45 17 = some (.istore_n 3, 1, []) := rfl
theorem d45_18 : dec 45 18 = some (.aload_n 0, 1, []) := rfl
theorem d45_19 : dec 45 19 = some (.bipush 44, 2, [44]) := rfl
theorem d45_21 : dec 45 21 = some (.invokevirtual 48, 3, [2, 43, 2, 8, 0, 434, 0]) := rfl
theorem d45_24 : dec 45 24 = some (.aload_n 0, 1, []) := rfl
theorem d45_25 : dec 45 25 = some (.iconst 4, 1, [4]) := rfl
theorem d45_26 : dec 45 26 = some (.iconst 1, 1, [1]) := rfl
theorem d45_27 : dec 45 27 = some (.sipush 1000, 3, [1000]) := rfl
theorem d45_30 : dec 45 30 = some (.invokevirtual 68, 3, [2, 48, 2, 8, 0, 454, 0, 0, 0]) := rfl
theorem d45_33 : dec 45 33 = some (.istore 4, 2, []) := rfl
theorem d45_35 : dec 45 35 = some (.aload_n 0, 1, []) := rfl
theorem d45_36 : dec 45 36 = some (.bipush 44, 2, [44]) := rfl
theorem d45_38 : dec 45 38 = some (.invokevirtual 48, 3, [2, 43, 2, 8, 0, 434, 0]) := rfl
theorem d45_41 : dec 45 41 = some (.aload_n 0, 1, []) := rfl
theorem d45_42 : dec 45 42 = some (.iconst 0, 1, [0]) := rfl
theorem d45_43 : dec 45 43 = some (.iload_n 3, 1, []) := rfl
theorem d45_44 : dec 45 44 = some (.invokestatic 72, 3, [2, 53, 0, 9, 1, 470, 0]) := rfl
theorem d45_47 : dec 45 47 = some (.invokevirtual 44, 3, [2, 42, 2, 8, 0, 430, 0, 0]) := rfl
theorem d45_50 : dec 45 50 = some (.istore 5, 2, []) := rfl
theorem d45_52 : dec 45 52 = some (.aload_n 0, 1, []) := rfl
theorem d45_53 : dec 45 53 = some (.iconst 0, 1, [0]) := rfl
theorem d45_54 : dec 45 54 = some (.iconst 3, 1, [3]) := rfl
theorem d45_55 : dec 45 55 = some (.invokevirtual 44, 3, [2, 42, 2, 8, 0, 430, 0, 0]) := rfl
theorem d45_58 : dec 45 58 = some (.istore 6, 2, []) := rfl
theorem d45_60 : dec 45 60 = some (.aload_n 0, 1, []) := rfl
theorem d45_61 : dec 45 61 = some (.invokevirtual 75, 3, [2, 54, 2, 8, 0, 473]) := rfl
theorem d45_64 : dec 45 64 = some (.istore 7, 2, []) := rfl
theorem d45_66 : dec 45 66 = some (.aload_n 0, 1, []) := rfl
theorem d45_67 : dec 45 67 = some (.bipush 59, 2, [59]) := rfl
theorem d45_69 : dec 45 69 = some (.invokevirtual 48, 3, [2, 43, 2, 8, 0, 434, 0]) := rfl
theorem d45_72 : dec 45 72 = some (.aload_n 0, 1, []) := rfl
theorem d45_73 : dec 45 73 = some (.getfield 27, 3, [1, 8, 3, 0, 0, 187]) := rfl
theorem d45_76 : dec 45 76 = some (.iconst (-1), 1, [4294967295]) := rfl
theorem d45_77 : dec 45 77 = some (.if_icmp .ne 18, 3, [95]) := rfl
theorem d45_80 : dec 45 80 = some (.aload_n 1, 1, []) := rfl
theorem d45_81 : dec 45 81 = some (.iload_n 2, 1, []) := rfl
theorem d45_82 : dec 45 82 = some (.iload_n 3, 1, []) := rfl
theorem d45_83 : dec 45 83 = some (.iload 4, 2, []) := rfl
theorem d45_85 : dec 45 85 = some (.iload 5, 2, []) := rfl
theorem d45_87 : dec 45 87 = some (.iload 6, 2, []) := rfl
theorem d45_89 : dec 45 89 = some (.iload 7, 2, []) := rfl
theorem d45_91 : dec 45 91 = some (.invokevirtual 79, 3, [2, 55, 2, 7, 0, 477, 0, 0, 0, 0, 0, 0]) := rfl
theorem d45_94 : dec 45 94 = some (.pop, 1, []) := rfl
theorem d45_95 : dec 45 95 = some (.return_, 1, []) := rfl
theorem l45 : mL 45 = 8 := rfl
theorem c45 {d : Nat} {P : MP} {I : MI} {L : ML} {C : MC} {len p : Nat} {g : GS} {tx : Nat → Nat} (hX : XB P) (ht : TX I len tx) (hg : TR I 114 g) (hv : TV g) (hd : 6 ≤ d) (hp : p ≤ len) : RO P I L C d 45 p len g (rEnt tx len p g) := by
  have x0 := hX.2.2.2.2.2.1.1
  have hT := hX.2.2.2.2.2.2.1
  have hT0 := hT.1.1
  have hlen := ht.2.1
  have hgt : ∀ q, TR (tS I q (nI 4294967295)) 114 g := fun q => TR_fr hg fun k j (_ : 115 ≤ k) (_ : k ≤ 122) => (tS_n (by omega) : tS I q (nI 4294967295) k j = I k j)
  have he : ∀ Q, CT d 45 [.ref 112, .ref 114] P (tS I p (nI 4294967295)) L C Q = X (d - 1) 45 0 [.ref 112, .ref 114, UN, UN, UN, UN, UN, UN] [] P (tS I p (nI 4294967295)) L C Q := fun Q => CT_e (mj := 45) (e := [.ref 112, .ref 114, UN, UN, UN, UN, UN, UN]) (by omega) rfl (Nat.le_of_ble_eq_true rfl)
  unfold RO rEnt
  by_cases a1 : isD tx len p 0 2 = true
  case neg =>
    rw [Bool.not_eq_true] at a1
    have e : taF tx len p g = p + 1 := by unfold taF; rw [a1]; rfl
    rw [e, if_pos (by omega)]
    refine .inl ⟨p, p, by rw [Nat.add_sub_cancel], by omega, fun Q => ?_⟩
    rw [he]
    simp (disch := first | assumption | omega) only [Nat.reduceAdd, X_go, go2_some, stp, ldI, ldA, ldL, stI, stA, stL, o1I, o2I, o2L, brI, brII, gl, s1, s2, k1, sl, go_sN, go_sR, go_CT, go_sT, go_no, go_if, pops, bk_v, bk_0, d45_0, d45_1, d45_2, d45_5, d45_6, d45_7, d45_9, d45_12, d45_13, d45_14, d45_17, d45_18, d45_19, d45_21, d45_24, d45_25, d45_26, d45_27, d45_30, d45_33, d45_35, d45_36, d45_38, d45_41, d45_42, d45_43, d45_44, d45_47, d45_50, d45_52, d45_53, d45_54, d45_55, d45_58, d45_60, d45_61, d45_64, d45_66, d45_67, d45_69, d45_72, d45_73, d45_76, d45_77, d45_80, d45_81, d45_82, d45_83, d45_85, d45_87, d45_89, d45_91, d45_94, d45_95, n_lt, n_le, n_eq, n_lt0, n_ge0, n_gt0, n_le0, n_eq0, m_lt, m_le, m_gt, m_ge, m_eq, m_eq', m_lt0, m_ge0, m_gt0, m_le0, m_ltm, m_lem, n_in, m_in, n_cl, n_ti, n_div, n_rem', n_dec, n_l, nI_add, pk_mul, an0, an1, decide_eq_true_eq, if_true, if_false, ite_true, ite_false, and_true, true_and, and_false, false_and, not_true, not_false_iff, or_false, false_or, or_true, true_or, eq_self, va_some, Bool.false_eq_true, reduceIte, catS_n, catS_i, catS_r, catS_l, catS_d, Nat.zero_add, Nat.add_zero, decide_true, decide_false, Nat.reduceLeDiff, cat_r, cat_i, cat_l, nle_T, nle_F, nlt_T, nlt_F, neq_T, neq_F, x0, tS_3, c46n hX ht a1, c43f hX, c47f hX, c48f hX, c42f hX, c54f hX, c53]
    done
  case pos =>
  have b1 := isD_b a1
  by_cases a2 : g (3 + (tx p - 48)) < 6
  case neg =>
    have e : taF tx len p g = p + 1 := by unfold taF; rw [if_pos a1, if_neg a2]
    rw [e, if_pos (by omega)]
    refine .inl ⟨p, p + 1, by rw [Nat.add_sub_cancel], by omega, fun Q => ?_⟩
    rw [he]
    simp (disch := first | assumption | omega) only [Nat.reduceAdd, X_go, go2_some, stp, ldI, ldA, ldL, stI, stA, stL, o1I, o2I, o2L, brI, brII, gl, s1, s2, k1, sl, go_sN, go_sR, go_CT, go_sT, go_no, go_if, pops, bk_v, bk_0, d45_0, d45_1, d45_2, d45_5, d45_6, d45_7, d45_9, d45_12, d45_13, d45_14, d45_17, d45_18, d45_19, d45_21, d45_24, d45_25, d45_26, d45_27, d45_30, d45_33, d45_35, d45_36, d45_38, d45_41, d45_42, d45_43, d45_44, d45_47, d45_50, d45_52, d45_53, d45_54, d45_55, d45_58, d45_60, d45_61, d45_64, d45_66, d45_67, d45_69, d45_72, d45_73, d45_76, d45_77, d45_80, d45_81, d45_82, d45_83, d45_85, d45_87, d45_89, d45_91, d45_94, d45_95, n_lt, n_le, n_eq, n_lt0, n_ge0, n_gt0, n_le0, n_eq0, m_lt, m_le, m_gt, m_ge, m_eq, m_eq', m_lt0, m_ge0, m_gt0, m_le0, m_ltm, m_lem, n_in, m_in, n_cl, n_ti, n_div, n_rem', n_dec, n_l, nI_add, pk_mul, an0, an1, decide_eq_true_eq, if_true, if_false, ite_true, ite_false, and_true, true_and, and_false, false_and, not_true, not_false_iff, or_false, false_or, or_true, true_or, eq_self, va_some, Bool.false_eq_true, reduceIte, catS_n, catS_i, catS_r, catS_l, catS_d, Nat.zero_add, Nat.add_zero, decide_true, decide_false, Nat.reduceLeDiff, cat_r, cat_i, cat_l, nle_T, nle_F, nlt_T, nlt_F, neq_T, neq_F, x0, tS_3, c46r hX ht hg hv a1 a2, c43f hX, c47f hX, c48f hX, c42f hX, c54f hX, c53]
    done
  case pos =>
  have e1 : taF tx len p g = 0 := by unfold taF; rw [if_pos a1, if_pos a2]
  rw [e1, if_neg (by omega)]
  by_cases a3 : ch tx len (p + 1) 44 = false
  · rw [if_pos a3]
    refine .inl ⟨p + 1, p + 1, rfl, by omega, fun Q => ?_⟩
    rw [he]
    simp (disch := first | assumption | omega) only [Nat.reduceAdd, X_go, go2_some, stp, ldI, ldA, ldL, stI, stA, stL, o1I, o2I, o2L, brI, brII, gl, s1, s2, k1, sl, go_sN, go_sR, go_CT, go_sT, go_no, go_if, pops, bk_v, bk_0, d45_0, d45_1, d45_2, d45_5, d45_6, d45_7, d45_9, d45_12, d45_13, d45_14, d45_17, d45_18, d45_19, d45_21, d45_24, d45_25, d45_26, d45_27, d45_30, d45_33, d45_35, d45_36, d45_38, d45_41, d45_42, d45_43, d45_44, d45_47, d45_50, d45_52, d45_53, d45_54, d45_55, d45_58, d45_60, d45_61, d45_64, d45_66, d45_67, d45_69, d45_72, d45_73, d45_76, d45_77, d45_80, d45_81, d45_82, d45_83, d45_85, d45_87, d45_89, d45_91, d45_94, d45_95, n_lt, n_le, n_eq, n_lt0, n_ge0, n_gt0, n_le0, n_eq0, m_lt, m_le, m_gt, m_ge, m_eq, m_eq', m_lt0, m_ge0, m_gt0, m_le0, m_ltm, m_lem, n_in, m_in, n_cl, n_ti, n_div, n_rem', n_dec, n_l, nI_add, pk_mul, an0, an1, decide_eq_true_eq, if_true, if_false, ite_true, ite_false, and_true, true_and, and_false, false_and, not_true, not_false_iff, or_false, false_or, or_true, true_or, eq_self, va_some, Bool.false_eq_true, reduceIte, catS_n, catS_i, catS_r, catS_l, catS_d, Nat.zero_add, Nat.add_zero, decide_true, decide_false, Nat.reduceLeDiff, cat_r, cat_i, cat_l, nle_T, nle_F, nlt_T, nlt_F, neq_T, neq_F, x0, tS_3, c46 hX ht hg hv a1 a2, c43n hX ht a3, c43f hX, c47f hX, c48f hX, c42f hX, c54f hX, c53]
    done
  rw [if_neg a3]
  rw [Bool.not_eq_false] at a3
  have b3 := ch_b a3
  have hw100 := nuV_2 (tx := tx) (len := len) (p := p + 2)
  have hq := nuP_b (tx := tx) (len := len) 2 (p + 2)
  by_cases a4 : waF tx len (tx p - 48) (p + 2) ≠ 0
  · rw [if_pos a4]
    have hwb := waF_b (tx := tx) (len := len) (t := tx p - 48) (p := p + 2)
    obtain ⟨f, hf⟩ : ∃ f, waF tx len (tx p - 48) (p + 2) = f + 1 := ⟨waF tx len (tx p - 48) (p + 2) - 1, by omega⟩
    rw [hf] at hwb ⊢
    refine .inl ⟨f, nuP tx len 2 (p + 2), by rw [Nat.add_sub_cancel], by omega, fun Q => ?_⟩
    rw [he]
    simp (disch := first | assumption | omega) only [Nat.reduceAdd, X_go, go2_some, stp, ldI, ldA, ldL, stI, stA, stL, o1I, o2I, o2L, brI, brII, gl, s1, s2, k1, sl, go_sN, go_sR, go_CT, go_sT, go_no, go_if, pops, bk_v, bk_0, d45_0, d45_1, d45_2, d45_5, d45_6, d45_7, d45_9, d45_12, d45_13, d45_14, d45_17, d45_18, d45_19, d45_21, d45_24, d45_25, d45_26, d45_27, d45_30, d45_33, d45_35, d45_36, d45_38, d45_41, d45_42, d45_43, d45_44, d45_47, d45_50, d45_52, d45_53, d45_54, d45_55, d45_58, d45_60, d45_61, d45_64, d45_66, d45_67, d45_69, d45_72, d45_73, d45_76, d45_77, d45_80, d45_81, d45_82, d45_83, d45_85, d45_87, d45_89, d45_91, d45_94, d45_95, n_lt, n_le, n_eq, n_lt0, n_ge0, n_gt0, n_le0, n_eq0, m_lt, m_le, m_gt, m_ge, m_eq, m_eq', m_lt0, m_ge0, m_gt0, m_le0, m_ltm, m_lem, n_in, m_in, n_cl, n_ti, n_div, n_rem', n_dec, n_l, nI_add, pk_mul, an0, an1, decide_eq_true_eq, if_true, if_false, ite_true, ite_false, and_true, true_and, and_false, false_and, not_true, not_false_iff, or_false, false_or, or_true, true_or, eq_self, va_some, Bool.false_eq_true, reduceIte, catS_n, catS_i, catS_r, catS_l, catS_d, Nat.zero_add, Nat.add_zero, decide_true, decide_false, Nat.reduceLeDiff, cat_r, cat_i, cat_l, nle_T, nle_F, nlt_T, nlt_F, neq_T, neq_F, x0, tS_3, c46 hX ht hg hv a1 a2, c43 hX ht a3, c47 hX ht, hf, fI_s, c43f hX, c48f hX, c42f hX, c54f hX, c53]
    done
  rw [if_neg a4]
  have a4 : waF tx len (tx p - 48) (p + 2) = 0 := by omega
  have b4 : nuF tx len 2 0 18 (p + 2) = 0 ∧ ¬ (16 ≤ nuV tx len 2 (p + 2) 0 ∧ nuV tx len 2 (p + 2) 0 ≤ (tx p - 48) + 16) := by
    unfold waF at a4
    split at a4
    · rename_i h
      refine ⟨h, ?_⟩
      split at a4
      · omega
      · assumption
    · omega
  have b5 := nuF_0 b4.1
  generalize hw : nuV tx len 2 (p + 2) 0 = w at hw100 b4 b5 ⊢
  generalize hqq : nuP tx len 2 (p + 2) = q at hq b5 ⊢
  by_cases a5 : ch tx len q 44 = false
  · rw [if_pos a5]
    refine .inl ⟨q, q, rfl, by omega, fun Q => ?_⟩
    rw [he]
    simp (disch := first | assumption | omega) only [Nat.reduceAdd, X_go, go2_some, stp, ldI, ldA, ldL, stI, stA, stL, o1I, o2I, o2L, brI, brII, gl, s1, s2, k1, sl, go_sN, go_sR, go_CT, go_sT, go_no, go_if, pops, bk_v, bk_0, d45_0, d45_1, d45_2, d45_5, d45_6, d45_7, d45_9, d45_12, d45_13, d45_14, d45_17, d45_18, d45_19, d45_21, d45_24, d45_25, d45_26, d45_27, d45_30, d45_33, d45_35, d45_36, d45_38, d45_41, d45_42, d45_43, d45_44, d45_47, d45_50, d45_52, d45_53, d45_54, d45_55, d45_58, d45_60, d45_61, d45_64, d45_66, d45_67, d45_69, d45_72, d45_73, d45_76, d45_77, d45_80, d45_81, d45_82, d45_83, d45_85, d45_87, d45_89, d45_91, d45_94, d45_95, n_lt, n_le, n_eq, n_lt0, n_ge0, n_gt0, n_le0, n_eq0, m_lt, m_le, m_gt, m_ge, m_eq, m_eq', m_lt0, m_ge0, m_gt0, m_le0, m_ltm, m_lem, n_in, m_in, n_cl, n_ti, n_div, n_rem', n_dec, n_l, nI_add, pk_mul, an0, an1, decide_eq_true_eq, if_true, if_false, ite_true, ite_false, and_true, true_and, and_false, false_and, not_true, not_false_iff, or_false, false_or, or_true, true_or, eq_self, va_some, Bool.false_eq_true, reduceIte, catS_n, catS_i, catS_r, catS_l, catS_d, Nat.zero_add, Nat.add_zero, decide_true, decide_false, Nat.reduceLeDiff, cat_r, cat_i, cat_l, nle_T, nle_F, nlt_T, nlt_F, neq_T, neq_F, x0, tS_3, c46 hX ht hg hv a1 a2, c43 hX ht a3, c47 hX ht, a4, hw, hqq, fI_0, c43n hX ht a5, c43f hX, c48f hX, c42f hX, c54f hX, c53]
    done
  rw [if_neg a5]
  rw [Bool.not_eq_false] at a5
  have b6 := ch_b a5
  have hr := nuP_b (tx := tx) (len := len) 4 (q + 1)
  by_cases a6 : nuF tx len 4 1 1000 (q + 1) ≠ 0
  · rw [if_pos a6]
    have hwb := nuF_b (tx := tx) (len := len) (k := 4) (lo := 1) (hi := 1000) (p := q + 1)
    obtain ⟨f, hf⟩ : ∃ f, nuF tx len 4 1 1000 (q + 1) = f + 1 := ⟨nuF tx len 4 1 1000 (q + 1) - 1, by omega⟩
    rw [hf] at hwb ⊢
    refine .inl ⟨f, nuP tx len 4 (q + 1), by rw [Nat.add_sub_cancel], by omega, fun Q => ?_⟩
    rw [he]
    simp (disch := first | assumption | omega) only [Nat.reduceAdd, X_go, go2_some, stp, ldI, ldA, ldL, stI, stA, stL, o1I, o2I, o2L, brI, brII, gl, s1, s2, k1, sl, go_sN, go_sR, go_CT, go_sT, go_no, go_if, pops, bk_v, bk_0, d45_0, d45_1, d45_2, d45_5, d45_6, d45_7, d45_9, d45_12, d45_13, d45_14, d45_17, d45_18, d45_19, d45_21, d45_24, d45_25, d45_26, d45_27, d45_30, d45_33, d45_35, d45_36, d45_38, d45_41, d45_42, d45_43, d45_44, d45_47, d45_50, d45_52, d45_53, d45_54, d45_55, d45_58, d45_60, d45_61, d45_64, d45_66, d45_67, d45_69, d45_72, d45_73, d45_76, d45_77, d45_80, d45_81, d45_82, d45_83, d45_85, d45_87, d45_89, d45_91, d45_94, d45_95, n_lt, n_le, n_eq, n_lt0, n_ge0, n_gt0, n_le0, n_eq0, m_lt, m_le, m_gt, m_ge, m_eq, m_eq', m_lt0, m_ge0, m_gt0, m_le0, m_ltm, m_lem, n_in, m_in, n_cl, n_ti, n_div, n_rem', n_dec, n_l, nI_add, pk_mul, an0, an1, decide_eq_true_eq, if_true, if_false, ite_true, ite_false, and_true, true_and, and_false, false_and, not_true, not_false_iff, or_false, false_or, or_true, true_or, eq_self, va_some, Bool.false_eq_true, reduceIte, catS_n, catS_i, catS_r, catS_l, catS_d, Nat.zero_add, Nat.add_zero, decide_true, decide_false, Nat.reduceLeDiff, cat_r, cat_i, cat_l, nle_T, nle_F, nlt_T, nlt_F, neq_T, neq_F, x0, tS_3, c46 hX ht hg hv a1 a2, c43 hX ht a3, c47 hX ht, a4, hw, hqq, fI_0, c43 hX ht a5, c48 hX ht, hf, fI_s, c43f hX, c42f hX, c54f hX, c53]
    done
  rw [if_neg a6]
  have a6 : nuF tx len 4 1 1000 (q + 1) = 0 := by omega
  have b7 := nuF_0 a6
  generalize hwe : nuV tx len 4 (q + 1) 0 = we at b7 ⊢
  generalize hrr : nuP tx len 4 (q + 1) = r at hr b7 ⊢
  by_cases a7 : ch tx len r 44 = false
  · rw [if_pos a7]
    refine .inl ⟨r, r, rfl, by omega, fun Q => ?_⟩
    rw [he]
    simp (disch := first | assumption | omega) only [Nat.reduceAdd, X_go, go2_some, stp, ldI, ldA, ldL, stI, stA, stL, o1I, o2I, o2L, brI, brII, gl, s1, s2, k1, sl, go_sN, go_sR, go_CT, go_sT, go_no, go_if, pops, bk_v, bk_0, d45_0, d45_1, d45_2, d45_5, d45_6, d45_7, d45_9, d45_12, d45_13, d45_14, d45_17, d45_18, d45_19, d45_21, d45_24, d45_25, d45_26, d45_27, d45_30, d45_33, d45_35, d45_36, d45_38, d45_41, d45_42, d45_43, d45_44, d45_47, d45_50, d45_52, d45_53, d45_54, d45_55, d45_58, d45_60, d45_61, d45_64, d45_66, d45_67, d45_69, d45_72, d45_73, d45_76, d45_77, d45_80, d45_81, d45_82, d45_83, d45_85, d45_87, d45_89, d45_91, d45_94, d45_95, n_lt, n_le, n_eq, n_lt0, n_ge0, n_gt0, n_le0, n_eq0, m_lt, m_le, m_gt, m_ge, m_eq, m_eq', m_lt0, m_ge0, m_gt0, m_le0, m_ltm, m_lem, n_in, m_in, n_cl, n_ti, n_div, n_rem', n_dec, n_l, nI_add, pk_mul, an0, an1, decide_eq_true_eq, if_true, if_false, ite_true, ite_false, and_true, true_and, and_false, false_and, not_true, not_false_iff, or_false, false_or, or_true, true_or, eq_self, va_some, Bool.false_eq_true, reduceIte, catS_n, catS_i, catS_r, catS_l, catS_d, Nat.zero_add, Nat.add_zero, decide_true, decide_false, Nat.reduceLeDiff, cat_r, cat_i, cat_l, nle_T, nle_F, nlt_T, nlt_F, neq_T, neq_F, x0, tS_3, c46 hX ht hg hv a1 a2, c43 hX ht a3, c47 hX ht, a4, hw, hqq, fI_0, c43 hX ht a5, c48 hX ht, a6, hwe, hrr, c43n hX ht a7, c42f hX, c43f hX, c54f hX, c53]
    done
  rw [if_neg a7]
  rw [Bool.not_eq_false] at a7
  have b8 := ch_b a7
  have hm : (if w < 16 then 3 else 0) < 4 := by split <;> omega
  generalize hmm : (if w < 16 then 3 else 0) = mr at hm ⊢
  by_cases a8 : isD tx len (r + 1) 0 mr = false
  · rw [if_pos a8]
    refine .inl ⟨r + 1, r + 1, rfl, by omega, fun Q => ?_⟩
    rw [he]
    simp (disch := first | assumption | omega) only [Nat.reduceAdd, X_go, go2_some, stp, ldI, ldA, ldL, stI, stA, stL, o1I, o2I, o2L, brI, brII, gl, s1, s2, k1, sl, go_sN, go_sR, go_CT, go_sT, go_no, go_if, pops, bk_v, bk_0, d45_0, d45_1, d45_2, d45_5, d45_6, d45_7, d45_9, d45_12, d45_13, d45_14, d45_17, d45_18, d45_19, d45_21, d45_24, d45_25, d45_26, d45_27, d45_30, d45_33, d45_35, d45_36, d45_38, d45_41, d45_42, d45_43, d45_44, d45_47, d45_50, d45_52, d45_53, d45_54, d45_55, d45_58, d45_60, d45_61, d45_64, d45_66, d45_67, d45_69, d45_72, d45_73, d45_76, d45_77, d45_80, d45_81, d45_82, d45_83, d45_85, d45_87, d45_89, d45_91, d45_94, d45_95, n_lt, n_le, n_eq, n_lt0, n_ge0, n_gt0, n_le0, n_eq0, m_lt, m_le, m_gt, m_ge, m_eq, m_eq', m_lt0, m_ge0, m_gt0, m_le0, m_ltm, m_lem, n_in, m_in, n_cl, n_ti, n_div, n_rem', n_dec, n_l, nI_add, pk_mul, an0, an1, decide_eq_true_eq, if_true, if_false, ite_true, ite_false, and_true, true_and, and_false, false_and, not_true, not_false_iff, or_false, false_or, or_true, true_or, eq_self, va_some, Bool.false_eq_true, reduceIte, catS_n, catS_i, catS_r, catS_l, catS_d, Nat.zero_add, Nat.add_zero, decide_true, decide_false, Nat.reduceLeDiff, cat_r, cat_i, cat_l, nle_T, nle_F, nlt_T, nlt_F, neq_T, neq_F, x0, tS_3, c46 hX ht hg hv a1 a2, c43 hX ht a3, c47 hX ht, a4, hw, hqq, fI_0, c43 hX ht a5, c48 hX ht, a6, hwe, hrr, c43 hX ht a7, hmm, c42n hX ht a8, c42f hX, c43f hX, c54f hX, c53]
    done
  rw [if_neg a8]
  rw [Bool.not_eq_false] at a8
  have b9 := isD_b a8
  by_cases a9 : isD tx len (r + 2) 0 3 = false
  · rw [if_pos a9]
    refine .inl ⟨r + 2, r + 2, rfl, by omega, fun Q => ?_⟩
    rw [he]
    simp (disch := first | assumption | omega) only [Nat.reduceAdd, X_go, go2_some, stp, ldI, ldA, ldL, stI, stA, stL, o1I, o2I, o2L, brI, brII, gl, s1, s2, k1, sl, go_sN, go_sR, go_CT, go_sT, go_no, go_if, pops, bk_v, bk_0, d45_0, d45_1, d45_2, d45_5, d45_6, d45_7, d45_9, d45_12, d45_13, d45_14, d45_17, d45_18, d45_19, d45_21, d45_24, d45_25, d45_26, d45_27, d45_30, d45_33, d45_35, d45_36, d45_38, d45_41, d45_42, d45_43, d45_44, d45_47, d45_50, d45_52, d45_53, d45_54, d45_55, d45_58, d45_60, d45_61, d45_64, d45_66, d45_67, d45_69, d45_72, d45_73, d45_76, d45_77, d45_80, d45_81, d45_82, d45_83, d45_85, d45_87, d45_89, d45_91, d45_94, d45_95, n_lt, n_le, n_eq, n_lt0, n_ge0, n_gt0, n_le0, n_eq0, m_lt, m_le, m_gt, m_ge, m_eq, m_eq', m_lt0, m_ge0, m_gt0, m_le0, m_ltm, m_lem, n_in, m_in, n_cl, n_ti, n_div, n_rem', n_dec, n_l, nI_add, pk_mul, an0, an1, decide_eq_true_eq, if_true, if_false, ite_true, ite_false, and_true, true_and, and_false, false_and, not_true, not_false_iff, or_false, false_or, or_true, true_or, eq_self, va_some, Bool.false_eq_true, reduceIte, catS_n, catS_i, catS_r, catS_l, catS_d, Nat.zero_add, Nat.add_zero, decide_true, decide_false, Nat.reduceLeDiff, cat_r, cat_i, cat_l, nle_T, nle_F, nlt_T, nlt_F, neq_T, neq_F, x0, tS_3, c46 hX ht hg hv a1 a2, c43 hX ht a3, c47 hX ht, a4, hw, hqq, fI_0, c43 hX ht a5, c48 hX ht, a6, hwe, hrr, c43 hX ht a7, hmm, c42 hX ht a8, c42n hX ht a9, c43f hX, c54f hX, c53]
    done
  rw [if_neg a9]
  rw [Bool.not_eq_false] at a9
  have b10 := isD_b a9
  have hcc : g (3 + (tx p - 48)) < 6 := a2
  have htt : tx p - 48 < 3 := by omega
  have hra : mr ≤ 3 := by omega
  have hra2 : 16 ≤ w → mr = 0 := fun h => by rw [← hmm]; exact if_neg (by omega)
  by_cases a10 : ch tx len (r + 3) 111 = true
  · rw [if_pos a10, if_pos a10]
    have b11 := ch_b a10
    by_cases a11 : ch tx len (r + 4) 59 = false
    · rw [if_pos a11]
      refine .inl ⟨r + 4, r + 4, rfl, by omega, fun Q => ?_⟩
      rw [he]
      simp (disch := first | assumption | omega) only [Nat.reduceAdd, X_go, go2_some, stp, ldI, ldA, ldL, stI, stA, stL, o1I, o2I, o2L, brI, brII, gl, s1, s2, k1, sl, go_sN, go_sR, go_CT, go_sT, go_no, go_if, pops, bk_v, bk_0, d45_0, d45_1, d45_2, d45_5, d45_6, d45_7, d45_9, d45_12, d45_13, d45_14, d45_17, d45_18, d45_19, d45_21, d45_24, d45_25, d45_26, d45_27, d45_30, d45_33, d45_35, d45_36, d45_38, d45_41, d45_42, d45_43, d45_44, d45_47, d45_50, d45_52, d45_53, d45_54, d45_55, d45_58, d45_60, d45_61, d45_64, d45_66, d45_67, d45_69, d45_72, d45_73, d45_76, d45_77, d45_80, d45_81, d45_82, d45_83, d45_85, d45_87, d45_89, d45_91, d45_94, d45_95, n_lt, n_le, n_eq, n_lt0, n_ge0, n_gt0, n_le0, n_eq0, m_lt, m_le, m_gt, m_ge, m_eq, m_eq', m_lt0, m_ge0, m_gt0, m_le0, m_ltm, m_lem, n_in, m_in, n_cl, n_ti, n_div, n_rem', n_dec, n_l, nI_add, pk_mul, an0, an1, decide_eq_true_eq, if_true, if_false, ite_true, ite_false, and_true, true_and, and_false, false_and, not_true, not_false_iff, or_false, false_or, or_true, true_or, eq_self, va_some, Bool.false_eq_true, reduceIte, catS_n, catS_i, catS_r, catS_l, catS_d, Nat.zero_add, Nat.add_zero, decide_true, decide_false, Nat.reduceLeDiff, cat_r, cat_i, cat_l, nle_T, nle_F, nlt_T, nlt_F, neq_T, neq_F, x0, tS_3, c46 hX ht hg hv a1 a2, c43 hX ht a3, c47 hX ht, a4, hw, hqq, fI_0, c43 hX ht a5, c48 hX ht, a6, hwe, hrr, c43 hX ht a7, hmm, c42 hX ht a8, c42 hX ht a9, c54 hX ht a10, c43n hX ht a11, c53]
      done
    rw [if_neg a11]
    rw [Bool.not_eq_false] at a11
    have b12 := ch_b a11
    refine .inr ⟨_, _, _, rfl, by omega, by omega, TR_add hg hv htt hcc, TV_add hv htt hcc (by omega) (fun _ => by omega) (fun h => ⟨by omega, by have := hra2 h; omega⟩) b7.2.2.1 b7.2.2.2 (by omega) (by omega), fun k hk => addG_o htt hcc (.inr hk), fun k j h => ?_, fun Q => ?_⟩
    · simp (disch := omega) only [xu_n]
    · rw [he]
      simp (disch := first | assumption | omega) only [Nat.reduceAdd, X_go, go2_some, stp, ldI, ldA, ldL, stI, stA, stL, o1I, o2I, o2L, brI, brII, gl, s1, s2, k1, sl, go_sN, go_sR, go_CT, go_sT, go_no, go_if, pops, bk_v, bk_0, d45_0, d45_1, d45_2, d45_5, d45_6, d45_7, d45_9, d45_12, d45_13, d45_14, d45_17, d45_18, d45_19, d45_21, d45_24, d45_25, d45_26, d45_27, d45_30, d45_33, d45_35, d45_36, d45_38, d45_41, d45_42, d45_43, d45_44, d45_47, d45_50, d45_52, d45_53, d45_54, d45_55, d45_58, d45_60, d45_61, d45_64, d45_66, d45_67, d45_69, d45_72, d45_73, d45_76, d45_77, d45_80, d45_81, d45_82, d45_83, d45_85, d45_87, d45_89, d45_91, d45_94, d45_95, n_lt, n_le, n_eq, n_lt0, n_ge0, n_gt0, n_le0, n_eq0, m_lt, m_le, m_gt, m_ge, m_eq, m_eq', m_lt0, m_ge0, m_gt0, m_le0, m_ltm, m_lem, n_in, m_in, n_cl, n_ti, n_div, n_rem', n_dec, n_l, nI_add, pk_mul, an0, an1, decide_eq_true_eq, if_true, if_false, ite_true, ite_false, and_true, true_and, and_false, false_and, not_true, not_false_iff, or_false, false_or, or_true, true_or, eq_self, va_some, Bool.false_eq_true, reduceIte, catS_n, catS_i, catS_r, catS_l, catS_d, Nat.zero_add, Nat.add_zero, decide_true, decide_false, Nat.reduceLeDiff, cat_r, cat_i, cat_l, nle_T, nle_F, nlt_T, nlt_F, neq_T, neq_F, x0, hT0, tS_3, c46 hX ht hg hv a1 a2, c43 hX ht a3, c47 hX ht, a4, hw, hqq, fI_0, c43 hX ht a5, c48 hX ht, a6, hwe, hrr, c43 hX ht a7, hmm, c42 hX ht a8, c42 hX ht a9, c54 hX ht a10, c43 hX ht a11, c53, c55 hT (hgt _), tS_u]
      done
  · rw [Bool.not_eq_true] at a10
    rw [a10, if_neg (show ¬ (false = true) by decide), if_neg (show ¬ (false = true) by decide)]
    by_cases a11 : ch tx len (r + 3) 59 = false
    · rw [if_pos a11]
      refine .inl ⟨r + 3, r + 3, rfl, by omega, fun Q => ?_⟩
      rw [he]
      simp (disch := first | assumption | omega) only [Nat.reduceAdd, X_go, go2_some, stp, ldI, ldA, ldL, stI, stA, stL, o1I, o2I, o2L, brI, brII, gl, s1, s2, k1, sl, go_sN, go_sR, go_CT, go_sT, go_no, go_if, pops, bk_v, bk_0, d45_0, d45_1, d45_2, d45_5, d45_6, d45_7, d45_9, d45_12, d45_13, d45_14, d45_17, d45_18, d45_19, d45_21, d45_24, d45_25, d45_26, d45_27, d45_30, d45_33, d45_35, d45_36, d45_38, d45_41, d45_42, d45_43, d45_44, d45_47, d45_50, d45_52, d45_53, d45_54, d45_55, d45_58, d45_60, d45_61, d45_64, d45_66, d45_67, d45_69, d45_72, d45_73, d45_76, d45_77, d45_80, d45_81, d45_82, d45_83, d45_85, d45_87, d45_89, d45_91, d45_94, d45_95, n_lt, n_le, n_eq, n_lt0, n_ge0, n_gt0, n_le0, n_eq0, m_lt, m_le, m_gt, m_ge, m_eq, m_eq', m_lt0, m_ge0, m_gt0, m_le0, m_ltm, m_lem, n_in, m_in, n_cl, n_ti, n_div, n_rem', n_dec, n_l, nI_add, pk_mul, an0, an1, decide_eq_true_eq, if_true, if_false, ite_true, ite_false, and_true, true_and, and_false, false_and, not_true, not_false_iff, or_false, false_or, or_true, true_or, eq_self, va_some, Bool.false_eq_true, reduceIte, catS_n, catS_i, catS_r, catS_l, catS_d, Nat.zero_add, Nat.add_zero, decide_true, decide_false, Nat.reduceLeDiff, cat_r, cat_i, cat_l, nle_T, nle_F, nlt_T, nlt_F, neq_T, neq_F, x0, tS_3, c46 hX ht hg hv a1 a2, c43 hX ht a3, c47 hX ht, a4, hw, hqq, fI_0, c43 hX ht a5, c48 hX ht, a6, hwe, hrr, c43 hX ht a7, hmm, c42 hX ht a8, c42 hX ht a9, c54n hX ht a10, c43n hX ht a11, c53]
      done
    rw [if_neg a11]
    rw [Bool.not_eq_false] at a11
    have b12 := ch_b a11
    refine .inr ⟨_, _, _, rfl, by omega, by omega, TR_add hg hv htt hcc, TV_add hv htt hcc (by omega) (fun _ => by omega) (fun h => ⟨by omega, by have := hra2 h; omega⟩) b7.2.2.1 b7.2.2.2 (by omega) (by omega), fun k hk => addG_o htt hcc (.inr hk), fun k j h => ?_, fun Q => ?_⟩
    · simp (disch := omega) only [xu_n]
    · rw [he]
      simp (disch := first | assumption | omega) only [Nat.reduceAdd, X_go, go2_some, stp, ldI, ldA, ldL, stI, stA, stL, o1I, o2I, o2L, brI, brII, gl, s1, s2, k1, sl, go_sN, go_sR, go_CT, go_sT, go_no, go_if, pops, bk_v, bk_0, d45_0, d45_1, d45_2, d45_5, d45_6, d45_7, d45_9, d45_12, d45_13, d45_14, d45_17, d45_18, d45_19, d45_21, d45_24, d45_25, d45_26, d45_27, d45_30, d45_33, d45_35, d45_36, d45_38, d45_41, d45_42, d45_43, d45_44, d45_47, d45_50, d45_52, d45_53, d45_54, d45_55, d45_58, d45_60, d45_61, d45_64, d45_66, d45_67, d45_69, d45_72, d45_73, d45_76, d45_77, d45_80, d45_81, d45_82, d45_83, d45_85, d45_87, d45_89, d45_91, d45_94, d45_95, n_lt, n_le, n_eq, n_lt0, n_ge0, n_gt0, n_le0, n_eq0, m_lt, m_le, m_gt, m_ge, m_eq, m_eq', m_lt0, m_ge0, m_gt0, m_le0, m_ltm, m_lem, n_in, m_in, n_cl, n_ti, n_div, n_rem', n_dec, n_l, nI_add, pk_mul, an0, an1, decide_eq_true_eq, if_true, if_false, ite_true, ite_false, and_true, true_and, and_false, false_and, not_true, not_false_iff, or_false, false_or, or_true, true_or, eq_self, va_some, Bool.false_eq_true, reduceIte, catS_n, catS_i, catS_r, catS_l, catS_d, Nat.zero_add, Nat.add_zero, decide_true, decide_false, Nat.reduceLeDiff, cat_r, cat_i, cat_l, nle_T, nle_F, nlt_T, nlt_F, neq_T, neq_F, x0, hT0, tS_3, c46 hX ht hg hv a1 a2, c43 hX ht a3, c47 hX ht, a4, hw, hqq, fI_0, c43 hX ht a5, c48 hX ht, a6, hwe, hrr, c43 hX ht a7, hmm, c42 hX ht a8, c42 hX ht a9, c54n hX ht a10, c43 hX ht a11, c53, c55 hT (hgt _), tS_u]
      done
