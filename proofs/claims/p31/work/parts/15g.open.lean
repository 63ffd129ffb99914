/-! OPENINGS: counters, items taken -/
/-- the counters behind an opening -/
def couG (g : GS) (fd : Nat) : GS := fun k => if 114 ≤ k ∧ k ≤ 116 then (if k - 113 < fd then 0 else min 200 (g k + 1)) else g k
def couI (I : MI) (K : Nat) (g : GS) (fd : Nat) : MI := xu (xu (xu I (K + 1) 1 (nI (couG g fd 114))) (K + 1) 2 (nI (couG g fd 115))) (K + 1) 3 (nI (couG g fd 116))
theorem d122_0 : dec 122 0 = some (.iconst 1, 1, [1]) := rfl
theorem d122_1 : dec 122 1 = some (.istore_n 2, 1, []) := rfl
theorem d122_2 : dec 122 2 = some (.iload_n 2, 1, []) := rfl
theorem d122_3 : dec 122 3 = some (.iconst 3, 1, [3]) := rfl
theorem d122_4 : dec 122 4 = some (.if_icmp .gt 44, 3, [48]) := rfl
theorem d122_7 : dec 122 7 = some (.iload_n 1, 1, []) := rfl
theorem d122_8 : dec 122 8 = some (.iload_n 2, 1, []) := rfl
theorem d122_9 : dec 122 9 = some (.if_icmp .lt 7, 3, [16]) := rfl
theorem d122_12 : dec 122 12 = some (.iconst 0, 1, [0]) := rfl
theorem d122_13 : dec 122 13 = some (.goto 13, 3, [26]) := rfl
theorem d122_16 : dec 122 16 = some (.aload_n 0, 1, []) := rfl
theorem d122_17 : dec 122 17 = some (.getfield 9, 3, [1, 3, 0, 2, 0, 90]) := rfl
theorem d122_20 : dec 122 20 = some (.iload_n 2, 1, []) := rfl
theorem d122_21 : dec 122 21 = some (.invokestatic 36, 3, [2, 26, 0, 9, 1, 781, 0, 2]) := rfl
theorem d122_24 : dec 122 24 = some (.iconst 1, 1, [1]) := rfl
theorem d122_25 : dec 122 25 = some (.iadd, 1, []) := rfl
theorem d122_26 : dec 122 26 = some (.istore_n 3, 1, []) := rfl
theorem d122_27 : dec 122 27 = some (.aload_n 0, 1, []) := rfl
theorem d122_28 : dec 122 28 = some (.getfield 9, 3, [1, 3, 0, 2, 0, 90]) := rfl
theorem d122_31 : dec 122 31 = some (.iload_n 2, 1, []) := rfl
theorem d122_32 : dec 122 32 = some (.sipush 200, 3, [200]) := rfl
theorem d122_35 : dec 122 35 = some (.iload_n 3, 1, []) := rfl
theorem d122_36 : dec 122 36 = some (.invokestatic 40, 3, [10, 782]) := rfl
theorem d122_39 : dec 122 39 = some (.invokestatic 46, 3, [2, 44, 0, 9, 1, 783, 0, 0, 2]) := rfl
theorem d122_42 : dec 122 42 = some (.iinc 2 1, 3, [1]) := rfl
theorem d122_45 : dec 122 45 = some (.goto (-43), 3, [2]) := rfl
theorem d122_48 : dec 122 48 = some (.return_, 1, []) := rfl
theorem l122 : mL 122 = 4 := rfl
theorem f122 {d : Nat} {P : MP} {I : MI} {L : ML} {C : MC} {Q : QT} {K r fd : Nat} {u : Value} {g : GS} (hK : LB P K) (hc : I (K + 1) r = nI (g (113 + r))) (hl : LV g) (hd : 1 ≤ d) (h1 : 1 ≤ r) (h3 : r ≤ 3) (hf : fd ≤ 4) : ∃ v, X d 122 2 [.ref K, .int (fI fd), .int (nI r), u] [] P I L C Q = X d 122 2 [.ref K, .int (fI fd), .int (nI (r + 1)), v] [] P (xu I (K + 1) r (nI (couG g fd (113 + r)))) L C Q := by
  obtain ⟨k0, p0, p1, y1, y2⟩ := hK
  have hv := (hl.1 r h1 h3).1
  by_cases z : r < fd
  · refine ⟨.int (nI 0), ?_⟩
    have e : couG g fd (113 + r) = 0 := by
      unfold couG
      rw [if_pos (by omega), if_pos (by omega)]
    rw [X_go, d122_2, e]
    have hz : (fI fd < nI r) = False := by rw [fI_lt (by omega) (by omega)]; exact eq_false (by omega)
    simp (disch := first | assumption | omega) only [Nat.reduceAdd, X_go, go2_some, stp, ldI, ldA, ldL, stI, stA, stL, o1I, o2I, o2L, brI, brII, gl, s1, s2, k1, sl, go_sN, go_sR, go_CT, go_sT, go_no, go_if, pops, bk_v, bk_0, d122_0, d122_1, d122_3, d122_4, d122_7, d122_8, d122_9, d122_12, d122_13, d122_16, d122_17, d122_20, d122_21, d122_24, d122_25, d122_26, d122_27, d122_28, d122_31, d122_32, d122_35, d122_36, d122_39, d122_42, d122_45, d122_48, n_lt, n_le, n_eq, n_lt0, n_ge0, n_gt0, n_le0, n_eq0, m_lt, m_le, m_gt, m_ge, m_eq, m_eq', m_lt0, m_ge0, m_gt0, m_le0, m_ltm, m_lem, n_in, m_in, n_cl, n_ti, n_div, n_rem', n_dec, n_l, nI_add, pk_mul, an0, an1, decide_eq_true_eq, if_true, if_false, ite_true, ite_false, and_true, true_and, and_false, false_and, not_true, not_false_iff, or_false, false_or, or_true, true_or, eq_self, va_some, Bool.false_eq_true, reduceIte, catS_n, catS_i, catS_r, catS_l, catS_d, Nat.zero_add, Nat.add_zero, decide_true, decide_false, Nat.reduceLeDiff, cat_r, cat_i, cat_l, nle_T, nle_F, nlt_T, nlt_F, neq_T, neq_F, k0, p0, c44 y1, hz]
  · refine ⟨.int (nI (g (113 + r) + 1)), ?_⟩
    have e : couG g fd (113 + r) = min 200 (g (113 + r) + 1) := by
      unfold couG
      rw [if_pos (by omega), if_neg (by omega)]
    rw [X_go, d122_2, e]
    have hz : (fI fd < nI r) = True := by rw [fI_lt (by omega) (by omega)]; exact eq_true (by omega)
    have hm : (if g (113 + r) + 1 < 200 then nI (g (113 + r) + 1) else nI 200) = nI (min 200 (g (113 + r) + 1)) := by
      split
      · rw [Nat.min_eq_right (by omega)]
      · rw [Nat.min_eq_left (by omega)]
    simp (disch := first | assumption | omega) only [Nat.reduceAdd, X_go, go2_some, stp, ldI, ldA, ldL, stI, stA, stL, o1I, o2I, o2L, brI, brII, gl, s1, s2, k1, sl, go_sN, go_sR, go_CT, go_sT, go_no, go_if, pops, bk_v, bk_0, d122_0, d122_1, d122_3, d122_4, d122_7, d122_8, d122_9, d122_12, d122_13, d122_16, d122_17, d122_20, d122_21, d122_24, d122_25, d122_26, d122_27, d122_28, d122_31, d122_32, d122_35, d122_36, d122_39, d122_42, d122_45, d122_48, n_lt, n_le, n_eq, n_lt0, n_ge0, n_gt0, n_le0, n_eq0, m_lt, m_le, m_gt, m_ge, m_eq, m_eq', m_lt0, m_ge0, m_gt0, m_le0, m_ltm, m_lem, n_in, m_in, n_cl, n_ti, n_div, n_rem', n_dec, n_l, nI_add, pk_mul, an0, an1, decide_eq_true_eq, if_true, if_false, ite_true, ite_false, and_true, true_and, and_false, false_and, not_true, not_false_iff, or_false, false_or, or_true, true_or, eq_self, va_some, Bool.false_eq_true, reduceIte, catS_n, catS_i, catS_r, catS_l, catS_d, Nat.zero_add, Nat.add_zero, decide_true, decide_false, Nat.reduceLeDiff, cat_r, cat_i, cat_l, nle_T, nle_F, nlt_T, nlt_F, neq_T, neq_F, k0, p0, c26 y1, c44 y1, hz, hc, hm]
theorem c122 {d : Nat} {P : MP} {I : MI} {L : ML} {C : MC} {Q : QT} {K fd : Nat} {g : GS} (hK : LB P K) (hg : LR I K g) (hl : LV g) (hd : 2 ≤ d) (hf : fd ≤ 4) : CT d 122 [.ref K, .int (fI fd)] P I L C Q = Q (.inl none) P (couI I K g fd) L C := by
  have g1 := (hg.1 1 (by omega) (by omega)).1
  have g2 := (hg.1 2 (by omega) (by omega)).1
  have g3 := (hg.1 3 (by omega) (by omega)).1
  rw [CT_e (mj := 122) (e := [.ref K, .int (fI fd), UN, UN]) (by omega) rfl (Nat.le_of_ble_eq_true rfl)]
  simp (disch := first | assumption | omega) only [Nat.reduceAdd, X_go, go2_some, stp, ldI, ldA, ldL, stI, stA, stL, o1I, o2I, o2L, brI, brII, gl, s1, s2, k1, sl, go_sN, go_sR, go_CT, go_sT, go_no, go_if, pops, bk_v, bk_0, d122_0, d122_1, d122_3, d122_4, d122_7, d122_8, d122_9, d122_12, d122_13, d122_16, d122_17, d122_20, d122_21, d122_24, d122_25, d122_26, d122_27, d122_28, d122_31, d122_32, d122_35, d122_36, d122_39, d122_42, d122_45, d122_48, n_lt, n_le, n_eq, n_lt0, n_ge0, n_gt0, n_le0, n_eq0, m_lt, m_le, m_gt, m_ge, m_eq, m_eq', m_lt0, m_ge0, m_gt0, m_le0, m_ltm, m_lem, n_in, m_in, n_cl, n_ti, n_div, n_rem', n_dec, n_l, nI_add, pk_mul, an0, an1, decide_eq_true_eq, if_true, if_false, ite_true, ite_false, and_true, true_and, and_false, false_and, not_true, not_false_iff, or_false, false_or, or_true, true_or, eq_self, va_some, Bool.false_eq_true, reduceIte, catS_n, catS_i, catS_r, catS_l, catS_d, Nat.zero_add, Nat.add_zero, decide_true, decide_false, Nat.reduceLeDiff, cat_r, cat_i, cat_l, nle_T, nle_F, nlt_T, nlt_F, neq_T, neq_F]
  simp only [← X_go]
  obtain ⟨v1, e⟩ := f122 (d := d - 1) (L := L) (C := C) (Q := Q) (u := UN) hK g1 hl (by omega) (by omega) (by omega) hf
  rw [e]
  obtain ⟨v2, e⟩ := f122 (d := d - 1) (I := xu I (K + 1) 1 (nI (couG g fd 114))) (L := L) (C := C) (Q := Q) (r := 2) (u := v1) hK (by rw [xu_n _ _ (by omega)]; exact g2) hl (by omega) (by omega) (by omega) hf
  rw [e]
  obtain ⟨v3, e⟩ := f122 (d := d - 1) (I := xu (xu I (K + 1) 1 (nI (couG g fd 114))) (K + 1) 2 (nI (couG g fd 115))) (L := L) (C := C) (Q := Q) (r := 3) (u := v2) hK (by rw [xu_n _ _ (by omega), xu_n _ _ (by omega)]; exact g3) hl (by omega) (by omega) (by omega) hf
  rw [e, X_go, d122_2]
  simp (disch := first | assumption | omega) only [Nat.reduceAdd, X_go, go2_some, stp, ldI, ldA, ldL, stI, stA, stL, o1I, o2I, o2L, brI, brII, gl, s1, s2, k1, sl, go_sN, go_sR, go_CT, go_sT, go_no, go_if, pops, bk_v, bk_0, d122_0, d122_1, d122_3, d122_4, d122_7, d122_8, d122_9, d122_12, d122_13, d122_16, d122_17, d122_20, d122_21, d122_24, d122_25, d122_26, d122_27, d122_28, d122_31, d122_32, d122_35, d122_36, d122_39, d122_42, d122_45, d122_48, n_lt, n_le, n_eq, n_lt0, n_ge0, n_gt0, n_le0, n_eq0, m_lt, m_le, m_gt, m_ge, m_eq, m_eq', m_lt0, m_ge0, m_gt0, m_le0, m_ltm, m_lem, n_in, m_in, n_cl, n_ti, n_div, n_rem', n_dec, n_l, nI_add, pk_mul, an0, an1, decide_eq_true_eq, if_true, if_false, ite_true, ite_false, and_true, true_and, and_false, false_and, not_true, not_false_iff, or_false, false_or, or_true, true_or, eq_self, va_some, Bool.false_eq_true, reduceIte, catS_n, catS_i, catS_r, catS_l, catS_d, Nat.zero_add, Nat.add_zero, decide_true, decide_false, Nat.reduceLeDiff, cat_r, cat_i, cat_l, nle_T, nle_F, nlt_T, nlt_F, neq_T, neq_F]
  rfl
theorem couG_o {g : GS} {fd k : Nat} (h : k < 114 ∨ 116 < k) : couG g fd k = g k := by
  unfold couG
  rw [if_neg (by omega)]
theorem LV_cou {g : GS} {fd : Nat} (hl : LV g) : LV (couG g fd) := by
  refine ⟨fun r h1 h3 => ⟨?_, ?_⟩, ?_, ?_⟩
  · unfold couG
    rw [if_pos (by omega)]
    split
    · omega
    · exact Nat.min_le_left _ _
  · rw [couG_o (by omega)]; exact (hl.1 r h1 h3).2
  · rw [couG_o (by omega)]; exact hl.2.1
  · rw [couG_o (by omega)]; exact hl.2.2
theorem LR_cou {I : MI} {K : Nat} {g : GS} {fd : Nat} (hg : LR I K g) : LR (couI I K g fd) K (couG g fd) := by
  refine ⟨fun r h1 h3 => ⟨?_, ?_⟩, ?_, ?_⟩
  · have e0 : r = 1 ∨ r = 2 ∨ r = 3 := by omega
    unfold couI
    rcases e0 with rfl | rfl | rfl <;> simp (disch := omega) only [xu_n, xu_s]
  · rw [couG_o (by omega)]
    unfold couI
    simp (disch := omega) only [xu_n]
    exact (hg.1 r h1 h3).2
  · rw [couG_o (by omega)]
    unfold couI
    simp (disch := omega) only [xu_n]
    exact hg.2.1
  · rw [couG_o (by omega)]
    unfold couI
    simp (disch := omega) only [xu_n]
    exact hg.2.2
theorem couI_n {I : MI} {K : Nat} {g : GS} {fd k j : Nat} (h : k ≠ K + 1) : couI I K g fd k j = I k j := by
  unfold couI
  simp (disch := omega) only [xu_n]
