/-! DRAW: weights, sums, the wanted rarity -/
def sd (s : Nat) : Nat := (1103515245 * s + 12345) % 2147483648
/-- the class's one int of what is spent and which groups were drawn -/
def CB (g : GS) (x : Int32) (sp gr : SP) : Prop := (∀ t e, t < 3 → e < g (3 + t) → bt x (6 * t + e) = sp t e) ∧ ∀ t k, t < 3 → 1 ≤ k → k ≤ 3 → bt x (18 + 4 * t + k) = gr t k
theorem d70_0 : dec 70 0 = some (.iload_n 1, 1, []) := rfl
theorem d70_1 : dec 70 1 = some (.ifCond .lt 17, 3, [18]) := rfl
theorem d70_4 : dec 70 4 = some (.iload_n 1, 1, []) := rfl
theorem d70_5 : dec 70 5 = some (.iconst 3, 1, [3]) := rfl
theorem d70_6 : dec 70 6 = some (.if_icmp .ge 12, 3, [18]) := rfl
theorem d70_9 : dec 70 9 = some (.aload_n 0, 1, []) := rfl
theorem d70_10 : dec 70 10 = some (.getfield 15, 3, [1, 1, 1, 2, 0, 210]) := rfl
theorem d70_13 : dec 70 13 = some (.iload_n 1, 1, []) := rfl
theorem d70_14 : dec 70 14 = some (.iaload, 1, []) := rfl
theorem d70_15 : dec 70 15 = some (.goto 4, 3, [19]) := rfl
theorem d70_18 : dec 70 18 = some (.iconst 0, 1, [0]) := rfl
theorem d70_19 : dec 70 19 = some (.ireturn, 1, [0]) := rfl
theorem l70 : mL 70 = 2 := rfl
theorem c70 {d : Nat} {P : MP} {I : MI} {L : ML} {C : MC} {Q : QT} {D t : Nat} (hD : DB P D) (hd : 1 ≤ d) (ht : t < 3) : CT d 70 [.ref D, .int (nI t)] P I L C Q = Q (.inl (some (.int (I (D + 2) t)))) P I L C := by
  obtain ⟨k0, p0, p1, y1, y2⟩ := hD
  rw [CT_e (mj := 70) (e := [.ref D, .int (nI t)]) (by omega) rfl (Nat.le_of_ble_eq_true rfl)]
  simp (disch := first | assumption | omega) only [Nat.reduceAdd, X_go, go2_some, stp, ldI, ldA, ldL, stI, stA, stL, o1I, o2I, o2L, brI, brII, gl, s1, s2, k1, sl, go_sN, go_sR, go_CT, go_sT, go_no, go_if, pops, bk_v, bk_0, d70_0, d70_1, d70_4, d70_5, d70_6, d70_9, d70_10, d70_13, d70_14, d70_15, d70_18, d70_19, n_lt, n_le, n_eq, n_lt0, n_ge0, n_gt0, n_le0, n_eq0, m_lt, m_le, m_gt, m_ge, m_eq, m_eq', m_lt0, m_ge0, m_gt0, m_le0, m_ltm, m_lem, n_in, m_in, n_cl, n_ti, n_div, n_rem', n_dec, n_l, nI_add, pk_mul, an0, an1, decide_eq_true_eq, if_true, if_false, ite_true, ite_false, and_true, true_and, and_false, false_and, not_true, not_false_iff, or_false, false_or, or_true, true_or, eq_self, va_some, Bool.false_eq_true, reduceIte, catS_n, catS_i, catS_r, catS_l, catS_d, Nat.zero_add, Nat.add_zero, decide_true, decide_false, Nat.reduceLeDiff, cat_r, cat_i, cat_l, nle_T, nle_F, nlt_T, nlt_F, neq_T, neq_F, k0, p1, y2]
  done
theorem d74_0 : dec 74 0 = some (.aload_n 0, 1, []) := rfl
theorem d74_1 : dec 74 1 = some (.getfield 9, 3, [1, 1, 0, 2, 0, 208]) := rfl
theorem d74_4 : dec 74 4 = some (.iload_n 1, 1, []) := rfl
theorem d74_5 : dec 74 5 = some (.invokestatic 82, 3, [2, 26, 0, 9, 1, 605, 0, 2]) := rfl
theorem d74_8 : dec 74 8 = some (.ireturn, 1, [0]) := rfl
theorem l74 : mL 74 = 2 := rfl
theorem c74 {d : Nat} {P : MP} {I : MI} {L : ML} {C : MC} {Q : QT} {D p : Nat} (hD : DB P D) (hd : 2 ≤ d) (hp : p < 18) : CT d 74 [.ref D, .int (nI p)] P I L C Q = Q (.inl (some (.int (I (D + 1) p)))) P I L C := by
  obtain ⟨k0, p0, p1, y1, y2⟩ := hD
  rw [CT_e (mj := 74) (e := [.ref D, .int (nI p)]) (by omega) rfl (Nat.le_of_ble_eq_true rfl)]
  simp (disch := first | assumption | omega) only [Nat.reduceAdd, X_go, go2_some, stp, ldI, ldA, ldL, stI, stA, stL, o1I, o2I, o2L, brI, brII, gl, s1, s2, k1, sl, go_sN, go_sR, go_CT, go_sT, go_no, go_if, pops, bk_v, bk_0, d74_0, d74_1, d74_4, d74_5, d74_8, n_lt, n_le, n_eq, n_lt0, n_ge0, n_gt0, n_le0, n_eq0, m_lt, m_le, m_gt, m_ge, m_eq, m_eq', m_lt0, m_ge0, m_gt0, m_le0, m_ltm, m_lem, n_in, m_in, n_cl, n_ti, n_div, n_rem', n_dec, n_l, nI_add, pk_mul, an0, an1, decide_eq_true_eq, if_true, if_false, ite_true, ite_false, and_true, true_and, and_false, false_and, not_true, not_false_iff, or_false, false_or, or_true, true_or, eq_self, va_some, Bool.false_eq_true, reduceIte, catS_n, catS_i, catS_r, catS_l, catS_d, Nat.zero_add, Nat.add_zero, decide_true, decide_false, Nat.reduceLeDiff, cat_r, cat_i, cat_l, nle_T, nle_F, nlt_T, nlt_F, neq_T, neq_F, k0, p0, c26 y1]
  done
theorem d72_0 : dec 72 0 = some (.iload_n 2, 1, []) := rfl
theorem d72_1 : dec 72 1 = some (.iconst 1, 1, [1]) := rfl
theorem d72_2 : dec 72 2 = some (.if_icmp .lt 8, 3, [10]) := rfl
theorem d72_5 : dec 72 5 = some (.iload_n 2, 1, []) := rfl
theorem d72_6 : dec 72 6 = some (.iconst 3, 1, [3]) := rfl
theorem d72_7 : dec 72 7 = some (.if_icmp .le 5, 3, [12]) := rfl
theorem d72_10 : dec 72 10 = some (.iload_n 1, 1, []) := rfl
theorem d72_11 : dec 72 11 = some (.ireturn, 1, [0]) := rfl
theorem d72_12 : dec 72 12 = some (.iload_n 1, 1, []) := rfl
theorem d72_13 : dec 72 13 = some (.bipush 100, 2, [100]) := rfl
theorem d72_15 : dec 72 15 = some (.aload_n 0, 1, []) := rfl
theorem d72_16 : dec 72 16 = some (.getfield 26, 3, [1, 3, 2, 0, 0, 94]) := rfl
theorem d72_19 : dec 72 19 = some (.aload_n 0, 1, []) := rfl
theorem d72_20 : dec 72 20 = some (.getfield 9, 3, [1, 3, 0, 2, 0, 90]) := rfl
theorem d72_23 : dec 72 23 = some (.iload_n 2, 1, []) := rfl
theorem d72_24 : dec 72 24 = some (.iaload, 1, []) := rfl
theorem d72_25 : dec 72 25 = some (.imul, 1, []) := rfl
theorem d72_26 : dec 72 26 = some (.iadd, 1, []) := rfl
theorem d72_27 : dec 72 27 = some (.imul, 1, []) := rfl
theorem d72_28 : dec 72 28 = some (.bipush 100, 2, [100]) := rfl
theorem d72_30 : dec 72 30 = some (.idiv, 1, []) := rfl
theorem d72_31 : dec 72 31 = some (.ireturn, 1, [0]) := rfl
theorem l72 : mL 72 = 3 := rfl
theorem c72 {d : Nat} {P : MP} {I : MI} {L : ML} {C : MC} {Q : QT} {K w r : Nat} {g : GS} (hK : LB P K) (hg : LR I K g) (hl : LV g) (hd : 1 ≤ d) (hr : r ≤ 3) (hw : w ≤ 1000) : CT d 72 [.ref K, .int (nI w), .int (nI r)] P I L C Q = Q (.inl (some (.int (nI (if r = 0 then w else w * (100 + g 120 * g (113 + r)) / 100))))) P I L C := by
  obtain ⟨k0, p0, p1, y1, y2⟩ := hK
  by_cases z : r = 0
  · rw [CT_e (mj := 72) (e := [.ref K, .int (nI w), .int (nI r)]) (by omega) rfl (Nat.le_of_ble_eq_true rfl)]
    simp (disch := first | assumption | omega) only [Nat.reduceAdd, X_go, go2_some, stp, ldI, ldA, ldL, stI, stA, stL, o1I, o2I, o2L, brI, brII, gl, s1, s2, k1, sl, go_sN, go_sR, go_CT, go_sT, go_no, go_if, pops, bk_v, bk_0, d72_0, d72_1, d72_2, d72_5, d72_6, d72_7, d72_10, d72_11, d72_12, d72_13, d72_15, d72_16, d72_19, d72_20, d72_23, d72_24, d72_25, d72_26, d72_27, d72_28, d72_30, d72_31, n_lt, n_le, n_eq, n_lt0, n_ge0, n_gt0, n_le0, n_eq0, m_lt, m_le, m_gt, m_ge, m_eq, m_eq', m_lt0, m_ge0, m_gt0, m_le0, m_ltm, m_lem, n_in, m_in, n_cl, n_ti, n_div, n_rem', n_dec, n_l, nI_add, pk_mul, an0, an1, decide_eq_true_eq, if_true, if_false, ite_true, ite_false, and_true, true_and, and_false, false_and, not_true, not_false_iff, or_false, false_or, or_true, true_or, eq_self, va_some, Bool.false_eq_true, reduceIte, catS_n, catS_i, catS_r, catS_l, catS_d, Nat.zero_add, Nat.add_zero, decide_true, decide_false, Nat.reduceLeDiff, cat_r, cat_i, cat_l, nle_T, nle_F, nlt_T, nlt_F, neq_T, neq_F, k0, p0, y1, z]
  · have h1 := (hg.1 r (by omega) hr).1
    have hc := (hl.1 r (by omega) hr).1
    have h2 := hg.2.1
    have m1 : g 120 * g (113 + r) ≤ 50 * 200 := Nat.mul_le_mul hl.2.1 hc
    have m2 : w * (100 + g 120 * g (113 + r)) ≤ 1000 * 10100 := Nat.mul_le_mul hw (by omega)
    rw [CT_e (mj := 72) (e := [.ref K, .int (nI w), .int (nI r)]) (by omega) rfl (Nat.le_of_ble_eq_true rfl)]
    simp (disch := first | assumption | omega) only [Nat.reduceAdd, X_go, go2_some, stp, ldI, ldA, ldL, stI, stA, stL, o1I, o2I, o2L, brI, brII, gl, s1, s2, k1, sl, go_sN, go_sR, go_CT, go_sT, go_no, go_if, pops, bk_v, bk_0, d72_0, d72_1, d72_2, d72_5, d72_6, d72_7, d72_10, d72_11, d72_12, d72_13, d72_15, d72_16, d72_19, d72_20, d72_23, d72_24, d72_25, d72_26, d72_27, d72_28, d72_30, d72_31, n_lt, n_le, n_eq, n_lt0, n_ge0, n_gt0, n_le0, n_eq0, m_lt, m_le, m_gt, m_ge, m_eq, m_eq', m_lt0, m_ge0, m_gt0, m_le0, m_ltm, m_lem, n_in, m_in, n_cl, n_ti, n_div, n_rem', n_dec, n_l, nI_add, pk_mul, an0, an1, decide_eq_true_eq, if_true, if_false, ite_true, ite_false, and_true, true_and, and_false, false_and, not_true, not_false_iff, or_false, false_or, or_true, true_or, eq_self, va_some, Bool.false_eq_true, reduceIte, catS_n, catS_i, catS_r, catS_l, catS_d, Nat.zero_add, Nat.add_zero, decide_true, decide_false, Nat.reduceLeDiff, cat_r, cat_i, cat_l, nle_T, nle_F, nlt_T, nlt_F, neq_T, neq_F, k0, p0, y1, h1, h2, z]
theorem d71_0 : dec 71 0 = some (.iload_n 1, 1, []) := rfl
theorem d71_1 : dec 71 1 = some (.ifCond .lt 9, 3, [10]) := rfl
theorem d71_4 : dec 71 4 = some (.iload_n 1, 1, []) := rfl
theorem d71_5 : dec 71 5 = some (.bipush 18, 2, [18]) := rfl
theorem d71_7 : dec 71 7 = some (.if_icmp .lt 5, 3, [12]) := rfl
theorem d71_10 : dec 71 10 = some (.iconst 0, 1, [0]) := rfl
theorem d71_11 : dec 71 11 = some (.ireturn, 1, [0]) := rfl
theorem d71_12 : dec 71 12 = some (.aload_n 0, 1, []) := rfl
theorem d71_13 : dec 71 13 = some (.getfield 21, 3, [1, 6, 1, 2, 0, 141]) := rfl
theorem d71_16 : dec 71 16 = some (.aload_n 0, 1, []) := rfl
theorem d71_17 : dec 71 17 = some (.getfield 12, 3, [1, 6, 0, 2, 0, 136]) := rfl
theorem d71_20 : dec 71 20 = some (.getfield 42, 3, [1, 7, 3, 2, 1, 52]) := rfl
theorem d71_23 : dec 71 23 = some (.iload_n 1, 1, []) := rfl
theorem d71_24 : dec 71 24 = some (.iaload, 1, []) := rfl
theorem d71_25 : dec 71 25 = some (.aload_n 0, 1, []) := rfl
theorem d71_26 : dec 71 26 = some (.getfield 12, 3, [1, 6, 0, 2, 0, 136]) := rfl
theorem d71_29 : dec 71 29 = some (.getfield 46, 3, [1, 7, 4, 2, 1, 55]) := rfl
theorem d71_32 : dec 71 32 = some (.iload_n 1, 1, []) := rfl
theorem d71_33 : dec 71 33 = some (.iaload, 1, []) := rfl
theorem d71_34 : dec 71 34 = some (.invokevirtual 49, 3, [2, 72, 2, 3, 0, 577, 0, 0]) := rfl
theorem d71_37 : dec 71 37 = some (.ireturn, 1, [0]) := rfl
theorem l71 : mL 71 = 2 := rfl
theorem c71 {d : Nat} {P : MP} {I : MI} {L : ML} {C : MC} {Q : QT} {b t e : Nat} {g : GS} (hb : SB P b) (hg : RC I b g) (hv : TV g) (hl : LV g) (hd : 2 ≤ d) (ht : t < 3) (he : e < g (3 + t)) : CT d 71 [.ref b, .int (nI (6 * t + e))] P I L C Q = Q (.inl (some (.int (nI (pw g t e))))) P I L C := by
  obtain ⟨k0, p0, p1, p2, hT, hK, hF⟩ := hb
  obtain ⟨⟨l0, q0, q1, q2, q3, q4, q5, q6, q7⟩, y1, y2, y3, y4, y5, y6, y7, y8⟩ := hT
  have hc := hv.2.1 t ht
  have hE := hv.2.2 t e ht he
  have hR := hg.1.2.2 t e ht he
  have hK0 := hK.1
  obtain ⟨e0, e1, e2, e3, e4, _⟩ := hE
  have hr : g (cl t e 2) ≤ 3 := by
    rcases Nat.lt_or_ge (g (cl t e 0)) 16 with z | z
    · exact e1 z
    · have := (e2 z).2; omega
  unfold pw
  rw [CT_e (mj := 71) (e := [.ref b, .int (nI (6 * t + e))]) (by omega) rfl (Nat.le_of_ble_eq_true rfl)]
  simp (disch := first | assumption | omega) only [Nat.reduceAdd, X_go, go2_some, stp, ldI, ldA, ldL, stI, stA, stL, o1I, o2I, o2L, brI, brII, gl, s1, s2, k1, sl, go_sN, go_sR, go_CT, go_sT, go_no, go_if, pops, bk_v, bk_0, d71_0, d71_1, d71_4, d71_5, d71_7, d71_10, d71_11, d71_12, d71_13, d71_16, d71_17, d71_20, d71_23, d71_24, d71_25, d71_26, d71_29, d71_32, d71_33, d71_34, d71_37, n_lt, n_le, n_eq, n_lt0, n_ge0, n_gt0, n_le0, n_eq0, m_lt, m_le, m_gt, m_ge, m_eq, m_eq', m_lt0, m_ge0, m_gt0, m_le0, m_ltm, m_lem, n_in, m_in, n_cl, n_ti, n_div, n_rem', n_dec, n_l, nI_add, pk_mul, an0, an1, decide_eq_true_eq, if_true, if_false, ite_true, ite_false, and_true, true_and, and_false, false_and, not_true, not_false_iff, or_false, false_or, or_true, true_or, eq_self, va_some, Bool.false_eq_true, reduceIte, catS_n, catS_i, catS_r, catS_l, catS_d, Nat.zero_add, Nat.add_zero, decide_true, decide_false, Nat.reduceLeDiff, cat_r, cat_i, cat_l, nle_T, nle_F, nlt_T, nlt_F, neq_T, neq_F, k0, p0, p1, l0, q3, q4, y4, y5, hK0, hR, c72 hK hg.2.1 hl]
  done
theorem d65_0 : dec 65 0 = some (.iload_n 1, 1, []) := rfl
theorem d65_1 : dec 65 1 = some (.iconst 1, 1, [1]) := rfl
theorem d65_2 : dec 65 2 = some (.if_icmp .lt 8, 3, [10]) := rfl
theorem d65_5 : dec 65 5 = some (.iload_n 1, 1, []) := rfl
theorem d65_6 : dec 65 6 = some (.iconst 3, 1, [3]) := rfl
theorem d65_7 : dec 65 7 = some (.if_icmp .le 5, 3, [12]) := rfl
theorem d65_10 : dec 65 10 = some (.iconst 0, 1, [0]) := rfl
theorem d65_11 : dec 65 11 = some (.ireturn, 1, [1]) := rfl
theorem d65_12 : dec 65 12 = some (.aload_n 0, 1, []) := rfl
theorem d65_13 : dec 65 13 = some (.getfield 15, 3, [1, 3, 1, 2, 0, 92]) := rfl
theorem d65_16 : dec 65 16 = some (.iload_n 1, 1, []) := rfl
theorem d65_17 : dec 65 17 = some (.iaload, 1, []) := rfl
theorem d65_18 : dec 65 18 = some (.ifCond .le 24, 3, [42]) := rfl
theorem d65_21 : dec 65 21 = some (.aload_n 0, 1, []) := rfl
theorem d65_22 : dec 65 22 = some (.getfield 9, 3, [1, 3, 0, 2, 0, 90]) := rfl
theorem d65_25 : dec 65 25 = some (.iload_n 1, 1, []) := rfl
theorem d65_26 : dec 65 26 = some (.iaload, 1, []) := rfl
theorem d65_27 : dec 65 27 = some (.iconst 1, 1, [1]) := rfl
theorem d65_28 : dec 65 28 = some (.iadd, 1, []) := rfl
theorem d65_29 : dec 65 29 = some (.aload_n 0, 1, []) := rfl
theorem d65_30 : dec 65 30 = some (.getfield 15, 3, [1, 3, 1, 2, 0, 92]) := rfl
theorem d65_33 : dec 65 33 = some (.iload_n 1, 1, []) := rfl
theorem d65_34 : dec 65 34 = some (.iaload, 1, []) := rfl
theorem d65_35 : dec 65 35 = some (.if_icmp .lt 7, 3, [42]) := rfl
theorem d65_38 : dec 65 38 = some (.iconst 1, 1, [1]) := rfl
theorem d65_39 : dec 65 39 = some (.goto 4, 3, [43]) := rfl
theorem d65_42 : dec 65 42 = some (.iconst 0, 1, [0]) := rfl
theorem d65_43 : dec 65 43 = some (.ireturn, 1, [1]) := rfl
theorem l65 : mL 65 = 2 := rfl
theorem c65 {d : Nat} {P : MP} {I : MI} {L : ML} {C : MC} {Q : QT} {K r : Nat} {g : GS} (hK : LB P K) (hg : LR I K g) (hl : LV g) (hd : 1 ≤ d) (h1 : 1 ≤ r) (h3 : r ≤ 3) : CT d 65 [.ref K, .int (nI r)] P I L C Q = Q (.inl (some (.int (nI (if due g r = true then 1 else 0))))) P I L C := by
  obtain ⟨k0, p0, p1, y1, y2⟩ := hK
  have hr := hg.1 r h1 h3
  have hv := hl.1 r h1 h3
  rw [CT_e (mj := 65) (e := [.ref K, .int (nI r)]) (by omega) rfl (Nat.le_of_ble_eq_true rfl)]
  unfold due
  by_cases z : 0 < g (116 + r)
  · by_cases y : g (116 + r) ≤ g (113 + r) + 1
    · simp (disch := first | assumption | omega) only [Nat.reduceAdd, X_go, go2_some, stp, ldI, ldA, ldL, stI, stA, stL, o1I, o2I, o2L, brI, brII, gl, s1, s2, k1, sl, go_sN, go_sR, go_CT, go_sT, go_no, go_if, pops, bk_v, bk_0, d65_0, d65_1, d65_2, d65_5, d65_6, d65_7, d65_10, d65_11, d65_12, d65_13, d65_16, d65_17, d65_18, d65_21, d65_22, d65_25, d65_26, d65_27, d65_28, d65_29, d65_30, d65_33, d65_34, d65_35, d65_38, d65_39, d65_42, d65_43, n_lt, n_le, n_eq, n_lt0, n_ge0, n_gt0, n_le0, n_eq0, m_lt, m_le, m_gt, m_ge, m_eq, m_eq', m_lt0, m_ge0, m_gt0, m_le0, m_ltm, m_lem, n_in, m_in, n_cl, n_ti, n_div, n_rem', n_dec, n_l, nI_add, pk_mul, an0, an1, decide_eq_true_eq, if_true, if_false, ite_true, ite_false, and_true, true_and, and_false, false_and, not_true, not_false_iff, or_false, false_or, or_true, true_or, eq_self, va_some, Bool.false_eq_true, reduceIte, catS_n, catS_i, catS_r, catS_l, catS_d, Nat.zero_add, Nat.add_zero, decide_true, decide_false, Nat.reduceLeDiff, cat_r, cat_i, cat_l, nle_T, nle_F, nlt_T, nlt_F, neq_T, neq_F, k0, p0, p1, y1, y2, hr, z, y, Bool.and_self]
    · simp (disch := first | assumption | omega) only [Nat.reduceAdd, X_go, go2_some, stp, ldI, ldA, ldL, stI, stA, stL, o1I, o2I, o2L, brI, brII, gl, s1, s2, k1, sl, go_sN, go_sR, go_CT, go_sT, go_no, go_if, pops, bk_v, bk_0, d65_0, d65_1, d65_2, d65_5, d65_6, d65_7, d65_10, d65_11, d65_12, d65_13, d65_16, d65_17, d65_18, d65_21, d65_22, d65_25, d65_26, d65_27, d65_28, d65_29, d65_30, d65_33, d65_34, d65_35, d65_38, d65_39, d65_42, d65_43, n_lt, n_le, n_eq, n_lt0, n_ge0, n_gt0, n_le0, n_eq0, m_lt, m_le, m_gt, m_ge, m_eq, m_eq', m_lt0, m_ge0, m_gt0, m_le0, m_ltm, m_lem, n_in, m_in, n_cl, n_ti, n_div, n_rem', n_dec, n_l, nI_add, pk_mul, an0, an1, decide_eq_true_eq, if_true, if_false, ite_true, ite_false, and_true, true_and, and_false, false_and, not_true, not_false_iff, or_false, false_or, or_true, true_or, eq_self, va_some, Bool.false_eq_true, reduceIte, catS_n, catS_i, catS_r, catS_l, catS_d, Nat.zero_add, Nat.add_zero, decide_true, decide_false, Nat.reduceLeDiff, cat_r, cat_i, cat_l, nle_T, nle_F, nlt_T, nlt_F, neq_T, neq_F, k0, p0, p1, y1, y2, hr, z, y, Bool.and_false]
  · simp (disch := first | assumption | omega) only [Nat.reduceAdd, X_go, go2_some, stp, ldI, ldA, ldL, stI, stA, stL, o1I, o2I, o2L, brI, brII, gl, s1, s2, k1, sl, go_sN, go_sR, go_CT, go_sT, go_no, go_if, pops, bk_v, bk_0, d65_0, d65_1, d65_2, d65_5, d65_6, d65_7, d65_10, d65_11, d65_12, d65_13, d65_16, d65_17, d65_18, d65_21, d65_22, d65_25, d65_26, d65_27, d65_28, d65_29, d65_30, d65_33, d65_34, d65_35, d65_38, d65_39, d65_42, d65_43, n_lt, n_le, n_eq, n_lt0, n_ge0, n_gt0, n_le0, n_eq0, m_lt, m_le, m_gt, m_ge, m_eq, m_eq', m_lt0, m_ge0, m_gt0, m_le0, m_ltm, m_lem, n_in, m_in, n_cl, n_ti, n_div, n_rem', n_dec, n_l, nI_add, pk_mul, an0, an1, decide_eq_true_eq, if_true, if_false, ite_true, ite_false, and_true, true_and, and_false, false_and, not_true, not_false_iff, or_false, false_or, or_true, true_or, eq_self, va_some, Bool.false_eq_true, reduceIte, catS_n, catS_i, catS_r, catS_l, catS_d, Nat.zero_add, Nat.add_zero, decide_true, decide_false, Nat.reduceLeDiff, cat_r, cat_i, cat_l, nle_T, nle_F, nlt_T, nlt_F, neq_T, neq_F, k0, p0, p1, y1, y2, hr, z, Bool.false_and]
theorem sd_lt (s : Nat) : sd s < 2147483648 := Nat.mod_lt _ (by decide)
theorem sd_l {s : Nat} (h : s < 2147483648) : (lN 1103515245 * lN s + lN 12345) - (lN 1103515245 * lN s + lN 12345) / lN 2147483648 * lN 2147483648 = lN (sd s) := by
  rw [lN_mul, lN_add]
  exact pk_lRem (by omega) (by omega) (by omega)
theorem l31 : (lN 2147483648 = 0) = False := eq_false (by decide)
theorem d117_0 : dec 117 0 = some (.aload_n 0, 1, []) := rfl
theorem d117_1 : dec 117 1 = some (.ldc2_w 29, 3, [9, 1103515245, 744]) := rfl
theorem d117_4 : dec 117 4 = some (.aload_n 0, 1, []) := rfl
theorem d117_5 : dec 117 5 = some (.getfield 18, 3, [1, 3, 3, 0, 0, 96]) := rfl
theorem d117_8 : dec 117 8 = some (.i2l, 1, []) := rfl
theorem d117_9 : dec 117 9 = some (.lmul, 1, []) := rfl
theorem d117_10 : dec 117 10 = some (.ldc2_w 31, 3, [9, 12345, 745]) := rfl
theorem d117_13 : dec 117 13 = some (.ladd, 1, []) := rfl
theorem d117_14 : dec 117 14 = some (.ldc2_w 33, 3, [9, 2147483648, 746]) := rfl
theorem d117_17 : dec 117 17 = some (.lrem, 1, []) := rfl
theorem d117_18 : dec 117 18 = some (.l2i, 1, []) := rfl
theorem d117_19 : dec 117 19 = some (.putfield 18, 3, [1, 3, 3, 0, 0, 96]) := rfl
theorem d117_22 : dec 117 22 = some (.iload_n 1, 1, []) := rfl
theorem d117_23 : dec 117 23 = some (.ifCond .le 15, 3, [38]) := rfl
theorem d117_26 : dec 117 26 = some (.aload_n 0, 1, []) := rfl
theorem d117_27 : dec 117 27 = some (.getfield 18, 3, [1, 3, 3, 0, 0, 96]) := rfl
theorem d117_30 : dec 117 30 = some (.ldc 35, 2, [8, 65536, 747]) := rfl
theorem d117_32 : dec 117 32 = some (.idiv, 1, []) := rfl
theorem d117_33 : dec 117 33 = some (.iload_n 1, 1, []) := rfl
theorem d117_34 : dec 117 34 = some (.irem, 1, []) := rfl
theorem d117_35 : dec 117 35 = some (.goto 4, 3, [39]) := rfl
theorem d117_38 : dec 117 38 = some (.iconst 0, 1, [0]) := rfl
theorem d117_39 : dec 117 39 = some (.ireturn, 1, [0]) := rfl
theorem l117 : mL 117 = 2 := rfl
theorem c117 {d : Nat} {P : MP} {I : MI} {L : ML} {C : MC} {Q : QT} {K n : Nat} {g : GS} (hK : LB P K) (hg : LR I K g) (hl : LV g) (hd : 1 ≤ d) (h0 : 0 < n) (hn : n < 2147483648) : CT d 117 [.ref K, .int (nI n)] P I L C Q = Q (.inl (some (.int (nI (sd (g 121) / 65536 % n))))) P (xu I K 3 (nI (sd (g 121)))) L C := by
  obtain ⟨k0, p0, p1, y1, y2⟩ := hK
  have h3 := hg.2.2
  have hs := hl.2.2
  have hq := sd_lt (g 121)
  rw [CT_e (mj := 117) (e := [.ref K, .int (nI n)]) (by omega) rfl (Nat.le_of_ble_eq_true rfl)]
  simp (disch := first | assumption | omega) only [Nat.reduceAdd, X_go, go2_some, stp, ldI, ldA, ldL, stI, stA, stL, o1I, o2I, o2L, brI, brII, gl, s1, s2, k1, sl, go_sN, go_sR, go_CT, go_sT, go_no, go_if, pops, bk_v, bk_0, d117_0, d117_1, d117_4, d117_5, d117_8, d117_9, d117_10, d117_13, d117_14, d117_17, d117_18, d117_19, d117_22, d117_23, d117_26, d117_27, d117_30, d117_32, d117_33, d117_34, d117_35, d117_38, d117_39, n_lt, n_le, n_eq, n_lt0, n_ge0, n_gt0, n_le0, n_eq0, m_lt, m_le, m_gt, m_ge, m_eq, m_eq', m_lt0, m_ge0, m_gt0, m_le0, m_ltm, m_lem, n_in, m_in, n_cl, n_ti, n_div, n_rem', n_dec, n_l, nI_add, pk_mul, an0, an1, decide_eq_true_eq, if_true, if_false, ite_true, ite_false, and_true, true_and, and_false, false_and, not_true, not_false_iff, or_false, false_or, or_true, true_or, eq_self, va_some, Bool.false_eq_true, reduceIte, catS_n, catS_i, catS_r, catS_l, catS_d, Nat.zero_add, Nat.add_zero, decide_true, decide_false, Nat.reduceLeDiff, cat_r, cat_i, cat_l, nle_T, nle_F, nlt_T, nlt_F, neq_T, neq_F, k0, h3, l31, sd_l, lN_i, xu_s]
  done
theorem d69_0 : dec 69 0 = some (.iload_n 2, 1, []) := rfl
theorem d69_1 : dec 69 1 = some (.ifCond .lt 9, 3, [10]) := rfl
theorem d69_4 : dec 69 4 = some (.iload_n 2, 1, []) := rfl
theorem d69_5 : dec 69 5 = some (.bipush 18, 2, [18]) := rfl
theorem d69_7 : dec 69 7 = some (.if_icmp .lt 5, 3, [12]) := rfl
theorem d69_10 : dec 69 10 = some (.iconst 0, 1, [0]) := rfl
theorem d69_11 : dec 69 11 = some (.ireturn, 1, [1]) := rfl
theorem d69_12 : dec 69 12 = some (.aload_n 1, 1, []) := rfl
theorem d69_13 : dec 69 13 = some (.getfield 70, 3, [1, 7, 2, 2, 1, 48]) := rfl
theorem d69_16 : dec 69 16 = some (.iload_n 2, 1, []) := rfl
theorem d69_17 : dec 69 17 = some (.iaload, 1, []) := rfl
theorem d69_18 : dec 69 18 = some (.istore 4, 2, []) := rfl
theorem d69_20 : dec 69 20 = some (.iload 4, 2, []) := rfl
theorem d69_22 : dec 69 22 = some (.invokestatic 73, 3, [2, 51, 0, 9, 1, 563, 0]) := rfl
theorem d69_25 : dec 69 25 = some (.ifCond .eq 23, 3, [48]) := rfl
theorem d69_28 : dec 69 28 = some (.aload_n 0, 1, []) := rfl
theorem d69_29 : dec 69 29 = some (.iload 4, 2, []) := rfl
theorem d69_31 : dec 69 31 = some (.invokestatic 76, 3, [2, 52, 0, 9, 1, 566, 0]) := rfl
theorem d69_34 : dec 69 34 = some (.invokevirtual 34, 3, [2, 70, 2, 1, 0, 569, 0]) := rfl
theorem d69_37 : dec 69 37 = some (.ifCond .le 7, 3, [44]) := rfl
theorem d69_40 : dec 69 40 = some (.iconst 1, 1, [1]) := rfl
theorem d69_41 : dec 69 41 = some (.goto 22, 3, [63]) := rfl
theorem d69_44 : dec 69 44 = some (.iconst 0, 1, [0]) := rfl
theorem d69_45 : dec 69 45 = some (.goto 18, 3, [63]) := rfl
theorem d69_48 : dec 69 48 = some (.aload_n 1, 1, []) := rfl
theorem d69_49 : dec 69 49 = some (.getfield 79, 3, [1, 7, 4, 2, 1, 57]) := rfl
theorem d69_52 : dec 69 52 = some (.iload_n 2, 1, []) := rfl
theorem d69_53 : dec 69 53 = some (.iaload, 1, []) := rfl
theorem d69_54 : dec 69 54 = some (.iload_n 3, 1, []) := rfl
theorem d69_55 : dec 69 55 = some (.if_icmp .lt 7, 3, [62]) := rfl
theorem d69_58 : dec 69 58 = some (.iconst 1, 1, [1]) := rfl
theorem d69_59 : dec 69 59 = some (.goto 4, 3, [63]) := rfl
theorem d69_62 : dec 69 62 = some (.iconst 0, 1, [0]) := rfl
theorem d69_63 : dec 69 63 = some (.ireturn, 1, [1]) := rfl
theorem l69 : mL 69 = 5 := rfl
theorem c69 {d : Nat} {P : MP} {I : MI} {L : ML} {C : MC} {Q : QT} {D T t e q : Nat} {g : GS} {sp gr : SP} (hD : DB P D) (hT : TB P T) (hg : TR I T g) (hv : TV g) (hl : LV g) (hs : ∀ t', t < t' → t' < 3 → I (D + 2) t' = nI (sw g q sp gr t')) (hd : 2 ≤ d) (ht : t < 3) (he : e < g (3 + t)) (hq : q ≤ 3) : CT d 69 [.ref D, .ref T, .int (nI (6 * t + e)), .int (nI q)] P I L C Q = Q (.inl (some (.int (nI (if (if g (cl t e 0) < 16 then decide (q ≤ g (cl t e 2)) else has g q sp gr (g (cl t e 0) - 16)) = true then 1 else 0))))) P I L C := by
  have hD' := hD
  obtain ⟨k0, p0, p1, z1, z2⟩ := hD'
  obtain ⟨⟨l0, q0, q1, q2, q3, q4, q5, q6, q7⟩, y1, y2, y3, y4, y5, y6, y7, y8⟩ := hT
  have hc := hv.2.1 t ht
  have hR := hg.2.2 t e ht he
  obtain ⟨e0, e1, e2, e3, e4, _⟩ := hv.2.2 t e ht he
  rw [CT_e (mj := 69) (e := [.ref D, .ref T, .int (nI (6 * t + e)), .int (nI q), UN]) (by omega) rfl (Nat.le_of_ble_eq_true rfl)]
  by_cases h16 : g (cl t e 0) < 16
  · have h3 := e1 h16
    by_cases hz : q ≤ g (cl t e 2)
    · simp (disch := first | assumption | omega) only [Nat.reduceAdd, X_go, go2_some, stp, ldI, ldA, ldL, stI, stA, stL, o1I, o2I, o2L, brI, brII, gl, s1, s2, k1, sl, go_sN, go_sR, go_CT, go_sT, go_no, go_if, pops, bk_v, bk_0, d69_0, d69_1, d69_4, d69_5, d69_7, d69_10, d69_11, d69_12, d69_13, d69_16, d69_17, d69_18, d69_20, d69_22, d69_25, d69_28, d69_29, d69_31, d69_34, d69_37, d69_40, d69_41, d69_44, d69_45, d69_48, d69_49, d69_52, d69_53, d69_54, d69_55, d69_58, d69_59, d69_62, d69_63, n_lt, n_le, n_eq, n_lt0, n_ge0, n_gt0, n_le0, n_eq0, m_lt, m_le, m_gt, m_ge, m_eq, m_eq', m_lt0, m_ge0, m_gt0, m_le0, m_ltm, m_lem, n_in, m_in, n_cl, n_ti, n_div, n_rem', n_dec, n_l, nI_add, pk_mul, an0, an1, decide_eq_true_eq, if_true, if_false, ite_true, ite_false, and_true, true_and, and_false, false_and, not_true, not_false_iff, or_false, false_or, or_true, true_or, eq_self, va_some, Bool.false_eq_true, reduceIte, catS_n, catS_i, catS_r, catS_l, catS_d, Nat.zero_add, Nat.add_zero, decide_true, decide_false, Nat.reduceLeDiff, cat_r, cat_i, cat_l, nle_T, nle_F, nlt_T, nlt_F, neq_T, neq_F, k0, l0, q2, q4, y3, y5, hR, c51, c52, h16, hz]
    · simp (disch := first | assumption | omega) only [Nat.reduceAdd, X_go, go2_some, stp, ldI, ldA, ldL, stI, stA, stL, o1I, o2I, o2L, brI, brII, gl, s1, s2, k1, sl, go_sN, go_sR, go_CT, go_sT, go_no, go_if, pops, bk_v, bk_0, d69_0, d69_1, d69_4, d69_5, d69_7, d69_10, d69_11, d69_12, d69_13, d69_16, d69_17, d69_18, d69_20, d69_22, d69_25, d69_28, d69_29, d69_31, d69_34, d69_37, d69_40, d69_41, d69_44, d69_45, d69_48, d69_49, d69_52, d69_53, d69_54, d69_55, d69_58, d69_59, d69_62, d69_63, n_lt, n_le, n_eq, n_lt0, n_ge0, n_gt0, n_le0, n_eq0, m_lt, m_le, m_gt, m_ge, m_eq, m_eq', m_lt0, m_ge0, m_gt0, m_le0, m_ltm, m_lem, n_in, m_in, n_cl, n_ti, n_div, n_rem', n_dec, n_l, nI_add, pk_mul, an0, an1, decide_eq_true_eq, if_true, if_false, ite_true, ite_false, and_true, true_and, and_false, false_and, not_true, not_false_iff, or_false, false_or, or_true, true_or, eq_self, va_some, Bool.false_eq_true, reduceIte, catS_n, catS_i, catS_r, catS_l, catS_d, Nat.zero_add, Nat.add_zero, decide_true, decide_false, Nat.reduceLeDiff, cat_r, cat_i, cat_l, nle_T, nle_F, nlt_T, nlt_F, neq_T, neq_F, k0, l0, q2, q4, y3, y5, hR, c51, c52, h16, hz]
  · have h2 := e2 (by omega)
    have hs := hs (g (cl t e 0) - 16) (by omega) (by omega)
    have hb := sw_b (q := q) (sp := sp) (gr := gr) hv hl (t := g (cl t e 0) - 16) (by omega)
    have hp := sw_p (q := q) (sp := sp) (gr := gr) hv hl (t := g (cl t e 0) - 16) (by omega)
    by_cases hz : has g q sp gr (g (cl t e 0) - 16) = true
    · have hp := hp.mpr hz
      simp (disch := first | assumption | omega) only [Nat.reduceAdd, X_go, go2_some, stp, ldI, ldA, ldL, stI, stA, stL, o1I, o2I, o2L, brI, brII, gl, s1, s2, k1, sl, go_sN, go_sR, go_CT, go_sT, go_no, go_if, pops, bk_v, bk_0, d69_0, d69_1, d69_4, d69_5, d69_7, d69_10, d69_11, d69_12, d69_13, d69_16, d69_17, d69_18, d69_20, d69_22, d69_25, d69_28, d69_29, d69_31, d69_34, d69_37, d69_40, d69_41, d69_44, d69_45, d69_48, d69_49, d69_52, d69_53, d69_54, d69_55, d69_58, d69_59, d69_62, d69_63, n_lt, n_le, n_eq, n_lt0, n_ge0, n_gt0, n_le0, n_eq0, m_lt, m_le, m_gt, m_ge, m_eq, m_eq', m_lt0, m_ge0, m_gt0, m_le0, m_ltm, m_lem, n_in, m_in, n_cl, n_ti, n_div, n_rem', n_dec, n_l, nI_add, pk_mul, an0, an1, decide_eq_true_eq, if_true, if_false, ite_true, ite_false, and_true, true_and, and_false, false_and, not_true, not_false_iff, or_false, false_or, or_true, true_or, eq_self, va_some, Bool.false_eq_true, reduceIte, catS_n, catS_i, catS_r, catS_l, catS_d, Nat.zero_add, Nat.add_zero, decide_true, decide_false, Nat.reduceLeDiff, cat_r, cat_i, cat_l, nle_T, nle_F, nlt_T, nlt_F, neq_T, neq_F, k0, l0, q2, q4, y3, y5, hR, c51, c52, c70 hD, h16, hz, hs]
    · have hp : ¬ 0 < sw g q sp gr (g (cl t e 0) - 16) := fun q => hz (hp.mp q)
      simp (disch := first | assumption | omega) only [Nat.reduceAdd, X_go, go2_some, stp, ldI, ldA, ldL, stI, stA, stL, o1I, o2I, o2L, brI, brII, gl, s1, s2, k1, sl, go_sN, go_sR, go_CT, go_sT, go_no, go_if, pops, bk_v, bk_0, d69_0, d69_1, d69_4, d69_5, d69_7, d69_10, d69_11, d69_12, d69_13, d69_16, d69_17, d69_18, d69_20, d69_22, d69_25, d69_28, d69_29, d69_31, d69_34, d69_37, d69_40, d69_41, d69_44, d69_45, d69_48, d69_49, d69_52, d69_53, d69_54, d69_55, d69_58, d69_59, d69_62, d69_63, n_lt, n_le, n_eq, n_lt0, n_ge0, n_gt0, n_le0, n_eq0, m_lt, m_le, m_gt, m_ge, m_eq, m_eq', m_lt0, m_ge0, m_gt0, m_le0, m_ltm, m_lem, n_in, m_in, n_cl, n_ti, n_div, n_rem', n_dec, n_l, nI_add, pk_mul, an0, an1, decide_eq_true_eq, if_true, if_false, ite_true, ite_false, and_true, true_and, and_false, false_and, not_true, not_false_iff, or_false, false_or, or_true, true_or, eq_self, va_some, Bool.false_eq_true, reduceIte, catS_n, catS_i, catS_r, catS_l, catS_d, Nat.zero_add, Nat.add_zero, decide_true, decide_false, Nat.reduceLeDiff, cat_r, cat_i, cat_l, nle_T, nle_F, nlt_T, nlt_F, neq_T, neq_F, k0, l0, q2, q4, y3, y5, hR, c51, c52, c70 hD, h16, hz, hs]
theorem CB_fre {g : GS} {x : Int32} {sp gr : SP} {t e : Nat} (hv : TV g) (hx : CB g x sp gr) (ht : t < 3) (he : e < g (3 + t)) : (x &&& ((nI 1 <<< (nI (6 * t + e) &&& 31)) ||| (if g (cl t e 3) = 0 then nI 0 else nI 1 <<< (nI (18 + 4 * t + g (cl t e 3)) &&& 31))) = 0) = (fre g sp gr t e = true) := by
  have hc := hv.2.1 t ht
  have h3 := (hv.2.2 t e ht he).2.2.2.2.2.1
  have h1 := hx.1 t e ht he
  unfold fre
  by_cases z : g (cl t e 3) = 0
  · rw [if_pos z, b_onez (by omega), h1, decide_eq_true z, Bool.true_or, Bool.and_true]
    simp
  · have h2 := hx.2 t (g (cl t e 3)) ht (by omega) h3
    rw [if_neg z, b_two (by omega) (by omega), h1, h2, decide_eq_false z, Bool.false_or]
    simp
