/-! THE MODEL: its shape; leaves -/
def MB (P : MP) : Prop := (P.1 150 = (11, 0) ∧ P.2.1 150 0 = some 151 ∧ P.2.1 150 1 = some 152 ∧ P.2.1 150 2 = some 153 ∧ P.2.1 150 5 = some 154 ∧ P.1 151 = (20, 201) ∧ P.1 152 = (20, 804) ∧ P.1 153 = (20, 201) ∧ P.1 154 = (20, 160)) ∧ (P.2.1 150 7 = some 155 ∧ P.2.1 150 8 = some 156 ∧ P.2.1 150 9 = some 157 ∧ P.2.1 150 10 = some 158 ∧ P.2.1 150 11 = some 159 ∧ P.2.1 150 12 = some 160 ∧ P.2.1 150 13 = some 161 ∧ P.2.1 150 14 = some 162 ∧ P.2.1 150 15 = some 163 ∧ P.2.1 150 16 = some 164 ∧ P.2.1 150 17 = some 165) ∧ (P.1 155 = (20, 8) ∧ P.1 156 = (20, 8) ∧ P.1 157 = (20, 8) ∧ P.1 158 = (20, 8) ∧ P.1 159 = (21, 8) ∧ P.1 160 = (20, 8) ∧ P.1 161 = (20, 8) ∧ P.1 162 = (20, 8) ∧ P.1 163 = (20, 8) ∧ P.1 164 = (20, 8) ∧ P.1 165 = (20, 8)) ∧ P.2.1 150 19 = some 166 ∧ P.2.1 150 20 = some 167 ∧ P.2.1 150 24 = some 168 ∧ P.1 166 = (21, 16) ∧ P.1 167 = (21, 4) ∧ P.1 168 = (20, 201)
/-- the model's row -/
def NR (I : MI) (g : GS) : Prop := ∀ k, k < 201 → I 151 k = nI (g k)
theorem NR_fr {I I' : MI} {g : GS} (h : NR I g) (hf : ∀ j, I' 151 j = I 151 j) : NR I' g := fun k hk => by rw [hf]; exact h k hk
theorem NR_ud {I : MI} {g : GS} {c v : Nat} (h : NR I g) : NR (xu I 151 c (nI v)) (ud g c v) := fun k hk => by
  by_cases z : k = c
  · subst z; rw [xu_s, ud_s]
  · rw [xu_n _ _ (by omega), ud_n z]; exact h k hk
theorem le_s {x : Int32} {n : Nat} (hn : n + 1 < 2147483648) (h : nI (n + 1) ≤ x) : nI n < x := by
  rw [Int32.le_iff_toInt_le, n_ti hn] at h
  rw [Int32.lt_iff_toInt_lt, n_ti (by omega)]
  omega
theorem d151_0 : dec 151 0 = some (.aload_n 0, 1, []) := rfl
theorem d151_1 : dec 151 1 = some (.getfield 65, 3, [1, 10, 4, 0, 0, 998]) := rfl
theorem d151_4 : dec 151 4 = some (.ireturn, 1, [0]) := rfl
theorem l151 : mL 151 = 1 := rfl
theorem c151 {d : Nat} {P : MP} {I : MI} {L : ML} {C : MC} {Q : QT} {k : Nat} (hM : MB P) (h : I 150 4 = nI k) (hd : 1 ≤ d) : CT d 151 [.ref 150] P I L C Q = Q (.inl (some (.int (nI k)))) P I L C := by
  have k0 := hM.1.1
  rw [CT_e (mj := 151) (e := [.ref 150]) (by omega) rfl (Nat.le_of_ble_eq_true rfl)]
  simp (disch := first | assumption | omega) only [Nat.reduceAdd, X_go, go2_some, stp, ldI, ldA, ldL, stI, stA, stL, o1I, o2I, o2L, brI, brII, gl, s1, s2, k1, sl, go_sN, go_sR, go_CT, go_sT, go_no, go_if, pops, bk_v, bk_0, d151_0, d151_1, d151_4, n_lt, n_le, n_eq, n_lt0, n_ge0, n_gt0, n_le0, n_eq0, m_lt, m_le, m_gt, m_ge, m_eq, m_eq', m_lt0, m_ge0, m_gt0, m_le0, m_ltm, m_lem, n_in, m_in, n_cl, n_ti, n_div, n_rem', n_dec, n_l, nI_add, pk_mul, an0, an1, decide_eq_true_eq, if_true, if_false, ite_true, ite_false, and_true, true_and, and_false, false_and, not_true, not_false_iff, or_false, false_or, or_true, true_or, eq_self, va_some, Bool.false_eq_true, reduceIte, catS_n, catS_i, catS_r, catS_l, catS_d, Nat.zero_add, Nat.add_zero, decide_true, decide_false, Nat.reduceLeDiff, cat_r, cat_i, cat_l, nle_T, nle_F, nlt_T, nlt_F, neq_T, neq_F, k0, h]
  done
theorem d153_0 : dec 153 0 = some (.aload_n 0, 1, []) := rfl
theorem d153_1 : dec 153 1 = some (.iload_n 1, 1, []) := rfl
theorem d153_2 : dec 153 2 = some (.putfield 65, 3, [1, 10, 4, 0, 0, 998]) := rfl
theorem d153_5 : dec 153 5 = some (.iload_n 1, 1, []) := rfl
theorem d153_6 : dec 153 6 = some (.ifCond .le 7, 3, [13]) := rfl
theorem d153_9 : dec 153 9 = some (.iconst 1, 1, [1]) := rfl
theorem d153_10 : dec 153 10 = some (.goto 4, 3, [14]) := rfl
theorem d153_13 : dec 153 13 = some (.iconst 0, 1, [0]) := rfl
theorem d153_14 : dec 153 14 = some (.ireturn, 1, [1]) := rfl
theorem l153 : mL 153 = 2 := rfl
theorem c153 {d : Nat} {P : MP} {I : MI} {L : ML} {C : MC} {Q : QT} {k : Nat} (hM : MB P) (hd : 1 ≤ d) (hk : k < 100) : CT d 153 [.ref 150, .int (nI k)] P I L C Q = Q (.inl (some (.int (nI (if k = 0 then 0 else 1))))) P (xu I 150 4 (nI k)) L C := by
  have k0 := hM.1.1
  rw [CT_e (mj := 153) (e := [.ref 150, .int (nI k)]) (by omega) rfl (Nat.le_of_ble_eq_true rfl)]
  by_cases z : k = 0
  · simp (disch := first | assumption | omega) only [Nat.reduceAdd, X_go, go2_some, stp, ldI, ldA, ldL, stI, stA, stL, o1I, o2I, o2L, brI, brII, gl, s1, s2, k1, sl, go_sN, go_sR, go_CT, go_sT, go_no, go_if, pops, bk_v, bk_0, d153_0, d153_1, d153_2, d153_5, d153_6, d153_9, d153_10, d153_13, d153_14, n_lt, n_le, n_eq, n_lt0, n_ge0, n_gt0, n_le0, n_eq0, m_lt, m_le, m_gt, m_ge, m_eq, m_eq', m_lt0, m_ge0, m_gt0, m_le0, m_ltm, m_lem, n_in, m_in, n_cl, n_ti, n_div, n_rem', n_dec, n_l, nI_add, pk_mul, an0, an1, decide_eq_true_eq, if_true, if_false, ite_true, ite_false, and_true, true_and, and_false, false_and, not_true, not_false_iff, or_false, false_or, or_true, true_or, eq_self, va_some, Bool.false_eq_true, reduceIte, catS_n, catS_i, catS_r, catS_l, catS_d, Nat.zero_add, Nat.add_zero, decide_true, decide_false, Nat.reduceLeDiff, cat_r, cat_i, cat_l, nle_T, nle_F, nlt_T, nlt_F, neq_T, neq_F, k0, z]
  · simp (disch := first | assumption | omega) only [Nat.reduceAdd, X_go, go2_some, stp, ldI, ldA, ldL, stI, stA, stL, o1I, o2I, o2L, brI, brII, gl, s1, s2, k1, sl, go_sN, go_sR, go_CT, go_sT, go_no, go_if, pops, bk_v, bk_0, d153_0, d153_1, d153_2, d153_5, d153_6, d153_9, d153_10, d153_13, d153_14, n_lt, n_le, n_eq, n_lt0, n_ge0, n_gt0, n_le0, n_eq0, m_lt, m_le, m_gt, m_ge, m_eq, m_eq', m_lt0, m_ge0, m_gt0, m_le0, m_ltm, m_lem, n_in, m_in, n_cl, n_ti, n_div, n_rem', n_dec, n_l, nI_add, pk_mul, an0, an1, decide_eq_true_eq, if_true, if_false, ite_true, ite_false, and_true, true_and, and_false, false_and, not_true, not_false_iff, or_false, false_or, or_true, true_or, eq_self, va_some, Bool.false_eq_true, reduceIte, catS_n, catS_i, catS_r, catS_l, catS_d, Nat.zero_add, Nat.add_zero, decide_true, decide_false, Nat.reduceLeDiff, cat_r, cat_i, cat_l, nle_T, nle_F, nlt_T, nlt_F, neq_T, neq_F, k0, z]
theorem d156_0 : dec 156 0 = some (.iload_n 0, 1, []) := rfl
theorem d156_1 : dec 156 1 = some (.iload_n 1, 1, []) := rfl
theorem d156_2 : dec 156 2 = some (.if_icmp .lt 12, 3, [14]) := rfl
theorem d156_5 : dec 156 5 = some (.iload_n 0, 1, []) := rfl
theorem d156_6 : dec 156 6 = some (.iload_n 2, 1, []) := rfl
theorem d156_7 : dec 156 7 = some (.if_icmp .gt 7, 3, [14]) := rfl
theorem d156_10 : dec 156 10 = some (.iconst 1, 1, [1]) := rfl
theorem d156_11 : dec 156 11 = some (.goto 4, 3, [15]) := rfl
theorem d156_14 : dec 156 14 = some (.iconst 0, 1, [0]) := rfl
theorem d156_15 : dec 156 15 = some (.ireturn, 1, [1]) := rfl
theorem l156 : mL 156 = 3 := rfl
theorem c156 {d : Nat} {P : MP} {I : MI} {L : ML} {C : MC} {Q : QT} {x lo hi : Nat} (hd : 1 ≤ d) (h1 : lo ≤ x) (h2 : x ≤ hi) (h3 : hi < 2147483648) : CT d 156 [.int (nI x), .int (nI lo), .int (nI hi)] P I L C Q = Q (.inl (some (.int (nI 1)))) P I L C := by
  rw [CT_e (mj := 156) (e := [.int (nI x), .int (nI lo), .int (nI hi)]) (by omega) rfl (Nat.le_of_ble_eq_true rfl)]
  simp (disch := first | assumption | omega) only [Nat.reduceAdd, X_go, go2_some, stp, ldI, ldA, ldL, stI, stA, stL, o1I, o2I, o2L, brI, brII, gl, s1, s2, k1, sl, go_sN, go_sR, go_CT, go_sT, go_no, go_if, pops, bk_v, bk_0, d156_0, d156_1, d156_2, d156_5, d156_6, d156_7, d156_10, d156_11, d156_14, d156_15, n_lt, n_le, n_eq, n_lt0, n_ge0, n_gt0, n_le0, n_eq0, m_lt, m_le, m_gt, m_ge, m_eq, m_eq', m_lt0, m_ge0, m_gt0, m_le0, m_ltm, m_lem, n_in, m_in, n_cl, n_ti, n_div, n_rem', n_dec, n_l, nI_add, pk_mul, an0, an1, decide_eq_true_eq, if_true, if_false, ite_true, ite_false, and_true, true_and, and_false, false_and, not_true, not_false_iff, or_false, false_or, or_true, true_or, eq_self, va_some, Bool.false_eq_true, reduceIte, catS_n, catS_i, catS_r, catS_l, catS_d, Nat.zero_add, Nat.add_zero, decide_true, decide_false, Nat.reduceLeDiff, cat_r, cat_i, cat_l, nle_T, nle_F, nlt_T, nlt_F, neq_T, neq_F]
  done
theorem c156b {d : Nat} {P : MP} {I : MI} {L : ML} {C : MC} {Q : QT} {x y z : Int32} (hd : 1 ≤ d) (hx : x < y ∨ z < x) : CT d 156 [.int x, .int y, .int z] P I L C Q = Q (.inl (some (.int (nI 0)))) P I L C := by
  rw [CT_e (mj := 156) (e := [.int x, .int y, .int z]) (by omega) rfl (Nat.le_of_ble_eq_true rfl)]
  by_cases h : x < y
  · simp (disch := first | assumption | omega) only [Nat.reduceAdd, X_go, go2_some, stp, ldI, ldA, ldL, stI, stA, stL, o1I, o2I, o2L, brI, brII, gl, s1, s2, k1, sl, go_sN, go_sR, go_CT, go_sT, go_no, go_if, pops, bk_v, bk_0, d156_0, d156_1, d156_2, d156_5, d156_6, d156_7, d156_10, d156_11, d156_14, d156_15, n_lt, n_le, n_eq, n_lt0, n_ge0, n_gt0, n_le0, n_eq0, m_lt, m_le, m_gt, m_ge, m_eq, m_eq', m_lt0, m_ge0, m_gt0, m_le0, m_ltm, m_lem, n_in, m_in, n_cl, n_ti, n_div, n_rem', n_dec, n_l, nI_add, pk_mul, an0, an1, decide_eq_true_eq, if_true, if_false, ite_true, ite_false, and_true, true_and, and_false, false_and, not_true, not_false_iff, or_false, false_or, or_true, true_or, eq_self, va_some, Bool.false_eq_true, reduceIte, catS_n, catS_i, catS_r, catS_l, catS_d, Nat.zero_add, Nat.add_zero, decide_true, decide_false, Nat.reduceLeDiff, cat_r, cat_i, cat_l, nle_T, nle_F, nlt_T, nlt_F, neq_T, neq_F, h]
  · have h' := hx.resolve_left h
    simp (disch := first | assumption | omega) only [Nat.reduceAdd, X_go, go2_some, stp, ldI, ldA, ldL, stI, stA, stL, o1I, o2I, o2L, brI, brII, gl, s1, s2, k1, sl, go_sN, go_sR, go_CT, go_sT, go_no, go_if, pops, bk_v, bk_0, d156_0, d156_1, d156_2, d156_5, d156_6, d156_7, d156_10, d156_11, d156_14, d156_15, n_lt, n_le, n_eq, n_lt0, n_ge0, n_gt0, n_le0, n_eq0, m_lt, m_le, m_gt, m_ge, m_eq, m_eq', m_lt0, m_ge0, m_gt0, m_le0, m_ltm, m_lem, n_in, m_in, n_cl, n_ti, n_div, n_rem', n_dec, n_l, nI_add, pk_mul, an0, an1, decide_eq_true_eq, if_true, if_false, ite_true, ite_false, and_true, true_and, and_false, false_and, not_true, not_false_iff, or_false, false_or, or_true, true_or, eq_self, va_some, Bool.false_eq_true, reduceIte, catS_n, catS_i, catS_r, catS_l, catS_d, Nat.zero_add, Nat.add_zero, decide_true, decide_false, Nat.reduceLeDiff, cat_r, cat_i, cat_l, nle_T, nle_F, nlt_T, nlt_F, neq_T, neq_F, h, h']
theorem d155_0 : dec 155 0 = some (.iload_n 0, 1, []) := rfl
theorem d155_1 : dec 155 1 = some (.iconst 0, 1, [0]) := rfl
theorem d155_2 : dec 155 2 = some (.iconst 2, 1, [2]) := rfl
theorem d155_3 : dec 155 3 = some (.invokestatic 76, 3, [2, 156, 0, 10, 0, 1092, 0, 0, 0]) := rfl
theorem d155_6 : dec 155 6 = some (.ireturn, 1, [1]) := rfl
theorem l155 : mL 155 = 1 := rfl
theorem c155 {d : Nat} {P : MP} {I : MI} {L : ML} {C : MC} {Q : QT} {t : Nat} (hd : 2 ≤ d) (ht : t < 3) : CT d 155 [.int (nI t)] P I L C Q = Q (.inl (some (.int (nI 1)))) P I L C := by
  rw [CT_e (mj := 155) (e := [.int (nI t)]) (by omega) rfl (Nat.le_of_ble_eq_true rfl)]
  simp (disch := first | assumption | omega) only [Nat.reduceAdd, X_go, go2_some, stp, ldI, ldA, ldL, stI, stA, stL, o1I, o2I, o2L, brI, brII, gl, s1, s2, k1, sl, go_sN, go_sR, go_CT, go_sT, go_no, go_if, pops, bk_v, bk_0, d155_0, d155_1, d155_2, d155_3, d155_6, n_lt, n_le, n_eq, n_lt0, n_ge0, n_gt0, n_le0, n_eq0, m_lt, m_le, m_gt, m_ge, m_eq, m_eq', m_lt0, m_ge0, m_gt0, m_le0, m_ltm, m_lem, n_in, m_in, n_cl, n_ti, n_div, n_rem', n_dec, n_l, nI_add, pk_mul, an0, an1, decide_eq_true_eq, if_true, if_false, ite_true, ite_false, and_true, true_and, and_false, false_and, not_true, not_false_iff, or_false, false_or, or_true, true_or, eq_self, va_some, Bool.false_eq_true, reduceIte, catS_n, catS_i, catS_r, catS_l, catS_d, Nat.zero_add, Nat.add_zero, decide_true, decide_false, Nat.reduceLeDiff, cat_r, cat_i, cat_l, nle_T, nle_F, nlt_T, nlt_F, neq_T, neq_F, c156]
  done
theorem c155b {d : Nat} {P : MP} {I : MI} {L : ML} {C : MC} {Q : QT} {x : Int32} (hd : 2 ≤ d) (hx : x < 0 ∨ nI 3 ≤ x) : CT d 155 [.int x] P I L C Q = Q (.inl (some (.int (nI 0)))) P I L C := by
  have hx : x < nI 0 ∨ nI 2 < x := hx.elim .inl fun h => .inr (le_s (by omega) h)
  rw [CT_e (mj := 155) (e := [.int x]) (by omega) rfl (Nat.le_of_ble_eq_true rfl)]
  simp (disch := first | assumption | omega) only [Nat.reduceAdd, X_go, go2_some, stp, ldI, ldA, ldL, stI, stA, stL, o1I, o2I, o2L, brI, brII, gl, s1, s2, k1, sl, go_sN, go_sR, go_CT, go_sT, go_no, go_if, pops, bk_v, bk_0, d155_0, d155_1, d155_2, d155_3, d155_6, n_lt, n_le, n_eq, n_lt0, n_ge0, n_gt0, n_le0, n_eq0, m_lt, m_le, m_gt, m_ge, m_eq, m_eq', m_lt0, m_ge0, m_gt0, m_le0, m_ltm, m_lem, n_in, m_in, n_cl, n_ti, n_div, n_rem', n_dec, n_l, nI_add, pk_mul, an0, an1, decide_eq_true_eq, if_true, if_false, ite_true, ite_false, and_true, true_and, and_false, false_and, not_true, not_false_iff, or_false, false_or, or_true, true_or, eq_self, va_some, Bool.false_eq_true, reduceIte, catS_n, catS_i, catS_r, catS_l, catS_d, Nat.zero_add, Nat.add_zero, decide_true, decide_false, Nat.reduceLeDiff, cat_r, cat_i, cat_l, nle_T, nle_F, nlt_T, nlt_F, neq_T, neq_F, c156b]
  done
theorem d160_0 : dec 160 0 = some (.iload_n 0, 1, []) := rfl
theorem d160_1 : dec 160 1 = some (.iconst 0, 1, [0]) := rfl
theorem d160_2 : dec 160 2 = some (.bipush 15, 2, [15]) := rfl
theorem d160_4 : dec 160 4 = some (.invokestatic 76, 3, [2, 156, 0, 10, 0, 1092, 0, 0, 0]) := rfl
theorem d160_7 : dec 160 7 = some (.ireturn, 1, [1]) := rfl
theorem l160 : mL 160 = 1 := rfl
theorem c160 {d : Nat} {P : MP} {I : MI} {L : ML} {C : MC} {Q : QT} {w : Nat} (hd : 2 ≤ d) (hw : w < 2147483648) : CT d 160 [.int (nI w)] P I L C Q = Q (.inl (some (.int (nI (if w < 16 then 1 else 0))))) P I L C := by
  rw [CT_e (mj := 160) (e := [.int (nI w)]) (by omega) rfl (Nat.le_of_ble_eq_true rfl)]
  by_cases z : w < 16
  · simp (disch := first | assumption | omega) only [Nat.reduceAdd, X_go, go2_some, stp, ldI, ldA, ldL, stI, stA, stL, o1I, o2I, o2L, brI, brII, gl, s1, s2, k1, sl, go_sN, go_sR, go_CT, go_sT, go_no, go_if, pops, bk_v, bk_0, d160_0, d160_1, d160_2, d160_4, d160_7, n_lt, n_le, n_eq, n_lt0, n_ge0, n_gt0, n_le0, n_eq0, m_lt, m_le, m_gt, m_ge, m_eq, m_eq', m_lt0, m_ge0, m_gt0, m_le0, m_ltm, m_lem, n_in, m_in, n_cl, n_ti, n_div, n_rem', n_dec, n_l, nI_add, pk_mul, an0, an1, decide_eq_true_eq, if_true, if_false, ite_true, ite_false, and_true, true_and, and_false, false_and, not_true, not_false_iff, or_false, false_or, or_true, true_or, eq_self, va_some, Bool.false_eq_true, reduceIte, catS_n, catS_i, catS_r, catS_l, catS_d, Nat.zero_add, Nat.add_zero, decide_true, decide_false, Nat.reduceLeDiff, cat_r, cat_i, cat_l, nle_T, nle_F, nlt_T, nlt_F, neq_T, neq_F, c156, z]
  · have h : nI 15 < nI w := (nI_ltI (by omega) hw).mpr (by omega)
    simp (disch := first | assumption | omega) only [Nat.reduceAdd, X_go, go2_some, stp, ldI, ldA, ldL, stI, stA, stL, o1I, o2I, o2L, brI, brII, gl, s1, s2, k1, sl, go_sN, go_sR, go_CT, go_sT, go_no, go_if, pops, bk_v, bk_0, d160_0, d160_1, d160_2, d160_4, d160_7, n_lt, n_le, n_eq, n_lt0, n_ge0, n_gt0, n_le0, n_eq0, m_lt, m_le, m_gt, m_ge, m_eq, m_eq', m_lt0, m_ge0, m_gt0, m_le0, m_ltm, m_lem, n_in, m_in, n_cl, n_ti, n_div, n_rem', n_dec, n_l, nI_add, pk_mul, an0, an1, decide_eq_true_eq, if_true, if_false, ite_true, ite_false, and_true, true_and, and_false, false_and, not_true, not_false_iff, or_false, false_or, or_true, true_or, eq_self, va_some, Bool.false_eq_true, reduceIte, catS_n, catS_i, catS_r, catS_l, catS_d, Nat.zero_add, Nat.add_zero, decide_true, decide_false, Nat.reduceLeDiff, cat_r, cat_i, cat_l, nle_T, nle_F, nlt_T, nlt_F, neq_T, neq_F, c156b (hx := Or.inr h), z]
theorem c160b {d : Nat} {P : MP} {I : MI} {L : ML} {C : MC} {Q : QT} {x : Int32} (hd : 2 ≤ d) (hx : x < 0 ∨ nI 16 ≤ x) : CT d 160 [.int x] P I L C Q = Q (.inl (some (.int (nI 0)))) P I L C := by
  have hx : x < nI 0 ∨ nI 15 < x := hx.elim .inl fun h => .inr (le_s (by omega) h)
  rw [CT_e (mj := 160) (e := [.int x]) (by omega) rfl (Nat.le_of_ble_eq_true rfl)]
  simp (disch := first | assumption | omega) only [Nat.reduceAdd, X_go, go2_some, stp, ldI, ldA, ldL, stI, stA, stL, o1I, o2I, o2L, brI, brII, gl, s1, s2, k1, sl, go_sN, go_sR, go_CT, go_sT, go_no, go_if, pops, bk_v, bk_0, d160_0, d160_1, d160_2, d160_4, d160_7, n_lt, n_le, n_eq, n_lt0, n_ge0, n_gt0, n_le0, n_eq0, m_lt, m_le, m_gt, m_ge, m_eq, m_eq', m_lt0, m_ge0, m_gt0, m_le0, m_ltm, m_lem, n_in, m_in, n_cl, n_ti, n_div, n_rem', n_dec, n_l, nI_add, pk_mul, an0, an1, decide_eq_true_eq, if_true, if_false, ite_true, ite_false, and_true, true_and, and_false, false_and, not_true, not_false_iff, or_false, false_or, or_true, true_or, eq_self, va_some, Bool.false_eq_true, reduceIte, catS_n, catS_i, catS_r, catS_l, catS_d, Nat.zero_add, Nat.add_zero, decide_true, decide_false, Nat.reduceLeDiff, cat_r, cat_i, cat_l, nle_T, nle_F, nlt_T, nlt_F, neq_T, neq_F, c156b]
  done
theorem d161_0 : dec 161 0 = some (.iload_n 0, 1, []) := rfl
theorem d161_1 : dec 161 1 = some (.iconst 1, 1, [1]) := rfl
theorem d161_2 : dec 161 2 = some (.sipush 1000, 3, [1000]) := rfl
theorem d161_5 : dec 161 5 = some (.invokestatic 76, 3, [2, 156, 0, 10, 0, 1092, 0, 0, 0]) := rfl
theorem d161_8 : dec 161 8 = some (.ireturn, 1, [1]) := rfl
theorem l161 : mL 161 = 1 := rfl
theorem c161 {d : Nat} {P : MP} {I : MI} {L : ML} {C : MC} {Q : QT} {w : Nat} (hd : 2 ≤ d) (h1 : 1 ≤ w) (h2 : w ≤ 1000) : CT d 161 [.int (nI w)] P I L C Q = Q (.inl (some (.int (nI 1)))) P I L C := by
  rw [CT_e (mj := 161) (e := [.int (nI w)]) (by omega) rfl (Nat.le_of_ble_eq_true rfl)]
  simp (disch := first | assumption | omega) only [Nat.reduceAdd, X_go, go2_some, stp, ldI, ldA, ldL, stI, stA, stL, o1I, o2I, o2L, brI, brII, gl, s1, s2, k1, sl, go_sN, go_sR, go_CT, go_sT, go_no, go_if, pops, bk_v, bk_0, d161_0, d161_1, d161_2, d161_5, d161_8, n_lt, n_le, n_eq, n_lt0, n_ge0, n_gt0, n_le0, n_eq0, m_lt, m_le, m_gt, m_ge, m_eq, m_eq', m_lt0, m_ge0, m_gt0, m_le0, m_ltm, m_lem, n_in, m_in, n_cl, n_ti, n_div, n_rem', n_dec, n_l, nI_add, pk_mul, an0, an1, decide_eq_true_eq, if_true, if_false, ite_true, ite_false, and_true, true_and, and_false, false_and, not_true, not_false_iff, or_false, false_or, or_true, true_or, eq_self, va_some, Bool.false_eq_true, reduceIte, catS_n, catS_i, catS_r, catS_l, catS_d, Nat.zero_add, Nat.add_zero, decide_true, decide_false, Nat.reduceLeDiff, cat_r, cat_i, cat_l, nle_T, nle_F, nlt_T, nlt_F, neq_T, neq_F, c156]
  done
theorem c161b {d : Nat} {P : MP} {I : MI} {L : ML} {C : MC} {Q : QT} {x : Int32} (hd : 2 ≤ d) (hx : x < nI 1 ∨ nI 1000 < x) : CT d 161 [.int x] P I L C Q = Q (.inl (some (.int (nI 0)))) P I L C := by
  rw [CT_e (mj := 161) (e := [.int x]) (by omega) rfl (Nat.le_of_ble_eq_true rfl)]
  simp (disch := first | assumption | omega) only [Nat.reduceAdd, X_go, go2_some, stp, ldI, ldA, ldL, stI, stA, stL, o1I, o2I, o2L, brI, brII, gl, s1, s2, k1, sl, go_sN, go_sR, go_CT, go_sT, go_no, go_if, pops, bk_v, bk_0, d161_0, d161_1, d161_2, d161_5, d161_8, n_lt, n_le, n_eq, n_lt0, n_ge0, n_gt0, n_le0, n_eq0, m_lt, m_le, m_gt, m_ge, m_eq, m_eq', m_lt0, m_ge0, m_gt0, m_le0, m_ltm, m_lem, n_in, m_in, n_cl, n_ti, n_div, n_rem', n_dec, n_l, nI_add, pk_mul, an0, an1, decide_eq_true_eq, if_true, if_false, ite_true, ite_false, and_true, true_and, and_false, false_and, not_true, not_false_iff, or_false, false_or, or_true, true_or, eq_self, va_some, Bool.false_eq_true, reduceIte, catS_n, catS_i, catS_r, catS_l, catS_d, Nat.zero_add, Nat.add_zero, decide_true, decide_false, Nat.reduceLeDiff, cat_r, cat_i, cat_l, nle_T, nle_F, nlt_T, nlt_F, neq_T, neq_F, c156b]
  done
theorem d182_0 : dec 182 0 = some (.iload_n 0, 1, []) := rfl
theorem d182_1 : dec 182 1 = some (.iconst 1, 1, [1]) := rfl
theorem d182_2 : dec 182 2 = some (.iconst 3, 1, [3]) := rfl
theorem d182_3 : dec 182 3 = some (.invokestatic 76, 3, [2, 156, 0, 10, 0, 1092, 0, 0, 0]) := rfl
theorem d182_6 : dec 182 6 = some (.ireturn, 1, [1]) := rfl
theorem l182 : mL 182 = 1 := rfl
theorem c182 {d : Nat} {P : MP} {I : MI} {L : ML} {C : MC} {Q : QT} {r : Nat} (hd : 2 ≤ d) (h1 : 1 ≤ r) (h2 : r ≤ 3) : CT d 182 [.int (nI r)] P I L C Q = Q (.inl (some (.int (nI 1)))) P I L C := by
  rw [CT_e (mj := 182) (e := [.int (nI r)]) (by omega) rfl (Nat.le_of_ble_eq_true rfl)]
  simp (disch := first | assumption | omega) only [Nat.reduceAdd, X_go, go2_some, stp, ldI, ldA, ldL, stI, stA, stL, o1I, o2I, o2L, brI, brII, gl, s1, s2, k1, sl, go_sN, go_sR, go_CT, go_sT, go_no, go_if, pops, bk_v, bk_0, d182_0, d182_1, d182_2, d182_3, d182_6, n_lt, n_le, n_eq, n_lt0, n_ge0, n_gt0, n_le0, n_eq0, m_lt, m_le, m_gt, m_ge, m_eq, m_eq', m_lt0, m_ge0, m_gt0, m_le0, m_ltm, m_lem, n_in, m_in, n_cl, n_ti, n_div, n_rem', n_dec, n_l, nI_add, pk_mul, an0, an1, decide_eq_true_eq, if_true, if_false, ite_true, ite_false, and_true, true_and, and_false, false_and, not_true, not_false_iff, or_false, false_or, or_true, true_or, eq_self, va_some, Bool.false_eq_true, reduceIte, catS_n, catS_i, catS_r, catS_l, catS_d, Nat.zero_add, Nat.add_zero, decide_true, decide_false, Nat.reduceLeDiff, cat_r, cat_i, cat_l, nle_T, nle_F, nlt_T, nlt_F, neq_T, neq_F, c156]
  done
theorem c182b {d : Nat} {P : MP} {I : MI} {L : ML} {C : MC} {Q : QT} {x : Int32} (hd : 2 ≤ d) (hx : x < nI 1 ∨ nI 3 < x) : CT d 182 [.int x] P I L C Q = Q (.inl (some (.int (nI 0)))) P I L C := by
  rw [CT_e (mj := 182) (e := [.int x]) (by omega) rfl (Nat.le_of_ble_eq_true rfl)]
  simp (disch := first | assumption | omega) only [Nat.reduceAdd, X_go, go2_some, stp, ldI, ldA, ldL, stI, stA, stL, o1I, o2I, o2L, brI, brII, gl, s1, s2, k1, sl, go_sN, go_sR, go_CT, go_sT, go_no, go_if, pops, bk_v, bk_0, d182_0, d182_1, d182_2, d182_3, d182_6, n_lt, n_le, n_eq, n_lt0, n_ge0, n_gt0, n_le0, n_eq0, m_lt, m_le, m_gt, m_ge, m_eq, m_eq', m_lt0, m_ge0, m_gt0, m_le0, m_ltm, m_lem, n_in, m_in, n_cl, n_ti, n_div, n_rem', n_dec, n_l, nI_add, pk_mul, an0, an1, decide_eq_true_eq, if_true, if_false, ite_true, ite_false, and_true, true_and, and_false, false_and, not_true, not_false_iff, or_false, false_or, or_true, true_or, eq_self, va_some, Bool.false_eq_true, reduceIte, catS_n, catS_i, catS_r, catS_l, catS_d, Nat.zero_add, Nat.add_zero, decide_true, decide_false, Nat.reduceLeDiff, cat_r, cat_i, cat_l, nle_T, nle_F, nlt_T, nlt_F, neq_T, neq_F, c156b]
  done
theorem d163_0 : dec 163 0 = some (.bipush 6, 2, [6]) := rfl
theorem d163_2 : dec 163 2 = some (.bipush 6, 2, [6]) := rfl
theorem d163_4 : dec 163 4 = some (.bipush 6, 2, [6]) := rfl
theorem d163_6 : dec 163 6 = some (.iload_n 0, 1, []) := rfl
theorem d163_7 : dec 163 7 = some (.imul, 1, []) := rfl
theorem d163_8 : dec 163 8 = some (.iload_n 1, 1, []) := rfl
theorem d163_9 : dec 163 9 = some (.iadd, 1, []) := rfl
theorem d163_10 : dec 163 10 = some (.imul, 1, []) := rfl
theorem d163_11 : dec 163 11 = some (.iadd, 1, []) := rfl
theorem d163_12 : dec 163 12 = some (.ireturn, 1, [0]) := rfl
theorem l163 : mL 163 = 2 := rfl
theorem c163 {d : Nat} {P : MP} {I : MI} {L : ML} {C : MC} {Q : QT} {t e : Nat} (hd : 1 ≤ d) : CT d 163 [.int (nI t), .int (nI e)] P I L C Q = Q (.inl (some (.int (nI (cl t e 0))))) P I L C := by
  rw [CT_e (mj := 163) (e := [.int (nI t), .int (nI e)]) (by omega) rfl (Nat.le_of_ble_eq_true rfl)]
  simp (disch := first | assumption | omega) only [Nat.reduceAdd, X_go, go2_some, stp, ldI, ldA, ldL, stI, stA, stL, o1I, o2I, o2L, brI, brII, gl, s1, s2, k1, sl, go_sN, go_sR, go_CT, go_sT, go_no, go_if, pops, bk_v, bk_0, d163_0, d163_2, d163_4, d163_6, d163_7, d163_8, d163_9, d163_10, d163_11, d163_12, n_lt, n_le, n_eq, n_lt0, n_ge0, n_gt0, n_le0, n_eq0, m_lt, m_le, m_gt, m_ge, m_eq, m_eq', m_lt0, m_ge0, m_gt0, m_le0, m_ltm, m_lem, n_in, m_in, n_cl, n_ti, n_div, n_rem', n_dec, n_l, nI_add, pk_mul, an0, an1, decide_eq_true_eq, if_true, if_false, ite_true, ite_false, and_true, true_and, and_false, false_and, not_true, not_false_iff, or_false, false_or, or_true, true_or, eq_self, va_some, Bool.false_eq_true, reduceIte, catS_n, catS_i, catS_r, catS_l, catS_d, Nat.zero_add, Nat.add_zero, decide_true, decide_false, Nat.reduceLeDiff, cat_r, cat_i, cat_l, nle_T, nle_F, nlt_T, nlt_F, neq_T, neq_F]
  rfl
theorem cl_f {t e f : Nat} : cl t e 0 + f = cl t e f := by unfold cl; omega
theorem d167_0 : dec 167 0 = some (.aload_n 0, 1, []) := rfl
theorem d167_1 : dec 167 1 = some (.getfield 7, 3, [1, 10, 0, 2, 0, 994]) := rfl
theorem d167_4 : dec 167 4 = some (.iload_n 1, 1, []) := rfl
theorem d167_5 : dec 167 5 = some (.iload_n 2, 1, []) := rfl
theorem d167_6 : dec 167 6 = some (.invokestatic 80, 3, [2, 163, 0, 10, 0, 1116, 0, 0]) := rfl
theorem d167_9 : dec 167 9 = some (.iload_n 3, 1, []) := rfl
theorem d167_10 : dec 167 10 = some (.iadd, 1, []) := rfl
theorem d167_11 : dec 167 11 = some (.iaload, 1, []) := rfl
theorem d167_12 : dec 167 12 = some (.ireturn, 1, [0]) := rfl
theorem l167 : mL 167 = 4 := rfl
theorem c167 {d : Nat} {P : MP} {I : MI} {L : ML} {C : MC} {Q : QT} {t e f : Nat} {g : GS} (hM : MB P) (hn : NR I g) (hd : 2 ≤ d) (ht : t < 3) (he : e < 6) (hf : f < 6) : CT d 167 [.ref 150, .int (nI t), .int (nI e), .int (nI f)] P I L C Q = Q (.inl (some (.int (nI (g (cl t e f)))))) P I L C := by
  obtain ⟨⟨k0, p0, p1, p2, p5, y1, _⟩, _⟩ := hM
  have hc := cl_lt ht he hf
  have h := hn (cl t e f) (by omega)
  rw [CT_e (mj := 167) (e := [.ref 150, .int (nI t), .int (nI e), .int (nI f)]) (by omega) rfl (Nat.le_of_ble_eq_true rfl)]
  simp (disch := first | assumption | omega) only [Nat.reduceAdd, X_go, go2_some, stp, ldI, ldA, ldL, stI, stA, stL, o1I, o2I, o2L, brI, brII, gl, s1, s2, k1, sl, go_sN, go_sR, go_CT, go_sT, go_no, go_if, pops, bk_v, bk_0, d167_0, d167_1, d167_4, d167_5, d167_6, d167_9, d167_10, d167_11, d167_12, n_lt, n_le, n_eq, n_lt0, n_ge0, n_gt0, n_le0, n_eq0, m_lt, m_le, m_gt, m_ge, m_eq, m_eq', m_lt0, m_ge0, m_gt0, m_le0, m_ltm, m_lem, n_in, m_in, n_cl, n_ti, n_div, n_rem', n_dec, n_l, nI_add, pk_mul, an0, an1, decide_eq_true_eq, if_true, if_false, ite_true, ite_false, and_true, true_and, and_false, false_and, not_true, not_false_iff, or_false, false_or, or_true, true_or, eq_self, va_some, Bool.false_eq_true, reduceIte, catS_n, catS_i, catS_r, catS_l, catS_d, Nat.zero_add, Nat.add_zero, decide_true, decide_false, Nat.reduceLeDiff, cat_r, cat_i, cat_l, nle_T, nle_F, nlt_T, nlt_F, neq_T, neq_F, k0, p0, y1, c163, cl_f, h]
  done
theorem d165_0 : dec 165 0 = some (.iload_n 1, 1, []) := rfl
theorem d165_1 : dec 165 1 = some (.invokestatic 84, 3, [2, 155, 0, 10, 0, 1089, 0]) := rfl
theorem d165_4 : dec 165 4 = some (.ifCond .eq 25, 3, [29]) := rfl
theorem d165_7 : dec 165 7 = some (.iload_n 2, 1, []) := rfl
theorem d165_8 : dec 165 8 = some (.iconst 0, 1, [0]) := rfl
theorem d165_9 : dec 165 9 = some (.aload_n 0, 1, []) := rfl
theorem d165_10 : dec 165 10 = some (.getfield 7, 3, [1, 10, 0, 2, 0, 994]) := rfl
theorem d165_13 : dec 165 13 = some (.iconst 3, 1, [3]) := rfl
theorem d165_14 : dec 165 14 = some (.iload_n 1, 1, []) := rfl
theorem d165_15 : dec 165 15 = some (.iadd, 1, []) := rfl
theorem d165_16 : dec 165 16 = some (.iaload, 1, []) := rfl
theorem d165_17 : dec 165 17 = some (.iconst 1, 1, [1]) := rfl
theorem d165_18 : dec 165 18 = some (.isub, 1, []) := rfl
theorem d165_19 : dec 165 19 = some (.invokestatic 76, 3, [2, 156, 0, 10, 0, 1092, 0, 0, 0]) := rfl
theorem d165_22 : dec 165 22 = some (.ifCond .eq 7, 3, [29]) := rfl
theorem d165_25 : dec 165 25 = some (.iconst 1, 1, [1]) := rfl
theorem d165_26 : dec 165 26 = some (.goto 4, 3, [30]) := rfl
theorem d165_29 : dec 165 29 = some (.iconst 0, 1, [0]) := rfl
theorem d165_30 : dec 165 30 = some (.ireturn, 1, [1]) := rfl
theorem l165 : mL 165 = 3 := rfl
theorem c165 {d : Nat} {P : MP} {I : MI} {L : ML} {C : MC} {Q : QT} {t e : Nat} {g : GS} (hM : MB P) (hn : NR I g) (hv : TV g) (hd : 4 ≤ d) (ht : t < 3) (he : e < g (3 + t)) : CT d 165 [.ref 150, .int (nI t), .int (nI e)] P I L C Q = Q (.inl (some (.int (nI 1)))) P I L C := by
  obtain ⟨⟨k0, p0, p1, p2, p5, y1, _⟩, _⟩ := hM
  have hc := hv.2.1 t ht
  have h := hn (3 + t) (by omega)
  rw [CT_e (mj := 165) (e := [.ref 150, .int (nI t), .int (nI e)]) (by omega) rfl (Nat.le_of_ble_eq_true rfl)]
  simp (disch := first | assumption | omega) only [Nat.reduceAdd, X_go, go2_some, stp, ldI, ldA, ldL, stI, stA, stL, o1I, o2I, o2L, brI, brII, gl, s1, s2, k1, sl, go_sN, go_sR, go_CT, go_sT, go_no, go_if, pops, bk_v, bk_0, d165_0, d165_1, d165_4, d165_7, d165_8, d165_9, d165_10, d165_13, d165_14, d165_15, d165_16, d165_17, d165_18, d165_19, d165_22, d165_25, d165_26, d165_29, d165_30, n_lt, n_le, n_eq, n_lt0, n_ge0, n_gt0, n_le0, n_eq0, m_lt, m_le, m_gt, m_ge, m_eq, m_eq', m_lt0, m_ge0, m_gt0, m_le0, m_ltm, m_lem, n_in, m_in, n_cl, n_ti, n_div, n_rem', n_dec, n_l, nI_add, pk_mul, an0, an1, decide_eq_true_eq, if_true, if_false, ite_true, ite_false, and_true, true_and, and_false, false_and, not_true, not_false_iff, or_false, false_or, or_true, true_or, eq_self, va_some, Bool.false_eq_true, reduceIte, catS_n, catS_i, catS_r, catS_l, catS_d, Nat.zero_add, Nat.add_zero, decide_true, decide_false, Nat.reduceLeDiff, cat_r, cat_i, cat_l, nle_T, nle_F, nlt_T, nlt_F, neq_T, neq_F, k0, p0, y1, c155, h, n_sub, c156]
  done
theorem c165t {d : Nat} {P : MP} {I : MI} {L : ML} {C : MC} {Q : QT} {x y : Int32} (hd : 4 ≤ d) (hx : x < 0 ∨ nI 3 ≤ x) : CT d 165 [.ref 150, .int x, .int y] P I L C Q = Q (.inl (some (.int (nI 0)))) P I L C := by
  rw [CT_e (mj := 165) (e := [.ref 150, .int x, .int y]) (by omega) rfl (Nat.le_of_ble_eq_true rfl)]
  simp (disch := first | assumption | omega) only [Nat.reduceAdd, X_go, go2_some, stp, ldI, ldA, ldL, stI, stA, stL, o1I, o2I, o2L, brI, brII, gl, s1, s2, k1, sl, go_sN, go_sR, go_CT, go_sT, go_no, go_if, pops, bk_v, bk_0, d165_0, d165_1, d165_4, d165_7, d165_8, d165_9, d165_10, d165_13, d165_14, d165_15, d165_16, d165_17, d165_18, d165_19, d165_22, d165_25, d165_26, d165_29, d165_30, n_lt, n_le, n_eq, n_lt0, n_ge0, n_gt0, n_le0, n_eq0, m_lt, m_le, m_gt, m_ge, m_eq, m_eq', m_lt0, m_ge0, m_gt0, m_le0, m_ltm, m_lem, n_in, m_in, n_cl, n_ti, n_div, n_rem', n_dec, n_l, nI_add, pk_mul, an0, an1, decide_eq_true_eq, if_true, if_false, ite_true, ite_false, and_true, true_and, and_false, false_and, not_true, not_false_iff, or_false, false_or, or_true, true_or, eq_self, va_some, Bool.false_eq_true, reduceIte, catS_n, catS_i, catS_r, catS_l, catS_d, Nat.zero_add, Nat.add_zero, decide_true, decide_false, Nat.reduceLeDiff, cat_r, cat_i, cat_l, nle_T, nle_F, nlt_T, nlt_F, neq_T, neq_F, c155b]
  done
theorem c165e {d : Nat} {P : MP} {I : MI} {L : ML} {C : MC} {Q : QT} {t : Nat} {y : Int32} {g : GS} (hM : MB P) (hn : NR I g) (hv : TV g) (hd : 4 ≤ d) (ht : t < 3) (he : y < 0 ∨ nI (g (3 + t)) ≤ y) : CT d 165 [.ref 150, .int (nI t), .int y] P I L C Q = Q (.inl (some (.int (nI 0)))) P I L C := by
  obtain ⟨⟨k0, p0, p1, p2, p5, y1, _⟩, _⟩ := hM
  have hc := hv.2.1 t ht
  have h := hn (3 + t) (by omega)
  have hx : y < nI 0 ∨ nI (g (3 + t)) - nI 1 < y := by
    refine he.elim .inl fun q => .inr ?_
    rcases Nat.eq_zero_or_pos (g (3 + t)) with z | z
    · rw [z] at q ⊢
      rw [show nI 0 - nI 1 = nI 4294967295 by decide]
      rw [Int32.le_iff_toInt_le, n_ti (by omega)] at q
      rw [Int32.lt_iff_toInt_lt, m_toInt]
      omega
    · rw [n_sub z]
      exact le_s (by omega) (by rw [show g (3 + t) - 1 + 1 = g (3 + t) by omega]; exact q)
  rw [CT_e (mj := 165) (e := [.ref 150, .int (nI t), .int y]) (by omega) rfl (Nat.le_of_ble_eq_true rfl)]
  simp (disch := first | assumption | omega) only [Nat.reduceAdd, X_go, go2_some, stp, ldI, ldA, ldL, stI, stA, stL, o1I, o2I, o2L, brI, brII, gl, s1, s2, k1, sl, go_sN, go_sR, go_CT, go_sT, go_no, go_if, pops, bk_v, bk_0, d165_0, d165_1, d165_4, d165_7, d165_8, d165_9, d165_10, d165_13, d165_14, d165_15, d165_16, d165_17, d165_18, d165_19, d165_22, d165_25, d165_26, d165_29, d165_30, n_lt, n_le, n_eq, n_lt0, n_ge0, n_gt0, n_le0, n_eq0, m_lt, m_le, m_gt, m_ge, m_eq, m_eq', m_lt0, m_ge0, m_gt0, m_le0, m_ltm, m_lem, n_in, m_in, n_cl, n_ti, n_div, n_rem', n_dec, n_l, nI_add, pk_mul, an0, an1, decide_eq_true_eq, if_true, if_false, ite_true, ite_false, and_true, true_and, and_false, false_and, not_true, not_false_iff, or_false, false_or, or_true, true_or, eq_self, va_some, Bool.false_eq_true, reduceIte, catS_n, catS_i, catS_r, catS_l, catS_d, Nat.zero_add, Nat.add_zero, decide_true, decide_false, Nat.reduceLeDiff, cat_r, cat_i, cat_l, nle_T, nle_F, nlt_T, nlt_F, neq_T, neq_F, k0, p0, y1, c155, h, c156b (hx := hx)]
  done
theorem d172_0 : dec 172 0 = some (.aload_n 0, 1, []) := rfl
theorem d172_1 : dec 172 1 = some (.iload_n 1, 1, []) := rfl
theorem d172_2 : dec 172 2 = some (.iload_n 2, 1, []) := rfl
theorem d172_3 : dec 172 3 = some (.iconst 2, 1, [2]) := rfl
theorem d172_4 : dec 172 4 = some (.invokevirtual 107, 3, [2, 167, 2, 10, 0, 1131, 0, 0, 0]) := rfl
theorem d172_7 : dec 172 7 = some (.istore_n 3, 1, []) := rfl
theorem d172_8 : dec 172 8 = some (.iload_n 3, 1, []) := rfl
theorem d172_9 : dec 172 9 = some (.ifCond .ne 13, 3, [22]) := rfl
theorem d172_12 : dec 172 12 = some (.aload_n 0, 1, []) := rfl
theorem d172_13 : dec 172 13 = some (.iload_n 1, 1, []) := rfl
theorem d172_14 : dec 172 14 = some (.iload_n 2, 1, []) := rfl
theorem d172_15 : dec 172 15 = some (.iconst 1, 1, [1]) := rfl
theorem d172_16 : dec 172 16 = some (.invokevirtual 107, 3, [2, 167, 2, 10, 0, 1131, 0, 0, 0]) := rfl
theorem d172_19 : dec 172 19 = some (.goto 34, 3, [53]) := rfl
theorem d172_22 : dec 172 22 = some (.aload_n 0, 1, []) := rfl
theorem d172_23 : dec 172 23 = some (.iload_n 1, 1, []) := rfl
theorem d172_24 : dec 172 24 = some (.iload_n 2, 1, []) := rfl
theorem d172_25 : dec 172 25 = some (.iconst 1, 1, [1]) := rfl
theorem d172_26 : dec 172 26 = some (.invokevirtual 107, 3, [2, 167, 2, 10, 0, 1131, 0, 0, 0]) := rfl
theorem d172_29 : dec 172 29 = some (.bipush 100, 2, [100]) := rfl
theorem d172_31 : dec 172 31 = some (.aload_n 0, 1, []) := rfl
theorem d172_32 : dec 172 32 = some (.getfield 7, 3, [1, 10, 0, 2, 0, 994]) := rfl
theorem d172_35 : dec 172 35 = some (.bipush 120, 2, [120]) := rfl
theorem d172_37 : dec 172 37 = some (.iaload, 1, []) := rfl
theorem d172_38 : dec 172 38 = some (.aload_n 0, 1, []) := rfl
theorem d172_39 : dec 172 39 = some (.getfield 7, 3, [1, 10, 0, 2, 0, 994]) := rfl
theorem d172_42 : dec 172 42 = some (.bipush 113, 2, [113]) := rfl
theorem d172_44 : dec 172 44 = some (.iload_n 3, 1, []) := rfl
theorem d172_45 : dec 172 45 = some (.iadd, 1, []) := rfl
theorem d172_46 : dec 172 46 = some (.iaload, 1, []) := rfl
theorem d172_47 : dec 172 47 = some (.imul, 1, []) := rfl
theorem d172_48 : dec 172 48 = some (.iadd, 1, []) := rfl
theorem d172_49 : dec 172 49 = some (.imul, 1, []) := rfl
theorem d172_50 : dec 172 50 = some (.bipush 100, 2, [100]) := rfl
theorem d172_52 : dec 172 52 = some (.idiv, 1, []) := rfl
theorem d172_53 : dec 172 53 = some (.ireturn, 1, [0]) := rfl
theorem l172 : mL 172 = 4 := rfl
theorem c172 {d : Nat} {P : MP} {I : MI} {L : ML} {C : MC} {Q : QT} {t e : Nat} {g : GS} (hM : MB P) (hn : NR I g) (hv : TV g) (hl : LV g) (hd : 3 ≤ d) (ht : t < 3) (he : e < g (3 + t)) : CT d 172 [.ref 150, .int (nI t), .int (nI e)] P I L C Q = Q (.inl (some (.int (nI (pw g t e))))) P I L C := by
  have hM' := hM
  obtain ⟨⟨k0, p0, p1, p2, p5, y1, _⟩, _⟩ := hM'
  have hc := hv.2.1 t ht
  obtain ⟨E0, E1, E2, E3, E4, _⟩ := hv.2.2 t e ht he
  have hr : g (cl t e 2) ≤ 3 := by
    rcases Nat.lt_or_ge (g (cl t e 0)) 16 with z | z
    · exact E1 z
    · have := (E2 z).2; omega
  have h1 := hn 120 (by omega)
  have h2 := hn (113 + g (cl t e 2)) (by omega)
  unfold pw
  rw [CT_e (mj := 172) (e := [.ref 150, .int (nI t), .int (nI e), UN]) (by omega) rfl (Nat.le_of_ble_eq_true rfl)]
  by_cases z : g (cl t e 2) = 0
  · simp (disch := first | assumption | omega) only [Nat.reduceAdd, X_go, go2_some, stp, ldI, ldA, ldL, stI, stA, stL, o1I, o2I, o2L, brI, brII, gl, s1, s2, k1, sl, go_sN, go_sR, go_CT, go_sT, go_no, go_if, pops, bk_v, bk_0, d172_0, d172_1, d172_2, d172_3, d172_4, d172_7, d172_8, d172_9, d172_12, d172_13, d172_14, d172_15, d172_16, d172_19, d172_22, d172_23, d172_24, d172_25, d172_26, d172_29, d172_31, d172_32, d172_35, d172_37, d172_38, d172_39, d172_42, d172_44, d172_45, d172_46, d172_47, d172_48, d172_49, d172_50, d172_52, d172_53, n_lt, n_le, n_eq, n_lt0, n_ge0, n_gt0, n_le0, n_eq0, m_lt, m_le, m_gt, m_ge, m_eq, m_eq', m_lt0, m_ge0, m_gt0, m_le0, m_ltm, m_lem, n_in, m_in, n_cl, n_ti, n_div, n_rem', n_dec, n_l, nI_add, pk_mul, an0, an1, decide_eq_true_eq, if_true, if_false, ite_true, ite_false, and_true, true_and, and_false, false_and, not_true, not_false_iff, or_false, false_or, or_true, true_or, eq_self, va_some, Bool.false_eq_true, reduceIte, catS_n, catS_i, catS_r, catS_l, catS_d, Nat.zero_add, Nat.add_zero, decide_true, decide_false, Nat.reduceLeDiff, cat_r, cat_i, cat_l, nle_T, nle_F, nlt_T, nlt_F, neq_T, neq_F, k0, c167 hM hn, z]
  · have hcc := (hl.1 (g (cl t e 2)) (by omega) hr).1
    have m1 : g 120 * g (113 + g (cl t e 2)) ≤ 50 * 200 := Nat.mul_le_mul hl.2.1 hcc
    have m2 : g (cl t e 1) * (100 + g 120 * g (113 + g (cl t e 2))) ≤ 1000 * 10100 := Nat.mul_le_mul E4 (by omega)
    simp (disch := first | assumption | omega) only [Nat.reduceAdd, X_go, go2_some, stp, ldI, ldA, ldL, stI, stA, stL, o1I, o2I, o2L, brI, brII, gl, s1, s2, k1, sl, go_sN, go_sR, go_CT, go_sT, go_no, go_if, pops, bk_v, bk_0, d172_0, d172_1, d172_2, d172_3, d172_4, d172_7, d172_8, d172_9, d172_12, d172_13, d172_14, d172_15, d172_16, d172_19, d172_22, d172_23, d172_24, d172_25, d172_26, d172_29, d172_31, d172_32, d172_35, d172_37, d172_38, d172_39, d172_42, d172_44, d172_45, d172_46, d172_47, d172_48, d172_49, d172_50, d172_52, d172_53, n_lt, n_le, n_eq, n_lt0, n_ge0, n_gt0, n_le0, n_eq0, m_lt, m_le, m_gt, m_ge, m_eq, m_eq', m_lt0, m_ge0, m_gt0, m_le0, m_ltm, m_lem, n_in, m_in, n_cl, n_ti, n_div, n_rem', n_dec, n_l, nI_add, pk_mul, an0, an1, decide_eq_true_eq, if_true, if_false, ite_true, ite_false, and_true, true_and, and_false, false_and, not_true, not_false_iff, or_false, false_or, or_true, true_or, eq_self, va_some, Bool.false_eq_true, reduceIte, catS_n, catS_i, catS_r, catS_l, catS_d, Nat.zero_add, Nat.add_zero, decide_true, decide_false, Nat.reduceLeDiff, cat_r, cat_i, cat_l, nle_T, nle_F, nlt_T, nlt_F, neq_T, neq_F, k0, p0, y1, c167 hM hn, z, h1, h2]
