/-! THE MODEL: calls that change a cell -/
def fm (I I' : MI) : Prop := ∀ k j, k < 150 ∨ 168 < k → I' k j = I k j
theorem ZR_4 {I : MI} {g : GS} {n len : Nat} {ps : Nat → GS} {tx : Nat → Nat} {v : Int32} (h : ZR I g n ps len tx) : ZR (xu I 150 4 v) g n ps len tx := by
  obtain ⟨h1, h2, h3, h4, h5⟩ := h
  exact ⟨NR_fr h1 fun j => xu_n _ _ (by omega), by rw [xu_n _ _ (by omega)]; exact h2, fun i k hi hk => by rw [xu_n _ _ (by omega)]; exact h3 i k hi hk, by rw [xu_n _ _ (by omega)]; exact h4, fun i hi => by rw [xu_n _ _ (by omega)]; exact h5 i hi⟩
theorem ZR_now {I I' : MI} {g g' : GS} {n len : Nat} {ps : Nat → GS} {tx : Nat → Nat} (h : ZR I g n ps len tx) (hn : NR I' g') (hf : ∀ k j, k ≠ 151 → I' k j = I k j) : ZR I' g' n ps len tx := by
  obtain ⟨h1, h2, h3, h4, h5⟩ := h
  exact ⟨hn, by rw [hf _ _ (by omega)]; exact h2, fun i k hi hk => by rw [hf _ _ (by omega)]; exact h3 i k hi hk, by rw [hf _ _ (by omega)]; exact h4, fun i hi => by rw [hf _ _ (by omega)]; exact h5 i hi⟩
theorem fm_4 {I : MI} {v : Int32} : fm I (xu I 150 4 v) := fun k j h => xu_n _ _ (by omega)
theorem d154_0 : dec 154 0 = some (.aload_n 0, 1, []) := rfl
theorem d154_1 : dec 154 1 = some (.iload_n 1, 1, []) := rfl
theorem d154_2 : dec 154 2 = some (.invokestatic 84, 3, [2, 155, 0, 10, 0, 1089, 0]) := rfl
theorem d154_5 : dec 154 5 = some (.ifCond .ne 7, 3, [12]) := rfl
theorem d154_8 : dec 154 8 = some (.iconst 1, 1, [1]) := rfl
theorem d154_9 : dec 154 9 = some (.goto 17, 3, [26]) := rfl
theorem d154_12 : dec 154 12 = some (.iload_n 2, 1, []) := rfl
theorem d154_13 : dec 154 13 = some (.iconst 1, 1, [1]) := rfl
theorem d154_14 : dec 154 14 = some (.iconst 2, 1, [2]) := rfl
theorem d154_15 : dec 154 15 = some (.invokestatic 76, 3, [2, 156, 0, 10, 0, 1092, 0, 0, 0]) := rfl
theorem d154_18 : dec 154 18 = some (.ifCond .eq 7, 3, [25]) := rfl
theorem d154_21 : dec 154 21 = some (.iconst 0, 1, [0]) := rfl
theorem d154_22 : dec 154 22 = some (.goto 4, 3, [26]) := rfl
theorem d154_25 : dec 154 25 = some (.iconst 2, 1, [2]) := rfl
theorem d154_26 : dec 154 26 = some (.invokevirtual 72, 3, [2, 153, 2, 10, 0, 1081, 0]) := rfl
theorem d154_29 : dec 154 29 = some (.ifCond .eq 5, 3, [34]) := rfl
theorem d154_32 : dec 154 32 = some (.iconst 0, 1, [0]) := rfl
theorem d154_33 : dec 154 33 = some (.ireturn, 1, [0]) := rfl
theorem d154_34 : dec 154 34 = some (.aload_n 0, 1, []) := rfl
theorem d154_35 : dec 154 35 = some (.invokevirtual 87, 3, [2, 157, 2, 10, 0, 1095]) := rfl
theorem d154_38 : dec 154 38 = some (.aload_n 0, 1, []) := rfl
theorem d154_39 : dec 154 39 = some (.getfield 7, 3, [1, 10, 0, 2, 0, 994]) := rfl
theorem d154_42 : dec 154 42 = some (.iconst 0, 1, [0]) := rfl
theorem d154_43 : dec 154 43 = some (.iload_n 1, 1, []) := rfl
theorem d154_44 : dec 154 44 = some (.iadd, 1, []) := rfl
theorem d154_45 : dec 154 45 = some (.iaload, 1, []) := rfl
theorem d154_46 : dec 154 46 = some (.istore_n 3, 1, []) := rfl
theorem d154_47 : dec 154 47 = some (.aload_n 0, 1, []) := rfl
theorem d154_48 : dec 154 48 = some (.getfield 7, 3, [1, 10, 0, 2, 0, 994]) := rfl
theorem d154_51 : dec 154 51 = some (.iconst 0, 1, [0]) := rfl
theorem d154_52 : dec 154 52 = some (.iload_n 1, 1, []) := rfl
theorem d154_53 : dec 154 53 = some (.iadd, 1, []) := rfl
theorem d154_54 : dec 154 54 = some (.iload_n 2, 1, []) := rfl
theorem d154_55 : dec 154 55 = some (.iastore, 1, []) := rfl
theorem d154_56 : dec 154 56 = some (.iload_n 3, 1, []) := rfl
theorem d154_57 : dec 154 57 = some (.ireturn, 1, [0]) := rfl
theorem l154 : mL 154 = 4 := rfl
theorem c154 {d : Nat} {P : MP} {I : MI} {L : ML} {C : MC} {t v : Nat} {B n len : Nat} {g : GS} {ps : Nat → GS} {tx : Nat → Nat} (hM : MB P) (hR : ZR I g n ps len tx) (hA : AV B g n ps len tx) (hd : 4 ≤ d) (ht : t < 3) (h1 : 1 ≤ v) (h2 : v ≤ 2) : ∃ I', ZR I' (ud g t v) (puN n) (puS n ps g) len tx ∧ I' 150 4 = nI 0 ∧ fm I I' ∧ ∀ Q, CT d 154 [.ref 150, .int (nI t), .int (nI v)] P I L C Q = Q (.inl (some (.int (nI (g t))))) P I' L C := by
  have hM' := hM
  obtain ⟨⟨k0, p0, p1, p2, p5, y1, y2, y3, y4⟩, _⟩ := hM'
  have hR' := hR
  obtain ⟨hN, h3, hps', h6, htx'⟩ := hR'
  have hA' := hA
  obtain ⟨hGV, hps, hn4, hlen, htx⟩ := hA'
  have h140 := GV_140 hGV
  have hv := hGV.1
  have hl := hGV.2.1
  have hFv := hGV.2.2
  have hR0 : ZR (xu I 150 4 (nI 0)) g n ps len tx := ZR_4 hR
  have hN0 := hR0.1
  obtain ⟨J, j1, j2, j3⟩ := c157 (d := d - 1) (L := L) (C := C) hM hR0 hn4 (by omega)
  have hNJ := j1.1
  have j4 : J 150 4 = nI 0 := by rw [j2 _ _ (by omega) (by omega), xu_s]
  have j5 : ∀ k j, k < 150 ∨ 168 < k → J k j = I k j := fun k j h => by rw [j2 _ _ (by omega) (by omega), xu_n _ _ (by omega)]
  have e0 := hNJ t (by omega)
  refine ⟨xu J 151 t (nI v), ZR_now j1 (NR_ud hNJ) (fun k j h => xu_n _ _ (by omega)), by rw [xu_n _ _ (by omega)]; exact j4, fun k j h => by rw [xu_n _ _ (by omega), j5 k j h], fun Q => ?_⟩
  rw [CT_e (mj := 154) (e := [.ref 150, .int (nI t), .int (nI v), UN]) (by omega) rfl (Nat.le_of_ble_eq_true rfl)]
  simp (disch := first | assumption | omega) only [Nat.reduceAdd, X_go, go2_some, stp, ldI, ldA, ldL, stI, stA, stL, o1I, o2I, o2L, brI, brII, gl, s1, s2, k1, sl, go_sN, go_sR, go_CT, go_sT, go_no, go_if, pops, bk_v, bk_0, d154_0, d154_1, d154_2, d154_5, d154_8, d154_9, d154_12, d154_13, d154_14, d154_15, d154_18, d154_21, d154_22, d154_25, d154_26, d154_29, d154_32, d154_33, d154_34, d154_35, d154_38, d154_39, d154_42, d154_43, d154_44, d154_45, d154_46, d154_47, d154_48, d154_51, d154_52, d154_53, d154_54, d154_55, d154_56, d154_57, n_lt, n_le, n_eq, n_lt0, n_ge0, n_gt0, n_le0, n_eq0, m_lt, m_le, m_gt, m_ge, m_eq, m_eq', m_lt0, m_ge0, m_gt0, m_le0, m_ltm, m_lem, n_in, m_in, n_cl, n_ti, n_div, n_rem', n_dec, n_l, nI_add, pk_mul, an0, an1, decide_eq_true_eq, if_true, if_false, ite_true, ite_false, and_true, true_and, and_false, false_and, not_true, not_false_iff, or_false, false_or, or_true, true_or, eq_self, va_some, Bool.false_eq_true, reduceIte, catS_n, catS_i, catS_r, catS_l, catS_d, Nat.zero_add, Nat.add_zero, decide_true, decide_false, Nat.reduceLeDiff, cat_r, cat_i, cat_l, nle_T, nle_F, nlt_T, nlt_F, neq_T, neq_F, k0, p0, y1, c155, c156, c153 hM, j3, e0]
  done
theorem c154b {d : Nat} {P : MP} {I : MI} {L : ML} {C : MC} {Q : QT} {x y : Int32} (hM : MB P) (hd : 4 ≤ d) (hx : x < 0 ∨ nI 3 ≤ x) : CT d 154 [.ref 150, .int x, .int y] P I L C Q = Q (.inl (some (.int (nI 0)))) P (xu I 150 4 (nI 1)) L C := by
  have k0 := hM.1.1
  rw [CT_e (mj := 154) (e := [.ref 150, .int x, .int y, UN]) (by omega) rfl (Nat.le_of_ble_eq_true rfl)]
  simp (disch := first | assumption | omega) only [Nat.reduceAdd, X_go, go2_some, stp, ldI, ldA, ldL, stI, stA, stL, o1I, o2I, o2L, brI, brII, gl, s1, s2, k1, sl, go_sN, go_sR, go_CT, go_sT, go_no, go_if, pops, bk_v, bk_0, d154_0, d154_1, d154_2, d154_5, d154_8, d154_9, d154_12, d154_13, d154_14, d154_15, d154_18, d154_21, d154_22, d154_25, d154_26, d154_29, d154_32, d154_33, d154_34, d154_35, d154_38, d154_39, d154_42, d154_43, d154_44, d154_45, d154_46, d154_47, d154_48, d154_51, d154_52, d154_53, d154_54, d154_55, d154_56, d154_57, n_lt, n_le, n_eq, n_lt0, n_ge0, n_gt0, n_le0, n_eq0, m_lt, m_le, m_gt, m_ge, m_eq, m_eq', m_lt0, m_ge0, m_gt0, m_le0, m_ltm, m_lem, n_in, m_in, n_cl, n_ti, n_div, n_rem', n_dec, n_l, nI_add, pk_mul, an0, an1, decide_eq_true_eq, if_true, if_false, ite_true, ite_false, and_true, true_and, and_false, false_and, not_true, not_false_iff, or_false, false_or, or_true, true_or, eq_self, va_some, Bool.false_eq_true, reduceIte, catS_n, catS_i, catS_r, catS_l, catS_d, Nat.zero_add, Nat.add_zero, decide_true, decide_false, Nat.reduceLeDiff, cat_r, cat_i, cat_l, nle_T, nle_F, nlt_T, nlt_F, neq_T, neq_F, k0, c155b, c153 hM]
  done
theorem c154c {d : Nat} {P : MP} {I : MI} {L : ML} {C : MC} {Q : QT} {t : Nat} {y : Int32} (hM : MB P) (hd : 4 ≤ d) (ht : t < 3) (hy : y < nI 1 ∨ nI 2 < y) : CT d 154 [.ref 150, .int (nI t), .int y] P I L C Q = Q (.inl (some (.int (nI 0)))) P (xu I 150 4 (nI 2)) L C := by
  have k0 := hM.1.1
  rw [CT_e (mj := 154) (e := [.ref 150, .int (nI t), .int y, UN]) (by omega) rfl (Nat.le_of_ble_eq_true rfl)]
  simp (disch := first | assumption | omega) only [Nat.reduceAdd, X_go, go2_some, stp, ldI, ldA, ldL, stI, stA, stL, o1I, o2I, o2L, brI, brII, gl, s1, s2, k1, sl, go_sN, go_sR, go_CT, go_sT, go_no, go_if, pops, bk_v, bk_0, d154_0, d154_1, d154_2, d154_5, d154_8, d154_9, d154_12, d154_13, d154_14, d154_15, d154_18, d154_21, d154_22, d154_25, d154_26, d154_29, d154_32, d154_33, d154_34, d154_35, d154_38, d154_39, d154_42, d154_43, d154_44, d154_45, d154_46, d154_47, d154_48, d154_51, d154_52, d154_53, d154_54, d154_55, d154_56, d154_57, n_lt, n_le, n_eq, n_lt0, n_ge0, n_gt0, n_le0, n_eq0, m_lt, m_le, m_gt, m_ge, m_eq, m_eq', m_lt0, m_ge0, m_gt0, m_le0, m_ltm, m_lem, n_in, m_in, n_cl, n_ti, n_div, n_rem', n_dec, n_l, nI_add, pk_mul, an0, an1, decide_eq_true_eq, if_true, if_false, ite_true, ite_false, and_true, true_and, and_false, false_and, not_true, not_false_iff, or_false, false_or, or_true, true_or, eq_self, va_some, Bool.false_eq_true, reduceIte, catS_n, catS_i, catS_r, catS_l, catS_d, Nat.zero_add, Nat.add_zero, decide_true, decide_false, Nat.reduceLeDiff, cat_r, cat_i, cat_l, nle_T, nle_F, nlt_T, nlt_F, neq_T, neq_F, k0, c155, c156b, c153 hM]
  done
theorem d166_0 : dec 166 0 = some (.aload_n 0, 1, []) := rfl
theorem d166_1 : dec 166 1 = some (.aload_n 0, 1, []) := rfl
theorem d166_2 : dec 166 2 = some (.iload_n 1, 1, []) := rfl
theorem d166_3 : dec 166 3 = some (.iload_n 2, 1, []) := rfl
theorem d166_4 : dec 166 4 = some (.invokevirtual 103, 3, [2, 165, 2, 10, 0, 1123, 0, 0]) := rfl
theorem d166_7 : dec 166 7 = some (.ifCond .ne 7, 3, [14]) := rfl
theorem d166_10 : dec 166 10 = some (.iconst 1, 1, [1]) := rfl
theorem d166_11 : dec 166 11 = some (.goto 15, 3, [26]) := rfl
theorem d166_14 : dec 166 14 = some (.iload_n 3, 1, []) := rfl
theorem d166_15 : dec 166 15 = some (.invokestatic 96, 3, [2, 161, 0, 10, 0, 1109, 0]) := rfl
theorem d166_18 : dec 166 18 = some (.ifCond .eq 7, 3, [25]) := rfl
theorem d166_21 : dec 166 21 = some (.iconst 0, 1, [0]) := rfl
theorem d166_22 : dec 166 22 = some (.goto 4, 3, [26]) := rfl
theorem d166_25 : dec 166 25 = some (.iconst 2, 1, [2]) := rfl
theorem d166_26 : dec 166 26 = some (.invokevirtual 72, 3, [2, 153, 2, 10, 0, 1081, 0]) := rfl
theorem d166_29 : dec 166 29 = some (.ifCond .eq 5, 3, [34]) := rfl
theorem d166_32 : dec 166 32 = some (.iconst 0, 1, [0]) := rfl
theorem d166_33 : dec 166 33 = some (.ireturn, 1, [0]) := rfl
theorem d166_34 : dec 166 34 = some (.aload_n 0, 1, []) := rfl
theorem d166_35 : dec 166 35 = some (.invokevirtual 87, 3, [2, 157, 2, 10, 0, 1095]) := rfl
theorem d166_38 : dec 166 38 = some (.aload_n 0, 1, []) := rfl
theorem d166_39 : dec 166 39 = some (.iload_n 1, 1, []) := rfl
theorem d166_40 : dec 166 40 = some (.iload_n 2, 1, []) := rfl
theorem d166_41 : dec 166 41 = some (.iconst 1, 1, [1]) := rfl
theorem d166_42 : dec 166 42 = some (.invokevirtual 107, 3, [2, 167, 2, 10, 0, 1131, 0, 0, 0]) := rfl
theorem d166_45 : dec 166 45 = some (.istore 4, 2, []) := rfl
theorem d166_47 : dec 166 47 = some (.aload_n 0, 1, []) := rfl
theorem d166_48 : dec 166 48 = some (.getfield 7, 3, [1, 10, 0, 2, 0, 994]) := rfl
theorem d166_51 : dec 166 51 = some (.iload_n 1, 1, []) := rfl
theorem d166_52 : dec 166 52 = some (.iload_n 2, 1, []) := rfl
theorem d166_53 : dec 166 53 = some (.invokestatic 80, 3, [2, 163, 0, 10, 0, 1116, 0, 0]) := rfl
theorem d166_56 : dec 166 56 = some (.iconst 1, 1, [1]) := rfl
theorem d166_57 : dec 166 57 = some (.iadd, 1, []) := rfl
theorem d166_58 : dec 166 58 = some (.iload_n 3, 1, []) := rfl
theorem d166_59 : dec 166 59 = some (.iastore, 1, []) := rfl
theorem d166_60 : dec 166 60 = some (.iload 4, 2, []) := rfl
theorem d166_62 : dec 166 62 = some (.ireturn, 1, [0]) := rfl
theorem l166 : mL 166 = 5 := rfl
theorem c166 {d : Nat} {P : MP} {I : MI} {L : ML} {C : MC} {t e v : Nat} {B n len : Nat} {g : GS} {ps : Nat → GS} {tx : Nat → Nat} (hM : MB P) (hR : ZR I g n ps len tx) (hA : AV B g n ps len tx) (hd : 6 ≤ d) (ht : t < 3) (he : e < g (3 + t)) (h1 : 1 ≤ v) (h2 : v ≤ 1000) : ∃ I', ZR I' (ud g (cl t e 1) v) (puN n) (puS n ps g) len tx ∧ I' 150 4 = nI 0 ∧ fm I I' ∧ ∀ Q, CT d 166 [.ref 150, .int (nI t), .int (nI e), .int (nI v)] P I L C Q = Q (.inl (some (.int (nI (g (cl t e 1)))))) P I' L C := by
  have hM' := hM
  obtain ⟨⟨k0, p0, p1, p2, p5, y1, y2, y3, y4⟩, _⟩ := hM'
  have hR' := hR
  obtain ⟨hN, h3, hps', h6, htx'⟩ := hR'
  have hA' := hA
  obtain ⟨hGV, hps, hn4, hlen, htx⟩ := hA'
  have h140 := GV_140 hGV
  have hv := hGV.1
  have hl := hGV.2.1
  have hFv := hGV.2.2
  have hR0 : ZR (xu I 150 4 (nI 0)) g n ps len tx := ZR_4 hR
  have hN0 := hR0.1
  obtain ⟨J, j1, j2, j3⟩ := c157 (d := d - 1) (L := L) (C := C) hM hR0 hn4 (by omega)
  have hNJ := j1.1
  have j4 : J 150 4 = nI 0 := by rw [j2 _ _ (by omega) (by omega), xu_s]
  have j5 : ∀ k j, k < 150 ∨ 168 < k → J k j = I k j := fun k j h => by rw [j2 _ _ (by omega) (by omega), xu_n _ _ (by omega)]
  have hc := hv.2.1 t ht
  have hcl := cl_lt (f := 1) ht (show e < 6 by omega) (by omega)
  refine ⟨xu J 151 (cl t e 1) (nI v), ZR_now j1 (NR_ud hNJ) (fun k j h => xu_n _ _ (by omega)), by rw [xu_n _ _ (by omega)]; exact j4, fun k j h => by rw [xu_n _ _ (by omega), j5 k j h], fun Q => ?_⟩
  rw [CT_e (mj := 166) (e := [.ref 150, .int (nI t), .int (nI e), .int (nI v), UN]) (by omega) rfl (Nat.le_of_ble_eq_true rfl)]
  simp (disch := first | assumption | omega) only [Nat.reduceAdd, X_go, go2_some, stp, ldI, ldA, ldL, stI, stA, stL, o1I, o2I, o2L, brI, brII, gl, s1, s2, k1, sl, go_sN, go_sR, go_CT, go_sT, go_no, go_if, pops, bk_v, bk_0, d166_0, d166_1, d166_2, d166_3, d166_4, d166_7, d166_10, d166_11, d166_14, d166_15, d166_18, d166_21, d166_22, d166_25, d166_26, d166_29, d166_32, d166_33, d166_34, d166_35, d166_38, d166_39, d166_40, d166_41, d166_42, d166_45, d166_47, d166_48, d166_51, d166_52, d166_53, d166_56, d166_57, d166_58, d166_59, d166_60, d166_62, n_lt, n_le, n_eq, n_lt0, n_ge0, n_gt0, n_le0, n_eq0, m_lt, m_le, m_gt, m_ge, m_eq, m_eq', m_lt0, m_ge0, m_gt0, m_le0, m_ltm, m_lem, n_in, m_in, n_cl, n_ti, n_div, n_rem', n_dec, n_l, nI_add, pk_mul, an0, an1, decide_eq_true_eq, if_true, if_false, ite_true, ite_false, and_true, true_and, and_false, false_and, not_true, not_false_iff, or_false, false_or, or_true, true_or, eq_self, va_some, Bool.false_eq_true, reduceIte, catS_n, catS_i, catS_r, catS_l, catS_d, Nat.zero_add, Nat.add_zero, decide_true, decide_false, Nat.reduceLeDiff, cat_r, cat_i, cat_l, nle_T, nle_F, nlt_T, nlt_F, neq_T, neq_F, k0, p0, y1, c165 hM hN hv, c161, c153 hM, j3, c167 hM hNJ, c163, cl_f]
  done
theorem c166b {d : Nat} {P : MP} {I : MI} {L : ML} {C : MC} {Q : QT} {x y z : Int32} (hM : MB P) (hd : 6 ≤ d) (hx : x < 0 ∨ nI 3 ≤ x) : CT d 166 [.ref 150, .int x, .int y, .int z] P I L C Q = Q (.inl (some (.int (nI 0)))) P (xu I 150 4 (nI 1)) L C := by
  have k0 := hM.1.1
  rw [CT_e (mj := 166) (e := [.ref 150, .int x, .int y, .int z, UN]) (by omega) rfl (Nat.le_of_ble_eq_true rfl)]
  simp (disch := first | assumption | omega) only [Nat.reduceAdd, X_go, go2_some, stp, ldI, ldA, ldL, stI, stA, stL, o1I, o2I, o2L, brI, brII, gl, s1, s2, k1, sl, go_sN, go_sR, go_CT, go_sT, go_no, go_if, pops, bk_v, bk_0, d166_0, d166_1, d166_2, d166_3, d166_4, d166_7, d166_10, d166_11, d166_14, d166_15, d166_18, d166_21, d166_22, d166_25, d166_26, d166_29, d166_32, d166_33, d166_34, d166_35, d166_38, d166_39, d166_40, d166_41, d166_42, d166_45, d166_47, d166_48, d166_51, d166_52, d166_53, d166_56, d166_57, d166_58, d166_59, d166_60, d166_62, n_lt, n_le, n_eq, n_lt0, n_ge0, n_gt0, n_le0, n_eq0, m_lt, m_le, m_gt, m_ge, m_eq, m_eq', m_lt0, m_ge0, m_gt0, m_le0, m_ltm, m_lem, n_in, m_in, n_cl, n_ti, n_div, n_rem', n_dec, n_l, nI_add, pk_mul, an0, an1, decide_eq_true_eq, if_true, if_false, ite_true, ite_false, and_true, true_and, and_false, false_and, not_true, not_false_iff, or_false, false_or, or_true, true_or, eq_self, va_some, Bool.false_eq_true, reduceIte, catS_n, catS_i, catS_r, catS_l, catS_d, Nat.zero_add, Nat.add_zero, decide_true, decide_false, Nat.reduceLeDiff, cat_r, cat_i, cat_l, nle_T, nle_F, nlt_T, nlt_F, neq_T, neq_F, k0, c165t, c153 hM]
  done
theorem c166c {d : Nat} {P : MP} {I : MI} {L : ML} {C : MC} {Q : QT} {t : Nat} {y z : Int32} {g : GS} (hM : MB P) (hN : NR I g) (hv : TV g) (hd : 6 ≤ d) (ht : t < 3) (hy : y < 0 ∨ nI (g (3 + t)) ≤ y) : CT d 166 [.ref 150, .int (nI t), .int y, .int z] P I L C Q = Q (.inl (some (.int (nI 0)))) P (xu I 150 4 (nI 1)) L C := by
  have k0 := hM.1.1
  rw [CT_e (mj := 166) (e := [.ref 150, .int (nI t), .int y, .int z, UN]) (by omega) rfl (Nat.le_of_ble_eq_true rfl)]
  simp (disch := first | assumption | omega) only [Nat.reduceAdd, X_go, go2_some, stp, ldI, ldA, ldL, stI, stA, stL, o1I, o2I, o2L, brI, brII, gl, s1, s2, k1, sl, go_sN, go_sR, go_CT, go_sT, go_no, go_if, pops, bk_v, bk_0, d166_0, d166_1, d166_2, d166_3, d166_4, d166_7, d166_10, d166_11, d166_14, d166_15, d166_18, d166_21, d166_22, d166_25, d166_26, d166_29, d166_32, d166_33, d166_34, d166_35, d166_38, d166_39, d166_40, d166_41, d166_42, d166_45, d166_47, d166_48, d166_51, d166_52, d166_53, d166_56, d166_57, d166_58, d166_59, d166_60, d166_62, n_lt, n_le, n_eq, n_lt0, n_ge0, n_gt0, n_le0, n_eq0, m_lt, m_le, m_gt, m_ge, m_eq, m_eq', m_lt0, m_ge0, m_gt0, m_le0, m_ltm, m_lem, n_in, m_in, n_cl, n_ti, n_div, n_rem', n_dec, n_l, nI_add, pk_mul, an0, an1, decide_eq_true_eq, if_true, if_false, ite_true, ite_false, and_true, true_and, and_false, false_and, not_true, not_false_iff, or_false, false_or, or_true, true_or, eq_self, va_some, Bool.false_eq_true, reduceIte, catS_n, catS_i, catS_r, catS_l, catS_d, Nat.zero_add, Nat.add_zero, decide_true, decide_false, Nat.reduceLeDiff, cat_r, cat_i, cat_l, nle_T, nle_F, nlt_T, nlt_F, neq_T, neq_F, k0, c165e hM hN hv, c153 hM]
  done
theorem c166d {d : Nat} {P : MP} {I : MI} {L : ML} {C : MC} {Q : QT} {t e : Nat} {z : Int32} {g : GS} (hM : MB P) (hN : NR I g) (hv : TV g) (hd : 6 ≤ d) (ht : t < 3) (he : e < g (3 + t)) (hz : z < nI 1 ∨ nI 1000 < z) : CT d 166 [.ref 150, .int (nI t), .int (nI e), .int z] P I L C Q = Q (.inl (some (.int (nI 0)))) P (xu I 150 4 (nI 2)) L C := by
  have k0 := hM.1.1
  rw [CT_e (mj := 166) (e := [.ref 150, .int (nI t), .int (nI e), .int z, UN]) (by omega) rfl (Nat.le_of_ble_eq_true rfl)]
  simp (disch := first | assumption | omega) only [Nat.reduceAdd, X_go, go2_some, stp, ldI, ldA, ldL, stI, stA, stL, o1I, o2I, o2L, brI, brII, gl, s1, s2, k1, sl, go_sN, go_sR, go_CT, go_sT, go_no, go_if, pops, bk_v, bk_0, d166_0, d166_1, d166_2, d166_3, d166_4, d166_7, d166_10, d166_11, d166_14, d166_15, d166_18, d166_21, d166_22, d166_25, d166_26, d166_29, d166_32, d166_33, d166_34, d166_35, d166_38, d166_39, d166_40, d166_41, d166_42, d166_45, d166_47, d166_48, d166_51, d166_52, d166_53, d166_56, d166_57, d166_58, d166_59, d166_60, d166_62, n_lt, n_le, n_eq, n_lt0, n_ge0, n_gt0, n_le0, n_eq0, m_lt, m_le, m_gt, m_ge, m_eq, m_eq', m_lt0, m_ge0, m_gt0, m_le0, m_ltm, m_lem, n_in, m_in, n_cl, n_ti, n_div, n_rem', n_dec, n_l, nI_add, pk_mul, an0, an1, decide_eq_true_eq, if_true, if_false, ite_true, ite_false, and_true, true_and, and_false, false_and, not_true, not_false_iff, or_false, false_or, or_true, true_or, eq_self, va_some, Bool.false_eq_true, reduceIte, catS_n, catS_i, catS_r, catS_l, catS_d, Nat.zero_add, Nat.add_zero, decide_true, decide_false, Nat.reduceLeDiff, cat_r, cat_i, cat_l, nle_T, nle_F, nlt_T, nlt_F, neq_T, neq_F, k0, c165 hM hN hv, c161b, c153 hM]
  done
theorem d183_0 : dec 183 0 = some (.aload_n 0, 1, []) := rfl
theorem d183_1 : dec 183 1 = some (.invokevirtual 87, 3, [2, 157, 2, 10, 0, 1095]) := rfl
theorem d183_4 : dec 183 4 = some (.aload_n 0, 1, []) := rfl
theorem d183_5 : dec 183 5 = some (.getfield 7, 3, [1, 10, 0, 2, 0, 994]) := rfl
theorem d183_8 : dec 183 8 = some (.iload_n 1, 1, []) := rfl
theorem d183_9 : dec 183 9 = some (.iaload, 1, []) := rfl
theorem d183_10 : dec 183 10 = some (.istore_n 3, 1, []) := rfl
theorem d183_11 : dec 183 11 = some (.aload_n 0, 1, []) := rfl
theorem d183_12 : dec 183 12 = some (.getfield 7, 3, [1, 10, 0, 2, 0, 994]) := rfl
theorem d183_15 : dec 183 15 = some (.iload_n 1, 1, []) := rfl
theorem d183_16 : dec 183 16 = some (.iload_n 2, 1, []) := rfl
theorem d183_17 : dec 183 17 = some (.iastore, 1, []) := rfl
theorem d183_18 : dec 183 18 = some (.iload_n 3, 1, []) := rfl
theorem d183_19 : dec 183 19 = some (.ireturn, 1, [0]) := rfl
theorem l183 : mL 183 = 4 := rfl
theorem c183 {d : Nat} {P : MP} {I : MI} {L : ML} {C : MC} {a v : Nat} {B n len : Nat} {g : GS} {ps : Nat → GS} {tx : Nat → Nat} (hM : MB P) (hR : ZR I g n ps len tx) (hA : AV B g n ps len tx) (hd : 4 ≤ d) (ha : a < 201) (h4 : I 150 4 = nI 0) : ∃ I', ZR I' (ud g a v) (puN n) (puS n ps g) len tx ∧ I' 150 4 = nI 0 ∧ fm I I' ∧ ∀ Q, CT d 183 [.ref 150, .int (nI a), .int (nI v)] P I L C Q = Q (.inl (some (.int (nI (g a))))) P I' L C := by
  have hM' := hM
  obtain ⟨⟨k0, p0, p1, p2, p5, y1, y2, y3, y4⟩, _⟩ := hM'
  obtain ⟨J, j1, j2, j3⟩ := c157 (d := d - 1) (L := L) (C := C) hM hR hA.2.2.1 (by omega)
  have hNJ := j1.1
  have e0 := hNJ a ha
  refine ⟨xu J 151 a (nI v), ZR_now j1 (NR_ud hNJ) (fun k j h => xu_n _ _ (by omega)), by rw [xu_n _ _ (by omega), j2 _ _ (by omega) (by omega)]; exact h4, fun k j h => by rw [xu_n _ _ (by omega), j2 _ _ (by omega) (by omega)], fun Q => ?_⟩
  rw [CT_e (mj := 183) (e := [.ref 150, .int (nI a), .int (nI v), UN]) (by omega) rfl (Nat.le_of_ble_eq_true rfl)]
  simp (disch := first | assumption | omega) only [Nat.reduceAdd, X_go, go2_some, stp, ldI, ldA, ldL, stI, stA, stL, o1I, o2I, o2L, brI, brII, gl, s1, s2, k1, sl, go_sN, go_sR, go_CT, go_sT, go_no, go_if, pops, bk_v, bk_0, d183_0, d183_1, d183_4, d183_5, d183_8, d183_9, d183_10, d183_11, d183_12, d183_15, d183_16, d183_17, d183_18, d183_19, n_lt, n_le, n_eq, n_lt0, n_ge0, n_gt0, n_le0, n_eq0, m_lt, m_le, m_gt, m_ge, m_eq, m_eq', m_lt0, m_ge0, m_gt0, m_le0, m_ltm, m_lem, n_in, m_in, n_cl, n_ti, n_div, n_rem', n_dec, n_l, nI_add, pk_mul, an0, an1, decide_eq_true_eq, if_true, if_false, ite_true, ite_false, and_true, true_and, and_false, false_and, not_true, not_false_iff, or_false, false_or, or_true, true_or, eq_self, va_some, Bool.false_eq_true, reduceIte, catS_n, catS_i, catS_r, catS_l, catS_d, Nat.zero_add, Nat.add_zero, decide_true, decide_false, Nat.reduceLeDiff, cat_r, cat_i, cat_l, nle_T, nle_F, nlt_T, nlt_F, neq_T, neq_F, k0, p0, y1, j3, e0]
  done
theorem d181_0 : dec 181 0 = some (.aload_n 0, 1, []) := rfl
theorem d181_1 : dec 181 1 = some (.iload_n 1, 1, []) := rfl
theorem d181_2 : dec 181 2 = some (.invokestatic 144, 3, [2, 182, 0, 10, 0, 1190, 0]) := rfl
theorem d181_5 : dec 181 5 = some (.ifCond .ne 7, 3, [12]) := rfl
theorem d181_8 : dec 181 8 = some (.iconst 1, 1, [1]) := rfl
theorem d181_9 : dec 181 9 = some (.goto 19, 3, [28]) := rfl
theorem d181_12 : dec 181 12 = some (.iload_n 2, 1, []) := rfl
theorem d181_13 : dec 181 13 = some (.iconst 0, 1, [0]) := rfl
theorem d181_14 : dec 181 14 = some (.sipush 200, 3, [200]) := rfl
theorem d181_17 : dec 181 17 = some (.invokestatic 76, 3, [2, 156, 0, 10, 0, 1092, 0, 0, 0]) := rfl
theorem d181_20 : dec 181 20 = some (.ifCond .eq 7, 3, [27]) := rfl
theorem d181_23 : dec 181 23 = some (.iconst 0, 1, [0]) := rfl
theorem d181_24 : dec 181 24 = some (.goto 4, 3, [28]) := rfl
theorem d181_27 : dec 181 27 = some (.iconst 2, 1, [2]) := rfl
theorem d181_28 : dec 181 28 = some (.invokevirtual 72, 3, [2, 153, 2, 10, 0, 1081, 0]) := rfl
theorem d181_31 : dec 181 31 = some (.ifCond .eq 7, 3, [38]) := rfl
theorem d181_34 : dec 181 34 = some (.iconst 0, 1, [0]) := rfl
theorem d181_35 : dec 181 35 = some (.goto 12, 3, [47]) := rfl
theorem d181_38 : dec 181 38 = some (.aload_n 0, 1, []) := rfl
theorem d181_39 : dec 181 39 = some (.bipush 113, 2, [113]) := rfl
theorem d181_41 : dec 181 41 = some (.iload_n 1, 1, []) := rfl
theorem d181_42 : dec 181 42 = some (.iadd, 1, []) := rfl
theorem d181_43 : dec 181 43 = some (.iload_n 2, 1, []) := rfl
theorem d181_44 : dec 181 44 = some (.invokevirtual 147, 3, [2, 183, 2, 10, 0, 1193, 0, 0]) := rfl
theorem d181_47 : dec 181 47 = some (.ireturn, 1, [0]) := rfl
theorem l181 : mL 181 = 3 := rfl
theorem c181 {d : Nat} {P : MP} {I : MI} {L : ML} {C : MC} {r v : Nat} {B n len : Nat} {g : GS} {ps : Nat → GS} {tx : Nat → Nat} (hM : MB P) (hR : ZR I g n ps len tx) (hA : AV B g n ps len tx) (hd : 6 ≤ d) (h1 : 1 ≤ r) (h3' : r ≤ 3) (h2 : v ≤ 200) : ∃ I', ZR I' (ud g (113 + r) v) (puN n) (puS n ps g) len tx ∧ I' 150 4 = nI 0 ∧ fm I I' ∧ ∀ Q, CT d 181 [.ref 150, .int (nI r), .int (nI v)] P I L C Q = Q (.inl (some (.int (nI (g (113 + r)))))) P I' L C := by
  have hM' := hM
  obtain ⟨⟨k0, p0, p1, p2, p5, y1, y2, y3, y4⟩, _⟩ := hM'
  have hR' := hR
  obtain ⟨hN, h3, hps', h6, htx'⟩ := hR'
  have hA' := hA
  obtain ⟨hGV, hps, hn4, hlen, htx⟩ := hA'
  have h140 := GV_140 hGV
  have hv := hGV.1
  have hl := hGV.2.1
  have hFv := hGV.2.2
  have hR0 : ZR (xu I 150 4 (nI 0)) g n ps len tx := ZR_4 hR
  have hN0 := hR0.1
  obtain ⟨I', i1, i2, i3, i4⟩ := c183 (d := d - 1) (L := L) (C := C) (a := 113 + r) (v := v) hM hR0 hA (by omega) (by omega) (xu_s _ _ _ _)
  refine ⟨I', i1, i2, fun k j h => by rw [i3 k j h, fm_4 k j h], fun Q => ?_⟩
  rw [CT_e (mj := 181) (e := [.ref 150, .int (nI r), .int (nI v)]) (by omega) rfl (Nat.le_of_ble_eq_true rfl)]
  simp (disch := first | assumption | omega) only [Nat.reduceAdd, X_go, go2_some, stp, ldI, ldA, ldL, stI, stA, stL, o1I, o2I, o2L, brI, brII, gl, s1, s2, k1, sl, go_sN, go_sR, go_CT, go_sT, go_no, go_if, pops, bk_v, bk_0, d181_0, d181_1, d181_2, d181_5, d181_8, d181_9, d181_12, d181_13, d181_14, d181_17, d181_20, d181_23, d181_24, d181_27, d181_28, d181_31, d181_34, d181_35, d181_38, d181_39, d181_41, d181_42, d181_43, d181_44, d181_47, n_lt, n_le, n_eq, n_lt0, n_ge0, n_gt0, n_le0, n_eq0, m_lt, m_le, m_gt, m_ge, m_eq, m_eq', m_lt0, m_ge0, m_gt0, m_le0, m_ltm, m_lem, n_in, m_in, n_cl, n_ti, n_div, n_rem', n_dec, n_l, nI_add, pk_mul, an0, an1, decide_eq_true_eq, if_true, if_false, ite_true, ite_false, and_true, true_and, and_false, false_and, not_true, not_false_iff, or_false, false_or, or_true, true_or, eq_self, va_some, Bool.false_eq_true, reduceIte, catS_n, catS_i, catS_r, catS_l, catS_d, Nat.zero_add, Nat.add_zero, decide_true, decide_false, Nat.reduceLeDiff, cat_r, cat_i, cat_l, nle_T, nle_F, nlt_T, nlt_F, neq_T, neq_F, k0, c182, c156, c153 hM, i4]
  done
theorem c181b {d : Nat} {P : MP} {I : MI} {L : ML} {C : MC} {Q : QT} {x y : Int32} (hM : MB P) (hd : 6 ≤ d) (hx : x < nI 1 ∨ nI 3 < x) : CT d 181 [.ref 150, .int x, .int y] P I L C Q = Q (.inl (some (.int (nI 0)))) P (xu I 150 4 (nI 1)) L C := by
  have k0 := hM.1.1
  rw [CT_e (mj := 181) (e := [.ref 150, .int x, .int y]) (by omega) rfl (Nat.le_of_ble_eq_true rfl)]
  simp (disch := first | assumption | omega) only [Nat.reduceAdd, X_go, go2_some, stp, ldI, ldA, ldL, stI, stA, stL, o1I, o2I, o2L, brI, brII, gl, s1, s2, k1, sl, go_sN, go_sR, go_CT, go_sT, go_no, go_if, pops, bk_v, bk_0, d181_0, d181_1, d181_2, d181_5, d181_8, d181_9, d181_12, d181_13, d181_14, d181_17, d181_20, d181_23, d181_24, d181_27, d181_28, d181_31, d181_34, d181_35, d181_38, d181_39, d181_41, d181_42, d181_43, d181_44, d181_47, n_lt, n_le, n_eq, n_lt0, n_ge0, n_gt0, n_le0, n_eq0, m_lt, m_le, m_gt, m_ge, m_eq, m_eq', m_lt0, m_ge0, m_gt0, m_le0, m_ltm, m_lem, n_in, m_in, n_cl, n_ti, n_div, n_rem', n_dec, n_l, nI_add, pk_mul, an0, an1, decide_eq_true_eq, if_true, if_false, ite_true, ite_false, and_true, true_and, and_false, false_and, not_true, not_false_iff, or_false, false_or, or_true, true_or, eq_self, va_some, Bool.false_eq_true, reduceIte, catS_n, catS_i, catS_r, catS_l, catS_d, Nat.zero_add, Nat.add_zero, decide_true, decide_false, Nat.reduceLeDiff, cat_r, cat_i, cat_l, nle_T, nle_F, nlt_T, nlt_F, neq_T, neq_F, k0, c182b, c153 hM]
  done
theorem c181c {d : Nat} {P : MP} {I : MI} {L : ML} {C : MC} {Q : QT} {r : Nat} {y : Int32} (hM : MB P) (hd : 6 ≤ d) (h1 : 1 ≤ r) (h3 : r ≤ 3) (hy : y < 0 ∨ nI 200 < y) : CT d 181 [.ref 150, .int (nI r), .int y] P I L C Q = Q (.inl (some (.int (nI 0)))) P (xu I 150 4 (nI 2)) L C := by
  have k0 := hM.1.1
  rw [CT_e (mj := 181) (e := [.ref 150, .int (nI r), .int y]) (by omega) rfl (Nat.le_of_ble_eq_true rfl)]
  simp (disch := first | assumption | omega) only [Nat.reduceAdd, X_go, go2_some, stp, ldI, ldA, ldL, stI, stA, stL, o1I, o2I, o2L, brI, brII, gl, s1, s2, k1, sl, go_sN, go_sR, go_CT, go_sT, go_no, go_if, pops, bk_v, bk_0, d181_0, d181_1, d181_2, d181_5, d181_8, d181_9, d181_12, d181_13, d181_14, d181_17, d181_20, d181_23, d181_24, d181_27, d181_28, d181_31, d181_34, d181_35, d181_38, d181_39, d181_41, d181_42, d181_43, d181_44, d181_47, n_lt, n_le, n_eq, n_lt0, n_ge0, n_gt0, n_le0, n_eq0, m_lt, m_le, m_gt, m_ge, m_eq, m_eq', m_lt0, m_ge0, m_gt0, m_le0, m_ltm, m_lem, n_in, m_in, n_cl, n_ti, n_div, n_rem', n_dec, n_l, nI_add, pk_mul, an0, an1, decide_eq_true_eq, if_true, if_false, ite_true, ite_false, and_true, true_and, and_false, false_and, not_true, not_false_iff, or_false, false_or, or_true, true_or, eq_self, va_some, Bool.false_eq_true, reduceIte, catS_n, catS_i, catS_r, catS_l, catS_d, Nat.zero_add, Nat.add_zero, decide_true, decide_false, Nat.reduceLeDiff, cat_r, cat_i, cat_l, nle_T, nle_F, nlt_T, nlt_F, neq_T, neq_F, k0, c182, c156b (y := nI 0) (hx := hy), c153 hM]
  done
theorem d184_0 : dec 184 0 = some (.aload_n 0, 1, []) := rfl
theorem d184_1 : dec 184 1 = some (.iload_n 1, 1, []) := rfl
theorem d184_2 : dec 184 2 = some (.invokestatic 144, 3, [2, 182, 0, 10, 0, 1190, 0]) := rfl
theorem d184_5 : dec 184 5 = some (.ifCond .ne 7, 3, [12]) := rfl
theorem d184_8 : dec 184 8 = some (.iconst 1, 1, [1]) := rfl
theorem d184_9 : dec 184 9 = some (.goto 19, 3, [28]) := rfl
theorem d184_12 : dec 184 12 = some (.iload_n 2, 1, []) := rfl
theorem d184_13 : dec 184 13 = some (.iconst 0, 1, [0]) := rfl
theorem d184_14 : dec 184 14 = some (.sipush 200, 3, [200]) := rfl
theorem d184_17 : dec 184 17 = some (.invokestatic 76, 3, [2, 156, 0, 10, 0, 1092, 0, 0, 0]) := rfl
theorem d184_20 : dec 184 20 = some (.ifCond .eq 7, 3, [27]) := rfl
theorem d184_23 : dec 184 23 = some (.iconst 0, 1, [0]) := rfl
theorem d184_24 : dec 184 24 = some (.goto 4, 3, [28]) := rfl
theorem d184_27 : dec 184 27 = some (.iconst 2, 1, [2]) := rfl
theorem d184_28 : dec 184 28 = some (.invokevirtual 72, 3, [2, 153, 2, 10, 0, 1081, 0]) := rfl
theorem d184_31 : dec 184 31 = some (.ifCond .eq 7, 3, [38]) := rfl
theorem d184_34 : dec 184 34 = some (.iconst 0, 1, [0]) := rfl
theorem d184_35 : dec 184 35 = some (.goto 12, 3, [47]) := rfl
theorem d184_38 : dec 184 38 = some (.aload_n 0, 1, []) := rfl
theorem d184_39 : dec 184 39 = some (.bipush 116, 2, [116]) := rfl
theorem d184_41 : dec 184 41 = some (.iload_n 1, 1, []) := rfl
theorem d184_42 : dec 184 42 = some (.iadd, 1, []) := rfl
theorem d184_43 : dec 184 43 = some (.iload_n 2, 1, []) := rfl
theorem d184_44 : dec 184 44 = some (.invokevirtual 147, 3, [2, 183, 2, 10, 0, 1193, 0, 0]) := rfl
theorem d184_47 : dec 184 47 = some (.ireturn, 1, [0]) := rfl
theorem l184 : mL 184 = 3 := rfl
theorem c184 {d : Nat} {P : MP} {I : MI} {L : ML} {C : MC} {r v : Nat} {B n len : Nat} {g : GS} {ps : Nat → GS} {tx : Nat → Nat} (hM : MB P) (hR : ZR I g n ps len tx) (hA : AV B g n ps len tx) (hd : 6 ≤ d) (h1 : 1 ≤ r) (h3' : r ≤ 3) (h2 : v ≤ 200) : ∃ I', ZR I' (ud g (116 + r) v) (puN n) (puS n ps g) len tx ∧ I' 150 4 = nI 0 ∧ fm I I' ∧ ∀ Q, CT d 184 [.ref 150, .int (nI r), .int (nI v)] P I L C Q = Q (.inl (some (.int (nI (g (116 + r)))))) P I' L C := by
  have hM' := hM
  obtain ⟨⟨k0, p0, p1, p2, p5, y1, y2, y3, y4⟩, _⟩ := hM'
  have hR' := hR
  obtain ⟨hN, h3, hps', h6, htx'⟩ := hR'
  have hA' := hA
  obtain ⟨hGV, hps, hn4, hlen, htx⟩ := hA'
  have h140 := GV_140 hGV
  have hv := hGV.1
  have hl := hGV.2.1
  have hFv := hGV.2.2
  have hR0 : ZR (xu I 150 4 (nI 0)) g n ps len tx := ZR_4 hR
  have hN0 := hR0.1
  obtain ⟨I', i1, i2, i3, i4⟩ := c183 (d := d - 1) (L := L) (C := C) (a := 116 + r) (v := v) hM hR0 hA (by omega) (by omega) (xu_s _ _ _ _)
  refine ⟨I', i1, i2, fun k j h => by rw [i3 k j h, fm_4 k j h], fun Q => ?_⟩
  rw [CT_e (mj := 184) (e := [.ref 150, .int (nI r), .int (nI v)]) (by omega) rfl (Nat.le_of_ble_eq_true rfl)]
  simp (disch := first | assumption | omega) only [Nat.reduceAdd, X_go, go2_some, stp, ldI, ldA, ldL, stI, stA, stL, o1I, o2I, o2L, brI, brII, gl, s1, s2, k1, sl, go_sN, go_sR, go_CT, go_sT, go_no, go_if, pops, bk_v, bk_0, d184_0, d184_1, d184_2, d184_5, d184_8, d184_9, d184_12, d184_13, d184_14, d184_17, d184_20, d184_23, d184_24, d184_27, d184_28, d184_31, d184_34, d184_35, d184_38, d184_39, d184_41, d184_42, d184_43, d184_44, d184_47, n_lt, n_le, n_eq, n_lt0, n_ge0, n_gt0, n_le0, n_eq0, m_lt, m_le, m_gt, m_ge, m_eq, m_eq', m_lt0, m_ge0, m_gt0, m_le0, m_ltm, m_lem, n_in, m_in, n_cl, n_ti, n_div, n_rem', n_dec, n_l, nI_add, pk_mul, an0, an1, decide_eq_true_eq, if_true, if_false, ite_true, ite_false, and_true, true_and, and_false, false_and, not_true, not_false_iff, or_false, false_or, or_true, true_or, eq_self, va_some, Bool.false_eq_true, reduceIte, catS_n, catS_i, catS_r, catS_l, catS_d, Nat.zero_add, Nat.add_zero, decide_true, decide_false, Nat.reduceLeDiff, cat_r, cat_i, cat_l, nle_T, nle_F, nlt_T, nlt_F, neq_T, neq_F, k0, c182, c156, c153 hM, i4]
  done
theorem c184b {d : Nat} {P : MP} {I : MI} {L : ML} {C : MC} {Q : QT} {x y : Int32} (hM : MB P) (hd : 6 ≤ d) (hx : x < nI 1 ∨ nI 3 < x) : CT d 184 [.ref 150, .int x, .int y] P I L C Q = Q (.inl (some (.int (nI 0)))) P (xu I 150 4 (nI 1)) L C := by
  have k0 := hM.1.1
  rw [CT_e (mj := 184) (e := [.ref 150, .int x, .int y]) (by omega) rfl (Nat.le_of_ble_eq_true rfl)]
  simp (disch := first | assumption | omega) only [Nat.reduceAdd, X_go, go2_some, stp, ldI, ldA, ldL, stI, stA, stL, o1I, o2I, o2L, brI, brII, gl, s1, s2, k1, sl, go_sN, go_sR, go_CT, go_sT, go_no, go_if, pops, bk_v, bk_0, d184_0, d184_1, d184_2, d184_5, d184_8, d184_9, d184_12, d184_13, d184_14, d184_17, d184_20, d184_23, d184_24, d184_27, d184_28, d184_31, d184_34, d184_35, d184_38, d184_39, d184_41, d184_42, d184_43, d184_44, d184_47, n_lt, n_le, n_eq, n_lt0, n_ge0, n_gt0, n_le0, n_eq0, m_lt, m_le, m_gt, m_ge, m_eq, m_eq', m_lt0, m_ge0, m_gt0, m_le0, m_ltm, m_lem, n_in, m_in, n_cl, n_ti, n_div, n_rem', n_dec, n_l, nI_add, pk_mul, an0, an1, decide_eq_true_eq, if_true, if_false, ite_true, ite_false, and_true, true_and, and_false, false_and, not_true, not_false_iff, or_false, false_or, or_true, true_or, eq_self, va_some, Bool.false_eq_true, reduceIte, catS_n, catS_i, catS_r, catS_l, catS_d, Nat.zero_add, Nat.add_zero, decide_true, decide_false, Nat.reduceLeDiff, cat_r, cat_i, cat_l, nle_T, nle_F, nlt_T, nlt_F, neq_T, neq_F, k0, c182b, c153 hM]
  done
theorem c184c {d : Nat} {P : MP} {I : MI} {L : ML} {C : MC} {Q : QT} {r : Nat} {y : Int32} (hM : MB P) (hd : 6 ≤ d) (h1 : 1 ≤ r) (h3 : r ≤ 3) (hy : y < 0 ∨ nI 200 < y) : CT d 184 [.ref 150, .int (nI r), .int y] P I L C Q = Q (.inl (some (.int (nI 0)))) P (xu I 150 4 (nI 2)) L C := by
  have k0 := hM.1.1
  rw [CT_e (mj := 184) (e := [.ref 150, .int (nI r), .int y]) (by omega) rfl (Nat.le_of_ble_eq_true rfl)]
  simp (disch := first | assumption | omega) only [Nat.reduceAdd, X_go, go2_some, stp, ldI, ldA, ldL, stI, stA, stL, o1I, o2I, o2L, brI, brII, gl, s1, s2, k1, sl, go_sN, go_sR, go_CT, go_sT, go_no, go_if, pops, bk_v, bk_0, d184_0, d184_1, d184_2, d184_5, d184_8, d184_9, d184_12, d184_13, d184_14, d184_17, d184_20, d184_23, d184_24, d184_27, d184_28, d184_31, d184_34, d184_35, d184_38, d184_39, d184_41, d184_42, d184_43, d184_44, d184_47, n_lt, n_le, n_eq, n_lt0, n_ge0, n_gt0, n_le0, n_eq0, m_lt, m_le, m_gt, m_ge, m_eq, m_eq', m_lt0, m_ge0, m_gt0, m_le0, m_ltm, m_lem, n_in, m_in, n_cl, n_ti, n_div, n_rem', n_dec, n_l, nI_add, pk_mul, an0, an1, decide_eq_true_eq, if_true, if_false, ite_true, ite_false, and_true, true_and, and_false, false_and, not_true, not_false_iff, or_false, false_or, or_true, true_or, eq_self, va_some, Bool.false_eq_true, reduceIte, catS_n, catS_i, catS_r, catS_l, catS_d, Nat.zero_add, Nat.add_zero, decide_true, decide_false, Nat.reduceLeDiff, cat_r, cat_i, cat_l, nle_T, nle_F, nlt_T, nlt_F, neq_T, neq_F, k0, c182, c156b (y := nI 0) (hx := hy), c153 hM]
  done
theorem c156m {d : Nat} {P : MP} {I : MI} {L : ML} {C : MC} {Q : QT} {v hi : Nat} (hd : 1 ≤ d) (h1 : v ≤ hi) (h2 : hi < 2147483648) : CT d 156 [.int (nI v), .int (nI 4294967295), .int (nI hi)] P I L C Q = Q (.inl (some (.int (nI 1)))) P I L C := by
  rw [CT_e (mj := 156) (e := [.int (nI v), .int (nI 4294967295), .int (nI hi)]) (by omega) rfl (Nat.le_of_ble_eq_true rfl)]
  simp (disch := first | assumption | omega) only [Nat.reduceAdd, X_go, go2_some, stp, ldI, ldA, ldL, stI, stA, stL, o1I, o2I, o2L, brI, brII, gl, s1, s2, k1, sl, go_sN, go_sR, go_CT, go_sT, go_no, go_if, pops, bk_v, bk_0, d156_0, d156_1, d156_2, d156_5, d156_6, d156_7, d156_10, d156_11, d156_14, d156_15, n_lt, n_le, n_eq, n_lt0, n_ge0, n_gt0, n_le0, n_eq0, m_lt, m_le, m_gt, m_ge, m_eq, m_eq', m_lt0, m_ge0, m_gt0, m_le0, m_ltm, m_lem, n_in, m_in, n_cl, n_ti, n_div, n_rem', n_dec, n_l, nI_add, pk_mul, an0, an1, decide_eq_true_eq, if_true, if_false, ite_true, ite_false, and_true, true_and, and_false, false_and, not_true, not_false_iff, or_false, false_or, or_true, true_or, eq_self, va_some, Bool.false_eq_true, reduceIte, catS_n, catS_i, catS_r, catS_l, catS_d, Nat.zero_add, Nat.add_zero, decide_true, decide_false, Nat.reduceLeDiff, cat_r, cat_i, cat_l, nle_T, nle_F, nlt_T, nlt_F, neq_T, neq_F]
  done
theorem c156n {d : Nat} {P : MP} {I : MI} {L : ML} {C : MC} {Q : QT} {hi : Nat} (hd : 1 ≤ d) (h2 : hi < 2147483648) : CT d 156 [.int (nI 4294967295), .int (nI 4294967295), .int (nI hi)] P I L C Q = Q (.inl (some (.int (nI 1)))) P I L C := by
  rw [CT_e (mj := 156) (e := [.int (nI 4294967295), .int (nI 4294967295), .int (nI hi)]) (by omega) rfl (Nat.le_of_ble_eq_true rfl)]
  simp (disch := first | assumption | omega) only [Nat.reduceAdd, X_go, go2_some, stp, ldI, ldA, ldL, stI, stA, stL, o1I, o2I, o2L, brI, brII, gl, s1, s2, k1, sl, go_sN, go_sR, go_CT, go_sT, go_no, go_if, pops, bk_v, bk_0, d156_0, d156_1, d156_2, d156_5, d156_6, d156_7, d156_10, d156_11, d156_14, d156_15, n_lt, n_le, n_eq, n_lt0, n_ge0, n_gt0, n_le0, n_eq0, m_lt, m_le, m_gt, m_ge, m_eq, m_eq', m_lt0, m_ge0, m_gt0, m_le0, m_ltm, m_lem, n_in, m_in, n_cl, n_ti, n_div, n_rem', n_dec, n_l, nI_add, pk_mul, an0, an1, decide_eq_true_eq, if_true, if_false, ite_true, ite_false, and_true, true_and, and_false, false_and, not_true, not_false_iff, or_false, false_or, or_true, true_or, eq_self, va_some, Bool.false_eq_true, reduceIte, catS_n, catS_i, catS_r, catS_l, catS_d, Nat.zero_add, Nat.add_zero, decide_true, decide_false, Nat.reduceLeDiff, cat_r, cat_i, cat_l, nle_T, nle_F, nlt_T, nlt_F, neq_T, neq_F]
  done
theorem d185_0 : dec 185 0 = some (.aload_n 0, 1, []) := rfl
theorem d185_1 : dec 185 1 = some (.iload_n 1, 1, []) := rfl
theorem d185_2 : dec 185 2 = some (.iconst 0, 1, [0]) := rfl
theorem d185_3 : dec 185 3 = some (.bipush 50, 2, [50]) := rfl
theorem d185_5 : dec 185 5 = some (.invokestatic 76, 3, [2, 156, 0, 10, 0, 1092, 0, 0, 0]) := rfl
theorem d185_8 : dec 185 8 = some (.ifCond .eq 17, 3, [25]) := rfl
theorem d185_11 : dec 185 11 = some (.iload_n 2, 1, []) := rfl
theorem d185_12 : dec 185 12 = some (.iconst (-1), 1, [4294967295]) := rfl
theorem d185_13 : dec 185 13 = some (.ldc 150, 2, [8, 999999, 1205]) := rfl
theorem d185_15 : dec 185 15 = some (.invokestatic 76, 3, [2, 156, 0, 10, 0, 1092, 0, 0, 0]) := rfl
theorem d185_18 : dec 185 18 = some (.ifCond .eq 7, 3, [25]) := rfl
theorem d185_21 : dec 185 21 = some (.iconst 0, 1, [0]) := rfl
theorem d185_22 : dec 185 22 = some (.goto 4, 3, [26]) := rfl
theorem d185_25 : dec 185 25 = some (.iconst 1, 1, [1]) := rfl
theorem d185_26 : dec 185 26 = some (.invokevirtual 72, 3, [2, 153, 2, 10, 0, 1081, 0]) := rfl
theorem d185_29 : dec 185 29 = some (.ifCond .eq 5, 3, [34]) := rfl
theorem d185_32 : dec 185 32 = some (.iconst 0, 1, [0]) := rfl
theorem d185_33 : dec 185 33 = some (.ireturn, 1, [0]) := rfl
theorem d185_34 : dec 185 34 = some (.aload_n 0, 1, []) := rfl
theorem d185_35 : dec 185 35 = some (.bipush 120, 2, [120]) := rfl
theorem d185_37 : dec 185 37 = some (.iload_n 1, 1, []) := rfl
theorem d185_38 : dec 185 38 = some (.invokevirtual 147, 3, [2, 183, 2, 10, 0, 1193, 0, 0]) := rfl
theorem d185_41 : dec 185 41 = some (.istore_n 3, 1, []) := rfl
theorem d185_42 : dec 185 42 = some (.aload_n 0, 1, []) := rfl
theorem d185_43 : dec 185 43 = some (.getfield 7, 3, [1, 10, 0, 2, 0, 994]) := rfl
theorem d185_46 : dec 185 46 = some (.bipush 121, 2, [121]) := rfl
theorem d185_48 : dec 185 48 = some (.iload_n 2, 1, []) := rfl
theorem d185_49 : dec 185 49 = some (.iconst (-1), 1, [4294967295]) := rfl
theorem d185_50 : dec 185 50 = some (.if_icmp .ne 13, 3, [63]) := rfl
theorem d185_53 : dec 185 53 = some (.aload_n 0, 1, []) := rfl
theorem d185_54 : dec 185 54 = some (.getfield 7, 3, [1, 10, 0, 2, 0, 994]) := rfl
theorem d185_57 : dec 185 57 = some (.bipush 121, 2, [121]) := rfl
theorem d185_59 : dec 185 59 = some (.iaload, 1, []) := rfl
theorem d185_60 : dec 185 60 = some (.goto 4, 3, [64]) := rfl
theorem d185_63 : dec 185 63 = some (.iload_n 2, 1, []) := rfl
theorem d185_64 : dec 185 64 = some (.iastore, 1, []) := rfl
theorem d185_65 : dec 185 65 = some (.iload_n 3, 1, []) := rfl
theorem d185_66 : dec 185 66 = some (.ireturn, 1, [0]) := rfl
theorem l185 : mL 185 = 4 := rfl
theorem c185 {d : Nat} {P : MP} {I : MI} {L : ML} {C : MC} {r v : Nat} {B n len : Nat} {g : GS} {ps : Nat → GS} {tx : Nat → Nat} (hM : MB P) (hR : ZR I g n ps len tx) (hA : AV B g n ps len tx) (hd : 6 ≤ d) (h1 : r ≤ 50) (h2 : v ≤ 999999) : ∃ I', ZR I' (ud (ud g 120 r) 121 v) (puN n) (puS n ps g) len tx ∧ I' 150 4 = nI 0 ∧ fm I I' ∧ ∀ Q, CT d 185 [.ref 150, .int (nI r), .int (nI v)] P I L C Q = Q (.inl (some (.int (nI (g 120))))) P I' L C := by
  have hM' := hM
  obtain ⟨⟨k0, p0, p1, p2, p5, y1, y2, y3, y4⟩, _⟩ := hM'
  have hR' := hR
  obtain ⟨hN, h3, hps', h6, htx'⟩ := hR'
  have hA' := hA
  obtain ⟨hGV, hps, hn4, hlen, htx⟩ := hA'
  have h140 := GV_140 hGV
  have hv := hGV.1
  have hl := hGV.2.1
  have hFv := hGV.2.2
  have hR0 : ZR (xu I 150 4 (nI 0)) g n ps len tx := ZR_4 hR
  have hN0 := hR0.1
  obtain ⟨I', i1, i2, i3, i4⟩ := c183 (d := d - 1) (L := L) (C := C) (a := 120) (v := r) hM hR0 hA (by omega) (by omega) (xu_s _ _ _ _)
  refine ⟨xu I' 151 121 (nI v), ZR_now i1 (NR_ud i1.1) (fun k j h => xu_n _ _ (by omega)), by rw [xu_n _ _ (by omega)]; exact i2, fun k j h => by rw [xu_n _ _ (by omega), i3 k j h, fm_4 k j h], fun Q => ?_⟩
  rw [CT_e (mj := 185) (e := [.ref 150, .int (nI r), .int (nI v), UN]) (by omega) rfl (Nat.le_of_ble_eq_true rfl)]
  simp (disch := first | assumption | omega) only [Nat.reduceAdd, X_go, go2_some, stp, ldI, ldA, ldL, stI, stA, stL, o1I, o2I, o2L, brI, brII, gl, s1, s2, k1, sl, go_sN, go_sR, go_CT, go_sT, go_no, go_if, pops, bk_v, bk_0, d185_0, d185_1, d185_2, d185_3, d185_5, d185_8, d185_11, d185_12, d185_13, d185_15, d185_18, d185_21, d185_22, d185_25, d185_26, d185_29, d185_32, d185_33, d185_34, d185_35, d185_37, d185_38, d185_41, d185_42, d185_43, d185_46, d185_48, d185_49, d185_50, d185_53, d185_54, d185_57, d185_59, d185_60, d185_63, d185_64, d185_65, d185_66, n_lt, n_le, n_eq, n_lt0, n_ge0, n_gt0, n_le0, n_eq0, m_lt, m_le, m_gt, m_ge, m_eq, m_eq', m_lt0, m_ge0, m_gt0, m_le0, m_ltm, m_lem, n_in, m_in, n_cl, n_ti, n_div, n_rem', n_dec, n_l, nI_add, pk_mul, an0, an1, decide_eq_true_eq, if_true, if_false, ite_true, ite_false, and_true, true_and, and_false, false_and, not_true, not_false_iff, or_false, false_or, or_true, true_or, eq_self, va_some, Bool.false_eq_true, reduceIte, catS_n, catS_i, catS_r, catS_l, catS_d, Nat.zero_add, Nat.add_zero, decide_true, decide_false, Nat.reduceLeDiff, cat_r, cat_i, cat_l, nle_T, nle_F, nlt_T, nlt_F, neq_T, neq_F, k0, p0, y1, c156, c156m, c153 hM, i4]
  done
theorem c185n {d : Nat} {P : MP} {I : MI} {L : ML} {C : MC} {r : Nat} {B n len : Nat} {g : GS} {ps : Nat → GS} {tx : Nat → Nat} (hM : MB P) (hR : ZR I g n ps len tx) (hA : AV B g n ps len tx) (hd : 6 ≤ d) (h1 : r ≤ 50) : ∃ I', ZR I' (ud g 120 r) (puN n) (puS n ps g) len tx ∧ I' 150 4 = nI 0 ∧ fm I I' ∧ ∀ Q, CT d 185 [.ref 150, .int (nI r), .int (nI 4294967295)] P I L C Q = Q (.inl (some (.int (nI (g 120))))) P I' L C := by
  have hM' := hM
  obtain ⟨⟨k0, p0, p1, p2, p5, y1, y2, y3, y4⟩, _⟩ := hM'
  have hR' := hR
  obtain ⟨hN, h3, hps', h6, htx'⟩ := hR'
  have hA' := hA
  obtain ⟨hGV, hps, hn4, hlen, htx⟩ := hA'
  have h140 := GV_140 hGV
  have hv := hGV.1
  have hl := hGV.2.1
  have hFv := hGV.2.2
  have hR0 : ZR (xu I 150 4 (nI 0)) g n ps len tx := ZR_4 hR
  have hN0 := hR0.1
  obtain ⟨I', i1, i2, i3, i4⟩ := c183 (d := d - 1) (L := L) (C := C) (a := 120) (v := r) hM hR0 hA (by omega) (by omega) (xu_s _ _ _ _)
  have e1 : I' 151 121 = nI (g 121) := by
    have := i1.1 121 (by omega)
    rw [ud_n (by omega)] at this
    exact this
  have e2 : ∀ k, ud g 120 r k = ud (ud g 120 r) 121 (g 121) k := fun k => by
    by_cases z : k = 121
    · subst z; rw [ud_s, ud_n (by omega)]
    · rw [ud_n z]
  refine ⟨xu I' 151 121 (nI (g 121)), ZR_now i1 (NR_c (NR_ud i1.1) fun k _ => e2 k) (fun k j h => xu_n _ _ (by omega)), by rw [xu_n _ _ (by omega)]; exact i2, fun k j h => by rw [xu_n _ _ (by omega), i3 k j h, fm_4 k j h], fun Q => ?_⟩
  rw [CT_e (mj := 185) (e := [.ref 150, .int (nI r), .int (nI 4294967295), UN]) (by omega) rfl (Nat.le_of_ble_eq_true rfl)]
  simp (disch := first | assumption | omega) only [Nat.reduceAdd, X_go, go2_some, stp, ldI, ldA, ldL, stI, stA, stL, o1I, o2I, o2L, brI, brII, gl, s1, s2, k1, sl, go_sN, go_sR, go_CT, go_sT, go_no, go_if, pops, bk_v, bk_0, d185_0, d185_1, d185_2, d185_3, d185_5, d185_8, d185_11, d185_12, d185_13, d185_15, d185_18, d185_21, d185_22, d185_25, d185_26, d185_29, d185_32, d185_33, d185_34, d185_35, d185_37, d185_38, d185_41, d185_42, d185_43, d185_46, d185_48, d185_49, d185_50, d185_53, d185_54, d185_57, d185_59, d185_60, d185_63, d185_64, d185_65, d185_66, n_lt, n_le, n_eq, n_lt0, n_ge0, n_gt0, n_le0, n_eq0, m_lt, m_le, m_gt, m_ge, m_eq, m_eq', m_lt0, m_ge0, m_gt0, m_le0, m_ltm, m_lem, n_in, m_in, n_cl, n_ti, n_div, n_rem', n_dec, n_l, nI_add, pk_mul, an0, an1, decide_eq_true_eq, if_true, if_false, ite_true, ite_false, and_true, true_and, and_false, false_and, not_true, not_false_iff, or_false, false_or, or_true, true_or, eq_self, va_some, Bool.false_eq_true, reduceIte, catS_n, catS_i, catS_r, catS_l, catS_d, Nat.zero_add, Nat.add_zero, decide_true, decide_false, Nat.reduceLeDiff, cat_r, cat_i, cat_l, nle_T, nle_F, nlt_T, nlt_F, neq_T, neq_F, k0, p0, y1, c156, c156n, c153 hM, i4, e1]
  done
theorem c185b {d : Nat} {P : MP} {I : MI} {L : ML} {C : MC} {Q : QT} {x y : Int32} (hM : MB P) (hd : 6 ≤ d) (hx : x < 0 ∨ nI 50 < x) : CT d 185 [.ref 150, .int x, .int y] P I L C Q = Q (.inl (some (.int (nI 0)))) P (xu I 150 4 (nI 1)) L C := by
  have k0 := hM.1.1
  rw [CT_e (mj := 185) (e := [.ref 150, .int x, .int y, UN]) (by omega) rfl (Nat.le_of_ble_eq_true rfl)]
  simp (disch := first | assumption | omega) only [Nat.reduceAdd, X_go, go2_some, stp, ldI, ldA, ldL, stI, stA, stL, o1I, o2I, o2L, brI, brII, gl, s1, s2, k1, sl, go_sN, go_sR, go_CT, go_sT, go_no, go_if, pops, bk_v, bk_0, d185_0, d185_1, d185_2, d185_3, d185_5, d185_8, d185_11, d185_12, d185_13, d185_15, d185_18, d185_21, d185_22, d185_25, d185_26, d185_29, d185_32, d185_33, d185_34, d185_35, d185_37, d185_38, d185_41, d185_42, d185_43, d185_46, d185_48, d185_49, d185_50, d185_53, d185_54, d185_57, d185_59, d185_60, d185_63, d185_64, d185_65, d185_66, n_lt, n_le, n_eq, n_lt0, n_ge0, n_gt0, n_le0, n_eq0, m_lt, m_le, m_gt, m_ge, m_eq, m_eq', m_lt0, m_ge0, m_gt0, m_le0, m_ltm, m_lem, n_in, m_in, n_cl, n_ti, n_div, n_rem', n_dec, n_l, nI_add, pk_mul, an0, an1, decide_eq_true_eq, if_true, if_false, ite_true, ite_false, and_true, true_and, and_false, false_and, not_true, not_false_iff, or_false, false_or, or_true, true_or, eq_self, va_some, Bool.false_eq_true, reduceIte, catS_n, catS_i, catS_r, catS_l, catS_d, Nat.zero_add, Nat.add_zero, decide_true, decide_false, Nat.reduceLeDiff, cat_r, cat_i, cat_l, nle_T, nle_F, nlt_T, nlt_F, neq_T, neq_F, k0, c156b (y := nI 0) (hx := hx), c153 hM]
  done
theorem c185c {d : Nat} {P : MP} {I : MI} {L : ML} {C : MC} {Q : QT} {r : Nat} {y : Int32} (hM : MB P) (hd : 6 ≤ d) (hr : r ≤ 50) (hn : y ≠ nI 4294967295) (hy : y < 0 ∨ nI 999999 < y) : CT d 185 [.ref 150, .int (nI r), .int y] P I L C Q = Q (.inl (some (.int (nI 0)))) P (xu I 150 4 (nI 1)) L C := by
  have k0 := hM.1.1
  have hy' : y < nI 4294967295 ∨ nI 999999 < y := hy.elim (fun q => .inl (by
    rw [Int32.lt_iff_toInt_lt] at q ⊢
    rw [m_toInt]
    have h0 : (0 : Int32).toInt = 0 := by decide
    rw [h0] at q
    have : y.toInt ≠ -1 := fun z => hn (Int32.toInt_inj.mp (by rw [z, m_toInt]))
    omega)) .inr
  rw [CT_e (mj := 185) (e := [.ref 150, .int (nI r), .int y, UN]) (by omega) rfl (Nat.le_of_ble_eq_true rfl)]
  simp (disch := first | assumption | omega) only [Nat.reduceAdd, X_go, go2_some, stp, ldI, ldA, ldL, stI, stA, stL, o1I, o2I, o2L, brI, brII, gl, s1, s2, k1, sl, go_sN, go_sR, go_CT, go_sT, go_no, go_if, pops, bk_v, bk_0, d185_0, d185_1, d185_2, d185_3, d185_5, d185_8, d185_11, d185_12, d185_13, d185_15, d185_18, d185_21, d185_22, d185_25, d185_26, d185_29, d185_32, d185_33, d185_34, d185_35, d185_37, d185_38, d185_41, d185_42, d185_43, d185_46, d185_48, d185_49, d185_50, d185_53, d185_54, d185_57, d185_59, d185_60, d185_63, d185_64, d185_65, d185_66, n_lt, n_le, n_eq, n_lt0, n_ge0, n_gt0, n_le0, n_eq0, m_lt, m_le, m_gt, m_ge, m_eq, m_eq', m_lt0, m_ge0, m_gt0, m_le0, m_ltm, m_lem, n_in, m_in, n_cl, n_ti, n_div, n_rem', n_dec, n_l, nI_add, pk_mul, an0, an1, decide_eq_true_eq, if_true, if_false, ite_true, ite_false, and_true, true_and, and_false, false_and, not_true, not_false_iff, or_false, false_or, or_true, true_or, eq_self, va_some, Bool.false_eq_true, reduceIte, catS_n, catS_i, catS_r, catS_l, catS_d, Nat.zero_add, Nat.add_zero, decide_true, decide_false, Nat.reduceLeDiff, cat_r, cat_i, cat_l, nle_T, nle_F, nlt_T, nlt_F, neq_T, neq_F, k0, c156, c156b (hx := hy'), c153 hM]
  done
theorem d186_0 : dec 186 0 = some (.aload_n 0, 1, []) := rfl
theorem d186_1 : dec 186 1 = some (.iload_n 1, 1, []) := rfl
theorem d186_2 : dec 186 2 = some (.invokestatic 144, 3, [2, 182, 0, 10, 0, 1190, 0]) := rfl
theorem d186_5 : dec 186 5 = some (.ifCond .eq 7, 3, [12]) := rfl
theorem d186_8 : dec 186 8 = some (.iconst 0, 1, [0]) := rfl
theorem d186_9 : dec 186 9 = some (.goto 4, 3, [13]) := rfl
theorem d186_12 : dec 186 12 = some (.iconst 1, 1, [1]) := rfl
theorem d186_13 : dec 186 13 = some (.invokevirtual 72, 3, [2, 153, 2, 10, 0, 1081, 0]) := rfl
theorem d186_16 : dec 186 16 = some (.ifCond .eq 7, 3, [23]) := rfl
theorem d186_19 : dec 186 19 = some (.iconst 0, 1, [0]) := rfl
theorem d186_20 : dec 186 20 = some (.goto 21, 3, [41]) := rfl
theorem d186_23 : dec 186 23 = some (.aload_n 0, 1, []) := rfl
theorem d186_24 : dec 186 24 = some (.getfield 7, 3, [1, 10, 0, 2, 0, 994]) := rfl
theorem d186_27 : dec 186 27 = some (.iload_n 2, 1, []) := rfl
theorem d186_28 : dec 186 28 = some (.ifCond .eq 8, 3, [36]) := rfl
theorem d186_31 : dec 186 31 = some (.bipush 116, 2, [116]) := rfl
theorem d186_33 : dec 186 33 = some (.goto 5, 3, [38]) := rfl
theorem d186_36 : dec 186 36 = some (.bipush 113, 2, [113]) := rfl
theorem d186_38 : dec 186 38 = some (.iload_n 1, 1, []) := rfl
theorem d186_39 : dec 186 39 = some (.iadd, 1, []) := rfl
theorem d186_40 : dec 186 40 = some (.iaload, 1, []) := rfl
theorem d186_41 : dec 186 41 = some (.ireturn, 1, [0]) := rfl
theorem l186 : mL 186 = 3 := rfl
theorem c186 {d : Nat} {P : MP} {I : MI} {L : ML} {C : MC} {Q : QT} {r b : Nat} {B n len : Nat} {g : GS} {ps : Nat → GS} {tx : Nat → Nat} (hM : MB P) (hR : ZR I g n ps len tx) (hA : AV B g n ps len tx) (hd : 6 ≤ d) (h1 : 1 ≤ r) (h3' : r ≤ 3) (hb : b ≤ 1) : CT d 186 [.ref 150, .int (nI r), .int (nI b)] P I L C Q = Q (.inl (some (.int (nI (if b = 0 then g (113 + r) else g (116 + r)))))) P (xu I 150 4 (nI 0)) L C := by
  have hM' := hM
  obtain ⟨⟨k0, p0, p1, p2, p5, y1, y2, y3, y4⟩, _⟩ := hM'
  have hR' := hR
  obtain ⟨hN, h3, hps', h6, htx'⟩ := hR'
  have hA' := hA
  obtain ⟨hGV, hps, hn4, hlen, htx⟩ := hA'
  have h140 := GV_140 hGV
  have hv := hGV.1
  have hl := hGV.2.1
  have hFv := hGV.2.2
  have hR0 : ZR (xu I 150 4 (nI 0)) g n ps len tx := ZR_4 hR
  have hN0 := hR0.1
  have e1 := hN0 (113 + r) (by omega)
  have e2 := hN0 (116 + r) (by omega)
  rw [CT_e (mj := 186) (e := [.ref 150, .int (nI r), .int (nI b)]) (by omega) rfl (Nat.le_of_ble_eq_true rfl)]
  by_cases z : b = 0
  · simp (disch := first | assumption | omega) only [Nat.reduceAdd, X_go, go2_some, stp, ldI, ldA, ldL, stI, stA, stL, o1I, o2I, o2L, brI, brII, gl, s1, s2, k1, sl, go_sN, go_sR, go_CT, go_sT, go_no, go_if, pops, bk_v, bk_0, d186_0, d186_1, d186_2, d186_5, d186_8, d186_9, d186_12, d186_13, d186_16, d186_19, d186_20, d186_23, d186_24, d186_27, d186_28, d186_31, d186_33, d186_36, d186_38, d186_39, d186_40, d186_41, n_lt, n_le, n_eq, n_lt0, n_ge0, n_gt0, n_le0, n_eq0, m_lt, m_le, m_gt, m_ge, m_eq, m_eq', m_lt0, m_ge0, m_gt0, m_le0, m_ltm, m_lem, n_in, m_in, n_cl, n_ti, n_div, n_rem', n_dec, n_l, nI_add, pk_mul, an0, an1, decide_eq_true_eq, if_true, if_false, ite_true, ite_false, and_true, true_and, and_false, false_and, not_true, not_false_iff, or_false, false_or, or_true, true_or, eq_self, va_some, Bool.false_eq_true, reduceIte, catS_n, catS_i, catS_r, catS_l, catS_d, Nat.zero_add, Nat.add_zero, decide_true, decide_false, Nat.reduceLeDiff, cat_r, cat_i, cat_l, nle_T, nle_F, nlt_T, nlt_F, neq_T, neq_F, k0, p0, y1, c182, c153 hM, e1, z]
  · simp (disch := first | assumption | omega) only [Nat.reduceAdd, X_go, go2_some, stp, ldI, ldA, ldL, stI, stA, stL, o1I, o2I, o2L, brI, brII, gl, s1, s2, k1, sl, go_sN, go_sR, go_CT, go_sT, go_no, go_if, pops, bk_v, bk_0, d186_0, d186_1, d186_2, d186_5, d186_8, d186_9, d186_12, d186_13, d186_16, d186_19, d186_20, d186_23, d186_24, d186_27, d186_28, d186_31, d186_33, d186_36, d186_38, d186_39, d186_40, d186_41, n_lt, n_le, n_eq, n_lt0, n_ge0, n_gt0, n_le0, n_eq0, m_lt, m_le, m_gt, m_ge, m_eq, m_eq', m_lt0, m_ge0, m_gt0, m_le0, m_ltm, m_lem, n_in, m_in, n_cl, n_ti, n_div, n_rem', n_dec, n_l, nI_add, pk_mul, an0, an1, decide_eq_true_eq, if_true, if_false, ite_true, ite_false, and_true, true_and, and_false, false_and, not_true, not_false_iff, or_false, false_or, or_true, true_or, eq_self, va_some, Bool.false_eq_true, reduceIte, catS_n, catS_i, catS_r, catS_l, catS_d, Nat.zero_add, Nat.add_zero, decide_true, decide_false, Nat.reduceLeDiff, cat_r, cat_i, cat_l, nle_T, nle_F, nlt_T, nlt_F, neq_T, neq_F, k0, p0, y1, c182, c153 hM, e2, z]
theorem c186b {d : Nat} {P : MP} {I : MI} {L : ML} {C : MC} {Q : QT} {x y : Int32} (hM : MB P) (hd : 6 ≤ d) (hx : x < nI 1 ∨ nI 3 < x) : CT d 186 [.ref 150, .int x, .int y] P I L C Q = Q (.inl (some (.int (nI 0)))) P (xu I 150 4 (nI 1)) L C := by
  have k0 := hM.1.1
  rw [CT_e (mj := 186) (e := [.ref 150, .int x, .int y]) (by omega) rfl (Nat.le_of_ble_eq_true rfl)]
  simp (disch := first | assumption | omega) only [Nat.reduceAdd, X_go, go2_some, stp, ldI, ldA, ldL, stI, stA, stL, o1I, o2I, o2L, brI, brII, gl, s1, s2, k1, sl, go_sN, go_sR, go_CT, go_sT, go_no, go_if, pops, bk_v, bk_0, d186_0, d186_1, d186_2, d186_5, d186_8, d186_9, d186_12, d186_13, d186_16, d186_19, d186_20, d186_23, d186_24, d186_27, d186_28, d186_31, d186_33, d186_36, d186_38, d186_39, d186_40, d186_41, n_lt, n_le, n_eq, n_lt0, n_ge0, n_gt0, n_le0, n_eq0, m_lt, m_le, m_gt, m_ge, m_eq, m_eq', m_lt0, m_ge0, m_gt0, m_le0, m_ltm, m_lem, n_in, m_in, n_cl, n_ti, n_div, n_rem', n_dec, n_l, nI_add, pk_mul, an0, an1, decide_eq_true_eq, if_true, if_false, ite_true, ite_false, and_true, true_and, and_false, false_and, not_true, not_false_iff, or_false, false_or, or_true, true_or, eq_self, va_some, Bool.false_eq_true, reduceIte, catS_n, catS_i, catS_r, catS_l, catS_d, Nat.zero_add, Nat.add_zero, decide_true, decide_false, Nat.reduceLeDiff, cat_r, cat_i, cat_l, nle_T, nle_F, nlt_T, nlt_F, neq_T, neq_F, k0, c182b, c153 hM]
  done
theorem d190_0 : dec 190 0 = some (.aload_n 0, 1, []) := rfl
theorem d190_1 : dec 190 1 = some (.iload_n 1, 1, []) := rfl
theorem d190_2 : dec 190 2 = some (.invokestatic 84, 3, [2, 155, 0, 10, 0, 1089, 0]) := rfl
theorem d190_5 : dec 190 5 = some (.ifCond .eq 7, 3, [12]) := rfl
theorem d190_8 : dec 190 8 = some (.iconst 0, 1, [0]) := rfl
theorem d190_9 : dec 190 9 = some (.goto 4, 3, [13]) := rfl
theorem d190_12 : dec 190 12 = some (.iconst 1, 1, [1]) := rfl
theorem d190_13 : dec 190 13 = some (.invokevirtual 72, 3, [2, 153, 2, 10, 0, 1081, 0]) := rfl
theorem d190_16 : dec 190 16 = some (.ifCond .eq 5, 3, [21]) := rfl
theorem d190_19 : dec 190 19 = some (.iconst 0, 1, [0]) := rfl
theorem d190_20 : dec 190 20 = some (.ireturn, 1, [0]) := rfl
theorem d190_21 : dec 190 21 = some (.aload_n 0, 1, []) := rfl
theorem d190_22 : dec 190 22 = some (.invokevirtual 87, 3, [2, 157, 2, 10, 0, 1095]) := rfl
theorem d190_25 : dec 190 25 = some (.aload_n 0, 1, []) := rfl
theorem d190_26 : dec 190 26 = some (.iload_n 1, 1, []) := rfl
theorem d190_27 : dec 190 27 = some (.invokevirtual 177, 3, [2, 191, 2, 10, 0, 1226, 0]) := rfl
theorem d190_30 : dec 190 30 = some (.ireturn, 1, [0]) := rfl
theorem l190 : mL 190 = 2 := rfl
theorem c190 {d : Nat} {P : MP} {I : MI} {L : ML} {C : MC} {t : Nat} {B n len : Nat} {g : GS} {ps : Nat → GS} {tx : Nat → Nat} (hM : MB P) (hR : ZR I g n ps len tx) (hA : AV B g n ps len tx) (hd : 10 ≤ d) (ht : t < 3) : ∃ I', ZR I' (opn t g) (puN n) (puS n ps g) len tx ∧ GV (B + 1) (opn t g) ∧ I' 150 4 = nI 0 ∧ fm I I' ∧ ∀ Q, CT d 190 [.ref 150, .int (nI t)] P I L C Q = Q (.inl (some (.int (nI (opN t g))))) P I' L C := by
  have hM' := hM
  obtain ⟨⟨k0, p0, p1, p2, p5, y1, y2, y3, y4⟩, _⟩ := hM'
  have hR' := hR
  obtain ⟨hN, h3, hps', h6, htx'⟩ := hR'
  have hA' := hA
  obtain ⟨hGV, hps, hn4, hlen, htx⟩ := hA'
  have h140 := GV_140 hGV
  have hv := hGV.1
  have hl := hGV.2.1
  have hFv := hGV.2.2
  have hR0 : ZR (xu I 150 4 (nI 0)) g n ps len tx := ZR_4 hR
  have hN0 := hR0.1
  obtain ⟨J, j1, j2, j3⟩ := c157 (d := d - 1) (L := L) (C := C) hM hR0 hn4 (by omega)
  have hNJ := j1.1
  have j4 : J 150 4 = nI 0 := by rw [j2 _ _ (by omega) (by omega), xu_s]
  have j5 : ∀ k j, k < 150 ∨ 168 < k → J k j = I k j := fun k j h => by rw [j2 _ _ (by omega) (by omega), xu_n _ _ (by omega)]
  obtain ⟨I', i1, i2, i3, i4, i5⟩ := c191 (d := d - 1) (L := L) (C := C) hM hNJ hv hl hFv (by omega) ht
  refine ⟨I', ZR_now j1 i1 i4, i2, by rw [i4 _ _ (by omega)]; exact j4, fun k j h => by rw [i4 _ _ (by omega), j5 k j h], fun Q => ?_⟩
  rw [CT_e (mj := 190) (e := [.ref 150, .int (nI t)]) (by omega) rfl (Nat.le_of_ble_eq_true rfl)]
  simp (disch := first | assumption | omega) only [Nat.reduceAdd, X_go, go2_some, stp, ldI, ldA, ldL, stI, stA, stL, o1I, o2I, o2L, brI, brII, gl, s1, s2, k1, sl, go_sN, go_sR, go_CT, go_sT, go_no, go_if, pops, bk_v, bk_0, d190_0, d190_1, d190_2, d190_5, d190_8, d190_9, d190_12, d190_13, d190_16, d190_19, d190_20, d190_21, d190_22, d190_25, d190_26, d190_27, d190_30, n_lt, n_le, n_eq, n_lt0, n_ge0, n_gt0, n_le0, n_eq0, m_lt, m_le, m_gt, m_ge, m_eq, m_eq', m_lt0, m_ge0, m_gt0, m_le0, m_ltm, m_lem, n_in, m_in, n_cl, n_ti, n_div, n_rem', n_dec, n_l, nI_add, pk_mul, an0, an1, decide_eq_true_eq, if_true, if_false, ite_true, ite_false, and_true, true_and, and_false, false_and, not_true, not_false_iff, or_false, false_or, or_true, true_or, eq_self, va_some, Bool.false_eq_true, reduceIte, catS_n, catS_i, catS_r, catS_l, catS_d, Nat.zero_add, Nat.add_zero, decide_true, decide_false, Nat.reduceLeDiff, cat_r, cat_i, cat_l, nle_T, nle_F, nlt_T, nlt_F, neq_T, neq_F, k0, c155, c153 hM, j3, i5]
  done
theorem c190b {d : Nat} {P : MP} {I : MI} {L : ML} {C : MC} {Q : QT} {x : Int32} (hM : MB P) (hd : 6 ≤ d) (hx : x < 0 ∨ nI 3 ≤ x) : CT d 190 [.ref 150, .int x] P I L C Q = Q (.inl (some (.int (nI 0)))) P (xu I 150 4 (nI 1)) L C := by
  have k0 := hM.1.1
  rw [CT_e (mj := 190) (e := [.ref 150, .int x]) (by omega) rfl (Nat.le_of_ble_eq_true rfl)]
  simp (disch := first | assumption | omega) only [Nat.reduceAdd, X_go, go2_some, stp, ldI, ldA, ldL, stI, stA, stL, o1I, o2I, o2L, brI, brII, gl, s1, s2, k1, sl, go_sN, go_sR, go_CT, go_sT, go_no, go_if, pops, bk_v, bk_0, d190_0, d190_1, d190_2, d190_5, d190_8, d190_9, d190_12, d190_13, d190_16, d190_19, d190_20, d190_21, d190_22, d190_25, d190_26, d190_27, d190_30, n_lt, n_le, n_eq, n_lt0, n_ge0, n_gt0, n_le0, n_eq0, m_lt, m_le, m_gt, m_ge, m_eq, m_eq', m_lt0, m_ge0, m_gt0, m_le0, m_ltm, m_lem, n_in, m_in, n_cl, n_ti, n_div, n_rem', n_dec, n_l, nI_add, pk_mul, an0, an1, decide_eq_true_eq, if_true, if_false, ite_true, ite_false, and_true, true_and, and_false, false_and, not_true, not_false_iff, or_false, false_or, or_true, true_or, eq_self, va_some, Bool.false_eq_true, reduceIte, catS_n, catS_i, catS_r, catS_l, catS_d, Nat.zero_add, Nat.add_zero, decide_true, decide_false, Nat.reduceLeDiff, cat_r, cat_i, cat_l, nle_T, nle_F, nlt_T, nlt_F, neq_T, neq_F, k0, c155b, c153 hM]
  done
theorem d196_0 : dec 196 0 = some (.aload_n 0, 1, []) := rfl
theorem d196_1 : dec 196 1 = some (.iload_n 1, 1, []) := rfl
theorem d196_2 : dec 196 2 = some (.invokestatic 84, 3, [2, 155, 0, 10, 0, 1089, 0]) := rfl
theorem d196_5 : dec 196 5 = some (.ifCond .ne 7, 3, [12]) := rfl
theorem d196_8 : dec 196 8 = some (.iconst 1, 1, [1]) := rfl
theorem d196_9 : dec 196 9 = some (.goto 19, 3, [28]) := rfl
theorem d196_12 : dec 196 12 = some (.iload_n 2, 1, []) := rfl
theorem d196_13 : dec 196 13 = some (.iconst 1, 1, [1]) := rfl
theorem d196_14 : dec 196 14 = some (.sipush 200, 3, [200]) := rfl
theorem d196_17 : dec 196 17 = some (.invokestatic 76, 3, [2, 156, 0, 10, 0, 1092, 0, 0, 0]) := rfl
theorem d196_20 : dec 196 20 = some (.ifCond .eq 7, 3, [27]) := rfl
theorem d196_23 : dec 196 23 = some (.iconst 0, 1, [0]) := rfl
theorem d196_24 : dec 196 24 = some (.goto 4, 3, [28]) := rfl
theorem d196_27 : dec 196 27 = some (.iconst 2, 1, [2]) := rfl
theorem d196_28 : dec 196 28 = some (.invokevirtual 72, 3, [2, 153, 2, 10, 0, 1081, 0]) := rfl
theorem d196_31 : dec 196 31 = some (.ifCond .eq 5, 3, [36]) := rfl
theorem d196_34 : dec 196 34 = some (.iconst 0, 1, [0]) := rfl
theorem d196_35 : dec 196 35 = some (.ireturn, 1, [0]) := rfl
theorem d196_36 : dec 196 36 = some (.aload_n 0, 1, []) := rfl
theorem d196_37 : dec 196 37 = some (.invokevirtual 87, 3, [2, 157, 2, 10, 0, 1095]) := rfl
theorem d196_40 : dec 196 40 = some (.iconst 0, 1, [0]) := rfl
theorem d196_41 : dec 196 41 = some (.istore_n 3, 1, []) := rfl
theorem d196_42 : dec 196 42 = some (.iconst 0, 1, [0]) := rfl
theorem d196_43 : dec 196 43 = some (.istore 4, 2, []) := rfl
theorem d196_45 : dec 196 45 = some (.iload 4, 2, []) := rfl
theorem d196_47 : dec 196 47 = some (.iload_n 2, 1, []) := rfl
theorem d196_48 : dec 196 48 = some (.if_icmp .ge 17, 3, [65]) := rfl
theorem d196_51 : dec 196 51 = some (.iload_n 3, 1, []) := rfl
theorem d196_52 : dec 196 52 = some (.aload_n 0, 1, []) := rfl
theorem d196_53 : dec 196 53 = some (.iload_n 1, 1, []) := rfl
theorem d196_54 : dec 196 54 = some (.invokevirtual 177, 3, [2, 191, 2, 10, 0, 1226, 0]) := rfl
theorem d196_57 : dec 196 57 = some (.iadd, 1, []) := rfl
theorem d196_58 : dec 196 58 = some (.istore_n 3, 1, []) := rfl
theorem d196_59 : dec 196 59 = some (.iinc 4 1, 3, [1]) := rfl
theorem d196_62 : dec 196 62 = some (.goto (-17), 3, [45]) := rfl
theorem d196_65 : dec 196 65 = some (.iload_n 3, 1, []) := rfl
theorem d196_66 : dec 196 66 = some (.ireturn, 1, [0]) := rfl
theorem l196 : mL 196 = 5 := rfl
theorem f196 {d : Nat} {P : MP} {L : ML} {C : MC} {t times : Nat} (hM : MB P) (hd : 9 ≤ d) (ht : t < 3) (h200 : times ≤ 200) : ∀ m i f B (g : GS) (I : MI), i + m = times → f ≤ 2 * i → NR I g → GV B g → ∃ I', NR I' (opI t m g) ∧ GV (B + m) (opI t m g) ∧ (∀ k j, k ≠ 151 → I' k j = I k j) ∧ ∀ Q, X d 196 45 [.ref 150, .int (nI t), .int (nI times), .int (nI f), .int (nI i)] [] P I L C Q = Q (.inl (some (.int (nI (f + opT t m g))))) P I' L C := by
  have k0 := hM.1.1
  intro m
  induction m with
  | zero =>
    intro i f B g I hi hf hn hGV
    refine ⟨I, hn, hGV, fun _ _ _ => rfl, fun Q => ?_⟩
    have : i = times := by omega
    subst this
    have e : opT t 0 g = 0 := rfl
    rw [X_go, d196_45]
    simp (disch := first | assumption | omega) only [Nat.reduceAdd, X_go, go2_some, stp, ldI, ldA, ldL, stI, stA, stL, o1I, o2I, o2L, brI, brII, gl, s1, s2, k1, sl, go_sN, go_sR, go_CT, go_sT, go_no, go_if, pops, bk_v, bk_0, d196_0, d196_1, d196_2, d196_5, d196_8, d196_9, d196_12, d196_13, d196_14, d196_17, d196_20, d196_23, d196_24, d196_27, d196_28, d196_31, d196_34, d196_35, d196_36, d196_37, d196_40, d196_41, d196_42, d196_43, d196_47, d196_48, d196_51, d196_52, d196_53, d196_54, d196_57, d196_58, d196_59, d196_62, d196_65, d196_66, n_lt, n_le, n_eq, n_lt0, n_ge0, n_gt0, n_le0, n_eq0, m_lt, m_le, m_gt, m_ge, m_eq, m_eq', m_lt0, m_ge0, m_gt0, m_le0, m_ltm, m_lem, n_in, m_in, n_cl, n_ti, n_div, n_rem', n_dec, n_l, nI_add, pk_mul, an0, an1, decide_eq_true_eq, if_true, if_false, ite_true, ite_false, and_true, true_and, and_false, false_and, not_true, not_false_iff, or_false, false_or, or_true, true_or, eq_self, va_some, Bool.false_eq_true, reduceIte, catS_n, catS_i, catS_r, catS_l, catS_d, Nat.zero_add, Nat.add_zero, decide_true, decide_false, Nat.reduceLeDiff, cat_r, cat_i, cat_l, nle_T, nle_F, nlt_T, nlt_F, neq_T, neq_F, e]
  | succ m ih =>
    intro i f B g I hi hf hn hGV
    obtain ⟨J, i1, i2, ⟨i3, _⟩, i4, i5⟩ := c191 (d := d) (L := L) (C := C) hM hn hGV.1 hGV.2.1 hGV.2.2 (by omega) ht
    obtain ⟨I', a1, a2, a3, a4⟩ := ih (i + 1) (f + opN t g) (B + 1) (opn t g) J (by omega) (by omega) i1 i2
    have e : opT t (m + 1) g = opN t g + opT t m (opn t g) := rfl
    have e2 : opI t (m + 1) g = opI t m (opn t g) := rfl
    rw [e, e2]
    refine ⟨I', a1, by rw [show B + (m + 1) = B + 1 + m by omega]; exact a2, fun k j h => by rw [a3 k j h, i4 k j h], fun Q => ?_⟩
    have a4 := a4 Q
    rw [show f + opN t g + opT t m (opn t g) = f + (opN t g + opT t m (opn t g)) by omega] at a4
    rw [X_go, d196_45]
    simp (disch := first | assumption | omega) only [Nat.reduceAdd, X_go, go2_some, stp, ldI, ldA, ldL, stI, stA, stL, o1I, o2I, o2L, brI, brII, gl, s1, s2, k1, sl, go_sN, go_sR, go_CT, go_sT, go_no, go_if, pops, bk_v, bk_0, d196_0, d196_1, d196_2, d196_5, d196_8, d196_9, d196_12, d196_13, d196_14, d196_17, d196_20, d196_23, d196_24, d196_27, d196_28, d196_31, d196_34, d196_35, d196_36, d196_37, d196_40, d196_41, d196_42, d196_43, d196_47, d196_48, d196_51, d196_52, d196_53, d196_54, d196_57, d196_58, d196_59, d196_62, d196_65, d196_66, n_lt, n_le, n_eq, n_lt0, n_ge0, n_gt0, n_le0, n_eq0, m_lt, m_le, m_gt, m_ge, m_eq, m_eq', m_lt0, m_ge0, m_gt0, m_le0, m_ltm, m_lem, n_in, m_in, n_cl, n_ti, n_div, n_rem', n_dec, n_l, nI_add, pk_mul, an0, an1, decide_eq_true_eq, if_true, if_false, ite_true, ite_false, and_true, true_and, and_false, false_and, not_true, not_false_iff, or_false, false_or, or_true, true_or, eq_self, va_some, Bool.false_eq_true, reduceIte, catS_n, catS_i, catS_r, catS_l, catS_d, Nat.zero_add, Nat.add_zero, decide_true, decide_false, Nat.reduceLeDiff, cat_r, cat_i, cat_l, nle_T, nle_F, nlt_T, nlt_F, neq_T, neq_F, k0, i5]
    simp only [← X_go]
    exact a4
theorem c196 {d : Nat} {P : MP} {I : MI} {L : ML} {C : MC} {t times : Nat} {B n len : Nat} {g : GS} {ps : Nat → GS} {tx : Nat → Nat} (hM : MB P) (hR : ZR I g n ps len tx) (hA : AV B g n ps len tx) (hd : 11 ≤ d) (ht : t < 3) (h1 : 1 ≤ times) (h2 : times ≤ 200) : ∃ I', ZR I' (opI t times g) (puN n) (puS n ps g) len tx ∧ I' 150 4 = nI 0 ∧ fm I I' ∧ ∀ Q, CT d 196 [.ref 150, .int (nI t), .int (nI times)] P I L C Q = Q (.inl (some (.int (nI (opT t times g))))) P I' L C := by
  have hM' := hM
  obtain ⟨⟨k0, p0, p1, p2, p5, y1, y2, y3, y4⟩, _⟩ := hM'
  have hR' := hR
  obtain ⟨hN, h3, hps', h6, htx'⟩ := hR'
  have hA' := hA
  obtain ⟨hGV, hps, hn4, hlen, htx⟩ := hA'
  have h140 := GV_140 hGV
  have hv := hGV.1
  have hl := hGV.2.1
  have hFv := hGV.2.2
  have hR0 : ZR (xu I 150 4 (nI 0)) g n ps len tx := ZR_4 hR
  have hN0 := hR0.1
  obtain ⟨J, j1, j2, j3⟩ := c157 (d := d - 1) (L := L) (C := C) hM hR0 hn4 (by omega)
  have hNJ := j1.1
  have j4 : J 150 4 = nI 0 := by rw [j2 _ _ (by omega) (by omega), xu_s]
  have j5 : ∀ k j, k < 150 ∨ 168 < k → J k j = I k j := fun k j h => by rw [j2 _ _ (by omega) (by omega), xu_n _ _ (by omega)]
  obtain ⟨I', i1, i2, i3, i4⟩ := f196 (d := d - 1) (L := L) (C := C) hM (by omega) ht h2 times 0 0 B g J (by omega) (by omega) hNJ hGV
  refine ⟨I', ZR_now j1 i1 i3, by rw [i3 _ _ (by omega)]; exact j4, fun k j h => by rw [i3 _ _ (by omega), j5 k j h], fun Q => ?_⟩
  have i4 := i4 Q
  rw [Nat.zero_add] at i4
  rw [CT_e (mj := 196) (e := [.ref 150, .int (nI t), .int (nI times), UN, UN]) (by omega) rfl (Nat.le_of_ble_eq_true rfl)]
  simp (disch := first | assumption | omega) only [Nat.reduceAdd, X_go, go2_some, stp, ldI, ldA, ldL, stI, stA, stL, o1I, o2I, o2L, brI, brII, gl, s1, s2, k1, sl, go_sN, go_sR, go_CT, go_sT, go_no, go_if, pops, bk_v, bk_0, d196_0, d196_1, d196_2, d196_5, d196_8, d196_9, d196_12, d196_13, d196_14, d196_17, d196_20, d196_23, d196_24, d196_27, d196_28, d196_31, d196_34, d196_35, d196_36, d196_37, d196_40, d196_41, d196_42, d196_43, d196_47, d196_48, d196_51, d196_52, d196_53, d196_54, d196_57, d196_58, d196_59, d196_62, d196_65, d196_66, n_lt, n_le, n_eq, n_lt0, n_ge0, n_gt0, n_le0, n_eq0, m_lt, m_le, m_gt, m_ge, m_eq, m_eq', m_lt0, m_ge0, m_gt0, m_le0, m_ltm, m_lem, n_in, m_in, n_cl, n_ti, n_div, n_rem', n_dec, n_l, nI_add, pk_mul, an0, an1, decide_eq_true_eq, if_true, if_false, ite_true, ite_false, and_true, true_and, and_false, false_and, not_true, not_false_iff, or_false, false_or, or_true, true_or, eq_self, va_some, Bool.false_eq_true, reduceIte, catS_n, catS_i, catS_r, catS_l, catS_d, Nat.zero_add, Nat.add_zero, decide_true, decide_false, Nat.reduceLeDiff, cat_r, cat_i, cat_l, nle_T, nle_F, nlt_T, nlt_F, neq_T, neq_F, k0, c155, c156, c153 hM, j3]
  simp only [← X_go]
  exact i4
theorem c196b {d : Nat} {P : MP} {I : MI} {L : ML} {C : MC} {Q : QT} {x y : Int32} (hM : MB P) (hd : 6 ≤ d) (hx : x < 0 ∨ nI 3 ≤ x) : CT d 196 [.ref 150, .int x, .int y] P I L C Q = Q (.inl (some (.int (nI 0)))) P (xu I 150 4 (nI 1)) L C := by
  have k0 := hM.1.1
  rw [CT_e (mj := 196) (e := [.ref 150, .int x, .int y, UN, UN]) (by omega) rfl (Nat.le_of_ble_eq_true rfl)]
  simp (disch := first | assumption | omega) only [Nat.reduceAdd, X_go, go2_some, stp, ldI, ldA, ldL, stI, stA, stL, o1I, o2I, o2L, brI, brII, gl, s1, s2, k1, sl, go_sN, go_sR, go_CT, go_sT, go_no, go_if, pops, bk_v, bk_0, d196_0, d196_1, d196_2, d196_5, d196_8, d196_9, d196_12, d196_13, d196_14, d196_17, d196_20, d196_23, d196_24, d196_27, d196_28, d196_31, d196_34, d196_35, d196_36, d196_37, d196_40, d196_41, d196_42, d196_43, d196_45, d196_47, d196_48, d196_51, d196_52, d196_53, d196_54, d196_57, d196_58, d196_59, d196_62, d196_65, d196_66, n_lt, n_le, n_eq, n_lt0, n_ge0, n_gt0, n_le0, n_eq0, m_lt, m_le, m_gt, m_ge, m_eq, m_eq', m_lt0, m_ge0, m_gt0, m_le0, m_ltm, m_lem, n_in, m_in, n_cl, n_ti, n_div, n_rem', n_dec, n_l, nI_add, pk_mul, an0, an1, decide_eq_true_eq, if_true, if_false, ite_true, ite_false, and_true, true_and, and_false, false_and, not_true, not_false_iff, or_false, false_or, or_true, true_or, eq_self, va_some, Bool.false_eq_true, reduceIte, catS_n, catS_i, catS_r, catS_l, catS_d, Nat.zero_add, Nat.add_zero, decide_true, decide_false, Nat.reduceLeDiff, cat_r, cat_i, cat_l, nle_T, nle_F, nlt_T, nlt_F, neq_T, neq_F, k0, c155b, c153 hM]
  done
theorem c196c {d : Nat} {P : MP} {I : MI} {L : ML} {C : MC} {Q : QT} {t : Nat} {y : Int32} (hM : MB P) (hd : 6 ≤ d) (ht : t < 3) (hy : y < nI 1 ∨ nI 200 < y) : CT d 196 [.ref 150, .int (nI t), .int y] P I L C Q = Q (.inl (some (.int (nI 0)))) P (xu I 150 4 (nI 2)) L C := by
  have k0 := hM.1.1
  rw [CT_e (mj := 196) (e := [.ref 150, .int (nI t), .int y, UN, UN]) (by omega) rfl (Nat.le_of_ble_eq_true rfl)]
  simp (disch := first | assumption | omega) only [Nat.reduceAdd, X_go, go2_some, stp, ldI, ldA, ldL, stI, stA, stL, o1I, o2I, o2L, brI, brII, gl, s1, s2, k1, sl, go_sN, go_sR, go_CT, go_sT, go_no, go_if, pops, bk_v, bk_0, d196_0, d196_1, d196_2, d196_5, d196_8, d196_9, d196_12, d196_13, d196_14, d196_17, d196_20, d196_23, d196_24, d196_27, d196_28, d196_31, d196_34, d196_35, d196_36, d196_37, d196_40, d196_41, d196_42, d196_43, d196_45, d196_47, d196_48, d196_51, d196_52, d196_53, d196_54, d196_57, d196_58, d196_59, d196_62, d196_65, d196_66, n_lt, n_le, n_eq, n_lt0, n_ge0, n_gt0, n_le0, n_eq0, m_lt, m_le, m_gt, m_ge, m_eq, m_eq', m_lt0, m_ge0, m_gt0, m_le0, m_ltm, m_lem, n_in, m_in, n_cl, n_ti, n_div, n_rem', n_dec, n_l, nI_add, pk_mul, an0, an1, decide_eq_true_eq, if_true, if_false, ite_true, ite_false, and_true, true_and, and_false, false_and, not_true, not_false_iff, or_false, false_or, or_true, true_or, eq_self, va_some, Bool.false_eq_true, reduceIte, catS_n, catS_i, catS_r, catS_l, catS_d, Nat.zero_add, Nat.add_zero, decide_true, decide_false, Nat.reduceLeDiff, cat_r, cat_i, cat_l, nle_T, nle_F, nlt_T, nlt_F, neq_T, neq_F, k0, c155, c156b, c153 hM]
  done
theorem d197_0 : dec 197 0 = some (.aload_n 0, 1, []) := rfl
theorem d197_1 : dec 197 1 = some (.iload_n 1, 1, []) := rfl
theorem d197_2 : dec 197 2 = some (.ifCond .lt 12, 3, [14]) := rfl
theorem d197_5 : dec 197 5 = some (.iload_n 2, 1, []) := rfl
theorem d197_6 : dec 197 6 = some (.iconst 0, 1, [0]) := rfl
theorem d197_7 : dec 197 7 = some (.iconst 2, 1, [2]) := rfl
theorem d197_8 : dec 197 8 = some (.invokestatic 76, 3, [2, 156, 0, 10, 0, 1092, 0, 0, 0]) := rfl
theorem d197_11 : dec 197 11 = some (.ifCond .ne 7, 3, [18]) := rfl
theorem d197_14 : dec 197 14 = some (.iconst 1, 1, [1]) := rfl
theorem d197_15 : dec 197 15 = some (.goto 4, 3, [19]) := rfl
theorem d197_18 : dec 197 18 = some (.iconst 0, 1, [0]) := rfl
theorem d197_19 : dec 197 19 = some (.invokevirtual 72, 3, [2, 153, 2, 10, 0, 1081, 0]) := rfl
theorem d197_22 : dec 197 22 = some (.ifCond .eq 5, 3, [27]) := rfl
theorem d197_25 : dec 197 25 = some (.iconst 0, 1, [0]) := rfl
theorem d197_26 : dec 197 26 = some (.ireturn, 1, [0]) := rfl
theorem d197_27 : dec 197 27 = some (.iload_n 1, 1, []) := rfl
theorem d197_28 : dec 197 28 = some (.aload_n 0, 1, []) := rfl
theorem d197_29 : dec 197 29 = some (.getfield 7, 3, [1, 10, 0, 2, 0, 994]) := rfl
theorem d197_32 : dec 197 32 = some (.sipush 140, 3, [140]) := rfl
theorem d197_35 : dec 197 35 = some (.iaload, 1, []) := rfl
theorem d197_36 : dec 197 36 = some (.if_icmp .lt 7, 3, [43]) := rfl
theorem d197_39 : dec 197 39 = some (.iconst (-1), 1, [4294967295]) := rfl
theorem d197_40 : dec 197 40 = some (.goto 17, 3, [57]) := rfl
theorem d197_43 : dec 197 43 = some (.aload_n 0, 1, []) := rfl
theorem d197_44 : dec 197 44 = some (.getfield 7, 3, [1, 10, 0, 2, 0, 994]) := rfl
theorem d197_47 : dec 197 47 = some (.sipush 141, 3, [141]) := rfl
theorem d197_50 : dec 197 50 = some (.iconst 3, 1, [3]) := rfl
theorem d197_51 : dec 197 51 = some (.iload_n 1, 1, []) := rfl
theorem d197_52 : dec 197 52 = some (.imul, 1, []) := rfl
theorem d197_53 : dec 197 53 = some (.iadd, 1, []) := rfl
theorem d197_54 : dec 197 54 = some (.iload_n 2, 1, []) := rfl
theorem d197_55 : dec 197 55 = some (.iadd, 1, []) := rfl
theorem d197_56 : dec 197 56 = some (.iaload, 1, []) := rfl
theorem d197_57 : dec 197 57 = some (.ireturn, 1, [0]) := rfl
theorem l197 : mL 197 = 3 := rfl
theorem c197 {d : Nat} {P : MP} {I : MI} {L : ML} {C : MC} {Q : QT} {i w : Nat} {B n len : Nat} {g : GS} {ps : Nat → GS} {tx : Nat → Nat} (hM : MB P) (hR : ZR I g n ps len tx) (hA : AV B g n ps len tx) (hd : 6 ≤ d) (hi : i < 2147483648) (hw : w < 3) : CT d 197 [.ref 150, .int (nI i), .int (nI w)] P I L C Q = Q (.inl (some (.int (tellG g i w)))) P (xu I 150 4 (nI 0)) L C := by
  have hM' := hM
  obtain ⟨⟨k0, p0, p1, p2, p5, y1, y2, y3, y4⟩, _⟩ := hM'
  have hR' := hR
  obtain ⟨hN, h3, hps', h6, htx'⟩ := hR'
  have hA' := hA
  obtain ⟨hGV, hps, hn4, hlen, htx⟩ := hA'
  have h140 := GV_140 hGV
  have hv := hGV.1
  have hl := hGV.2.1
  have hFv := hGV.2.2
  have hR0 : ZR (xu I 150 4 (nI 0)) g n ps len tx := ZR_4 hR
  have hN0 := hR0.1
  have e1 := hN0 140 (by omega)
  unfold tellG
  rw [CT_e (mj := 197) (e := [.ref 150, .int (nI i), .int (nI w)]) (by omega) rfl (Nat.le_of_ble_eq_true rfl)]
  by_cases z : i < g 140
  · have e2 := hN0 (141 + 3 * i + w) (by omega)
    simp (disch := first | assumption | omega) only [Nat.reduceAdd, X_go, go2_some, stp, ldI, ldA, ldL, stI, stA, stL, o1I, o2I, o2L, brI, brII, gl, s1, s2, k1, sl, go_sN, go_sR, go_CT, go_sT, go_no, go_if, pops, bk_v, bk_0, d197_0, d197_1, d197_2, d197_5, d197_6, d197_7, d197_8, d197_11, d197_14, d197_15, d197_18, d197_19, d197_22, d197_25, d197_26, d197_27, d197_28, d197_29, d197_32, d197_35, d197_36, d197_39, d197_40, d197_43, d197_44, d197_47, d197_50, d197_51, d197_52, d197_53, d197_54, d197_55, d197_56, d197_57, n_lt, n_le, n_eq, n_lt0, n_ge0, n_gt0, n_le0, n_eq0, m_lt, m_le, m_gt, m_ge, m_eq, m_eq', m_lt0, m_ge0, m_gt0, m_le0, m_ltm, m_lem, n_in, m_in, n_cl, n_ti, n_div, n_rem', n_dec, n_l, nI_add, pk_mul, an0, an1, decide_eq_true_eq, if_true, if_false, ite_true, ite_false, and_true, true_and, and_false, false_and, not_true, not_false_iff, or_false, false_or, or_true, true_or, eq_self, va_some, Bool.false_eq_true, reduceIte, catS_n, catS_i, catS_r, catS_l, catS_d, Nat.zero_add, Nat.add_zero, decide_true, decide_false, Nat.reduceLeDiff, cat_r, cat_i, cat_l, nle_T, nle_F, nlt_T, nlt_F, neq_T, neq_F, k0, p0, y1, c156, c153 hM, e1, e2, z]
    done
  · simp (disch := first | assumption | omega) only [Nat.reduceAdd, X_go, go2_some, stp, ldI, ldA, ldL, stI, stA, stL, o1I, o2I, o2L, brI, brII, gl, s1, s2, k1, sl, go_sN, go_sR, go_CT, go_sT, go_no, go_if, pops, bk_v, bk_0, d197_0, d197_1, d197_2, d197_5, d197_6, d197_7, d197_8, d197_11, d197_14, d197_15, d197_18, d197_19, d197_22, d197_25, d197_26, d197_27, d197_28, d197_29, d197_32, d197_35, d197_36, d197_39, d197_40, d197_43, d197_44, d197_47, d197_50, d197_51, d197_52, d197_53, d197_54, d197_55, d197_56, d197_57, n_lt, n_le, n_eq, n_lt0, n_ge0, n_gt0, n_le0, n_eq0, m_lt, m_le, m_gt, m_ge, m_eq, m_eq', m_lt0, m_ge0, m_gt0, m_le0, m_ltm, m_lem, n_in, m_in, n_cl, n_ti, n_div, n_rem', n_dec, n_l, nI_add, pk_mul, an0, an1, decide_eq_true_eq, if_true, if_false, ite_true, ite_false, and_true, true_and, and_false, false_and, not_true, not_false_iff, or_false, false_or, or_true, true_or, eq_self, va_some, Bool.false_eq_true, reduceIte, catS_n, catS_i, catS_r, catS_l, catS_d, Nat.zero_add, Nat.add_zero, decide_true, decide_false, Nat.reduceLeDiff, cat_r, cat_i, cat_l, nle_T, nle_F, nlt_T, nlt_F, neq_T, neq_F, k0, p0, y1, c156, c153 hM, e1, z]
theorem c197b {d : Nat} {P : MP} {I : MI} {L : ML} {C : MC} {Q : QT} {x y : Int32} (hM : MB P) (hd : 6 ≤ d) (hx : x < 0) : CT d 197 [.ref 150, .int x, .int y] P I L C Q = Q (.inl (some (.int (nI 0)))) P (xu I 150 4 (nI 1)) L C := by
  have k0 := hM.1.1
  rw [CT_e (mj := 197) (e := [.ref 150, .int x, .int y]) (by omega) rfl (Nat.le_of_ble_eq_true rfl)]
  simp (disch := first | assumption | omega) only [Nat.reduceAdd, X_go, go2_some, stp, ldI, ldA, ldL, stI, stA, stL, o1I, o2I, o2L, brI, brII, gl, s1, s2, k1, sl, go_sN, go_sR, go_CT, go_sT, go_no, go_if, pops, bk_v, bk_0, d197_0, d197_1, d197_2, d197_5, d197_6, d197_7, d197_8, d197_11, d197_14, d197_15, d197_18, d197_19, d197_22, d197_25, d197_26, d197_27, d197_28, d197_29, d197_32, d197_35, d197_36, d197_39, d197_40, d197_43, d197_44, d197_47, d197_50, d197_51, d197_52, d197_53, d197_54, d197_55, d197_56, d197_57, n_lt, n_le, n_eq, n_lt0, n_ge0, n_gt0, n_le0, n_eq0, m_lt, m_le, m_gt, m_ge, m_eq, m_eq', m_lt0, m_ge0, m_gt0, m_le0, m_ltm, m_lem, n_in, m_in, n_cl, n_ti, n_div, n_rem', n_dec, n_l, nI_add, pk_mul, an0, an1, decide_eq_true_eq, if_true, if_false, ite_true, ite_false, and_true, true_and, and_false, false_and, not_true, not_false_iff, or_false, false_or, or_true, true_or, eq_self, va_some, Bool.false_eq_true, reduceIte, catS_n, catS_i, catS_r, catS_l, catS_d, Nat.zero_add, Nat.add_zero, decide_true, decide_false, Nat.reduceLeDiff, cat_r, cat_i, cat_l, nle_T, nle_F, nlt_T, nlt_F, neq_T, neq_F, k0, hx, c153 hM]
  done
theorem c197c {d : Nat} {P : MP} {I : MI} {L : ML} {C : MC} {Q : QT} {i : Nat} {y : Int32} (hM : MB P) (hd : 6 ≤ d) (hi : i < 2147483648) (hy : y < 0 ∨ nI 2 < y) : CT d 197 [.ref 150, .int (nI i), .int y] P I L C Q = Q (.inl (some (.int (nI 0)))) P (xu I 150 4 (nI 1)) L C := by
  have k0 := hM.1.1
  rw [CT_e (mj := 197) (e := [.ref 150, .int (nI i), .int y]) (by omega) rfl (Nat.le_of_ble_eq_true rfl)]
  simp (disch := first | assumption | omega) only [Nat.reduceAdd, X_go, go2_some, stp, ldI, ldA, ldL, stI, stA, stL, o1I, o2I, o2L, brI, brII, gl, s1, s2, k1, sl, go_sN, go_sR, go_CT, go_sT, go_no, go_if, pops, bk_v, bk_0, d197_0, d197_1, d197_2, d197_5, d197_6, d197_7, d197_8, d197_11, d197_14, d197_15, d197_18, d197_19, d197_22, d197_25, d197_26, d197_27, d197_28, d197_29, d197_32, d197_35, d197_36, d197_39, d197_40, d197_43, d197_44, d197_47, d197_50, d197_51, d197_52, d197_53, d197_54, d197_55, d197_56, d197_57, n_lt, n_le, n_eq, n_lt0, n_ge0, n_gt0, n_le0, n_eq0, m_lt, m_le, m_gt, m_ge, m_eq, m_eq', m_lt0, m_ge0, m_gt0, m_le0, m_ltm, m_lem, n_in, m_in, n_cl, n_ti, n_div, n_rem', n_dec, n_l, nI_add, pk_mul, an0, an1, decide_eq_true_eq, if_true, if_false, ite_true, ite_false, and_true, true_and, and_false, false_and, not_true, not_false_iff, or_false, false_or, or_true, true_or, eq_self, va_some, Bool.false_eq_true, reduceIte, catS_n, catS_i, catS_r, catS_l, catS_d, Nat.zero_add, Nat.add_zero, decide_true, decide_false, Nat.reduceLeDiff, cat_r, cat_i, cat_l, nle_T, nle_F, nlt_T, nlt_F, neq_T, neq_F, k0, c156b (y := nI 0) (hx := hy), c153 hM]
  done
theorem d198_0 : dec 198 0 = some (.aload_n 0, 1, []) := rfl
theorem d198_1 : dec 198 1 = some (.iload_n 1, 1, []) := rfl
theorem d198_2 : dec 198 2 = some (.invokestatic 90, 3, [2, 160, 0, 10, 0, 1106, 0]) := rfl
theorem d198_5 : dec 198 5 = some (.ifCond .eq 7, 3, [12]) := rfl
theorem d198_8 : dec 198 8 = some (.iconst 0, 1, [0]) := rfl
theorem d198_9 : dec 198 9 = some (.goto 4, 3, [13]) := rfl
theorem d198_12 : dec 198 12 = some (.iconst 1, 1, [1]) := rfl
theorem d198_13 : dec 198 13 = some (.invokevirtual 72, 3, [2, 153, 2, 10, 0, 1081, 0]) := rfl
theorem d198_16 : dec 198 16 = some (.ifCond .eq 7, 3, [23]) := rfl
theorem d198_19 : dec 198 19 = some (.iconst 0, 1, [0]) := rfl
theorem d198_20 : dec 198 20 = some (.goto 12, 3, [32]) := rfl
theorem d198_23 : dec 198 23 = some (.aload_n 0, 1, []) := rfl
theorem d198_24 : dec 198 24 = some (.getfield 7, 3, [1, 10, 0, 2, 0, 994]) := rfl
theorem d198_27 : dec 198 27 = some (.bipush 124, 2, [124]) := rfl
theorem d198_29 : dec 198 29 = some (.iload_n 1, 1, []) := rfl
theorem d198_30 : dec 198 30 = some (.iadd, 1, []) := rfl
theorem d198_31 : dec 198 31 = some (.iaload, 1, []) := rfl
theorem d198_32 : dec 198 32 = some (.ireturn, 1, [0]) := rfl
theorem l198 : mL 198 = 2 := rfl
theorem c198 {d : Nat} {P : MP} {I : MI} {L : ML} {C : MC} {Q : QT} {i : Nat} {B n len : Nat} {g : GS} {ps : Nat → GS} {tx : Nat → Nat} (hM : MB P) (hR : ZR I g n ps len tx) (hA : AV B g n ps len tx) (hd : 6 ≤ d) (hi : i < 16) : CT d 198 [.ref 150, .int (nI i)] P I L C Q = Q (.inl (some (.int (nI (g (124 + i)))))) P (xu I 150 4 (nI 0)) L C := by
  have hM' := hM
  obtain ⟨⟨k0, p0, p1, p2, p5, y1, y2, y3, y4⟩, _⟩ := hM'
  have hR' := hR
  obtain ⟨hN, h3, hps', h6, htx'⟩ := hR'
  have hA' := hA
  obtain ⟨hGV, hps, hn4, hlen, htx⟩ := hA'
  have h140 := GV_140 hGV
  have hv := hGV.1
  have hl := hGV.2.1
  have hFv := hGV.2.2
  have hR0 : ZR (xu I 150 4 (nI 0)) g n ps len tx := ZR_4 hR
  have hN0 := hR0.1
  have e1 := hN0 (124 + i) (by omega)
  rw [CT_e (mj := 198) (e := [.ref 150, .int (nI i)]) (by omega) rfl (Nat.le_of_ble_eq_true rfl)]
  simp (disch := first | assumption | omega) only [Nat.reduceAdd, X_go, go2_some, stp, ldI, ldA, ldL, stI, stA, stL, o1I, o2I, o2L, brI, brII, gl, s1, s2, k1, sl, go_sN, go_sR, go_CT, go_sT, go_no, go_if, pops, bk_v, bk_0, d198_0, d198_1, d198_2, d198_5, d198_8, d198_9, d198_12, d198_13, d198_16, d198_19, d198_20, d198_23, d198_24, d198_27, d198_29, d198_30, d198_31, d198_32, n_lt, n_le, n_eq, n_lt0, n_ge0, n_gt0, n_le0, n_eq0, m_lt, m_le, m_gt, m_ge, m_eq, m_eq', m_lt0, m_ge0, m_gt0, m_le0, m_ltm, m_lem, n_in, m_in, n_cl, n_ti, n_div, n_rem', n_dec, n_l, nI_add, pk_mul, an0, an1, decide_eq_true_eq, if_true, if_false, ite_true, ite_false, and_true, true_and, and_false, false_and, not_true, not_false_iff, or_false, false_or, or_true, true_or, eq_self, va_some, Bool.false_eq_true, reduceIte, catS_n, catS_i, catS_r, catS_l, catS_d, Nat.zero_add, Nat.add_zero, decide_true, decide_false, Nat.reduceLeDiff, cat_r, cat_i, cat_l, nle_T, nle_F, nlt_T, nlt_F, neq_T, neq_F, k0, p0, y1, c160, c153 hM, e1]
  done
theorem c198b {d : Nat} {P : MP} {I : MI} {L : ML} {C : MC} {Q : QT} {x : Int32} (hM : MB P) (hd : 6 ≤ d) (hx : x < 0 ∨ nI 16 ≤ x) : CT d 198 [.ref 150, .int x] P I L C Q = Q (.inl (some (.int (nI 0)))) P (xu I 150 4 (nI 1)) L C := by
  have k0 := hM.1.1
  rw [CT_e (mj := 198) (e := [.ref 150, .int x]) (by omega) rfl (Nat.le_of_ble_eq_true rfl)]
  simp (disch := first | assumption | omega) only [Nat.reduceAdd, X_go, go2_some, stp, ldI, ldA, ldL, stI, stA, stL, o1I, o2I, o2L, brI, brII, gl, s1, s2, k1, sl, go_sN, go_sR, go_CT, go_sT, go_no, go_if, pops, bk_v, bk_0, d198_0, d198_1, d198_2, d198_5, d198_8, d198_9, d198_12, d198_13, d198_16, d198_19, d198_20, d198_23, d198_24, d198_27, d198_29, d198_30, d198_31, d198_32, n_lt, n_le, n_eq, n_lt0, n_ge0, n_gt0, n_le0, n_eq0, m_lt, m_le, m_gt, m_ge, m_eq, m_eq', m_lt0, m_ge0, m_gt0, m_le0, m_ltm, m_lem, n_in, m_in, n_cl, n_ti, n_div, n_rem', n_dec, n_l, nI_add, pk_mul, an0, an1, decide_eq_true_eq, if_true, if_false, ite_true, ite_false, and_true, true_and, and_false, false_and, not_true, not_false_iff, or_false, false_or, or_true, true_or, eq_self, va_some, Bool.false_eq_true, reduceIte, catS_n, catS_i, catS_r, catS_l, catS_d, Nat.zero_add, Nat.add_zero, decide_true, decide_false, Nat.reduceLeDiff, cat_r, cat_i, cat_l, nle_T, nle_F, nlt_T, nlt_F, neq_T, neq_F, k0, c160b, c153 hM]
  done
theorem d214_0 : dec 214 0 = some (.aload_n 0, 1, []) := rfl
theorem d214_1 : dec 214 1 = some (.iload_n 1, 1, []) := rfl
theorem d214_2 : dec 214 2 = some (.iconst 0, 1, [0]) := rfl
theorem d214_3 : dec 214 3 = some (.bipush 127, 2, [127]) := rfl
theorem d214_5 : dec 214 5 = some (.invokestatic 76, 3, [2, 156, 0, 10, 0, 1092, 0, 0, 0]) := rfl
theorem d214_8 : dec 214 8 = some (.ifCond .ne 7, 3, [15]) := rfl
theorem d214_11 : dec 214 11 = some (.iconst 1, 1, [1]) := rfl
theorem d214_12 : dec 214 12 = some (.goto 18, 3, [30]) := rfl
theorem d214_15 : dec 214 15 = some (.aload_n 0, 1, []) := rfl
theorem d214_16 : dec 214 16 = some (.getfield 218, 3, [1, 10, 6, 0, 0, 1000]) := rfl
theorem d214_19 : dec 214 19 = some (.sipush 160, 3, [160]) := rfl
theorem d214_22 : dec 214 22 = some (.if_icmp .ne 7, 3, [29]) := rfl
theorem d214_25 : dec 214 25 = some (.iconst 2, 1, [2]) := rfl
theorem d214_26 : dec 214 26 = some (.goto 4, 3, [30]) := rfl
theorem d214_29 : dec 214 29 = some (.iconst 0, 1, [0]) := rfl
theorem d214_30 : dec 214 30 = some (.invokevirtual 72, 3, [2, 153, 2, 10, 0, 1081, 0]) := rfl
theorem d214_33 : dec 214 33 = some (.ifCond .eq 5, 3, [38]) := rfl
theorem d214_36 : dec 214 36 = some (.iconst 0, 1, [0]) := rfl
theorem d214_37 : dec 214 37 = some (.ireturn, 1, [0]) := rfl
theorem d214_38 : dec 214 38 = some (.aload_n 0, 1, []) := rfl
theorem d214_39 : dec 214 39 = some (.getfield 19, 3, [1, 10, 5, 2, 0, 999]) := rfl
theorem d214_42 : dec 214 42 = some (.aload_n 0, 1, []) := rfl
theorem d214_43 : dec 214 43 = some (.getfield 218, 3, [1, 10, 6, 0, 0, 1000]) := rfl
theorem d214_46 : dec 214 46 = some (.iload_n 1, 1, []) := rfl
theorem d214_47 : dec 214 47 = some (.iastore, 1, []) := rfl
theorem d214_48 : dec 214 48 = some (.aload_n 0, 1, []) := rfl
theorem d214_49 : dec 214 49 = some (.dup, 1, []) := rfl
theorem d214_50 : dec 214 50 = some (.getfield 218, 3, [1, 10, 6, 0, 0, 1000]) := rfl
theorem d214_53 : dec 214 53 = some (.iconst 1, 1, [1]) := rfl
theorem d214_54 : dec 214 54 = some (.iadd, 1, []) := rfl
theorem d214_55 : dec 214 55 = some (.putfield 218, 3, [1, 10, 6, 0, 0, 1000]) := rfl
theorem d214_58 : dec 214 58 = some (.aload_n 0, 1, []) := rfl
theorem d214_59 : dec 214 59 = some (.getfield 218, 3, [1, 10, 6, 0, 0, 1000]) := rfl
theorem d214_62 : dec 214 62 = some (.ireturn, 1, [0]) := rfl
theorem l214 : mL 214 = 2 := rfl
theorem c214 {d : Nat} {P : MP} {I : MI} {L : ML} {C : MC} {v : Nat} {B n len : Nat} {g : GS} {ps : Nat → GS} {tx : Nat → Nat} (hM : MB P) (hR : ZR I g n ps len tx) (hA : AV B g n ps len tx) (hd : 6 ≤ d) (hv' : v ≤ 127) (h1 : len < 160) : ∃ I', ZR I' g n ps (len + 1) (ud tx len v) ∧ I' 150 4 = nI 0 ∧ fm I I' ∧ ∀ Q, CT d 214 [.ref 150, .int (nI v)] P I L C Q = Q (.inl (some (.int (nI (len + 1))))) P I' L C := by
  have hM' := hM
  obtain ⟨⟨k0, p0, p1, p2, p5, y1, y2, y3, y4⟩, _⟩ := hM'
  have hR' := hR
  obtain ⟨hN, h3, hps', h6, htx'⟩ := hR'
  have hA' := hA
  obtain ⟨hGV, hps, hn4, hlen, htx⟩ := hA'
  have h140 := GV_140 hGV
  have hv := hGV.1
  have hl := hGV.2.1
  have hFv := hGV.2.2
  have hR0 : ZR (xu I 150 4 (nI 0)) g n ps len tx := ZR_4 hR
  have hN0 := hR0.1
  obtain ⟨q1, q2, q3, q4, q5⟩ := hR0
  refine ⟨xu (xu (xu I 150 4 (nI 0)) 154 len (nI v)) 150 6 (nI (len + 1)), ⟨NR_fr q1 fun j => by rw [xu_n _ _ (by omega), xu_n _ _ (by omega)], by rw [xu_n _ _ (by omega), xu_n _ _ (by omega)]; exact q2, fun i k hi hk => by rw [xu_n _ _ (by omega), xu_n _ _ (by omega)]; exact q3 i k hi hk, xu_s _ _ _ _, fun i hi => ?_⟩, by rw [xu_n _ _ (by omega), xu_n _ _ (by omega), xu_s], fun k j h => by rw [xu_n _ _ (by omega), xu_n _ _ (by omega), xu_n _ _ (by omega)], fun Q => ?_⟩
  · rw [xu_n _ _ (by omega)]
    by_cases z : i = len
    · subst z; rw [xu_s, ud_s]
    · rw [xu_n _ _ (by omega), ud_n z]; exact q5 i (by omega)
  · rw [CT_e (mj := 214) (e := [.ref 150, .int (nI v)]) (by omega) rfl (Nat.le_of_ble_eq_true rfl)]
    simp (disch := first | assumption | omega) only [Nat.reduceAdd, X_go, go2_some, stp, ldI, ldA, ldL, stI, stA, stL, o1I, o2I, o2L, brI, brII, gl, s1, s2, k1, sl, go_sN, go_sR, go_CT, go_sT, go_no, go_if, pops, bk_v, bk_0, d214_0, d214_1, d214_2, d214_3, d214_5, d214_8, d214_11, d214_12, d214_15, d214_16, d214_19, d214_22, d214_25, d214_26, d214_29, d214_30, d214_33, d214_36, d214_37, d214_38, d214_39, d214_42, d214_43, d214_46, d214_47, d214_48, d214_49, d214_50, d214_53, d214_54, d214_55, d214_58, d214_59, d214_62, n_lt, n_le, n_eq, n_lt0, n_ge0, n_gt0, n_le0, n_eq0, m_lt, m_le, m_gt, m_ge, m_eq, m_eq', m_lt0, m_ge0, m_gt0, m_le0, m_ltm, m_lem, n_in, m_in, n_cl, n_ti, n_div, n_rem', n_dec, n_l, nI_add, pk_mul, an0, an1, decide_eq_true_eq, if_true, if_false, ite_true, ite_false, and_true, true_and, and_false, false_and, not_true, not_false_iff, or_false, false_or, or_true, true_or, eq_self, va_some, Bool.false_eq_true, reduceIte, catS_n, catS_i, catS_r, catS_l, catS_d, Nat.zero_add, Nat.add_zero, decide_true, decide_false, Nat.reduceLeDiff, cat_r, cat_i, cat_l, nle_T, nle_F, nlt_T, nlt_F, neq_T, neq_F, k0, p5, y4, c156, c153 hM, h6, q4, xu_n, xu_s]
    done
theorem c214b {d : Nat} {P : MP} {I : MI} {L : ML} {C : MC} {Q : QT} {y : Int32} (hM : MB P) (hd : 6 ≤ d) (hy : y < 0 ∨ nI 127 < y) : CT d 214 [.ref 150, .int y] P I L C Q = Q (.inl (some (.int (nI 0)))) P (xu I 150 4 (nI 1)) L C := by
  have k0 := hM.1.1
  rw [CT_e (mj := 214) (e := [.ref 150, .int y]) (by omega) rfl (Nat.le_of_ble_eq_true rfl)]
  simp (disch := first | assumption | omega) only [Nat.reduceAdd, X_go, go2_some, stp, ldI, ldA, ldL, stI, stA, stL, o1I, o2I, o2L, brI, brII, gl, s1, s2, k1, sl, go_sN, go_sR, go_CT, go_sT, go_no, go_if, pops, bk_v, bk_0, d214_0, d214_1, d214_2, d214_3, d214_5, d214_8, d214_11, d214_12, d214_15, d214_16, d214_19, d214_22, d214_25, d214_26, d214_29, d214_30, d214_33, d214_36, d214_37, d214_38, d214_39, d214_42, d214_43, d214_46, d214_47, d214_48, d214_49, d214_50, d214_53, d214_54, d214_55, d214_58, d214_59, d214_62, n_lt, n_le, n_eq, n_lt0, n_ge0, n_gt0, n_le0, n_eq0, m_lt, m_le, m_gt, m_ge, m_eq, m_eq', m_lt0, m_ge0, m_gt0, m_le0, m_ltm, m_lem, n_in, m_in, n_cl, n_ti, n_div, n_rem', n_dec, n_l, nI_add, pk_mul, an0, an1, decide_eq_true_eq, if_true, if_false, ite_true, ite_false, and_true, true_and, and_false, false_and, not_true, not_false_iff, or_false, false_or, or_true, true_or, eq_self, va_some, Bool.false_eq_true, reduceIte, catS_n, catS_i, catS_r, catS_l, catS_d, Nat.zero_add, Nat.add_zero, decide_true, decide_false, Nat.reduceLeDiff, cat_r, cat_i, cat_l, nle_T, nle_F, nlt_T, nlt_F, neq_T, neq_F, k0, c156b (y := nI 0) (hx := hy), c153 hM]
  done
theorem c214c {d : Nat} {P : MP} {I : MI} {L : ML} {C : MC} {Q : QT} {v : Nat} {B n len : Nat} {g : GS} {ps : Nat → GS} {tx : Nat → Nat} (hM : MB P) (hR : ZR I g n ps len tx) (hA : AV B g n ps len tx) (hd : 6 ≤ d) (hv' : v ≤ 127) (h1 : len = 160) : CT d 214 [.ref 150, .int (nI v)] P I L C Q = Q (.inl (some (.int (nI 0)))) P (xu I 150 4 (nI 2)) L C := by
  have hM' := hM
  obtain ⟨⟨k0, p0, p1, p2, p5, y1, y2, y3, y4⟩, _⟩ := hM'
  have hR' := hR
  obtain ⟨hN, h3, hps', h6, htx'⟩ := hR'
  have hA' := hA
  obtain ⟨hGV, hps, hn4, hlen, htx⟩ := hA'
  have h140 := GV_140 hGV
  have hv := hGV.1
  have hl := hGV.2.1
  have hFv := hGV.2.2
  have hR0 : ZR (xu I 150 4 (nI 0)) g n ps len tx := ZR_4 hR
  have hN0 := hR0.1
  rw [CT_e (mj := 214) (e := [.ref 150, .int (nI v)]) (by omega) rfl (Nat.le_of_ble_eq_true rfl)]
  simp (disch := first | assumption | omega) only [Nat.reduceAdd, X_go, go2_some, stp, ldI, ldA, ldL, stI, stA, stL, o1I, o2I, o2L, brI, brII, gl, s1, s2, k1, sl, go_sN, go_sR, go_CT, go_sT, go_no, go_if, pops, bk_v, bk_0, d214_0, d214_1, d214_2, d214_3, d214_5, d214_8, d214_11, d214_12, d214_15, d214_16, d214_19, d214_22, d214_25, d214_26, d214_29, d214_30, d214_33, d214_36, d214_37, d214_38, d214_39, d214_42, d214_43, d214_46, d214_47, d214_48, d214_49, d214_50, d214_53, d214_54, d214_55, d214_58, d214_59, d214_62, n_lt, n_le, n_eq, n_lt0, n_ge0, n_gt0, n_le0, n_eq0, m_lt, m_le, m_gt, m_ge, m_eq, m_eq', m_lt0, m_ge0, m_gt0, m_le0, m_ltm, m_lem, n_in, m_in, n_cl, n_ti, n_div, n_rem', n_dec, n_l, nI_add, pk_mul, an0, an1, decide_eq_true_eq, if_true, if_false, ite_true, ite_false, and_true, true_and, and_false, false_and, not_true, not_false_iff, or_false, false_or, or_true, true_or, eq_self, va_some, Bool.false_eq_true, reduceIte, catS_n, catS_i, catS_r, catS_l, catS_d, Nat.zero_add, Nat.add_zero, decide_true, decide_false, Nat.reduceLeDiff, cat_r, cat_i, cat_l, nle_T, nle_F, nlt_T, nlt_F, neq_T, neq_F, k0, c156, c153 hM, h6, h1]
  done
theorem d215_0 : dec 215 0 = some (.aload_n 0, 1, []) := rfl
theorem d215_1 : dec 215 1 = some (.iconst 0, 1, [0]) := rfl
theorem d215_2 : dec 215 2 = some (.putfield 65, 3, [1, 10, 4, 0, 0, 998]) := rfl
theorem d215_5 : dec 215 5 = some (.aload_n 0, 1, []) := rfl
theorem d215_6 : dec 215 6 = some (.getfield 218, 3, [1, 10, 6, 0, 0, 1000]) := rfl
theorem d215_9 : dec 215 9 = some (.istore_n 1, 1, []) := rfl
theorem d215_10 : dec 215 10 = some (.aload_n 0, 1, []) := rfl
theorem d215_11 : dec 215 11 = some (.iconst 0, 1, [0]) := rfl
theorem d215_12 : dec 215 12 = some (.putfield 218, 3, [1, 10, 6, 0, 0, 1000]) := rfl
theorem d215_15 : dec 215 15 = some (.iload_n 1, 1, []) := rfl
theorem d215_16 : dec 215 16 = some (.ireturn, 1, [0]) := rfl
theorem l215 : mL 215 = 2 := rfl
theorem c215 {d : Nat} {P : MP} {I : MI} {L : ML} {C : MC} {B n len : Nat} {g : GS} {ps : Nat → GS} {tx : Nat → Nat} (hM : MB P) (hR : ZR I g n ps len tx) (hA : AV B g n ps len tx) (hd : 6 ≤ d) : ∃ I', ZR I' g n ps 0 tx ∧ I' 150 4 = nI 0 ∧ fm I I' ∧ ∀ Q, CT d 215 [.ref 150] P I L C Q = Q (.inl (some (.int (nI len)))) P I' L C := by
  have hM' := hM
  obtain ⟨⟨k0, p0, p1, p2, p5, y1, y2, y3, y4⟩, _⟩ := hM'
  have hR' := hR
  obtain ⟨hN, h3, hps', h6, htx'⟩ := hR'
  have hA' := hA
  obtain ⟨hGV, hps, hn4, hlen, htx⟩ := hA'
  have h140 := GV_140 hGV
  have hv := hGV.1
  have hl := hGV.2.1
  have hFv := hGV.2.2
  have hR0 : ZR (xu I 150 4 (nI 0)) g n ps len tx := ZR_4 hR
  have hN0 := hR0.1
  obtain ⟨q1, q2, q3, q4, q5⟩ := hR0
  refine ⟨xu (xu I 150 4 (nI 0)) 150 6 (nI 0), ⟨NR_fr q1 fun j => xu_n _ _ (by omega), by rw [xu_n _ _ (by omega)]; exact q2, fun i k hi hk => by rw [xu_n _ _ (by omega)]; exact q3 i k hi hk, xu_s _ _ _ _, fun i hi => absurd hi (Nat.not_lt_zero i)⟩, by rw [xu_n _ _ (by omega), xu_s], fun k j h => by rw [xu_n _ _ (by omega), xu_n _ _ (by omega)], fun Q => ?_⟩
  rw [CT_e (mj := 215) (e := [.ref 150, UN]) (by omega) rfl (Nat.le_of_ble_eq_true rfl)]
  simp (disch := first | assumption | omega) only [Nat.reduceAdd, X_go, go2_some, stp, ldI, ldA, ldL, stI, stA, stL, o1I, o2I, o2L, brI, brII, gl, s1, s2, k1, sl, go_sN, go_sR, go_CT, go_sT, go_no, go_if, pops, bk_v, bk_0, d215_0, d215_1, d215_2, d215_5, d215_6, d215_9, d215_10, d215_11, d215_12, d215_15, d215_16, n_lt, n_le, n_eq, n_lt0, n_ge0, n_gt0, n_le0, n_eq0, m_lt, m_le, m_gt, m_ge, m_eq, m_eq', m_lt0, m_ge0, m_gt0, m_le0, m_ltm, m_lem, n_in, m_in, n_cl, n_ti, n_div, n_rem', n_dec, n_l, nI_add, pk_mul, an0, an1, decide_eq_true_eq, if_true, if_false, ite_true, ite_false, and_true, true_and, and_false, false_and, not_true, not_false_iff, or_false, false_or, or_true, true_or, eq_self, va_some, Bool.false_eq_true, reduceIte, catS_n, catS_i, catS_r, catS_l, catS_d, Nat.zero_add, Nat.add_zero, decide_true, decide_false, Nat.reduceLeDiff, cat_r, cat_i, cat_l, nle_T, nle_F, nlt_T, nlt_F, neq_T, neq_F, k0, h6, q4, xu_n]
  done
