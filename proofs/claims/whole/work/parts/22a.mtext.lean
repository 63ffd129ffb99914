/-! THE MODEL: the text -/
def mS (I : MI) (p v : Nat) : MI := xu (xu I 150 22 (nI p)) 150 23 (nI v)
theorem mS_2 {I : MI} {p v : Nat} : mS I p v 150 22 = nI p := by
  unfold mS
  rw [xu_n _ _ (by omega), xu_s]
theorem mS_3 {I : MI} {p v : Nat} : mS I p v 150 23 = nI v := xu_s _ _ _ _
theorem mS_n {I : MI} {p v k j : Nat} (h : k ≠ 150 ∨ j < 22) : mS I p v k j = I k j := by
  unfold mS
  rw [xu_n _ _ (by omega), xu_n _ _ (by omega)]
theorem mS_p {I : MI} {p q v : Nat} : xu (mS I p v) 150 22 (nI q) = mS I q v := by
  funext a b
  unfold mS xu
  by_cases z : a = 150 ∧ b = 22
  · rw [if_pos z, if_neg (by omega), if_pos z]
  · rw [if_neg z, if_neg z, if_neg z]
theorem mS_v {I : MI} {p v w : Nat} : xu (mS I p v) 150 23 (nI w) = mS I p w := by
  funext a b
  unfold mS xu
  by_cases z : a = 150 ∧ b = 23
  · rw [if_pos z, if_pos z]
  · rw [if_neg z, if_neg z, if_neg z]
theorem mS_id {I : MI} {p v : Nat} (h1 : I 150 22 = nI p) (h2 : I 150 23 = nI v) : mS I p v = I := by
  unfold mS
  rw [xu_id I h1, xu_id I h2]
def TY (I : MI) (len : Nat) (tx : Nat → Nat) : Prop := (I 150 6 = nI len ∧ ∀ i, i < len → I 154 i = nI (tx i)) ∧ len ≤ 160 ∧ ∀ i, i < len → tx i ≤ 127
theorem d220_0 : dec 220 0 = some (.aload_n 0, 1, []) := rfl
theorem d220_1 : dec 220 1 = some (.getfield 221, 3, [1, 10, 22, 0, 0, 1016]) := rfl
theorem d220_4 : dec 220 4 = some (.aload_n 0, 1, []) := rfl
theorem d220_5 : dec 220 5 = some (.getfield 218, 3, [1, 10, 6, 0, 0, 1000]) := rfl
theorem d220_8 : dec 220 8 = some (.if_icmp .ge 30, 3, [38]) := rfl
theorem d220_11 : dec 220 11 = some (.aload_n 0, 1, []) := rfl
theorem d220_12 : dec 220 12 = some (.getfield 19, 3, [1, 10, 5, 2, 0, 999]) := rfl
theorem d220_15 : dec 220 15 = some (.aload_n 0, 1, []) := rfl
theorem d220_16 : dec 220 16 = some (.getfield 221, 3, [1, 10, 22, 0, 0, 1016]) := rfl
theorem d220_19 : dec 220 19 = some (.iaload, 1, []) := rfl
theorem d220_20 : dec 220 20 = some (.bipush 48, 2, [48]) := rfl
theorem d220_22 : dec 220 22 = some (.iload_n 1, 1, []) := rfl
theorem d220_23 : dec 220 23 = some (.iadd, 1, []) := rfl
theorem d220_24 : dec 220 24 = some (.bipush 48, 2, [48]) := rfl
theorem d220_26 : dec 220 26 = some (.iload_n 2, 1, []) := rfl
theorem d220_27 : dec 220 27 = some (.iadd, 1, []) := rfl
theorem d220_28 : dec 220 28 = some (.invokestatic 76, 3, [2, 156, 0, 10, 0, 1092, 0, 0, 0]) := rfl
theorem d220_31 : dec 220 31 = some (.ifCond .eq 7, 3, [38]) := rfl
theorem d220_34 : dec 220 34 = some (.iconst 1, 1, [1]) := rfl
theorem d220_35 : dec 220 35 = some (.goto 4, 3, [39]) := rfl
theorem d220_38 : dec 220 38 = some (.iconst 0, 1, [0]) := rfl
theorem d220_39 : dec 220 39 = some (.ireturn, 1, [1]) := rfl
theorem l220 : mL 220 = 3 := rfl
theorem c220 {d : Nat} {P : MP} {I : MI} {L : ML} {C : MC} {Q : QT} {len p v lo hi : Nat} {tx : Nat → Nat} (hM : MB P) (ht : TY I len tx) (hd : 2 ≤ d) (hp : p < 1000) (h1 : lo < 10) (h2 : hi < 10) : CT d 220 [.ref 150, .int (nI lo), .int (nI hi)] P (mS I p v) L C Q = Q (.inl (some (.int (nI (if isD tx len p lo hi = true then 1 else 0))))) P (mS I p v) L C := by
  obtain ⟨⟨k0, p0, p1, p2, p5, y1, y2, y3, y4⟩, _⟩ := hM
  obtain ⟨⟨t1, t2⟩, t3, t4⟩ := ht
  have e1 : mS I p v 150 6 = nI len := by rw [mS_n (by omega)]; exact t1
  rw [CT_e (mj := 220) (e := [.ref 150, .int (nI lo), .int (nI hi)]) (by omega) rfl (Nat.le_of_ble_eq_true rfl)]
  by_cases z : p < len
  · have e2 : mS I p v 154 p = nI (tx p) := by rw [mS_n (by omega)]; exact t2 p z
    have b := t4 p z
    by_cases y : 48 + lo ≤ tx p ∧ tx p ≤ 48 + hi
    · have e3 : isD tx len p lo hi = true := by
        unfold isD
        rw [decide_eq_true z, decide_eq_true y.1, decide_eq_true y.2]; rfl
      simp (disch := first | assumption | omega) only [Nat.reduceAdd, X_go, go2_some, stp, ldI, ldA, ldL, stI, stA, stL, o1I, o2I, o2L, brI, brII, gl, s1, s2, k1, sl, go_sN, go_sR, go_CT, go_sT, go_no, go_if, pops, bk_v, bk_0, d220_0, d220_1, d220_4, d220_5, d220_8, d220_11, d220_12, d220_15, d220_16, d220_19, d220_20, d220_22, d220_23, d220_24, d220_26, d220_27, d220_28, d220_31, d220_34, d220_35, d220_38, d220_39, n_lt, n_le, n_eq, n_lt0, n_ge0, n_gt0, n_le0, n_eq0, m_lt, m_le, m_gt, m_ge, m_eq, m_eq', m_lt0, m_ge0, m_gt0, m_le0, m_ltm, m_lem, n_in, m_in, n_cl, n_ti, n_div, n_rem', n_dec, n_l, nI_add, pk_mul, an0, an1, decide_eq_true_eq, if_true, if_false, ite_true, ite_false, and_true, true_and, and_false, false_and, not_true, not_false_iff, or_false, false_or, or_true, true_or, eq_self, va_some, Bool.false_eq_true, reduceIte, catS_n, catS_i, catS_r, catS_l, catS_d, Nat.zero_add, Nat.add_zero, decide_true, decide_false, Nat.reduceLeDiff, cat_r, cat_i, cat_l, nle_T, nle_F, nlt_T, nlt_F, neq_T, neq_F, k0, p5, y4, mS_2, e1, e2, e3, z, c156 (h1 := y.1) (h2 := y.2)]
      done
    · have e3 : isD tx len p lo hi = false := by
        cases hq : isD tx len p lo hi
        · rfl
        · exact absurd (isD_b hq).2 y
      have hx : nI (tx p) < nI (48 + lo) ∨ nI (48 + hi) < nI (tx p) := by
        rcases Nat.lt_or_ge (tx p) (48 + lo) with w | w
        · exact .inl ((nI_ltI (by omega) (by omega)).mpr w)
        · exact .inr ((nI_ltI (by omega) (by omega)).mpr (by omega))
      simp (disch := first | assumption | omega) only [Nat.reduceAdd, X_go, go2_some, stp, ldI, ldA, ldL, stI, stA, stL, o1I, o2I, o2L, brI, brII, gl, s1, s2, k1, sl, go_sN, go_sR, go_CT, go_sT, go_no, go_if, pops, bk_v, bk_0, d220_0, d220_1, d220_4, d220_5, d220_8, d220_11, d220_12, d220_15, d220_16, d220_19, d220_20, d220_22, d220_23, d220_24, d220_26, d220_27, d220_28, d220_31, d220_34, d220_35, d220_38, d220_39, n_lt, n_le, n_eq, n_lt0, n_ge0, n_gt0, n_le0, n_eq0, m_lt, m_le, m_gt, m_ge, m_eq, m_eq', m_lt0, m_ge0, m_gt0, m_le0, m_ltm, m_lem, n_in, m_in, n_cl, n_ti, n_div, n_rem', n_dec, n_l, nI_add, pk_mul, an0, an1, decide_eq_true_eq, if_true, if_false, ite_true, ite_false, and_true, true_and, and_false, false_and, not_true, not_false_iff, or_false, false_or, or_true, true_or, eq_self, va_some, Bool.false_eq_true, reduceIte, catS_n, catS_i, catS_r, catS_l, catS_d, Nat.zero_add, Nat.add_zero, decide_true, decide_false, Nat.reduceLeDiff, cat_r, cat_i, cat_l, nle_T, nle_F, nlt_T, nlt_F, neq_T, neq_F, k0, p5, y4, mS_2, e1, e2, e3, z, c156b (hx := hx)]
      done
  · have e3 : isD tx len p lo hi = false := by
      unfold isD
      rw [decide_eq_false z]; rfl
    simp (disch := first | assumption | omega) only [Nat.reduceAdd, X_go, go2_some, stp, ldI, ldA, ldL, stI, stA, stL, o1I, o2I, o2L, brI, brII, gl, s1, s2, k1, sl, go_sN, go_sR, go_CT, go_sT, go_no, go_if, pops, bk_v, bk_0, d220_0, d220_1, d220_4, d220_5, d220_8, d220_11, d220_12, d220_15, d220_16, d220_19, d220_20, d220_22, d220_23, d220_24, d220_26, d220_27, d220_28, d220_31, d220_34, d220_35, d220_38, d220_39, n_lt, n_le, n_eq, n_lt0, n_ge0, n_gt0, n_le0, n_eq0, m_lt, m_le, m_gt, m_ge, m_eq, m_eq', m_lt0, m_ge0, m_gt0, m_le0, m_ltm, m_lem, n_in, m_in, n_cl, n_ti, n_div, n_rem', n_dec, n_l, nI_add, pk_mul, an0, an1, decide_eq_true_eq, if_true, if_false, ite_true, ite_false, and_true, true_and, and_false, false_and, not_true, not_false_iff, or_false, false_or, or_true, true_or, eq_self, va_some, Bool.false_eq_true, reduceIte, catS_n, catS_i, catS_r, catS_l, catS_d, Nat.zero_add, Nat.add_zero, decide_true, decide_false, Nat.reduceLeDiff, cat_r, cat_i, cat_l, nle_T, nle_F, nlt_T, nlt_F, neq_T, neq_F, k0, p5, y4, mS_2, e1, e3, z]
    done
theorem d217_0 : dec 217 0 = some (.aload_n 0, 1, []) := rfl
theorem d217_1 : dec 217 1 = some (.getfield 221, 3, [1, 10, 22, 0, 0, 1016]) := rfl
theorem d217_4 : dec 217 4 = some (.aload_n 0, 1, []) := rfl
theorem d217_5 : dec 217 5 = some (.getfield 218, 3, [1, 10, 6, 0, 0, 1000]) := rfl
theorem d217_8 : dec 217 8 = some (.if_icmp .ge 20, 3, [28]) := rfl
theorem d217_11 : dec 217 11 = some (.aload_n 0, 1, []) := rfl
theorem d217_12 : dec 217 12 = some (.getfield 19, 3, [1, 10, 5, 2, 0, 999]) := rfl
theorem d217_15 : dec 217 15 = some (.aload_n 0, 1, []) := rfl
theorem d217_16 : dec 217 16 = some (.getfield 221, 3, [1, 10, 22, 0, 0, 1016]) := rfl
theorem d217_19 : dec 217 19 = some (.iaload, 1, []) := rfl
theorem d217_20 : dec 217 20 = some (.iload_n 1, 1, []) := rfl
theorem d217_21 : dec 217 21 = some (.if_icmp .ne 7, 3, [28]) := rfl
theorem d217_24 : dec 217 24 = some (.iconst 1, 1, [1]) := rfl
theorem d217_25 : dec 217 25 = some (.goto 4, 3, [29]) := rfl
theorem d217_28 : dec 217 28 = some (.iconst 0, 1, [0]) := rfl
theorem d217_29 : dec 217 29 = some (.istore_n 2, 1, []) := rfl
theorem d217_30 : dec 217 30 = some (.aload_n 0, 1, []) := rfl
theorem d217_31 : dec 217 31 = some (.dup, 1, []) := rfl
theorem d217_32 : dec 217 32 = some (.getfield 221, 3, [1, 10, 22, 0, 0, 1016]) := rfl
theorem d217_35 : dec 217 35 = some (.iload_n 2, 1, []) := rfl
theorem d217_36 : dec 217 36 = some (.ifCond .eq 7, 3, [43]) := rfl
theorem d217_39 : dec 217 39 = some (.iconst 1, 1, [1]) := rfl
theorem d217_40 : dec 217 40 = some (.goto 4, 3, [44]) := rfl
theorem d217_43 : dec 217 43 = some (.iconst 0, 1, [0]) := rfl
theorem d217_44 : dec 217 44 = some (.iadd, 1, []) := rfl
theorem d217_45 : dec 217 45 = some (.putfield 221, 3, [1, 10, 22, 0, 0, 1016]) := rfl
theorem d217_48 : dec 217 48 = some (.iload_n 2, 1, []) := rfl
theorem d217_49 : dec 217 49 = some (.ireturn, 1, [1]) := rfl
theorem l217 : mL 217 = 3 := rfl
theorem c217 {d : Nat} {P : MP} {I : MI} {L : ML} {C : MC} {Q : QT} {len p v c : Nat} {tx : Nat → Nat} (hM : MB P) (ht : TY I len tx) (hi' : ch tx len p c = true) (hd : 2 ≤ d) (hp : p < 1000) (hc : c < 128) : CT d 217 [.ref 150, .int (nI c)] P (mS I p v) L C Q = Q (.inl (some (.int (nI 1)))) P (mS I (p + 1) v) L C := by
  obtain ⟨⟨k0, p0, p1, p2, p5, y1, y2, y3, y4⟩, _⟩ := hM
  obtain ⟨⟨t1, t2⟩, t3, t4⟩ := ht
  have hb := ch_b hi'
  have e1 : mS I p v 150 6 = nI len := by rw [mS_n (by omega)]; exact t1
  have e2 : mS I p v 154 p = nI c := by rw [mS_n (by omega), t2 p hb.1, hb.2]
  have z := hb.1
  rw [CT_e (mj := 217) (e := [.ref 150, .int (nI c), UN]) (by omega) rfl (Nat.le_of_ble_eq_true rfl)]
  simp (disch := first | assumption | omega) only [Nat.reduceAdd, X_go, go2_some, stp, ldI, ldA, ldL, stI, stA, stL, o1I, o2I, o2L, brI, brII, gl, s1, s2, k1, sl, go_sN, go_sR, go_CT, go_sT, go_no, go_if, pops, bk_v, bk_0, d217_0, d217_1, d217_4, d217_5, d217_8, d217_11, d217_12, d217_15, d217_16, d217_19, d217_20, d217_21, d217_24, d217_25, d217_28, d217_29, d217_30, d217_31, d217_32, d217_35, d217_36, d217_39, d217_40, d217_43, d217_44, d217_45, d217_48, d217_49, n_lt, n_le, n_eq, n_lt0, n_ge0, n_gt0, n_le0, n_eq0, m_lt, m_le, m_gt, m_ge, m_eq, m_eq', m_lt0, m_ge0, m_gt0, m_le0, m_ltm, m_lem, n_in, m_in, n_cl, n_ti, n_div, n_rem', n_dec, n_l, nI_add, pk_mul, an0, an1, decide_eq_true_eq, if_true, if_false, ite_true, ite_false, and_true, true_and, and_false, false_and, not_true, not_false_iff, or_false, false_or, or_true, true_or, eq_self, va_some, Bool.false_eq_true, reduceIte, catS_n, catS_i, catS_r, catS_l, catS_d, Nat.zero_add, Nat.add_zero, decide_true, decide_false, Nat.reduceLeDiff, cat_r, cat_i, cat_l, nle_T, nle_F, nlt_T, nlt_F, neq_T, neq_F, k0, p5, y4, mS_2, e1, e2, z, mS_p]
  done
theorem c217n {d : Nat} {P : MP} {I : MI} {L : ML} {C : MC} {Q : QT} {len p v c : Nat} {tx : Nat → Nat} (hM : MB P) (ht : TY I len tx) (hi' : ch tx len p c = false) (hd : 2 ≤ d) (hp : p < 1000) (hc : c < 128) : CT d 217 [.ref 150, .int (nI c)] P (mS I p v) L C Q = Q (.inl (some (.int (nI 0)))) P (mS I p v) L C := by
  obtain ⟨⟨k0, p0, p1, p2, p5, y1, y2, y3, y4⟩, _⟩ := hM
  obtain ⟨⟨t1, t2⟩, t3, t4⟩ := ht
  have e1 : mS I p v 150 6 = nI len := by rw [mS_n (by omega)]; exact t1
  rw [CT_e (mj := 217) (e := [.ref 150, .int (nI c), UN]) (by omega) rfl (Nat.le_of_ble_eq_true rfl)]
  by_cases z : p < len
  · have b := t4 p z
    have e2 : mS I p v 154 p = nI (tx p) := by rw [mS_n (by omega)]; exact t2 p z
    have hne : ¬ tx p = c := fun q => by
      unfold ch at hi'
      rw [decide_eq_true z, decide_eq_true q] at hi'
      exact absurd hi' (by decide)
    simp (disch := first | assumption | omega) only [Nat.reduceAdd, X_go, go2_some, stp, ldI, ldA, ldL, stI, stA, stL, o1I, o2I, o2L, brI, brII, gl, s1, s2, k1, sl, go_sN, go_sR, go_CT, go_sT, go_no, go_if, pops, bk_v, bk_0, d217_0, d217_1, d217_4, d217_5, d217_8, d217_11, d217_12, d217_15, d217_16, d217_19, d217_20, d217_21, d217_24, d217_25, d217_28, d217_29, d217_30, d217_31, d217_32, d217_35, d217_36, d217_39, d217_40, d217_43, d217_44, d217_45, d217_48, d217_49, n_lt, n_le, n_eq, n_lt0, n_ge0, n_gt0, n_le0, n_eq0, m_lt, m_le, m_gt, m_ge, m_eq, m_eq', m_lt0, m_ge0, m_gt0, m_le0, m_ltm, m_lem, n_in, m_in, n_cl, n_ti, n_div, n_rem', n_dec, n_l, nI_add, pk_mul, an0, an1, decide_eq_true_eq, if_true, if_false, ite_true, ite_false, and_true, true_and, and_false, false_and, not_true, not_false_iff, or_false, false_or, or_true, true_or, eq_self, va_some, Bool.false_eq_true, reduceIte, catS_n, catS_i, catS_r, catS_l, catS_d, Nat.zero_add, Nat.add_zero, decide_true, decide_false, Nat.reduceLeDiff, cat_r, cat_i, cat_l, nle_T, nle_F, nlt_T, nlt_F, neq_T, neq_F, k0, p5, y4, mS_2, e1, e2, z, hne, mS_p]
    done
  · simp (disch := first | assumption | omega) only [Nat.reduceAdd, X_go, go2_some, stp, ldI, ldA, ldL, stI, stA, stL, o1I, o2I, o2L, brI, brII, gl, s1, s2, k1, sl, go_sN, go_sR, go_CT, go_sT, go_no, go_if, pops, bk_v, bk_0, d217_0, d217_1, d217_4, d217_5, d217_8, d217_11, d217_12, d217_15, d217_16, d217_19, d217_20, d217_21, d217_24, d217_25, d217_28, d217_29, d217_30, d217_31, d217_32, d217_35, d217_36, d217_39, d217_40, d217_43, d217_44, d217_45, d217_48, d217_49, n_lt, n_le, n_eq, n_lt0, n_ge0, n_gt0, n_le0, n_eq0, m_lt, m_le, m_gt, m_ge, m_eq, m_eq', m_lt0, m_ge0, m_gt0, m_le0, m_ltm, m_lem, n_in, m_in, n_cl, n_ti, n_div, n_rem', n_dec, n_l, nI_add, pk_mul, an0, an1, decide_eq_true_eq, if_true, if_false, ite_true, ite_false, and_true, true_and, and_false, false_and, not_true, not_false_iff, or_false, false_or, or_true, true_or, eq_self, va_some, Bool.false_eq_true, reduceIte, catS_n, catS_i, catS_r, catS_l, catS_d, Nat.zero_add, Nat.add_zero, decide_true, decide_false, Nat.reduceLeDiff, cat_r, cat_i, cat_l, nle_T, nle_F, nlt_T, nlt_F, neq_T, neq_F, k0, p5, y4, mS_2, e1, z, mS_p]
    done
theorem d219_0 : dec 219 0 = some (.aload_n 0, 1, []) := rfl
theorem d219_1 : dec 219 1 = some (.iload_n 1, 1, []) := rfl
theorem d219_2 : dec 219 2 = some (.iload_n 2, 1, []) := rfl
theorem d219_3 : dec 219 3 = some (.invokevirtual 224, 3, [2, 220, 2, 10, 0, 1348, 0, 0]) := rfl
theorem d219_6 : dec 219 6 = some (.istore_n 3, 1, []) := rfl
theorem d219_7 : dec 219 7 = some (.aload_n 0, 1, []) := rfl
theorem d219_8 : dec 219 8 = some (.iload_n 3, 1, []) := rfl
theorem d219_9 : dec 219 9 = some (.ifCond .eq 18, 3, [27]) := rfl
theorem d219_12 : dec 219 12 = some (.aload_n 0, 1, []) := rfl
theorem d219_13 : dec 219 13 = some (.getfield 19, 3, [1, 10, 5, 2, 0, 999]) := rfl
theorem d219_16 : dec 219 16 = some (.aload_n 0, 1, []) := rfl
theorem d219_17 : dec 219 17 = some (.getfield 221, 3, [1, 10, 22, 0, 0, 1016]) := rfl
theorem d219_20 : dec 219 20 = some (.iaload, 1, []) := rfl
theorem d219_21 : dec 219 21 = some (.bipush 48, 2, [48]) := rfl
theorem d219_23 : dec 219 23 = some (.isub, 1, []) := rfl
theorem d219_24 : dec 219 24 = some (.goto 4, 3, [28]) := rfl
theorem d219_27 : dec 219 27 = some (.iconst 0, 1, [0]) := rfl
theorem d219_28 : dec 219 28 = some (.putfield 227, 3, [1, 10, 23, 0, 0, 1017]) := rfl
theorem d219_31 : dec 219 31 = some (.aload_n 0, 1, []) := rfl
theorem d219_32 : dec 219 32 = some (.dup, 1, []) := rfl
theorem d219_33 : dec 219 33 = some (.getfield 221, 3, [1, 10, 22, 0, 0, 1016]) := rfl
theorem d219_36 : dec 219 36 = some (.iload_n 3, 1, []) := rfl
theorem d219_37 : dec 219 37 = some (.ifCond .eq 7, 3, [44]) := rfl
theorem d219_40 : dec 219 40 = some (.iconst 1, 1, [1]) := rfl
theorem d219_41 : dec 219 41 = some (.goto 4, 3, [45]) := rfl
theorem d219_44 : dec 219 44 = some (.iconst 0, 1, [0]) := rfl
theorem d219_45 : dec 219 45 = some (.iadd, 1, []) := rfl
theorem d219_46 : dec 219 46 = some (.putfield 221, 3, [1, 10, 22, 0, 0, 1016]) := rfl
theorem d219_49 : dec 219 49 = some (.iload_n 3, 1, []) := rfl
theorem d219_50 : dec 219 50 = some (.ireturn, 1, [1]) := rfl
theorem l219 : mL 219 = 4 := rfl
theorem c219 {d : Nat} {P : MP} {I : MI} {L : ML} {C : MC} {Q : QT} {len p v lo hi : Nat} {tx : Nat → Nat} (hM : MB P) (ht : TY I len tx) (hz : isD tx len p lo hi = true) (hd : 3 ≤ d) (hp : p < 900) (h1 : lo < 10) (h2 : hi < 10) : CT d 219 [.ref 150, .int (nI lo), .int (nI hi)] P (mS I p v) L C Q = Q (.inl (some (.int (nI 1)))) P (mS I (p + 1) (tx p - 48)) L C := by
  have hM' := hM
  obtain ⟨⟨k0, p0, p1, p2, p5, y1, y2, y3, y4⟩, _⟩ := hM'
  have hb := isD_b hz
  have e2 : mS I p v 154 p = nI (tx p) := by rw [mS_n (by omega)]; exact ht.1.2 p hb.1
  have hlen := ht.2.1
  have e3 : mS I p (tx p - 48) 150 22 = nI p := mS_2
  rw [CT_e (mj := 219) (e := [.ref 150, .int (nI lo), .int (nI hi), UN]) (by omega) rfl (Nat.le_of_ble_eq_true rfl)]
  simp (disch := first | assumption | omega) only [Nat.reduceAdd, X_go, go2_some, stp, ldI, ldA, ldL, stI, stA, stL, o1I, o2I, o2L, brI, brII, gl, s1, s2, k1, sl, go_sN, go_sR, go_CT, go_sT, go_no, go_if, pops, bk_v, bk_0, d219_0, d219_1, d219_2, d219_3, d219_6, d219_7, d219_8, d219_9, d219_12, d219_13, d219_16, d219_17, d219_20, d219_21, d219_23, d219_24, d219_27, d219_28, d219_31, d219_32, d219_33, d219_36, d219_37, d219_40, d219_41, d219_44, d219_45, d219_46, d219_49, d219_50, n_lt, n_le, n_eq, n_lt0, n_ge0, n_gt0, n_le0, n_eq0, m_lt, m_le, m_gt, m_ge, m_eq, m_eq', m_lt0, m_ge0, m_gt0, m_le0, m_ltm, m_lem, n_in, m_in, n_cl, n_ti, n_div, n_rem', n_dec, n_l, nI_add, pk_mul, an0, an1, decide_eq_true_eq, if_true, if_false, ite_true, ite_false, and_true, true_and, and_false, false_and, not_true, not_false_iff, or_false, false_or, or_true, true_or, eq_self, va_some, Bool.false_eq_true, reduceIte, catS_n, catS_i, catS_r, catS_l, catS_d, Nat.zero_add, Nat.add_zero, decide_true, decide_false, Nat.reduceLeDiff, cat_r, cat_i, cat_l, nle_T, nle_F, nlt_T, nlt_F, neq_T, neq_F, k0, p5, y4, c220 hM ht, hz, mS_2, e2, n_sub, mS_v, e3, mS_p]
  done
theorem c219n {d : Nat} {P : MP} {I : MI} {L : ML} {C : MC} {Q : QT} {len p v lo hi : Nat} {tx : Nat → Nat} (hM : MB P) (ht : TY I len tx) (hz : isD tx len p lo hi = false) (hd : 3 ≤ d) (hp : p < 900) (h1 : lo < 10) (h2 : hi < 10) : CT d 219 [.ref 150, .int (nI lo), .int (nI hi)] P (mS I p v) L C Q = Q (.inl (some (.int (nI 0)))) P (mS I p 0) L C := by
  have hM' := hM
  obtain ⟨⟨k0, p0, p1, p2, p5, y1, y2, y3, y4⟩, _⟩ := hM'
  have e3 : mS I p 0 150 22 = nI p := mS_2
  rw [CT_e (mj := 219) (e := [.ref 150, .int (nI lo), .int (nI hi), UN]) (by omega) rfl (Nat.le_of_ble_eq_true rfl)]
  simp (disch := first | assumption | omega) only [Nat.reduceAdd, X_go, go2_some, stp, ldI, ldA, ldL, stI, stA, stL, o1I, o2I, o2L, brI, brII, gl, s1, s2, k1, sl, go_sN, go_sR, go_CT, go_sT, go_no, go_if, pops, bk_v, bk_0, d219_0, d219_1, d219_2, d219_3, d219_6, d219_7, d219_8, d219_9, d219_12, d219_13, d219_16, d219_17, d219_20, d219_21, d219_23, d219_24, d219_27, d219_28, d219_31, d219_32, d219_33, d219_36, d219_37, d219_40, d219_41, d219_44, d219_45, d219_46, d219_49, d219_50, n_lt, n_le, n_eq, n_lt0, n_ge0, n_gt0, n_le0, n_eq0, m_lt, m_le, m_gt, m_ge, m_eq, m_eq', m_lt0, m_ge0, m_gt0, m_le0, m_ltm, m_lem, n_in, m_in, n_cl, n_ti, n_div, n_rem', n_dec, n_l, nI_add, pk_mul, an0, an1, decide_eq_true_eq, if_true, if_false, ite_true, ite_false, and_true, true_and, and_false, false_and, not_true, not_false_iff, or_false, false_or, or_true, true_or, eq_self, va_some, Bool.false_eq_true, reduceIte, catS_n, catS_i, catS_r, catS_l, catS_d, Nat.zero_add, Nat.add_zero, decide_true, decide_false, Nat.reduceLeDiff, cat_r, cat_i, cat_l, nle_T, nle_F, nlt_T, nlt_F, neq_T, neq_F, k0, p5, y4, c220 hM ht, hz, mS_2, mS_v, e3, mS_p]
  done
theorem d222_0 : dec 222 0 = some (.aload_n 0, 1, []) := rfl
theorem d222_1 : dec 222 1 = some (.getfield 221, 3, [1, 10, 22, 0, 0, 1016]) := rfl
theorem d222_4 : dec 222 4 = some (.istore 4, 2, []) := rfl
theorem d222_6 : dec 222 6 = some (.iconst 0, 1, [0]) := rfl
theorem d222_7 : dec 222 7 = some (.istore 5, 2, []) := rfl
theorem d222_9 : dec 222 9 = some (.aload_n 0, 1, []) := rfl
theorem d222_10 : dec 222 10 = some (.iconst 0, 1, [0]) := rfl
theorem d222_11 : dec 222 11 = some (.bipush 9, 2, [9]) := rfl
theorem d222_13 : dec 222 13 = some (.invokevirtual 224, 3, [2, 220, 2, 10, 0, 1348, 0, 0]) := rfl
theorem d222_16 : dec 222 16 = some (.ifCond .eq 47, 3, [63]) := rfl
theorem d222_19 : dec 222 19 = some (.aload_n 0, 1, []) := rfl
theorem d222_20 : dec 222 20 = some (.getfield 221, 3, [1, 10, 22, 0, 0, 1016]) := rfl
theorem d222_23 : dec 222 23 = some (.iload 4, 2, []) := rfl
theorem d222_25 : dec 222 25 = some (.iload_n 1, 1, []) := rfl
theorem d222_26 : dec 222 26 = some (.iadd, 1, []) := rfl
theorem d222_27 : dec 222 27 = some (.if_icmp .ge 36, 3, [63]) := rfl
theorem d222_30 : dec 222 30 = some (.bipush 10, 2, [10]) := rfl
theorem d222_32 : dec 222 32 = some (.iload 5, 2, []) := rfl
theorem d222_34 : dec 222 34 = some (.imul, 1, []) := rfl
theorem d222_35 : dec 222 35 = some (.aload_n 0, 1, []) := rfl
theorem d222_36 : dec 222 36 = some (.getfield 19, 3, [1, 10, 5, 2, 0, 999]) := rfl
theorem d222_39 : dec 222 39 = some (.aload_n 0, 1, []) := rfl
theorem d222_40 : dec 222 40 = some (.getfield 221, 3, [1, 10, 22, 0, 0, 1016]) := rfl
theorem d222_43 : dec 222 43 = some (.iaload, 1, []) := rfl
theorem d222_44 : dec 222 44 = some (.iadd, 1, []) := rfl
theorem d222_45 : dec 222 45 = some (.bipush 48, 2, [48]) := rfl
theorem d222_47 : dec 222 47 = some (.isub, 1, []) := rfl
theorem d222_48 : dec 222 48 = some (.istore 5, 2, []) := rfl
theorem d222_50 : dec 222 50 = some (.aload_n 0, 1, []) := rfl
theorem d222_51 : dec 222 51 = some (.dup, 1, []) := rfl
theorem d222_52 : dec 222 52 = some (.getfield 221, 3, [1, 10, 22, 0, 0, 1016]) := rfl
theorem d222_55 : dec 222 55 = some (.iconst 1, 1, [1]) := rfl
theorem d222_56 : dec 222 56 = some (.iadd, 1, []) := rfl
theorem d222_57 : dec 222 57 = some (.putfield 221, 3, [1, 10, 22, 0, 0, 1016]) := rfl
theorem d222_60 : dec 222 60 = some (.goto (-51), 3, [9]) := rfl
theorem d222_63 : dec 222 63 = some (.aload_n 0, 1, []) := rfl
theorem d222_64 : dec 222 64 = some (.getfield 221, 3, [1, 10, 22, 0, 0, 1016]) := rfl
theorem d222_67 : dec 222 67 = some (.iload 4, 2, []) := rfl
theorem d222_69 : dec 222 69 = some (.if_icmp .eq 13, 3, [82]) := rfl
theorem d222_72 : dec 222 72 = some (.aload_n 0, 1, []) := rfl
theorem d222_73 : dec 222 73 = some (.iconst 0, 1, [0]) := rfl
theorem d222_74 : dec 222 74 = some (.bipush 9, 2, [9]) := rfl
theorem d222_76 : dec 222 76 = some (.invokevirtual 224, 3, [2, 220, 2, 10, 0, 1348, 0, 0]) := rfl
theorem d222_79 : dec 222 79 = some (.ifCond .eq 5, 3, [84]) := rfl
theorem d222_82 : dec 222 82 = some (.iconst 0, 1, [0]) := rfl
theorem d222_83 : dec 222 83 = some (.ireturn, 1, [1]) := rfl
theorem d222_84 : dec 222 84 = some (.aload_n 0, 1, []) := rfl
theorem d222_85 : dec 222 85 = some (.iload 5, 2, []) := rfl
theorem d222_87 : dec 222 87 = some (.putfield 227, 3, [1, 10, 23, 0, 0, 1017]) := rfl
theorem d222_90 : dec 222 90 = some (.iload 5, 2, []) := rfl
theorem d222_92 : dec 222 92 = some (.iload_n 2, 1, []) := rfl
theorem d222_93 : dec 222 93 = some (.iload_n 3, 1, []) := rfl
theorem d222_94 : dec 222 94 = some (.invokestatic 76, 3, [2, 156, 0, 10, 0, 1092, 0, 0, 0]) := rfl
theorem d222_97 : dec 222 97 = some (.istore 6, 2, []) := rfl
theorem d222_99 : dec 222 99 = some (.aload_n 0, 1, []) := rfl
theorem d222_100 : dec 222 100 = some (.iload 6, 2, []) := rfl
theorem d222_102 : dec 222 102 = some (.ifCond .eq 10, 3, [112]) := rfl
theorem d222_105 : dec 222 105 = some (.aload_n 0, 1, []) := rfl
theorem d222_106 : dec 222 106 = some (.getfield 221, 3, [1, 10, 22, 0, 0, 1016]) := rfl
theorem d222_109 : dec 222 109 = some (.goto 5, 3, [114]) := rfl
theorem d222_112 : dec 222 112 = some (.iload 4, 2, []) := rfl
theorem d222_114 : dec 222 114 = some (.putfield 221, 3, [1, 10, 22, 0, 0, 1016]) := rfl
theorem d222_117 : dec 222 117 = some (.iload 6, 2, []) := rfl
theorem d222_119 : dec 222 119 = some (.ireturn, 1, [1]) := rfl
theorem l222 : mL 222 = 7 := rfl
theorem f222 {d : Nat} {P : MP} {I : MI} {L : ML} {C : MC} {Q : QT} {len b k v : Nat} {lo hi : Int32} {u : Value} {tx : Nat → Nat} (hM : MB P) (ht : TY I len tx) (hd : 3 ≤ d) (hk : k ≤ 4) (hb : b < 800) : ∀ m p w, p + m = b + k → X d 222 9 [.ref 150, .int (nI k), .int lo, .int hi, .int (nI b), .int (nI w), u] [] P (mS I p v) L C Q = X d 222 63 [.ref 150, .int (nI k), .int lo, .int hi, .int (nI b), .int (nI (nuV tx len m p w)), u] [] P (mS I (nuP tx len m p) v) L C Q := by
  have hM' := hM
  obtain ⟨⟨k0, p0, p1, p2, p5, y1, y2, y3, y4⟩, _⟩ := hM'
  have hlen := ht.2.1
  intro m
  induction m with
  | zero =>
    intro p w h
    have e1 : nuV tx len 0 p w = w := rfl
    have e2 : nuP tx len 0 p = p := rfl
    have h' : p = b + k := by omega
    rw [e1, e2, X_go, d222_9]
    by_cases z : isD tx len p 0 9 = true
    · simp (disch := first | assumption | omega) only [Nat.reduceAdd, X_go, go2_some, stp, ldI, ldA, ldL, stI, stA, stL, o1I, o2I, o2L, brI, brII, gl, s1, s2, k1, sl, go_sN, go_sR, go_CT, go_sT, go_no, go_if, pops, bk_v, bk_0, d222_0, d222_1, d222_4, d222_6, d222_7, d222_10, d222_11, d222_13, d222_16, d222_19, d222_20, d222_23, d222_25, d222_26, d222_27, d222_30, d222_32, d222_34, d222_35, d222_36, d222_39, d222_40, d222_43, d222_44, d222_45, d222_47, d222_48, d222_50, d222_51, d222_52, d222_55, d222_56, d222_57, d222_60, d222_64, d222_67, d222_69, d222_72, d222_73, d222_74, d222_76, d222_79, d222_82, d222_83, d222_84, d222_85, d222_87, d222_90, d222_92, d222_93, d222_94, d222_97, d222_99, d222_100, d222_102, d222_105, d222_106, d222_109, d222_112, d222_114, d222_117, d222_119, n_lt, n_le, n_eq, n_lt0, n_ge0, n_gt0, n_le0, n_eq0, m_lt, m_le, m_gt, m_ge, m_eq, m_eq', m_lt0, m_ge0, m_gt0, m_le0, m_ltm, m_lem, n_in, m_in, n_cl, n_ti, n_div, n_rem', n_dec, n_l, nI_add, pk_mul, an0, an1, decide_eq_true_eq, if_true, if_false, ite_true, ite_false, and_true, true_and, and_false, false_and, not_true, not_false_iff, or_false, false_or, or_true, true_or, eq_self, va_some, Bool.false_eq_true, reduceIte, catS_n, catS_i, catS_r, catS_l, catS_d, Nat.zero_add, Nat.add_zero, decide_true, decide_false, Nat.reduceLeDiff, cat_r, cat_i, cat_l, nle_T, nle_F, nlt_T, nlt_F, neq_T, neq_F, k0, c220 hM ht, z, mS_2]
      done
    · simp (disch := first | assumption | omega) only [Nat.reduceAdd, X_go, go2_some, stp, ldI, ldA, ldL, stI, stA, stL, o1I, o2I, o2L, brI, brII, gl, s1, s2, k1, sl, go_sN, go_sR, go_CT, go_sT, go_no, go_if, pops, bk_v, bk_0, d222_0, d222_1, d222_4, d222_6, d222_7, d222_10, d222_11, d222_13, d222_16, d222_19, d222_20, d222_23, d222_25, d222_26, d222_27, d222_30, d222_32, d222_34, d222_35, d222_36, d222_39, d222_40, d222_43, d222_44, d222_45, d222_47, d222_48, d222_50, d222_51, d222_52, d222_55, d222_56, d222_57, d222_60, d222_64, d222_67, d222_69, d222_72, d222_73, d222_74, d222_76, d222_79, d222_82, d222_83, d222_84, d222_85, d222_87, d222_90, d222_92, d222_93, d222_94, d222_97, d222_99, d222_100, d222_102, d222_105, d222_106, d222_109, d222_112, d222_114, d222_117, d222_119, n_lt, n_le, n_eq, n_lt0, n_ge0, n_gt0, n_le0, n_eq0, m_lt, m_le, m_gt, m_ge, m_eq, m_eq', m_lt0, m_ge0, m_gt0, m_le0, m_ltm, m_lem, n_in, m_in, n_cl, n_ti, n_div, n_rem', n_dec, n_l, nI_add, pk_mul, an0, an1, decide_eq_true_eq, if_true, if_false, ite_true, ite_false, and_true, true_and, and_false, false_and, not_true, not_false_iff, or_false, false_or, or_true, true_or, eq_self, va_some, Bool.false_eq_true, reduceIte, catS_n, catS_i, catS_r, catS_l, catS_d, Nat.zero_add, Nat.add_zero, decide_true, decide_false, Nat.reduceLeDiff, cat_r, cat_i, cat_l, nle_T, nle_F, nlt_T, nlt_F, neq_T, neq_F, k0, c220 hM ht, z, mS_2]
      done
  | succ m ih =>
    intro p w h
    by_cases z : isD tx len p 0 9 = true
    · have hb2 := isD_b z
      have e1 : nuV tx len (m + 1) p w = nuV tx len m (p + 1) (10 * w + (tx p - 48)) := if_pos z
      have e2 : nuP tx len (m + 1) p = nuP tx len m (p + 1) := if_pos z
      have e3 : mS I p v 154 p = nI (tx p) := by rw [mS_n (by omega)]; exact ht.1.2 p hb2.1
      have e4 : 10 * w + tx p - 48 = 10 * w + (tx p - 48) := by omega
      rw [e1, e2, ← ih (p + 1) (10 * w + (tx p - 48)) (by omega), X_go, d222_9]
      simp (disch := first | assumption | omega) only [Nat.reduceAdd, X_go, go2_some, stp, ldI, ldA, ldL, stI, stA, stL, o1I, o2I, o2L, brI, brII, gl, s1, s2, k1, sl, go_sN, go_sR, go_CT, go_sT, go_no, go_if, pops, bk_v, bk_0, d222_0, d222_1, d222_4, d222_6, d222_7, d222_10, d222_11, d222_13, d222_16, d222_19, d222_20, d222_23, d222_25, d222_26, d222_27, d222_30, d222_32, d222_34, d222_35, d222_36, d222_39, d222_40, d222_43, d222_44, d222_45, d222_47, d222_48, d222_50, d222_51, d222_52, d222_55, d222_56, d222_57, d222_60, d222_64, d222_67, d222_69, d222_72, d222_73, d222_74, d222_76, d222_79, d222_82, d222_83, d222_84, d222_85, d222_87, d222_90, d222_92, d222_93, d222_94, d222_97, d222_99, d222_100, d222_102, d222_105, d222_106, d222_109, d222_112, d222_114, d222_117, d222_119, n_lt, n_le, n_eq, n_lt0, n_ge0, n_gt0, n_le0, n_eq0, m_lt, m_le, m_gt, m_ge, m_eq, m_eq', m_lt0, m_ge0, m_gt0, m_le0, m_ltm, m_lem, n_in, m_in, n_cl, n_ti, n_div, n_rem', n_dec, n_l, nI_add, pk_mul, an0, an1, decide_eq_true_eq, if_true, if_false, ite_true, ite_false, and_true, true_and, and_false, false_and, not_true, not_false_iff, or_false, false_or, or_true, true_or, eq_self, va_some, Bool.false_eq_true, reduceIte, catS_n, catS_i, catS_r, catS_l, catS_d, Nat.zero_add, Nat.add_zero, decide_true, decide_false, Nat.reduceLeDiff, cat_r, cat_i, cat_l, nle_T, nle_F, nlt_T, nlt_F, neq_T, neq_F, k0, p5, y4, c220 hM ht, z, mS_2, e3, n_sub, e4, mS_p]
      done
    · have e1 : nuV tx len (m + 1) p w = w := if_neg z
      have e2 : nuP tx len (m + 1) p = p := if_neg z
      rw [e1, e2, X_go, d222_9]
      simp (disch := first | assumption | omega) only [Nat.reduceAdd, X_go, go2_some, stp, ldI, ldA, ldL, stI, stA, stL, o1I, o2I, o2L, brI, brII, gl, s1, s2, k1, sl, go_sN, go_sR, go_CT, go_sT, go_no, go_if, pops, bk_v, bk_0, d222_0, d222_1, d222_4, d222_6, d222_7, d222_10, d222_11, d222_13, d222_16, d222_19, d222_20, d222_23, d222_25, d222_26, d222_27, d222_30, d222_32, d222_34, d222_35, d222_36, d222_39, d222_40, d222_43, d222_44, d222_45, d222_47, d222_48, d222_50, d222_51, d222_52, d222_55, d222_56, d222_57, d222_60, d222_64, d222_67, d222_69, d222_72, d222_73, d222_74, d222_76, d222_79, d222_82, d222_83, d222_84, d222_85, d222_87, d222_90, d222_92, d222_93, d222_94, d222_97, d222_99, d222_100, d222_102, d222_105, d222_106, d222_109, d222_112, d222_114, d222_117, d222_119, n_lt, n_le, n_eq, n_lt0, n_ge0, n_gt0, n_le0, n_eq0, m_lt, m_le, m_gt, m_ge, m_eq, m_eq', m_lt0, m_ge0, m_gt0, m_le0, m_ltm, m_lem, n_in, m_in, n_cl, n_ti, n_div, n_rem', n_dec, n_l, nI_add, pk_mul, an0, an1, decide_eq_true_eq, if_true, if_false, ite_true, ite_false, and_true, true_and, and_false, false_and, not_true, not_false_iff, or_false, false_or, or_true, true_or, eq_self, va_some, Bool.false_eq_true, reduceIte, catS_n, catS_i, catS_r, catS_l, catS_d, Nat.zero_add, Nat.add_zero, decide_true, decide_false, Nat.reduceLeDiff, cat_r, cat_i, cat_l, nle_T, nle_F, nlt_T, nlt_F, neq_T, neq_F, k0, c220 hM ht, z]
      done
theorem c222 {d : Nat} {P : MP} {I : MI} {L : ML} {C : MC} {Q : QT} {len k lo hi p v : Nat} {tx : Nat → Nat} (hM : MB P) (ht : TY I len tx) (hz : nuF tx len k lo hi p = 0) (hd : 4 ≤ d) (hk : k ≤ 4) (hp : p < 700) (h1 : lo < 10000) (h2 : hi < 10000) : CT d 222 [.ref 150, .int (nI k), .int (nI lo), .int (nI hi)] P (mS I p v) L C Q = Q (.inl (some (.int (nI 1)))) P (mS I (nuP tx len k p) (nuV tx len k p 0)) L C := by
  have hM' := hM
  obtain ⟨⟨k0, p0, p1, p2, p5, y1, y2, y3, y4⟩, _⟩ := hM'
  have hP := nuP_b (tx := tx) (len := len) k p
  have hV := nuV_b (tx := tx) (len := len) k p 0
  have hpw : 10 ^ k ≤ 10 ^ 4 := Nat.pow_le_pow_right (by omega) hk
  obtain ⟨z1, z2, z3, z4⟩ := nuF_0 hz
  have h := f222 (d := d - 1) (L := L) (C := C) (Q := Q) (v := v) (lo := nI lo) (hi := nI hi) (u := UN) hM ht (by omega) hk (show p < 800 by omega) k p 0 rfl
  have e3 : ∀ q w, mS I q w 150 22 = nI q := fun _ _ => mS_2
  rw [CT_e (mj := 222) (e := [.ref 150, .int (nI k), .int (nI lo), .int (nI hi), UN, UN, UN]) (by omega) rfl (Nat.le_of_ble_eq_true rfl)]
  simp (disch := first | assumption | omega) only [Nat.reduceAdd, X_go, go2_some, stp, ldI, ldA, ldL, stI, stA, stL, o1I, o2I, o2L, brI, brII, gl, s1, s2, k1, sl, go_sN, go_sR, go_CT, go_sT, go_no, go_if, pops, bk_v, bk_0, d222_0, d222_1, d222_4, d222_6, d222_7, d222_10, d222_11, d222_13, d222_16, d222_19, d222_20, d222_23, d222_25, d222_26, d222_27, d222_30, d222_32, d222_34, d222_35, d222_36, d222_39, d222_40, d222_43, d222_44, d222_45, d222_47, d222_48, d222_50, d222_51, d222_52, d222_55, d222_56, d222_57, d222_60, d222_64, d222_67, d222_69, d222_72, d222_73, d222_74, d222_76, d222_79, d222_82, d222_83, d222_84, d222_85, d222_87, d222_90, d222_92, d222_93, d222_94, d222_97, d222_99, d222_100, d222_102, d222_105, d222_106, d222_109, d222_112, d222_114, d222_117, d222_119, n_lt, n_le, n_eq, n_lt0, n_ge0, n_gt0, n_le0, n_eq0, m_lt, m_le, m_gt, m_ge, m_eq, m_eq', m_lt0, m_ge0, m_gt0, m_le0, m_ltm, m_lem, n_in, m_in, n_cl, n_ti, n_div, n_rem', n_dec, n_l, nI_add, pk_mul, an0, an1, decide_eq_true_eq, if_true, if_false, ite_true, ite_false, and_true, true_and, and_false, false_and, not_true, not_false_iff, or_false, false_or, or_true, true_or, eq_self, va_some, Bool.false_eq_true, reduceIte, catS_n, catS_i, catS_r, catS_l, catS_d, Nat.zero_add, Nat.add_zero, decide_true, decide_false, Nat.reduceLeDiff, cat_r, cat_i, cat_l, nle_T, nle_F, nlt_T, nlt_F, neq_T, neq_F, k0, mS_2]
  simp only [← X_go]
  rw [h, X_go, d222_63]
  simp (disch := first | assumption | omega) only [Nat.reduceAdd, X_go, go2_some, stp, ldI, ldA, ldL, stI, stA, stL, o1I, o2I, o2L, brI, brII, gl, s1, s2, k1, sl, go_sN, go_sR, go_CT, go_sT, go_no, go_if, pops, bk_v, bk_0, d222_0, d222_1, d222_4, d222_6, d222_7, d222_10, d222_11, d222_13, d222_16, d222_19, d222_20, d222_23, d222_25, d222_26, d222_27, d222_30, d222_32, d222_34, d222_35, d222_36, d222_39, d222_40, d222_43, d222_44, d222_45, d222_47, d222_48, d222_50, d222_51, d222_52, d222_55, d222_56, d222_57, d222_60, d222_64, d222_67, d222_69, d222_72, d222_73, d222_74, d222_76, d222_79, d222_82, d222_83, d222_84, d222_85, d222_87, d222_90, d222_92, d222_93, d222_94, d222_97, d222_99, d222_100, d222_102, d222_105, d222_106, d222_109, d222_112, d222_114, d222_117, d222_119, n_lt, n_le, n_eq, n_lt0, n_ge0, n_gt0, n_le0, n_eq0, m_lt, m_le, m_gt, m_ge, m_eq, m_eq', m_lt0, m_ge0, m_gt0, m_le0, m_ltm, m_lem, n_in, m_in, n_cl, n_ti, n_div, n_rem', n_dec, n_l, nI_add, pk_mul, an0, an1, decide_eq_true_eq, if_true, if_false, ite_true, ite_false, and_true, true_and, and_false, false_and, not_true, not_false_iff, or_false, false_or, or_true, true_or, eq_self, va_some, Bool.false_eq_true, reduceIte, catS_n, catS_i, catS_r, catS_l, catS_d, Nat.zero_add, Nat.add_zero, decide_true, decide_false, Nat.reduceLeDiff, cat_r, cat_i, cat_l, nle_T, nle_F, nlt_T, nlt_F, neq_T, neq_F, k0, mS_2, c220 hM ht, z1, z2, mS_v, c156 (h1 := z3) (h2 := z4), e3, mS_p]
  done
theorem c222n {d : Nat} {P : MP} {I : MI} {L : ML} {C : MC} {len k lo hi p v : Nat} {tx : Nat → Nat} (hM : MB P) (ht : TY I len tx) (hz : nuF tx len k lo hi p ≠ 0) (hd : 4 ≤ d) (hk : k ≤ 4) (hp : p < 700) (h1 : lo < 10000) (h2 : hi < 10000) : ∃ w, ∀ Q, CT d 222 [.ref 150, .int (nI k), .int (nI lo), .int (nI hi)] P (mS I p v) L C Q = Q (.inl (some (.int (nI 0)))) P (mS I (nuF tx len k lo hi p - 1) w) L C := by
  have hM' := hM
  obtain ⟨⟨k0, p0, p1, p2, p5, y1, y2, y3, y4⟩, _⟩ := hM'
  have hP := nuP_b (tx := tx) (len := len) k p
  have hV := nuV_b (tx := tx) (len := len) k p 0
  have hpw : 10 ^ k ≤ 10 ^ 4 := Nat.pow_le_pow_right (by omega) hk
  have h := fun Q => f222 (d := d - 1) (L := L) (C := C) (Q := Q) (v := v) (lo := nI lo) (hi := nI hi) (u := UN) hM ht (by omega) hk (show p < 800 by omega) k p 0 rfl
  have e3 : ∀ q w, mS I q w 150 22 = nI q := fun _ _ => mS_2
  have st : ∀ Q, CT d 222 [.ref 150, .int (nI k), .int (nI lo), .int (nI hi)] P (mS I p v) L C Q = X (d - 1) 222 63 [.ref 150, .int (nI k), .int (nI lo), .int (nI hi), .int (nI p), .int (nI (nuV tx len k p 0)), UN] [] P (mS I (nuP tx len k p) v) L C Q := fun Q => by
    rw [CT_e (mj := 222) (e := [.ref 150, .int (nI k), .int (nI lo), .int (nI hi), UN, UN, UN]) (by omega) rfl (Nat.le_of_ble_eq_true rfl)]
    simp (disch := first | assumption | omega) only [Nat.reduceAdd, X_go, go2_some, stp, ldI, ldA, ldL, stI, stA, stL, o1I, o2I, o2L, brI, brII, gl, s1, s2, k1, sl, go_sN, go_sR, go_CT, go_sT, go_no, go_if, pops, bk_v, bk_0, d222_0, d222_1, d222_4, d222_6, d222_7, d222_10, d222_11, d222_13, d222_16, d222_19, d222_20, d222_23, d222_25, d222_26, d222_27, d222_30, d222_32, d222_34, d222_35, d222_36, d222_39, d222_40, d222_43, d222_44, d222_45, d222_47, d222_48, d222_50, d222_51, d222_52, d222_55, d222_56, d222_57, d222_60, d222_64, d222_67, d222_69, d222_72, d222_73, d222_74, d222_76, d222_79, d222_82, d222_83, d222_84, d222_85, d222_87, d222_90, d222_92, d222_93, d222_94, d222_97, d222_99, d222_100, d222_102, d222_105, d222_106, d222_109, d222_112, d222_114, d222_117, d222_119, n_lt, n_le, n_eq, n_lt0, n_ge0, n_gt0, n_le0, n_eq0, m_lt, m_le, m_gt, m_ge, m_eq, m_eq', m_lt0, m_ge0, m_gt0, m_le0, m_ltm, m_lem, n_in, m_in, n_cl, n_ti, n_div, n_rem', n_dec, n_l, nI_add, pk_mul, an0, an1, decide_eq_true_eq, if_true, if_false, ite_true, ite_false, and_true, true_and, and_false, false_and, not_true, not_false_iff, or_false, false_or, or_true, true_or, eq_self, va_some, Bool.false_eq_true, reduceIte, catS_n, catS_i, catS_r, catS_l, catS_d, Nat.zero_add, Nat.add_zero, decide_true, decide_false, Nat.reduceLeDiff, cat_r, cat_i, cat_l, nle_T, nle_F, nlt_T, nlt_F, neq_T, neq_F, k0, mS_2]
    simp only [← X_go]
    exact h Q
  by_cases z1 : nuP tx len k p = p
  · refine ⟨v, fun Q => ?_⟩
    have e4 : nuF tx len k lo hi p - 1 = p := by
      unfold nuF
      rw [if_pos (.inl z1), z1]; rfl
    rw [st, e4, z1, X_go, d222_63]
    simp (disch := first | assumption | omega) only [Nat.reduceAdd, X_go, go2_some, stp, ldI, ldA, ldL, stI, stA, stL, o1I, o2I, o2L, brI, brII, gl, s1, s2, k1, sl, go_sN, go_sR, go_CT, go_sT, go_no, go_if, pops, bk_v, bk_0, d222_0, d222_1, d222_4, d222_6, d222_7, d222_10, d222_11, d222_13, d222_16, d222_19, d222_20, d222_23, d222_25, d222_26, d222_27, d222_30, d222_32, d222_34, d222_35, d222_36, d222_39, d222_40, d222_43, d222_44, d222_45, d222_47, d222_48, d222_50, d222_51, d222_52, d222_55, d222_56, d222_57, d222_60, d222_64, d222_67, d222_69, d222_72, d222_73, d222_74, d222_76, d222_79, d222_82, d222_83, d222_84, d222_85, d222_87, d222_90, d222_92, d222_93, d222_94, d222_97, d222_99, d222_100, d222_102, d222_105, d222_106, d222_109, d222_112, d222_114, d222_117, d222_119, n_lt, n_le, n_eq, n_lt0, n_ge0, n_gt0, n_le0, n_eq0, m_lt, m_le, m_gt, m_ge, m_eq, m_eq', m_lt0, m_ge0, m_gt0, m_le0, m_ltm, m_lem, n_in, m_in, n_cl, n_ti, n_div, n_rem', n_dec, n_l, nI_add, pk_mul, an0, an1, decide_eq_true_eq, if_true, if_false, ite_true, ite_false, and_true, true_and, and_false, false_and, not_true, not_false_iff, or_false, false_or, or_true, true_or, eq_self, va_some, Bool.false_eq_true, reduceIte, catS_n, catS_i, catS_r, catS_l, catS_d, Nat.zero_add, Nat.add_zero, decide_true, decide_false, Nat.reduceLeDiff, cat_r, cat_i, cat_l, nle_T, nle_F, nlt_T, nlt_F, neq_T, neq_F, k0, mS_2]
    done
  · by_cases z2 : isD tx len (nuP tx len k p) 0 9 = true
    · refine ⟨v, fun Q => ?_⟩
      have e4 : nuF tx len k lo hi p - 1 = nuP tx len k p := by
        unfold nuF
        rw [if_pos (.inr z2)]; rfl
      rw [st, e4, X_go, d222_63]
      simp (disch := first | assumption | omega) only [Nat.reduceAdd, X_go, go2_some, stp, ldI, ldA, ldL, stI, stA, stL, o1I, o2I, o2L, brI, brII, gl, s1, s2, k1, sl, go_sN, go_sR, go_CT, go_sT, go_no, go_if, pops, bk_v, bk_0, d222_0, d222_1, d222_4, d222_6, d222_7, d222_10, d222_11, d222_13, d222_16, d222_19, d222_20, d222_23, d222_25, d222_26, d222_27, d222_30, d222_32, d222_34, d222_35, d222_36, d222_39, d222_40, d222_43, d222_44, d222_45, d222_47, d222_48, d222_50, d222_51, d222_52, d222_55, d222_56, d222_57, d222_60, d222_64, d222_67, d222_69, d222_72, d222_73, d222_74, d222_76, d222_79, d222_82, d222_83, d222_84, d222_85, d222_87, d222_90, d222_92, d222_93, d222_94, d222_97, d222_99, d222_100, d222_102, d222_105, d222_106, d222_109, d222_112, d222_114, d222_117, d222_119, n_lt, n_le, n_eq, n_lt0, n_ge0, n_gt0, n_le0, n_eq0, m_lt, m_le, m_gt, m_ge, m_eq, m_eq', m_lt0, m_ge0, m_gt0, m_le0, m_ltm, m_lem, n_in, m_in, n_cl, n_ti, n_div, n_rem', n_dec, n_l, nI_add, pk_mul, an0, an1, decide_eq_true_eq, if_true, if_false, ite_true, ite_false, and_true, true_and, and_false, false_and, not_true, not_false_iff, or_false, false_or, or_true, true_or, eq_self, va_some, Bool.false_eq_true, reduceIte, catS_n, catS_i, catS_r, catS_l, catS_d, Nat.zero_add, Nat.add_zero, decide_true, decide_false, Nat.reduceLeDiff, cat_r, cat_i, cat_l, nle_T, nle_F, nlt_T, nlt_F, neq_T, neq_F, k0, mS_2, c220 hM ht, z1, z2]
      done
    · refine ⟨nuV tx len k p 0, fun Q => ?_⟩
      have z3 : nuV tx len k p 0 < lo ∨ hi < nuV tx len k p 0 := by
        rcases Nat.lt_or_ge (nuV tx len k p 0) lo with w | w
        · exact .inl w
        · rcases Nat.lt_or_ge hi (nuV tx len k p 0) with w2 | w2
          · exact .inr w2
          · exfalso
            apply hz
            unfold nuF
            rw [if_neg (fun q => q.elim z1 z2), if_neg (by omega)]
      have e4 : nuF tx len k lo hi p - 1 = p := by
        unfold nuF
        rw [if_neg (fun q => q.elim z1 z2), if_pos z3]; rfl
      have hx : nI (nuV tx len k p 0) < nI lo ∨ nI hi < nI (nuV tx len k p 0) := z3.elim (fun q => .inl ((nI_ltI (by omega) (by omega)).mpr q)) (fun q => .inr ((nI_ltI (by omega) (by omega)).mpr q))
      rw [st, e4, X_go, d222_63]
      simp (disch := first | assumption | omega) only [Nat.reduceAdd, X_go, go2_some, stp, ldI, ldA, ldL, stI, stA, stL, o1I, o2I, o2L, brI, brII, gl, s1, s2, k1, sl, go_sN, go_sR, go_CT, go_sT, go_no, go_if, pops, bk_v, bk_0, d222_0, d222_1, d222_4, d222_6, d222_7, d222_10, d222_11, d222_13, d222_16, d222_19, d222_20, d222_23, d222_25, d222_26, d222_27, d222_30, d222_32, d222_34, d222_35, d222_36, d222_39, d222_40, d222_43, d222_44, d222_45, d222_47, d222_48, d222_50, d222_51, d222_52, d222_55, d222_56, d222_57, d222_60, d222_64, d222_67, d222_69, d222_72, d222_73, d222_74, d222_76, d222_79, d222_82, d222_83, d222_84, d222_85, d222_87, d222_90, d222_92, d222_93, d222_94, d222_97, d222_99, d222_100, d222_102, d222_105, d222_106, d222_109, d222_112, d222_114, d222_117, d222_119, n_lt, n_le, n_eq, n_lt0, n_ge0, n_gt0, n_le0, n_eq0, m_lt, m_le, m_gt, m_ge, m_eq, m_eq', m_lt0, m_ge0, m_gt0, m_le0, m_ltm, m_lem, n_in, m_in, n_cl, n_ti, n_div, n_rem', n_dec, n_l, nI_add, pk_mul, an0, an1, decide_eq_true_eq, if_true, if_false, ite_true, ite_false, and_true, true_and, and_false, false_and, not_true, not_false_iff, or_false, false_or, or_true, true_or, eq_self, va_some, Bool.false_eq_true, reduceIte, catS_n, catS_i, catS_r, catS_l, catS_d, Nat.zero_add, Nat.add_zero, decide_true, decide_false, Nat.reduceLeDiff, cat_r, cat_i, cat_l, nle_T, nle_F, nlt_T, nlt_F, neq_T, neq_F, k0, mS_2, c220 hM ht, z1, z2, mS_v, c156b (hx := hx), e3, mS_p]
      done
