/-! TABLES of the class -/
theorem xr_self {α : Type} (f : Nat → α) {k : Nat} {r : α} (h : r = f k) : xr f k r = f := funext fun a => by
  unfold xr
  by_cases z : a = k
  · rw [if_pos z, h, z]
  · rw [if_neg z]
theorem xr_xu {α : Type} (f : Nat → Nat → α) {k j : Nat} {v : α} {r : Nat → α} : xr (xu f k j v) k r = xr f k r := funext fun a => by
  unfold xr
  by_cases z : a = k
  · rw [if_pos z, if_pos z]
  · rw [if_neg z, if_neg z]; exact xu_row f v z
theorem xr_xr {α : Type} (f : Nat → α) {k : Nat} {r r' : α} : xr (xr f k r) k r' = xr f k r' := funext fun a => by
  unfold xr
  by_cases z : a = k
  · rw [if_pos z, if_pos z]
  · rw [if_neg z, if_neg z, if_neg z]
theorem xr_c {α : Type} (f : Nat → α) {k : Nat} {r r' : α} (h : r = r') : xr f k r = xr f k r' := by rw [h]
theorem d30_0 : dec 30 0 = some (.iconst 0, 1, [0]) := rfl
theorem d30_1 : dec 30 1 = some (.istore_n 2, 1, []) := rfl
theorem d30_2 : dec 30 2 = some (.aload_n 0, 1, []) := rfl
theorem d30_3 : dec 30 3 = some (.arraylength, 1, []) := rfl
theorem d30_4 : dec 30 4 = some (.istore_n 3, 1, []) := rfl
theorem d30_5 : dec 30 5 = some (.iload_n 2, 1, []) := rfl
theorem d30_6 : dec 30 6 = some (.iload_n 3, 1, []) := rfl
theorem d30_7 : dec 30 7 = some (.if_icmp .ge 13, 3, [20]) := rfl
theorem d30_10 : dec 30 10 = some (.aload_n 0, 1, []) := rfl
theorem d30_11 : dec 30 11 = some (.iload_n 2, 1, []) := rfl
theorem d30_12 : dec 30 12 = some (.iload_n 1, 1, []) := rfl
theorem d30_13 : dec 30 13 = some (.iastore, 1, []) := rfl
theorem d30_14 : dec 30 14 = some (.iinc 2 1, 3, [1]) := rfl
theorem d30_17 : dec 30 17 = some (.goto (-12), 3, [5]) := rfl
theorem d30_20 : dec 30 20 = some (.return_, 1, []) := rfl
theorem l30 : mL 30 = 4 := rfl
theorem f30 {d : Nat} {P : MP} {L : ML} {C : MC} {Q : QT} {k n : Nat} {v : Int32} (h1 : P.1 k = (20, n)) (hn : n < 1000) : ∀ m i (I : MI), i + m = n → X d 30 5 [.ref k, .int v, .int (nI i), .int (nI n)] [] P I L C Q = Q (.inl none) P (xr I k (fun j => if i ≤ j ∧ j < n then v else I k j)) L C := by
  intro m
  induction m with
  | zero =>
    intro i I h
    rw [X_go, d30_5]
    simp (disch := first | assumption | omega) only [Nat.reduceAdd, X_go, go2_some, stp, ldI, ldA, ldL, stI, stA, stL, o1I, o2I, o2L, brI, brII, gl, s1, s2, k1, sl, go_sN, go_sR, go_CT, go_sT, go_no, go_if, pops, bk_v, bk_0, d30_0, d30_1, d30_2, d30_3, d30_4, d30_6, d30_7, d30_10, d30_11, d30_12, d30_13, d30_14, d30_17, d30_20, n_lt, n_le, n_eq, n_lt0, n_ge0, n_gt0, n_le0, n_eq0, m_lt, m_le, m_gt, m_ge, m_eq, m_eq', m_lt0, m_ge0, m_gt0, m_le0, m_ltm, m_lem, n_in, m_in, n_cl, n_ti, n_div, n_rem', n_dec, n_l, nI_add, pk_mul, an0, an1, decide_eq_true_eq, if_true, if_false, ite_true, ite_false, and_true, true_and, and_false, false_and, not_true, not_false_iff, or_false, false_or, or_true, true_or, eq_self, va_some, Bool.false_eq_true, reduceIte, catS_n, catS_i, catS_r, catS_l, catS_d, Nat.zero_add, Nat.add_zero, decide_true, decide_false, Nat.reduceLeDiff, cat_r, cat_i, cat_l, nle_T, nle_F, nlt_T, nlt_F, neq_T, neq_F]
    rw [xr_self I (funext fun j => if_neg (by omega))]
  | succ m ih =>
    intro i I h
    rw [X_go, d30_5]
    simp (disch := first | assumption | omega) only [Nat.reduceAdd, X_go, go2_some, stp, ldI, ldA, ldL, stI, stA, stL, o1I, o2I, o2L, brI, brII, gl, s1, s2, k1, sl, go_sN, go_sR, go_CT, go_sT, go_no, go_if, pops, bk_v, bk_0, d30_0, d30_1, d30_2, d30_3, d30_4, d30_6, d30_7, d30_10, d30_11, d30_12, d30_13, d30_14, d30_17, d30_20, n_lt, n_le, n_eq, n_lt0, n_ge0, n_gt0, n_le0, n_eq0, m_lt, m_le, m_gt, m_ge, m_eq, m_eq', m_lt0, m_ge0, m_gt0, m_le0, m_ltm, m_lem, n_in, m_in, n_cl, n_ti, n_div, n_rem', n_dec, n_l, nI_add, pk_mul, an0, an1, decide_eq_true_eq, if_true, if_false, ite_true, ite_false, and_true, true_and, and_false, false_and, not_true, not_false_iff, or_false, false_or, or_true, true_or, eq_self, va_some, Bool.false_eq_true, reduceIte, catS_n, catS_i, catS_r, catS_l, catS_d, Nat.zero_add, Nat.add_zero, decide_true, decide_false, Nat.reduceLeDiff, cat_r, cat_i, cat_l, nle_T, nle_F, nlt_T, nlt_F, neq_T, neq_F, h1]
    rw [← X_go, ih (i + 1) _ (by omega), xr_xu]
    refine congrArg (fun z => Q _ P z L C) (xr_c I (funext fun j => ?_))
    by_cases z : j = i
    · subst z; rw [if_neg (by omega), if_pos (by omega), xu_s]
    · rw [xu_n I v (.inr z)]
      by_cases y : i + 1 ≤ j ∧ j < n
      · rw [if_pos y, if_pos (by omega)]
      · rw [if_neg y, if_neg (by omega)]
theorem c30 {d : Nat} {P : MP} {I : MI} {L : ML} {C : MC} {Q : QT} {k n : Nat} {v : Int32} (h1 : P.1 k = (20, n)) (hd : 1 ≤ d) (hn : n < 1000) : CT d 30 [.ref k, .int v] P I L C Q = Q (.inl none) P (xr I k (fun j => if j < n then v else I k j)) L C := by
  rw [CT_e (mj := 30) (e := [.ref k, .int v, UN, UN]) (by omega) rfl (Nat.le_of_ble_eq_true rfl)]
  simp (disch := first | assumption | omega) only [Nat.reduceAdd, X_go, go2_some, stp, ldI, ldA, ldL, stI, stA, stL, o1I, o2I, o2L, brI, brII, gl, s1, s2, k1, sl, go_sN, go_sR, go_CT, go_sT, go_no, go_if, pops, bk_v, bk_0, d30_0, d30_1, d30_2, d30_3, d30_4, d30_6, d30_7, d30_10, d30_11, d30_12, d30_13, d30_14, d30_17, d30_20, n_lt, n_le, n_eq, n_lt0, n_ge0, n_gt0, n_le0, n_eq0, m_lt, m_le, m_gt, m_ge, m_eq, m_eq', m_lt0, m_ge0, m_gt0, m_le0, m_ltm, m_lem, n_in, m_in, n_cl, n_ti, n_div, n_rem', n_dec, n_l, nI_add, pk_mul, an0, an1, decide_eq_true_eq, if_true, if_false, ite_true, ite_false, and_true, true_and, and_false, false_and, not_true, not_false_iff, or_false, false_or, or_true, true_or, eq_self, va_some, Bool.false_eq_true, reduceIte, catS_n, catS_i, catS_r, catS_l, catS_d, Nat.zero_add, Nat.add_zero, decide_true, decide_false, Nat.reduceLeDiff, cat_r, cat_i, cat_l, nle_T, nle_F, nlt_T, nlt_F, neq_T, neq_F, h1]
  rw [← X_go, f30 h1 hn n 0 I (by omega)]
  simp only [Nat.zero_le, true_and]
theorem d25_0 : dec 25 0 = some (.aload_n 0, 1, []) := rfl
theorem d25_1 : dec 25 1 = some (.getfield 15, 3, [1, 7, 1, 2, 0, 45]) := rfl
theorem d25_4 : dec 25 4 = some (.iload_n 1, 1, []) := rfl
theorem d25_5 : dec 25 5 = some (.invokestatic 46, 3, [2, 26, 0, 9, 1, 470, 0, 2]) := rfl
theorem d25_8 : dec 25 8 = some (.ireturn, 1, [0]) := rfl
theorem l25 : mL 25 = 2 := rfl
theorem c25 {d : Nat} {P : MP} {I : MI} {L : ML} {C : MC} {Q : QT} {T t : Nat} (hT : TB P T) (hd : 2 ≤ d) (ht : t < 3) : CT d 25 [.ref T, .int (nI t)] P I L C Q = Q (.inl (some (.int (I (T + 2) t)))) P I L C := by
  obtain ⟨⟨k0, p0, p1, p2, p3, p4, p5, p6, p7⟩, y1, y2, y3, y4, y5, y6, y7, y8⟩ := hT
  rw [CT_e (mj := 25) (e := [.ref T, .int (nI t)]) (by omega) rfl (Nat.le_of_ble_eq_true rfl)]
  simp (disch := first | assumption | omega) only [Nat.reduceAdd, X_go, go2_some, stp, ldI, ldA, ldL, stI, stA, stL, o1I, o2I, o2L, brI, brII, gl, s1, s2, k1, sl, go_sN, go_sR, go_CT, go_sT, go_no, go_if, pops, bk_v, bk_0, d25_0, d25_1, d25_4, d25_5, d25_8, n_lt, n_le, n_eq, n_lt0, n_ge0, n_gt0, n_le0, n_eq0, m_lt, m_le, m_gt, m_ge, m_eq, m_eq', m_lt0, m_ge0, m_gt0, m_le0, m_ltm, m_lem, n_in, m_in, n_cl, n_ti, n_div, n_rem', n_dec, n_l, nI_add, pk_mul, an0, an1, decide_eq_true_eq, if_true, if_false, ite_true, ite_false, and_true, true_and, and_false, false_and, not_true, not_false_iff, or_false, false_or, or_true, true_or, eq_self, va_some, Bool.false_eq_true, reduceIte, catS_n, catS_i, catS_r, catS_l, catS_d, Nat.zero_add, Nat.add_zero, decide_true, decide_false, Nat.reduceLeDiff, cat_r, cat_i, cat_l, nle_T, nle_F, nlt_T, nlt_F, neq_T, neq_F, k0, p1, y2, c26 y2]
  done
theorem c25g {d : Nat} {P : MP} {I : MI} {L : ML} {C : MC} {Q : QT} {T t : Nat} {g : GS} (hT : TB P T) (hg : TR I T g) (hd : 2 ≤ d) (ht : t < 3) : CT d 25 [.ref T, .int (nI t)] P I L C Q = Q (.inl (some (.int (nI (g (3 + t)))))) P I L C := by
  rw [c25 hT hd ht, hg.2.1 t ht]
theorem d119_0 : dec 119 0 = some (.aload_n 0, 1, []) := rfl
theorem d119_1 : dec 119 1 = some (.getfield 33, 3, [1, 7, 7, 2, 0, 64]) := rfl
theorem d119_4 : dec 119 4 = some (.iload_n 1, 1, []) := rfl
theorem d119_5 : dec 119 5 = some (.aload_n 0, 1, []) := rfl
theorem d119_6 : dec 119 6 = some (.getfield 30, 3, [1, 7, 6, 2, 0, 62]) := rfl
theorem d119_9 : dec 119 9 = some (.iload_n 1, 1, []) := rfl
theorem d119_10 : dec 119 10 = some (.invokestatic 46, 3, [2, 26, 0, 9, 1, 470, 0, 2]) := rfl
theorem d119_13 : dec 119 13 = some (.invokestatic 58, 3, [2, 44, 0, 9, 1, 676, 0, 0, 2]) := rfl
theorem d119_16 : dec 119 16 = some (.return_, 1, []) := rfl
theorem l119 : mL 119 = 2 := rfl
theorem c119 {d : Nat} {P : MP} {I : MI} {L : ML} {C : MC} {Q : QT} {T p : Nat} (hT : TB P T) (hd : 2 ≤ d) (hp : p < 18) : CT d 119 [.ref T, .int (nI p)] P I L C Q = Q (.inl none) P (xu I (T + 8) p (I (T + 7) p)) L C := by
  obtain ⟨⟨k0, p0, p1, p2, p3, p4, p5, p6, p7⟩, y1, y2, y3, y4, y5, y6, y7, y8⟩ := hT
  rw [CT_e (mj := 119) (e := [.ref T, .int (nI p)]) (by omega) rfl (Nat.le_of_ble_eq_true rfl)]
  simp (disch := first | assumption | omega) only [Nat.reduceAdd, X_go, go2_some, stp, ldI, ldA, ldL, stI, stA, stL, o1I, o2I, o2L, brI, brII, gl, s1, s2, k1, sl, go_sN, go_sR, go_CT, go_sT, go_no, go_if, pops, bk_v, bk_0, d119_0, d119_1, d119_4, d119_5, d119_6, d119_9, d119_10, d119_13, d119_16, n_lt, n_le, n_eq, n_lt0, n_ge0, n_gt0, n_le0, n_eq0, m_lt, m_le, m_gt, m_ge, m_eq, m_eq', m_lt0, m_ge0, m_gt0, m_le0, m_ltm, m_lem, n_in, m_in, n_cl, n_ti, n_div, n_rem', n_dec, n_l, nI_add, pk_mul, an0, an1, decide_eq_true_eq, if_true, if_false, ite_true, ite_false, and_true, true_and, and_false, false_and, not_true, not_false_iff, or_false, false_or, or_true, true_or, eq_self, va_some, Bool.false_eq_true, reduceIte, catS_n, catS_i, catS_r, catS_l, catS_d, Nat.zero_add, Nat.add_zero, decide_true, decide_false, Nat.reduceLeDiff, cat_r, cat_i, cat_l, nle_T, nle_F, nlt_T, nlt_F, neq_T, neq_F, k0, p6, p7, c26 y7, c44 y8]
  done
theorem d67_0 : dec 67 0 = some (.iload_n 2, 1, []) := rfl
theorem d67_1 : dec 67 1 = some (.ifCond .lt 9, 3, [10]) := rfl
theorem d67_4 : dec 67 4 = some (.iload_n 2, 1, []) := rfl
theorem d67_5 : dec 67 5 = some (.bipush 18, 2, [18]) := rfl
theorem d67_7 : dec 67 7 = some (.if_icmp .lt 5, 3, [12]) := rfl
theorem d67_10 : dec 67 10 = some (.iconst 0, 1, [0]) := rfl
theorem d67_11 : dec 67 11 = some (.ireturn, 1, [0]) := rfl
theorem d67_12 : dec 67 12 = some (.iload_n 2, 1, []) := rfl
theorem d67_13 : dec 67 13 = some (.invokestatic 75, 3, [2, 28, 0, 9, 1, 484, 0]) := rfl
theorem d67_16 : dec 67 16 = some (.iload_n 1, 1, []) := rfl
theorem d67_17 : dec 67 17 = some (.aload_n 0, 1, []) := rfl
theorem d67_18 : dec 67 18 = some (.getfield 27, 3, [1, 7, 5, 2, 0, 60]) := rfl
theorem d67_21 : dec 67 21 = some (.iload_n 2, 1, []) := rfl
theorem d67_22 : dec 67 22 = some (.iaload, 1, []) := rfl
theorem d67_23 : dec 67 23 = some (.invokestatic 81, 3, [2, 68, 0, 9, 1, 556, 0, 0]) := rfl
theorem d67_26 : dec 67 26 = some (.ior, 1, []) := rfl
theorem d67_27 : dec 67 27 = some (.ireturn, 1, [0]) := rfl
theorem l67 : mL 67 = 3 := rfl
theorem c67 {d : Nat} {P : MP} {I : MI} {L : ML} {C : MC} {Q : QT} {T t e : Nat} {g : GS} (hT : TB P T) (hg : TR I T g) (hv : TV g) (ht : t < 3) (he : e < g (3 + t)) (hd : 2 ≤ d) : CT d 67 [.ref T, .int (nI t), .int (nI (6 * t + e))] P I L C Q = Q (.inl (some (.int ((nI 1 <<< (nI (6 * t + e) &&& 31)) ||| (if g (cl t e 3) = 0 then nI 0 else nI 1 <<< (nI (18 + 4 * t + g (cl t e 3)) &&& 31)))))) P I L C := by
  obtain ⟨⟨k0, p0, p1, p2, p3, p4, p5, p6, p7⟩, y1, y2, y3, y4, y5, y6, y7, y8⟩ := hT
  have hc := hv.2.1 t ht
  have hE := hv.2.2 t e ht he
  have hR := hg.2.2 t e ht he
  have h3 := hE.2.2.2.2.2.1
  rw [CT_e (mj := 67) (e := [.ref T, .int (nI t), .int (nI (6 * t + e))]) (by omega) rfl (Nat.le_of_ble_eq_true rfl)]
  simp (disch := first | assumption | omega) only [Nat.reduceAdd, X_go, go2_some, stp, ldI, ldA, ldL, stI, stA, stL, o1I, o2I, o2L, brI, brII, gl, s1, s2, k1, sl, go_sN, go_sR, go_CT, go_sT, go_no, go_if, pops, bk_v, bk_0, d67_0, d67_1, d67_4, d67_5, d67_7, d67_10, d67_11, d67_12, d67_13, d67_16, d67_17, d67_18, d67_21, d67_22, d67_23, d67_26, d67_27, n_lt, n_le, n_eq, n_lt0, n_ge0, n_gt0, n_le0, n_eq0, m_lt, m_le, m_gt, m_ge, m_eq, m_eq', m_lt0, m_ge0, m_gt0, m_le0, m_ltm, m_lem, n_in, m_in, n_cl, n_ti, n_div, n_rem', n_dec, n_l, nI_add, pk_mul, an0, an1, decide_eq_true_eq, if_true, if_false, ite_true, ite_false, and_true, true_and, and_false, false_and, not_true, not_false_iff, or_false, false_or, or_true, true_or, eq_self, va_some, Bool.false_eq_true, reduceIte, catS_n, catS_i, catS_r, catS_l, catS_d, Nat.zero_add, Nat.add_zero, decide_true, decide_false, Nat.reduceLeDiff, cat_r, cat_i, cat_l, nle_T, nle_F, nlt_T, nlt_F, neq_T, neq_F, k0, p5, y6, c28, hR, c68]
  done
theorem d80_0 : dec 80 0 = some (.iload_n 2, 1, []) := rfl
theorem d80_1 : dec 80 1 = some (.ifCond .lt 9, 3, [10]) := rfl
theorem d80_4 : dec 80 4 = some (.iload_n 2, 1, []) := rfl
theorem d80_5 : dec 80 5 = some (.bipush 18, 2, [18]) := rfl
theorem d80_7 : dec 80 7 = some (.if_icmp .lt 5, 3, [12]) := rfl
theorem d80_10 : dec 80 10 = some (.iconst 0, 1, [0]) := rfl
theorem d80_11 : dec 80 11 = some (.ireturn, 1, [0]) := rfl
theorem d80_12 : dec 80 12 = some (.aload_n 0, 1, []) := rfl
theorem d80_13 : dec 80 13 = some (.getfield 30, 3, [1, 7, 6, 2, 0, 62]) := rfl
theorem d80_16 : dec 80 16 = some (.iload_n 2, 1, []) := rfl
theorem d80_17 : dec 80 17 = some (.iaload, 1, []) := rfl
theorem d80_18 : dec 80 18 = some (.ifCond .eq 10, 3, [28]) := rfl
theorem d80_21 : dec 80 21 = some (.iload_n 2, 1, []) := rfl
theorem d80_22 : dec 80 22 = some (.invokestatic 75, 3, [2, 28, 0, 9, 1, 484, 0]) := rfl
theorem d80_25 : dec 80 25 = some (.goto 4, 3, [29]) := rfl
theorem d80_28 : dec 80 28 = some (.iconst 0, 1, [0]) := rfl
theorem d80_29 : dec 80 29 = some (.istore_n 3, 1, []) := rfl
theorem d80_30 : dec 80 30 = some (.iload_n 3, 1, []) := rfl
theorem d80_31 : dec 80 31 = some (.iload_n 1, 1, []) := rfl
theorem d80_32 : dec 80 32 = some (.aload_n 0, 1, []) := rfl
theorem d80_33 : dec 80 33 = some (.getfield 27, 3, [1, 7, 5, 2, 0, 60]) := rfl
theorem d80_36 : dec 80 36 = some (.iload_n 2, 1, []) := rfl
theorem d80_37 : dec 80 37 = some (.iaload, 1, []) := rfl
theorem d80_38 : dec 80 38 = some (.invokestatic 81, 3, [2, 68, 0, 9, 1, 556, 0, 0]) := rfl
theorem d80_41 : dec 80 41 = some (.ior, 1, []) := rfl
theorem d80_42 : dec 80 42 = some (.ireturn, 1, [0]) := rfl
theorem l80 : mL 80 = 4 := rfl
theorem c80 {d : Nat} {P : MP} {I : MI} {L : ML} {C : MC} {Q : QT} {T t e : Nat} {g : GS} (hT : TB P T) (hg : TR I T g) (hv : TV g) (ht : t < 3) (he : e < g (3 + t)) (hd : 2 ≤ d) : CT d 80 [.ref T, .int (nI t), .int (nI (6 * t + e))] P I L C Q = Q (.inl (some (.int ((if g (cl t e 4) = 0 then nI 0 else nI 1 <<< (nI (6 * t + e) &&& 31)) ||| (if g (cl t e 3) = 0 then nI 0 else nI 1 <<< (nI (18 + 4 * t + g (cl t e 3)) &&& 31)))))) P I L C := by
  obtain ⟨⟨k0, p0, p1, p2, p3, p4, p5, p6, p7⟩, y1, y2, y3, y4, y5, y6, y7, y8⟩ := hT
  have hc := hv.2.1 t ht
  have hE := hv.2.2 t e ht he
  have hR := hg.2.2 t e ht he
  have h3 := hE.2.2.2.2.2.1
  have h4 := hE.2.2.2.2.2.2.1
  rw [CT_e (mj := 80) (e := [.ref T, .int (nI t), .int (nI (6 * t + e)), UN]) (by omega) rfl (Nat.le_of_ble_eq_true rfl)]
  by_cases hz : g (cl t e 4) = 0
  · simp (disch := first | assumption | omega) only [Nat.reduceAdd, X_go, go2_some, stp, ldI, ldA, ldL, stI, stA, stL, o1I, o2I, o2L, brI, brII, gl, s1, s2, k1, sl, go_sN, go_sR, go_CT, go_sT, go_no, go_if, pops, bk_v, bk_0, d80_0, d80_1, d80_4, d80_5, d80_7, d80_10, d80_11, d80_12, d80_13, d80_16, d80_17, d80_18, d80_21, d80_22, d80_25, d80_28, d80_29, d80_30, d80_31, d80_32, d80_33, d80_36, d80_37, d80_38, d80_41, d80_42, n_lt, n_le, n_eq, n_lt0, n_ge0, n_gt0, n_le0, n_eq0, m_lt, m_le, m_gt, m_ge, m_eq, m_eq', m_lt0, m_ge0, m_gt0, m_le0, m_ltm, m_lem, n_in, m_in, n_cl, n_ti, n_div, n_rem', n_dec, n_l, nI_add, pk_mul, an0, an1, decide_eq_true_eq, if_true, if_false, ite_true, ite_false, and_true, true_and, and_false, false_and, not_true, not_false_iff, or_false, false_or, or_true, true_or, eq_self, va_some, Bool.false_eq_true, reduceIte, catS_n, catS_i, catS_r, catS_l, catS_d, Nat.zero_add, Nat.add_zero, decide_true, decide_false, Nat.reduceLeDiff, cat_r, cat_i, cat_l, nle_T, nle_F, nlt_T, nlt_F, neq_T, neq_F, k0, p5, p6, y6, y7, c28, hR, c68, hz]
  · simp (disch := first | assumption | omega) only [Nat.reduceAdd, X_go, go2_some, stp, ldI, ldA, ldL, stI, stA, stL, o1I, o2I, o2L, brI, brII, gl, s1, s2, k1, sl, go_sN, go_sR, go_CT, go_sT, go_no, go_if, pops, bk_v, bk_0, d80_0, d80_1, d80_4, d80_5, d80_7, d80_10, d80_11, d80_12, d80_13, d80_16, d80_17, d80_18, d80_21, d80_22, d80_25, d80_28, d80_29, d80_30, d80_31, d80_32, d80_33, d80_36, d80_37, d80_38, d80_41, d80_42, n_lt, n_le, n_eq, n_lt0, n_ge0, n_gt0, n_le0, n_eq0, m_lt, m_le, m_gt, m_ge, m_eq, m_eq', m_lt0, m_ge0, m_gt0, m_le0, m_ltm, m_lem, n_in, m_in, n_cl, n_ti, n_div, n_rem', n_dec, n_l, nI_add, pk_mul, an0, an1, decide_eq_true_eq, if_true, if_false, ite_true, ite_false, and_true, true_and, and_false, false_and, not_true, not_false_iff, or_false, false_or, or_true, true_or, eq_self, va_some, Bool.false_eq_true, reduceIte, catS_n, catS_i, catS_r, catS_l, catS_d, Nat.zero_add, Nat.add_zero, decide_true, decide_false, Nat.reduceLeDiff, cat_r, cat_i, cat_l, nle_T, nle_F, nlt_T, nlt_F, neq_T, neq_F, k0, p5, p6, y6, y7, c28, hR, c68, hz]
theorem d24_0 : dec 24 0 = some (.iconst 0, 1, [0]) := rfl
theorem d24_1 : dec 24 1 = some (.istore_n 1, 1, []) := rfl
theorem d24_2 : dec 24 2 = some (.iconst 0, 1, [0]) := rfl
theorem d24_3 : dec 24 3 = some (.istore_n 2, 1, []) := rfl
theorem d24_4 : dec 24 4 = some (.iload_n 2, 1, []) := rfl
theorem d24_5 : dec 24 5 = some (.iconst 3, 1, [3]) := rfl
theorem d24_6 : dec 24 6 = some (.if_icmp .ge 53, 3, [59]) := rfl
theorem d24_9 : dec 24 9 = some (.iconst 0, 1, [0]) := rfl
theorem d24_10 : dec 24 10 = some (.istore_n 3, 1, []) := rfl
theorem d24_11 : dec 24 11 = some (.iload_n 3, 1, []) := rfl
theorem d24_12 : dec 24 12 = some (.aload_n 0, 1, []) := rfl
theorem d24_13 : dec 24 13 = some (.iload_n 2, 1, []) := rfl
theorem d24_14 : dec 24 14 = some (.invokevirtual 50, 3, [2, 25, 2, 7, 0, 466, 0]) := rfl
theorem d24_17 : dec 24 17 = some (.if_icmp .ge 36, 3, [53]) := rfl
theorem d24_20 : dec 24 20 = some (.iload_n 2, 1, []) := rfl
theorem d24_21 : dec 24 21 = some (.iload_n 3, 1, []) := rfl
theorem d24_22 : dec 24 22 = some (.invokestatic 54, 3, [2, 27, 0, 9, 1, 481, 0, 0]) := rfl
theorem d24_25 : dec 24 25 = some (.istore 4, 2, []) := rfl
theorem d24_27 : dec 24 27 = some (.aload_n 0, 1, []) := rfl
theorem d24_28 : dec 24 28 = some (.getfield 33, 3, [1, 7, 7, 2, 0, 64]) := rfl
theorem d24_31 : dec 24 31 = some (.iload 4, 2, []) := rfl
theorem d24_33 : dec 24 33 = some (.invokestatic 46, 3, [2, 26, 0, 9, 1, 470, 0, 2]) := rfl
theorem d24_36 : dec 24 36 = some (.ifCond .eq 11, 3, [47]) := rfl
theorem d24_39 : dec 24 39 = some (.iload_n 1, 1, []) := rfl
theorem d24_40 : dec 24 40 = some (.iload 4, 2, []) := rfl
theorem d24_42 : dec 24 42 = some (.invokestatic 75, 3, [2, 28, 0, 9, 1, 484, 0]) := rfl
theorem d24_45 : dec 24 45 = some (.ior, 1, []) := rfl
theorem d24_46 : dec 24 46 = some (.istore_n 1, 1, []) := rfl
theorem d24_47 : dec 24 47 = some (.iinc 3 1, 3, [1]) := rfl
theorem d24_50 : dec 24 50 = some (.goto (-39), 3, [11]) := rfl
theorem d24_53 : dec 24 53 = some (.iinc 2 1, 3, [1]) := rfl
theorem d24_56 : dec 24 56 = some (.goto (-52), 3, [4]) := rfl
theorem d24_59 : dec 24 59 = some (.iload_n 1, 1, []) := rfl
theorem d24_60 : dec 24 60 = some (.ireturn, 1, [0]) := rfl
theorem l24 : mL 24 = 5 := rfl
/-- the inner loop: the bits of one table -/
theorem f24 {d : Nat} {P : MP} {I : MI} {L : ML} {C : MC} {Q : QT} {T t : Nat} {g : GS} (hT : TB P T) (hg : TR I T g) (hv : TV g) (ht : t < 3) (hd : 3 ≤ d) : ∀ m e x (u : Value), e + m = g (3 + t) → ∃ x' u', (∀ i, i < 32 → bt x' i = (bt x i || (decide (6 * t + e ≤ i) && decide (i < 6 * t + g (3 + t)) && pb g (spG g) i))) ∧ X d 24 11 [.ref T, .int x, .int (nI t), .int (nI e), u] [] P I L C Q = X d 24 53 [.ref T, .int x', .int (nI t), .int (nI (g (3 + t))), u'] [] P I L C Q := by
  have hT' := hT
  obtain ⟨⟨k0, p0, p1, p2, p3, p4, p5, p6, p7⟩, y1, y2, y3, y4, y5, y6, y7, y8⟩ := hT'
  have hc := hv.2.1 t ht
  intro m
  induction m with
  | zero =>
    intro e x u h
    refine ⟨x, u, fun i hi => ?_, ?_⟩
    · by_cases z : 6 * t + e ≤ i
      · rw [decide_eq_false (by omega : ¬ i < 6 * t + g (3 + t)), Bool.and_false, Bool.false_and, Bool.or_false]
      · rw [decide_eq_false z, Bool.false_and, Bool.false_and, Bool.or_false]
    · rw [X_go, d24_11]
      simp (disch := first | assumption | omega) only [Nat.reduceAdd, X_go, go2_some, stp, ldI, ldA, ldL, stI, stA, stL, o1I, o2I, o2L, brI, brII, gl, s1, s2, k1, sl, go_sN, go_sR, go_CT, go_sT, go_no, go_if, pops, bk_v, bk_0, d24_0, d24_1, d24_2, d24_3, d24_4, d24_5, d24_6, d24_9, d24_10, d24_12, d24_13, d24_14, d24_17, d24_20, d24_21, d24_22, d24_25, d24_27, d24_28, d24_31, d24_33, d24_36, d24_39, d24_40, d24_42, d24_45, d24_46, d24_47, d24_50, d24_56, d24_59, d24_60, n_lt, n_le, n_eq, n_lt0, n_ge0, n_gt0, n_le0, n_eq0, m_lt, m_le, m_gt, m_ge, m_eq, m_eq', m_lt0, m_ge0, m_gt0, m_le0, m_ltm, m_lem, n_in, m_in, n_cl, n_ti, n_div, n_rem', n_dec, n_l, nI_add, pk_mul, an0, an1, decide_eq_true_eq, if_true, if_false, ite_true, ite_false, and_true, true_and, and_false, false_and, not_true, not_false_iff, or_false, false_or, or_true, true_or, eq_self, va_some, Bool.false_eq_true, reduceIte, catS_n, catS_i, catS_r, catS_l, catS_d, Nat.zero_add, Nat.add_zero, decide_true, decide_false, Nat.reduceLeDiff, cat_r, cat_i, cat_l, nle_T, nle_F, nlt_T, nlt_F, neq_T, neq_F, k0, c25g hT hg]
      simp only [← X_go, show e = g (3 + t) by omega]
  | succ m ih =>
    intro e x u h
    have hE := hv.2.2 t e ht (by omega)
    have hR := (hg.2.2 t e ht (by omega)).2.2.2.2.2
    have h5 := hE.2.2.2.2.2.2.2
    have hb : pb g (spG g) (6 * t + e) = decide (g (cl t e 5) ≠ 0) := by
      unfold pb spG
      rw [show (6 * t + e) % 6 = e by omega, show (6 * t + e) / 6 = t by omega, decide_eq_true (by omega), Bool.true_and]
    by_cases hz : g (cl t e 5) = 0
    · obtain ⟨x', u', h1, h2⟩ := ih (e + 1) x (.int (nI (6 * t + e))) (by omega)
      refine ⟨x', u', fun i hi => ?_, ?_⟩
      · rw [h1 i hi]
        by_cases z : i = 6 * t + e
        · rw [show pb g (spG g) i = false by rw [z, hb]; exact decide_eq_false (fun q => q hz)]
          simp only [Bool.and_false]
        · rw [show decide (6 * t + (e + 1) ≤ i) = decide (6 * t + e ≤ i) from decide_eq_decide.mpr (by omega)]
      · rw [X_go, d24_11]
        simp (disch := first | assumption | omega) only [Nat.reduceAdd, X_go, go2_some, stp, ldI, ldA, ldL, stI, stA, stL, o1I, o2I, o2L, brI, brII, gl, s1, s2, k1, sl, go_sN, go_sR, go_CT, go_sT, go_no, go_if, pops, bk_v, bk_0, d24_0, d24_1, d24_2, d24_3, d24_4, d24_5, d24_6, d24_9, d24_10, d24_12, d24_13, d24_14, d24_17, d24_20, d24_21, d24_22, d24_25, d24_27, d24_28, d24_31, d24_33, d24_36, d24_39, d24_40, d24_42, d24_45, d24_46, d24_47, d24_50, d24_56, d24_59, d24_60, n_lt, n_le, n_eq, n_lt0, n_ge0, n_gt0, n_le0, n_eq0, m_lt, m_le, m_gt, m_ge, m_eq, m_eq', m_lt0, m_ge0, m_gt0, m_le0, m_ltm, m_lem, n_in, m_in, n_cl, n_ti, n_div, n_rem', n_dec, n_l, nI_add, pk_mul, an0, an1, decide_eq_true_eq, if_true, if_false, ite_true, ite_false, and_true, true_and, and_false, false_and, not_true, not_false_iff, or_false, false_or, or_true, true_or, eq_self, va_some, Bool.false_eq_true, reduceIte, catS_n, catS_i, catS_r, catS_l, catS_d, Nat.zero_add, Nat.add_zero, decide_true, decide_false, Nat.reduceLeDiff, cat_r, cat_i, cat_l, nle_T, nle_F, nlt_T, nlt_F, neq_T, neq_F, k0, p7, y8, c25g hT hg, c27, c26 y8, hR, hz]
        simp only [← X_go]
        exact h2
    · obtain ⟨x', u', h1, h2⟩ := ih (e + 1) (x ||| (nI 1 <<< (nI (6 * t + e) &&& 31))) (.int (nI (6 * t + e))) (by omega)
      refine ⟨x', u', fun i hi => ?_, ?_⟩
      · rw [h1 i hi, b_or, b_one (by omega) hi]
        by_cases z : i = 6 * t + e
        · rw [show pb g (spG g) i = true by rw [z, hb]; exact decide_eq_true hz, decide_eq_true z, decide_eq_true (by omega : 6 * t + e ≤ i), decide_eq_true (by omega : i < 6 * t + g (3 + t))]
          simp
        · rw [decide_eq_false z, Bool.or_false, show decide (6 * t + (e + 1) ≤ i) = decide (6 * t + e ≤ i) from decide_eq_decide.mpr (by omega)]
      · rw [X_go, d24_11]
        simp (disch := first | assumption | omega) only [Nat.reduceAdd, X_go, go2_some, stp, ldI, ldA, ldL, stI, stA, stL, o1I, o2I, o2L, brI, brII, gl, s1, s2, k1, sl, go_sN, go_sR, go_CT, go_sT, go_no, go_if, pops, bk_v, bk_0, d24_0, d24_1, d24_2, d24_3, d24_4, d24_5, d24_6, d24_9, d24_10, d24_12, d24_13, d24_14, d24_17, d24_20, d24_21, d24_22, d24_25, d24_27, d24_28, d24_31, d24_33, d24_36, d24_39, d24_40, d24_42, d24_45, d24_46, d24_47, d24_50, d24_56, d24_59, d24_60, n_lt, n_le, n_eq, n_lt0, n_ge0, n_gt0, n_le0, n_eq0, m_lt, m_le, m_gt, m_ge, m_eq, m_eq', m_lt0, m_ge0, m_gt0, m_le0, m_ltm, m_lem, n_in, m_in, n_cl, n_ti, n_div, n_rem', n_dec, n_l, nI_add, pk_mul, an0, an1, decide_eq_true_eq, if_true, if_false, ite_true, ite_false, and_true, true_and, and_false, false_and, not_true, not_false_iff, or_false, false_or, or_true, true_or, eq_self, va_some, Bool.false_eq_true, reduceIte, catS_n, catS_i, catS_r, catS_l, catS_d, Nat.zero_add, Nat.add_zero, decide_true, decide_false, Nat.reduceLeDiff, cat_r, cat_i, cat_l, nle_T, nle_F, nlt_T, nlt_F, neq_T, neq_F, k0, p7, y8, c25g hT hg, c27, c26 y8, c28, hR, hz]
        simp only [← X_go]
        exact h2
theorem c24 {d : Nat} {P : MP} {I : MI} {L : ML} {C : MC} {Q : QT} {T : Nat} {g : GS} (hT : TB P T) (hg : TR I T g) (hv : TV g) (hd : 4 ≤ d) : CT d 24 [.ref T] P I L C Q = Q (.inl (some (.int (sbits g)))) P I L C := by
  have hc0 : g 3 ≤ 6 := hv.2.1 0 (by omega)
  have hc1 : g 4 ≤ 6 := hv.2.1 1 (by omega)
  have hc2 : g 5 ≤ 6 := hv.2.1 2 (by omega)
  rw [CT_e (mj := 24) (e := [.ref T, UN, UN, UN, UN]) (by omega) rfl (Nat.le_of_ble_eq_true rfl)]
  simp (disch := first | assumption | omega) only [Nat.reduceAdd, X_go, go2_some, stp, ldI, ldA, ldL, stI, stA, stL, o1I, o2I, o2L, brI, brII, gl, s1, s2, k1, sl, go_sN, go_sR, go_CT, go_sT, go_no, go_if, pops, bk_v, bk_0, d24_0, d24_1, d24_2, d24_3, d24_5, d24_6, d24_9, d24_10, d24_12, d24_13, d24_14, d24_17, d24_20, d24_21, d24_22, d24_25, d24_27, d24_28, d24_31, d24_33, d24_36, d24_39, d24_40, d24_42, d24_45, d24_46, d24_47, d24_50, d24_53, d24_56, d24_59, d24_60, n_lt, n_le, n_eq, n_lt0, n_ge0, n_gt0, n_le0, n_eq0, m_lt, m_le, m_gt, m_ge, m_eq, m_eq', m_lt0, m_ge0, m_gt0, m_le0, m_ltm, m_lem, n_in, m_in, n_cl, n_ti, n_div, n_rem', n_dec, n_l, nI_add, pk_mul, an0, an1, decide_eq_true_eq, if_true, if_false, ite_true, ite_false, and_true, true_and, and_false, false_and, not_true, not_false_iff, or_false, false_or, or_true, true_or, eq_self, va_some, Bool.false_eq_true, reduceIte, catS_n, catS_i, catS_r, catS_l, catS_d, Nat.zero_add, Nat.add_zero, decide_true, decide_false, Nat.reduceLeDiff, cat_r, cat_i, cat_l, nle_T, nle_F, nlt_T, nlt_F, neq_T, neq_F]
  simp only [← X_go]
  rw [X_go, d24_4]
  simp (disch := first | assumption | omega) only [Nat.reduceAdd, X_go, go2_some, stp, ldI, ldA, ldL, stI, stA, stL, o1I, o2I, o2L, brI, brII, gl, s1, s2, k1, sl, go_sN, go_sR, go_CT, go_sT, go_no, go_if, pops, bk_v, bk_0, d24_0, d24_1, d24_2, d24_3, d24_5, d24_6, d24_9, d24_10, d24_12, d24_13, d24_14, d24_17, d24_20, d24_21, d24_22, d24_25, d24_27, d24_28, d24_31, d24_33, d24_36, d24_39, d24_40, d24_42, d24_45, d24_46, d24_47, d24_50, d24_53, d24_56, d24_59, d24_60, n_lt, n_le, n_eq, n_lt0, n_ge0, n_gt0, n_le0, n_eq0, m_lt, m_le, m_gt, m_ge, m_eq, m_eq', m_lt0, m_ge0, m_gt0, m_le0, m_ltm, m_lem, n_in, m_in, n_cl, n_ti, n_div, n_rem', n_dec, n_l, nI_add, pk_mul, an0, an1, decide_eq_true_eq, if_true, if_false, ite_true, ite_false, and_true, true_and, and_false, false_and, not_true, not_false_iff, or_false, false_or, or_true, true_or, eq_self, va_some, Bool.false_eq_true, reduceIte, catS_n, catS_i, catS_r, catS_l, catS_d, Nat.zero_add, Nat.add_zero, decide_true, decide_false, Nat.reduceLeDiff, cat_r, cat_i, cat_l, nle_T, nle_F, nlt_T, nlt_F, neq_T, neq_F]
  simp only [← X_go]
  obtain ⟨x1, u1, b1, e1⟩ := f24 (d := d - 1) (L := L) (C := C) (Q := Q) hT hg hv (t := 0) (by omega) (by omega) (g 3) 0 (nI 0) UN (Nat.zero_add _)
  rw [e1, X_go]
  simp (disch := first | assumption | omega) only [Nat.reduceAdd, X_go, go2_some, stp, ldI, ldA, ldL, stI, stA, stL, o1I, o2I, o2L, brI, brII, gl, s1, s2, k1, sl, go_sN, go_sR, go_CT, go_sT, go_no, go_if, pops, bk_v, bk_0, d24_0, d24_1, d24_2, d24_3, d24_5, d24_6, d24_9, d24_10, d24_12, d24_13, d24_14, d24_17, d24_20, d24_21, d24_22, d24_25, d24_27, d24_28, d24_31, d24_33, d24_36, d24_39, d24_40, d24_42, d24_45, d24_46, d24_47, d24_50, d24_53, d24_56, d24_59, d24_60, n_lt, n_le, n_eq, n_lt0, n_ge0, n_gt0, n_le0, n_eq0, m_lt, m_le, m_gt, m_ge, m_eq, m_eq', m_lt0, m_ge0, m_gt0, m_le0, m_ltm, m_lem, n_in, m_in, n_cl, n_ti, n_div, n_rem', n_dec, n_l, nI_add, pk_mul, an0, an1, decide_eq_true_eq, if_true, if_false, ite_true, ite_false, and_true, true_and, and_false, false_and, not_true, not_false_iff, or_false, false_or, or_true, true_or, eq_self, va_some, Bool.false_eq_true, reduceIte, catS_n, catS_i, catS_r, catS_l, catS_d, Nat.zero_add, Nat.add_zero, decide_true, decide_false, Nat.reduceLeDiff, cat_r, cat_i, cat_l, nle_T, nle_F, nlt_T, nlt_F, neq_T, neq_F]
  simp only [← X_go]
  rw [X_go, d24_4]
  simp (disch := first | assumption | omega) only [Nat.reduceAdd, X_go, go2_some, stp, ldI, ldA, ldL, stI, stA, stL, o1I, o2I, o2L, brI, brII, gl, s1, s2, k1, sl, go_sN, go_sR, go_CT, go_sT, go_no, go_if, pops, bk_v, bk_0, d24_0, d24_1, d24_2, d24_3, d24_5, d24_6, d24_9, d24_10, d24_12, d24_13, d24_14, d24_17, d24_20, d24_21, d24_22, d24_25, d24_27, d24_28, d24_31, d24_33, d24_36, d24_39, d24_40, d24_42, d24_45, d24_46, d24_47, d24_50, d24_53, d24_56, d24_59, d24_60, n_lt, n_le, n_eq, n_lt0, n_ge0, n_gt0, n_le0, n_eq0, m_lt, m_le, m_gt, m_ge, m_eq, m_eq', m_lt0, m_ge0, m_gt0, m_le0, m_ltm, m_lem, n_in, m_in, n_cl, n_ti, n_div, n_rem', n_dec, n_l, nI_add, pk_mul, an0, an1, decide_eq_true_eq, if_true, if_false, ite_true, ite_false, and_true, true_and, and_false, false_and, not_true, not_false_iff, or_false, false_or, or_true, true_or, eq_self, va_some, Bool.false_eq_true, reduceIte, catS_n, catS_i, catS_r, catS_l, catS_d, Nat.zero_add, Nat.add_zero, decide_true, decide_false, Nat.reduceLeDiff, cat_r, cat_i, cat_l, nle_T, nle_F, nlt_T, nlt_F, neq_T, neq_F]
  simp only [← X_go]
  obtain ⟨x2, u2, b2, e2⟩ := f24 (d := d - 1) (L := L) (C := C) (Q := Q) hT hg hv (t := 1) (by omega) (by omega) (g 4) 0 x1 u1 (Nat.zero_add _)
  rw [e2, X_go]
  simp (disch := first | assumption | omega) only [Nat.reduceAdd, X_go, go2_some, stp, ldI, ldA, ldL, stI, stA, stL, o1I, o2I, o2L, brI, brII, gl, s1, s2, k1, sl, go_sN, go_sR, go_CT, go_sT, go_no, go_if, pops, bk_v, bk_0, d24_0, d24_1, d24_2, d24_3, d24_5, d24_6, d24_9, d24_10, d24_12, d24_13, d24_14, d24_17, d24_20, d24_21, d24_22, d24_25, d24_27, d24_28, d24_31, d24_33, d24_36, d24_39, d24_40, d24_42, d24_45, d24_46, d24_47, d24_50, d24_53, d24_56, d24_59, d24_60, n_lt, n_le, n_eq, n_lt0, n_ge0, n_gt0, n_le0, n_eq0, m_lt, m_le, m_gt, m_ge, m_eq, m_eq', m_lt0, m_ge0, m_gt0, m_le0, m_ltm, m_lem, n_in, m_in, n_cl, n_ti, n_div, n_rem', n_dec, n_l, nI_add, pk_mul, an0, an1, decide_eq_true_eq, if_true, if_false, ite_true, ite_false, and_true, true_and, and_false, false_and, not_true, not_false_iff, or_false, false_or, or_true, true_or, eq_self, va_some, Bool.false_eq_true, reduceIte, catS_n, catS_i, catS_r, catS_l, catS_d, Nat.zero_add, Nat.add_zero, decide_true, decide_false, Nat.reduceLeDiff, cat_r, cat_i, cat_l, nle_T, nle_F, nlt_T, nlt_F, neq_T, neq_F]
  simp only [← X_go]
  rw [X_go, d24_4]
  simp (disch := first | assumption | omega) only [Nat.reduceAdd, X_go, go2_some, stp, ldI, ldA, ldL, stI, stA, stL, o1I, o2I, o2L, brI, brII, gl, s1, s2, k1, sl, go_sN, go_sR, go_CT, go_sT, go_no, go_if, pops, bk_v, bk_0, d24_0, d24_1, d24_2, d24_3, d24_5, d24_6, d24_9, d24_10, d24_12, d24_13, d24_14, d24_17, d24_20, d24_21, d24_22, d24_25, d24_27, d24_28, d24_31, d24_33, d24_36, d24_39, d24_40, d24_42, d24_45, d24_46, d24_47, d24_50, d24_53, d24_56, d24_59, d24_60, n_lt, n_le, n_eq, n_lt0, n_ge0, n_gt0, n_le0, n_eq0, m_lt, m_le, m_gt, m_ge, m_eq, m_eq', m_lt0, m_ge0, m_gt0, m_le0, m_ltm, m_lem, n_in, m_in, n_cl, n_ti, n_div, n_rem', n_dec, n_l, nI_add, pk_mul, an0, an1, decide_eq_true_eq, if_true, if_false, ite_true, ite_false, and_true, true_and, and_false, false_and, not_true, not_false_iff, or_false, false_or, or_true, true_or, eq_self, va_some, Bool.false_eq_true, reduceIte, catS_n, catS_i, catS_r, catS_l, catS_d, Nat.zero_add, Nat.add_zero, decide_true, decide_false, Nat.reduceLeDiff, cat_r, cat_i, cat_l, nle_T, nle_F, nlt_T, nlt_F, neq_T, neq_F]
  simp only [← X_go]
  obtain ⟨x3, u3, b3, e3⟩ := f24 (d := d - 1) (L := L) (C := C) (Q := Q) hT hg hv (t := 2) (by omega) (by omega) (g 5) 0 x2 u2 (Nat.zero_add _)
  rw [e3, X_go]
  simp (disch := first | assumption | omega) only [Nat.reduceAdd, X_go, go2_some, stp, ldI, ldA, ldL, stI, stA, stL, o1I, o2I, o2L, brI, brII, gl, s1, s2, k1, sl, go_sN, go_sR, go_CT, go_sT, go_no, go_if, pops, bk_v, bk_0, d24_0, d24_1, d24_2, d24_3, d24_5, d24_6, d24_9, d24_10, d24_12, d24_13, d24_14, d24_17, d24_20, d24_21, d24_22, d24_25, d24_27, d24_28, d24_31, d24_33, d24_36, d24_39, d24_40, d24_42, d24_45, d24_46, d24_47, d24_50, d24_53, d24_56, d24_59, d24_60, n_lt, n_le, n_eq, n_lt0, n_ge0, n_gt0, n_le0, n_eq0, m_lt, m_le, m_gt, m_ge, m_eq, m_eq', m_lt0, m_ge0, m_gt0, m_le0, m_ltm, m_lem, n_in, m_in, n_cl, n_ti, n_div, n_rem', n_dec, n_l, nI_add, pk_mul, an0, an1, decide_eq_true_eq, if_true, if_false, ite_true, ite_false, and_true, true_and, and_false, false_and, not_true, not_false_iff, or_false, false_or, or_true, true_or, eq_self, va_some, Bool.false_eq_true, reduceIte, catS_n, catS_i, catS_r, catS_l, catS_d, Nat.zero_add, Nat.add_zero, decide_true, decide_false, Nat.reduceLeDiff, cat_r, cat_i, cat_l, nle_T, nle_F, nlt_T, nlt_F, neq_T, neq_F]
  simp only [← X_go]
  rw [X_go, d24_4]
  simp (disch := first | assumption | omega) only [Nat.reduceAdd, X_go, go2_some, stp, ldI, ldA, ldL, stI, stA, stL, o1I, o2I, o2L, brI, brII, gl, s1, s2, k1, sl, go_sN, go_sR, go_CT, go_sT, go_no, go_if, pops, bk_v, bk_0, d24_0, d24_1, d24_2, d24_3, d24_5, d24_6, d24_9, d24_10, d24_12, d24_13, d24_14, d24_17, d24_20, d24_21, d24_22, d24_25, d24_27, d24_28, d24_31, d24_33, d24_36, d24_39, d24_40, d24_42, d24_45, d24_46, d24_47, d24_50, d24_53, d24_56, d24_59, d24_60, n_lt, n_le, n_eq, n_lt0, n_ge0, n_gt0, n_le0, n_eq0, m_lt, m_le, m_gt, m_ge, m_eq, m_eq', m_lt0, m_ge0, m_gt0, m_le0, m_ltm, m_lem, n_in, m_in, n_cl, n_ti, n_div, n_rem', n_dec, n_l, nI_add, pk_mul, an0, an1, decide_eq_true_eq, if_true, if_false, ite_true, ite_false, and_true, true_and, and_false, false_and, not_true, not_false_iff, or_false, false_or, or_true, true_or, eq_self, va_some, Bool.false_eq_true, reduceIte, catS_n, catS_i, catS_r, catS_l, catS_d, Nat.zero_add, Nat.add_zero, decide_true, decide_false, Nat.reduceLeDiff, cat_r, cat_i, cat_l, nle_T, nle_F, nlt_T, nlt_F, neq_T, neq_F]
  suffices hx : x3 = sbits g by rw [hx]
  refine b_is (by omega) fun i hi => ?_
  rw [b3 i hi, b2 i hi, b1 i hi, show nI 0 = 0 from rfl, b_0, Bool.false_or]
  cases hp : pb g (spG g) i
  · simp only [Bool.and_false, Bool.or_false]
  · have hq : i % 6 < g (3 + i / 6) := by
      unfold pb at hp
      exact of_decide_eq_true ((Bool.and_eq_true _ _).mp hp).1
    simp only [Bool.and_true]
    rw [← Bool.decide_and, ← Bool.decide_and, ← Bool.decide_and, ← Bool.decide_or, ← Bool.decide_or]
    refine decide_eq_decide.mpr ⟨fun z => ?_, fun z => ?_⟩
    · simp only [Nat.reduceAdd] at z; omega
    · have e0 : i / 6 = 0 ∨ i / 6 = 1 ∨ i / 6 = 2 := by omega
      rcases e0 with h0 | h0 | h0 <;> rw [h0] at hq <;> simp only [Nat.reduceAdd] at hq ⊢ <;> omega
