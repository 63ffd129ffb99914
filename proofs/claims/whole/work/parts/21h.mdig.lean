/-! THE MODEL: the digest -/
theorem xu_xu {α : Type} (f : Nat → Nat → α) {k j : Nat} {a b : α} : xu (xu f k j a) k j b = xu f k j b := by
  funext x y
  unfold xu
  split
  · rfl
  · rfl
theorem xu_id {α : Type} (f : Nat → Nat → α) {k j : Nat} {a : α} (h : f k j = a) : xu f k j a = f := by
  funext x y
  unfold xu
  split
  · rename_i q; rw [q.1, q.2, h]
  · rfl
theorem d224_0 : dec 224 0 = some (.aload_n 0, 1, []) := rfl
theorem d224_1 : dec 224 1 = some (.ldc2_w 246, 3, [9, 31, 1369]) := rfl
theorem d224_4 : dec 224 4 = some (.aload_n 0, 1, []) := rfl
theorem d224_5 : dec 224 5 = some (.getfield 248, 3, [1, 10, 25, 1, 0, 1019]) := rfl
theorem d224_8 : dec 224 8 = some (.lmul, 1, []) := rfl
theorem d224_9 : dec 224 9 = some (.lload_n 1, 1, []) := rfl
theorem d224_10 : dec 224 10 = some (.ladd, 1, []) := rfl
theorem d224_11 : dec 224 11 = some (.putfield 248, 3, [1, 10, 25, 1, 0, 1019]) := rfl
theorem d224_14 : dec 224 14 = some (.return_, 1, []) := rfl
theorem l224 : mL 224 = 3 := rfl
theorem c224 {d : Nat} {P : MP} {I : MI} {L : ML} {C : MC} {Q : QT} {h v : Int64} (hM : MB P) (hd : 1 ≤ d) : CT d 224 [.ref 150, .long v] P I (xu L 150 25 h) C Q = Q (.inl none) P I (xu L 150 25 (lN 31 * h + v)) C := by
  have k0 := hM.1.1
  rw [CT_e (mj := 224) (e := [.ref 150, .long v, UN]) (by omega) rfl (Nat.le_of_ble_eq_true rfl)]
  simp (disch := first | assumption | omega) only [Nat.reduceAdd, X_go, go2_some, stp, ldI, ldA, ldL, stI, stA, stL, o1I, o2I, o2L, brI, brII, gl, s1, s2, k1, sl, go_sN, go_sR, go_CT, go_sT, go_no, go_if, pops, bk_v, bk_0, d224_0, d224_1, d224_4, d224_5, d224_8, d224_9, d224_10, d224_11, d224_14, n_lt, n_le, n_eq, n_lt0, n_ge0, n_gt0, n_le0, n_eq0, m_lt, m_le, m_gt, m_ge, m_eq, m_eq', m_lt0, m_ge0, m_gt0, m_le0, m_ltm, m_lem, n_in, m_in, n_cl, n_ti, n_div, n_rem', n_dec, n_l, nI_add, pk_mul, an0, an1, decide_eq_true_eq, if_true, if_false, ite_true, ite_false, and_true, true_and, and_false, false_and, not_true, not_false_iff, or_false, false_or, or_true, true_or, eq_self, va_some, Bool.false_eq_true, reduceIte, catS_n, catS_i, catS_r, catS_l, catS_d, Nat.zero_add, Nat.add_zero, decide_true, decide_false, Nat.reduceLeDiff, cat_r, cat_i, cat_l, nle_T, nle_F, nlt_T, nlt_F, neq_T, neq_F, k0, xu_s, xu_xu]
  done
theorem d225_0 : dec 225 0 = some (.iconst 0, 1, [0]) := rfl
theorem d225_1 : dec 225 1 = some (.istore_n 2, 1, []) := rfl
theorem d225_2 : dec 225 2 = some (.iload_n 2, 1, []) := rfl
theorem d225_3 : dec 225 3 = some (.iconst 4, 1, [4]) := rfl
theorem d225_4 : dec 225 4 = some (.if_icmp .ge 20, 3, [24]) := rfl
theorem d225_7 : dec 225 7 = some (.aload_n 0, 1, []) := rfl
theorem d225_8 : dec 225 8 = some (.aload_n 0, 1, []) := rfl
theorem d225_9 : dec 225 9 = some (.iload_n 1, 1, []) := rfl
theorem d225_10 : dec 225 10 = some (.iload_n 2, 1, []) := rfl
theorem d225_11 : dec 225 11 = some (.invokevirtual 141, 3, [2, 179, 2, 10, 0, 1178, 0, 0]) := rfl
theorem d225_14 : dec 225 14 = some (.i2l, 1, []) := rfl
theorem d225_15 : dec 225 15 = some (.invokevirtual 251, 3, [2, 224, 2, 10, 0, 1365, 1]) := rfl
theorem d225_18 : dec 225 18 = some (.iinc 2 1, 3, [1]) := rfl
theorem d225_21 : dec 225 21 = some (.goto (-19), 3, [2]) := rfl
theorem d225_24 : dec 225 24 = some (.iconst 0, 1, [0]) := rfl
theorem d225_25 : dec 225 25 = some (.istore_n 2, 1, []) := rfl
theorem d225_26 : dec 225 26 = some (.iload_n 2, 1, []) := rfl
theorem d225_27 : dec 225 27 = some (.bipush 8, 2, [8]) := rfl
theorem d225_29 : dec 225 29 = some (.aload_n 0, 1, []) := rfl
theorem d225_30 : dec 225 30 = some (.getfield 7, 3, [1, 10, 0, 2, 0, 994]) := rfl
theorem d225_33 : dec 225 33 = some (.iconst 3, 1, [3]) := rfl
theorem d225_34 : dec 225 34 = some (.iload_n 1, 1, []) := rfl
theorem d225_35 : dec 225 35 = some (.iadd, 1, []) := rfl
theorem d225_36 : dec 225 36 = some (.iaload, 1, []) := rfl
theorem d225_37 : dec 225 37 = some (.imul, 1, []) := rfl
theorem d225_38 : dec 225 38 = some (.if_icmp .ge 27, 3, [65]) := rfl
theorem d225_41 : dec 225 41 = some (.aload_n 0, 1, []) := rfl
theorem d225_42 : dec 225 42 = some (.aload_n 0, 1, []) := rfl
theorem d225_43 : dec 225 43 = some (.iload_n 1, 1, []) := rfl
theorem d225_44 : dec 225 44 = some (.iload_n 2, 1, []) := rfl
theorem d225_45 : dec 225 45 = some (.bipush 8, 2, [8]) := rfl
theorem d225_47 : dec 225 47 = some (.idiv, 1, []) := rfl
theorem d225_48 : dec 225 48 = some (.iload_n 2, 1, []) := rfl
theorem d225_49 : dec 225 49 = some (.bipush 8, 2, [8]) := rfl
theorem d225_51 : dec 225 51 = some (.irem, 1, []) := rfl
theorem d225_52 : dec 225 52 = some (.invokevirtual 135, 3, [2, 171, 2, 10, 0, 1147, 0, 0, 0]) := rfl
theorem d225_55 : dec 225 55 = some (.i2l, 1, []) := rfl
theorem d225_56 : dec 225 56 = some (.invokevirtual 251, 3, [2, 224, 2, 10, 0, 1365, 1]) := rfl
theorem d225_59 : dec 225 59 = some (.iinc 2 1, 3, [1]) := rfl
theorem d225_62 : dec 225 62 = some (.goto (-36), 3, [26]) := rfl
theorem d225_65 : dec 225 65 = some (.aload_n 0, 1, []) := rfl
theorem d225_66 : dec 225 66 = some (.iload_n 1, 1, []) := rfl
theorem d225_67 : dec 225 67 = some (.invokevirtual 206, 3, [2, 201, 2, 10, 0, 1270, 0]) := rfl
theorem d225_70 : dec 225 70 = some (.iconst 0, 1, [0]) := rfl
theorem d225_71 : dec 225 71 = some (.istore_n 2, 1, []) := rfl
theorem d225_72 : dec 225 72 = some (.iload_n 2, 1, []) := rfl
theorem d225_73 : dec 225 73 = some (.iconst 4, 1, [4]) := rfl
theorem d225_74 : dec 225 74 = some (.if_icmp .ge 19, 3, [93]) := rfl
theorem d225_77 : dec 225 77 = some (.aload_n 0, 1, []) := rfl
theorem d225_78 : dec 225 78 = some (.aload_n 0, 1, []) := rfl
theorem d225_79 : dec 225 79 = some (.getfield 59, 3, [1, 10, 20, 2, 0, 1014]) := rfl
theorem d225_82 : dec 225 82 = some (.iload_n 2, 1, []) := rfl
theorem d225_83 : dec 225 83 = some (.laload, 1, []) := rfl
theorem d225_84 : dec 225 84 = some (.invokevirtual 251, 3, [2, 224, 2, 10, 0, 1365, 1]) := rfl
theorem d225_87 : dec 225 87 = some (.iinc 2 1, 3, [1]) := rfl
theorem d225_90 : dec 225 90 = some (.goto (-18), 3, [72]) := rfl
theorem d225_93 : dec 225 93 = some (.return_, 1, []) := rfl
theorem l225 : mL 225 = 3 := rfl
theorem f225a {d : Nat} {P : MP} {I : MI} {L : ML} {C : MC} {Q : QT} {t : Nat} {h : Int64} {g : GS} (hM : MB P) (hn : NR I g) (hv : TV g) (hl : LV g) (hd : 10 ≤ d) (ht : t < 3) : ∀ m w, w + m = 4 → X d 225 2 [.ref 150, .int (nI t), .int (nI w)] [] P I (xu L 150 25 (mxs (tF g t) w h)) C Q = X d 225 24 [.ref 150, .int (nI t), .int (nI 4)] [] P I (xu L 150 25 (mxs (tF g t) 4 h)) C Q := by
  have k0 := hM.1.1
  intro m
  induction m with
  | zero =>
    intro w hw
    have : w = 4 := by omega
    subst this
    rw [X_go, d225_2]
    simp (disch := first | assumption | omega) only [Nat.reduceAdd, X_go, go2_some, stp, ldI, ldA, ldL, stI, stA, stL, o1I, o2I, o2L, brI, brII, gl, s1, s2, k1, sl, go_sN, go_sR, go_CT, go_sT, go_no, go_if, pops, bk_v, bk_0, d225_0, d225_1, d225_3, d225_4, d225_7, d225_8, d225_9, d225_10, d225_11, d225_14, d225_15, d225_18, d225_21, d225_25, d225_26, d225_27, d225_29, d225_30, d225_33, d225_34, d225_35, d225_36, d225_37, d225_38, d225_41, d225_42, d225_43, d225_44, d225_45, d225_47, d225_48, d225_49, d225_51, d225_52, d225_55, d225_56, d225_59, d225_62, d225_65, d225_66, d225_67, d225_70, d225_71, d225_72, d225_73, d225_74, d225_77, d225_78, d225_79, d225_82, d225_83, d225_84, d225_87, d225_90, d225_93, n_lt, n_le, n_eq, n_lt0, n_ge0, n_gt0, n_le0, n_eq0, m_lt, m_le, m_gt, m_ge, m_eq, m_eq', m_lt0, m_ge0, m_gt0, m_le0, m_ltm, m_lem, n_in, m_in, n_cl, n_ti, n_div, n_rem', n_dec, n_l, nI_add, pk_mul, an0, an1, decide_eq_true_eq, if_true, if_false, ite_true, ite_false, and_true, true_and, and_false, false_and, not_true, not_false_iff, or_false, false_or, or_true, true_or, eq_self, va_some, Bool.false_eq_true, reduceIte, catS_n, catS_i, catS_r, catS_l, catS_d, Nat.zero_add, Nat.add_zero, decide_true, decide_false, Nat.reduceLeDiff, cat_r, cat_i, cat_l, nle_T, nle_F, nlt_T, nlt_F, neq_T, neq_F]
  | succ m ih =>
    intro w hw
    have e1 : (nI (tV g t w)).toInt64 = tF g t w := rfl
    rw [← ih (w + 1) (by omega), mxs_s, X_go, d225_2]
    simp (disch := first | assumption | omega) only [Nat.reduceAdd, X_go, go2_some, stp, ldI, ldA, ldL, stI, stA, stL, o1I, o2I, o2L, brI, brII, gl, s1, s2, k1, sl, go_sN, go_sR, go_CT, go_sT, go_no, go_if, pops, bk_v, bk_0, d225_0, d225_1, d225_3, d225_4, d225_7, d225_8, d225_9, d225_10, d225_11, d225_14, d225_15, d225_18, d225_21, d225_25, d225_26, d225_27, d225_29, d225_30, d225_33, d225_34, d225_35, d225_36, d225_37, d225_38, d225_41, d225_42, d225_43, d225_44, d225_45, d225_47, d225_48, d225_49, d225_51, d225_52, d225_55, d225_56, d225_59, d225_62, d225_65, d225_66, d225_67, d225_70, d225_71, d225_72, d225_73, d225_74, d225_77, d225_78, d225_79, d225_82, d225_83, d225_84, d225_87, d225_90, d225_93, n_lt, n_le, n_eq, n_lt0, n_ge0, n_gt0, n_le0, n_eq0, m_lt, m_le, m_gt, m_ge, m_eq, m_eq', m_lt0, m_ge0, m_gt0, m_le0, m_ltm, m_lem, n_in, m_in, n_cl, n_ti, n_div, n_rem', n_dec, n_l, nI_add, pk_mul, an0, an1, decide_eq_true_eq, if_true, if_false, ite_true, ite_false, and_true, true_and, and_false, false_and, not_true, not_false_iff, or_false, false_or, or_true, true_or, eq_self, va_some, Bool.false_eq_true, reduceIte, catS_n, catS_i, catS_r, catS_l, catS_d, Nat.zero_add, Nat.add_zero, decide_true, decide_false, Nat.reduceLeDiff, cat_r, cat_i, cat_l, nle_T, nle_F, nlt_T, nlt_F, neq_T, neq_F, k0, c179 hM hn hv hl, e1, c224 hM]
    done
theorem f225b {d : Nat} {P : MP} {I : MI} {L : ML} {C : MC} {Q : QT} {t : Nat} {h : Int64} {g : GS} (hM : MB P) (hn : NR I g) (hv : TV g) (hl : LV g) (hd : 10 ≤ d) (ht : t < 3) : ∀ m k, k + m = 8 * g (3 + t) → X d 225 26 [.ref 150, .int (nI t), .int (nI k)] [] P I (xu L 150 25 (mxs (eF g t) k h)) C Q = X d 225 65 [.ref 150, .int (nI t), .int (nI (8 * g (3 + t)))] [] P I (xu L 150 25 (mxs (eF g t) (8 * g (3 + t)) h)) C Q := by
  obtain ⟨⟨k0, p0, p1, p2, p5, y1, _⟩, _⟩ := id hM
  have hc := hv.2.1 t ht
  have hnc := hn (3 + t) (by omega)
  intro m
  induction m with
  | zero =>
    intro k hk
    have : k = 8 * g (3 + t) := by omega
    subst this
    rw [X_go, d225_26]
    simp (disch := first | assumption | omega) only [Nat.reduceAdd, X_go, go2_some, stp, ldI, ldA, ldL, stI, stA, stL, o1I, o2I, o2L, brI, brII, gl, s1, s2, k1, sl, go_sN, go_sR, go_CT, go_sT, go_no, go_if, pops, bk_v, bk_0, d225_0, d225_1, d225_2, d225_3, d225_4, d225_7, d225_8, d225_9, d225_10, d225_11, d225_14, d225_15, d225_18, d225_21, d225_24, d225_25, d225_27, d225_29, d225_30, d225_33, d225_34, d225_35, d225_36, d225_37, d225_38, d225_41, d225_42, d225_43, d225_44, d225_45, d225_47, d225_48, d225_49, d225_51, d225_52, d225_55, d225_56, d225_59, d225_62, d225_66, d225_67, d225_70, d225_71, d225_72, d225_73, d225_74, d225_77, d225_78, d225_79, d225_82, d225_83, d225_84, d225_87, d225_90, d225_93, n_lt, n_le, n_eq, n_lt0, n_ge0, n_gt0, n_le0, n_eq0, m_lt, m_le, m_gt, m_ge, m_eq, m_eq', m_lt0, m_ge0, m_gt0, m_le0, m_ltm, m_lem, n_in, m_in, n_cl, n_ti, n_div, n_rem', n_dec, n_l, nI_add, pk_mul, an0, an1, decide_eq_true_eq, if_true, if_false, ite_true, ite_false, and_true, true_and, and_false, false_and, not_true, not_false_iff, or_false, false_or, or_true, true_or, eq_self, va_some, Bool.false_eq_true, reduceIte, catS_n, catS_i, catS_r, catS_l, catS_d, Nat.zero_add, Nat.add_zero, decide_true, decide_false, Nat.reduceLeDiff, cat_r, cat_i, cat_l, nle_T, nle_F, nlt_T, nlt_F, neq_T, neq_F, k0, p0, y1, hnc]
  | succ m ih =>
    intro k hk
    have e1 : (nI (eV g t (k / 8) (k % 8))).toInt64 = eF g t k := rfl
    have hm8 : k % 8 < 8 := Nat.mod_lt _ (by omega)
    have hd8 : k / 8 < g (3 + t) := by omega
    rw [← ih (k + 1) (by omega), mxs_s, X_go, d225_26]
    simp (disch := first | assumption | omega) only [Nat.reduceAdd, X_go, go2_some, stp, ldI, ldA, ldL, stI, stA, stL, o1I, o2I, o2L, brI, brII, gl, s1, s2, k1, sl, go_sN, go_sR, go_CT, go_sT, go_no, go_if, pops, bk_v, bk_0, d225_0, d225_1, d225_2, d225_3, d225_4, d225_7, d225_8, d225_9, d225_10, d225_11, d225_14, d225_15, d225_18, d225_21, d225_24, d225_25, d225_27, d225_29, d225_30, d225_33, d225_34, d225_35, d225_36, d225_37, d225_38, d225_41, d225_42, d225_43, d225_44, d225_45, d225_47, d225_48, d225_49, d225_51, d225_52, d225_55, d225_56, d225_59, d225_62, d225_66, d225_67, d225_70, d225_71, d225_72, d225_73, d225_74, d225_77, d225_78, d225_79, d225_82, d225_83, d225_84, d225_87, d225_90, d225_93, n_lt, n_le, n_eq, n_lt0, n_ge0, n_gt0, n_le0, n_eq0, m_lt, m_le, m_gt, m_ge, m_eq, m_eq', m_lt0, m_ge0, m_gt0, m_le0, m_ltm, m_lem, n_in, m_in, n_cl, n_ti, n_div, n_rem', n_dec, n_l, nI_add, pk_mul, an0, an1, decide_eq_true_eq, if_true, if_false, ite_true, ite_false, and_true, true_and, and_false, false_and, not_true, not_false_iff, or_false, false_or, or_true, true_or, eq_self, va_some, Bool.false_eq_true, reduceIte, catS_n, catS_i, catS_r, catS_l, catS_d, Nat.zero_add, Nat.add_zero, decide_true, decide_false, Nat.reduceLeDiff, cat_r, cat_i, cat_l, nle_T, nle_F, nlt_T, nlt_F, neq_T, neq_F, k0, p0, y1, hnc, c171 hM hn hv hl, e1, c224 hM]
    done
theorem f225c {d : Nat} {P : MP} {I : MI} {L : ML} {C : MC} {Q : QT} {t : Nat} {h : Int64} {V : CV} (hM : MB P) (hcm : ∀ r, r < 4 → L 167 r = raV V r) (hd : 2 ≤ d) : ∀ m r, r + m = 4 → X d 225 72 [.ref 150, .int (nI t), .int (nI r)] [] P I (xu L 150 25 (mxs (raV V) r h)) C Q = Q (.inl none) P I (xu L 150 25 (mxs (raV V) 4 h)) C := by
  obtain ⟨⟨k0, _⟩, _, _, r19, r20, r24, s19, s20, s24⟩ := id hM
  intro m
  induction m with
  | zero =>
    intro r hr
    have : r = 4 := by omega
    subst this
    rw [X_go, d225_72]
    simp (disch := first | assumption | omega) only [Nat.reduceAdd, X_go, go2_some, stp, ldI, ldA, ldL, stI, stA, stL, o1I, o2I, o2L, brI, brII, gl, s1, s2, k1, sl, go_sN, go_sR, go_CT, go_sT, go_no, go_if, pops, bk_v, bk_0, d225_0, d225_1, d225_2, d225_3, d225_4, d225_7, d225_8, d225_9, d225_10, d225_11, d225_14, d225_15, d225_18, d225_21, d225_24, d225_25, d225_26, d225_27, d225_29, d225_30, d225_33, d225_34, d225_35, d225_36, d225_37, d225_38, d225_41, d225_42, d225_43, d225_44, d225_45, d225_47, d225_48, d225_49, d225_51, d225_52, d225_55, d225_56, d225_59, d225_62, d225_65, d225_66, d225_67, d225_70, d225_71, d225_73, d225_74, d225_77, d225_78, d225_79, d225_82, d225_83, d225_84, d225_87, d225_90, d225_93, n_lt, n_le, n_eq, n_lt0, n_ge0, n_gt0, n_le0, n_eq0, m_lt, m_le, m_gt, m_ge, m_eq, m_eq', m_lt0, m_ge0, m_gt0, m_le0, m_ltm, m_lem, n_in, m_in, n_cl, n_ti, n_div, n_rem', n_dec, n_l, nI_add, pk_mul, an0, an1, decide_eq_true_eq, if_true, if_false, ite_true, ite_false, and_true, true_and, and_false, false_and, not_true, not_false_iff, or_false, false_or, or_true, true_or, eq_self, va_some, Bool.false_eq_true, reduceIte, catS_n, catS_i, catS_r, catS_l, catS_d, Nat.zero_add, Nat.add_zero, decide_true, decide_false, Nat.reduceLeDiff, cat_r, cat_i, cat_l, nle_T, nle_F, nlt_T, nlt_F, neq_T, neq_F]
  | succ m ih =>
    intro r hr
    have hc := hcm r (by omega)
    rw [← ih (r + 1) (by omega), mxs_s, X_go, d225_72]
    simp (disch := first | assumption | omega) only [Nat.reduceAdd, X_go, go2_some, stp, ldI, ldA, ldL, stI, stA, stL, o1I, o2I, o2L, brI, brII, gl, s1, s2, k1, sl, go_sN, go_sR, go_CT, go_sT, go_no, go_if, pops, bk_v, bk_0, d225_0, d225_1, d225_2, d225_3, d225_4, d225_7, d225_8, d225_9, d225_10, d225_11, d225_14, d225_15, d225_18, d225_21, d225_24, d225_25, d225_26, d225_27, d225_29, d225_30, d225_33, d225_34, d225_35, d225_36, d225_37, d225_38, d225_41, d225_42, d225_43, d225_44, d225_45, d225_47, d225_48, d225_49, d225_51, d225_52, d225_55, d225_56, d225_59, d225_62, d225_65, d225_66, d225_67, d225_70, d225_71, d225_73, d225_74, d225_77, d225_78, d225_79, d225_82, d225_83, d225_84, d225_87, d225_90, d225_93, n_lt, n_le, n_eq, n_lt0, n_ge0, n_gt0, n_le0, n_eq0, m_lt, m_le, m_gt, m_ge, m_eq, m_eq', m_lt0, m_ge0, m_gt0, m_le0, m_ltm, m_lem, n_in, m_in, n_cl, n_ti, n_div, n_rem', n_dec, n_l, nI_add, pk_mul, an0, an1, decide_eq_true_eq, if_true, if_false, ite_true, ite_false, and_true, true_and, and_false, false_and, not_true, not_false_iff, or_false, false_or, or_true, true_or, eq_self, va_some, Bool.false_eq_true, reduceIte, catS_n, catS_i, catS_r, catS_l, catS_d, Nat.zero_add, Nat.add_zero, decide_true, decide_false, Nat.reduceLeDiff, cat_r, cat_i, cat_l, nle_T, nle_F, nlt_T, nlt_F, neq_T, neq_F, k0, r20, s20, xu_n, hc, c224 hM]
    done
theorem c225 {d : Nat} {P : MP} {I : MI} {L : ML} {C : MC} {t : Nat} {h : Int64} {g : GS} (hM : MB P) (hn : NR I g) (hv : TV g) (hl : LV g) (hd : 15 ≤ d) (ht : t < 3) : ∃ I' L', (∀ k j, k ≠ 150 → k < 155 ∨ 165 < k → I' k j = I k j) ∧ (∀ j, j ≠ 18 → I' 150 j = I 150 j) ∧ fml L L' ∧ ∀ Q, CT d 225 [.ref 150, .int (nI t)] P I (xu L 150 25 h) C Q = Q (.inl none) P I' (xu L' 150 25 (mxs (raV (chV g t)) 4 (tabM g t h))) C := by
  have k0 := hM.1.1
  have hc := hv.2.1 t ht
  obtain ⟨I', L', i1, i2, i3, ⟨i4, i6⟩, i5⟩ := c201 (d := d - 1) (L := xu L 150 25 (tabM g t h)) (C := C) hM hn hv hl (by omega) ht
  have h25 : L' 150 25 = tabM g t h := by rw [i6 _ (by omega), xu_s]
  refine ⟨I', L', i2, i3, fun k j q => by rw [i4 k j q, xu_n _ _ (by omega)], fun Q => ?_⟩
  have a1 := f225a (d := d - 1) (L := L) (C := C) (Q := Q) (h := h) hM hn hv hl (by omega) ht 4 0 (by omega)
  have a2 := f225b (d := d - 1) (L := L) (C := C) (Q := Q) (h := mxs (tF g t) 4 h) hM hn hv hl (by omega) ht (8 * g (3 + t)) 0 (by omega)
  have a3 := f225c (d := d - 1) (I := I') (L := L') (C := C) (Q := Q) (t := t) (h := tabM g t h) hM i1.2.1 (by omega) 4 0 (by omega)
  have e0 : ∀ (f : Nat → Int64) h, mxs f 0 h = h := fun _ _ => rfl
  rw [e0] at a1 a2 a3
  have e1 : mxs (eF g t) (8 * g (3 + t)) (mxs (tF g t) 4 h) = tabM g t h := rfl
  rw [e1] at a2
  rw [xu_id L' h25] at a3
  rw [CT_e (mj := 225) (e := [.ref 150, .int (nI t), UN]) (by omega) rfl (Nat.le_of_ble_eq_true rfl)]
  simp (disch := first | assumption | omega) only [Nat.reduceAdd, X_go, go2_some, stp, ldI, ldA, ldL, stI, stA, stL, o1I, o2I, o2L, brI, brII, gl, s1, s2, k1, sl, go_sN, go_sR, go_CT, go_sT, go_no, go_if, pops, bk_v, bk_0, d225_0, d225_1, d225_3, d225_4, d225_7, d225_8, d225_9, d225_10, d225_11, d225_14, d225_15, d225_18, d225_21, d225_25, d225_27, d225_29, d225_30, d225_33, d225_34, d225_35, d225_36, d225_37, d225_38, d225_41, d225_42, d225_43, d225_44, d225_45, d225_47, d225_48, d225_49, d225_51, d225_52, d225_55, d225_56, d225_59, d225_62, d225_66, d225_67, d225_70, d225_71, d225_73, d225_74, d225_77, d225_78, d225_79, d225_82, d225_83, d225_84, d225_87, d225_90, d225_93, n_lt, n_le, n_eq, n_lt0, n_ge0, n_gt0, n_le0, n_eq0, m_lt, m_le, m_gt, m_ge, m_eq, m_eq', m_lt0, m_ge0, m_gt0, m_le0, m_ltm, m_lem, n_in, m_in, n_cl, n_ti, n_div, n_rem', n_dec, n_l, nI_add, pk_mul, an0, an1, decide_eq_true_eq, if_true, if_false, ite_true, ite_false, and_true, true_and, and_false, false_and, not_true, not_false_iff, or_false, false_or, or_true, true_or, eq_self, va_some, Bool.false_eq_true, reduceIte, catS_n, catS_i, catS_r, catS_l, catS_d, Nat.zero_add, Nat.add_zero, decide_true, decide_false, Nat.reduceLeDiff, cat_r, cat_i, cat_l, nle_T, nle_F, nlt_T, nlt_F, neq_T, neq_F]
  simp only [← X_go]
  rw [a1, X_go, d225_24]
  simp (disch := first | assumption | omega) only [Nat.reduceAdd, X_go, go2_some, stp, ldI, ldA, ldL, stI, stA, stL, o1I, o2I, o2L, brI, brII, gl, s1, s2, k1, sl, go_sN, go_sR, go_CT, go_sT, go_no, go_if, pops, bk_v, bk_0, d225_0, d225_1, d225_3, d225_4, d225_7, d225_8, d225_9, d225_10, d225_11, d225_14, d225_15, d225_18, d225_21, d225_25, d225_27, d225_29, d225_30, d225_33, d225_34, d225_35, d225_36, d225_37, d225_38, d225_41, d225_42, d225_43, d225_44, d225_45, d225_47, d225_48, d225_49, d225_51, d225_52, d225_55, d225_56, d225_59, d225_62, d225_66, d225_67, d225_70, d225_71, d225_73, d225_74, d225_77, d225_78, d225_79, d225_82, d225_83, d225_84, d225_87, d225_90, d225_93, n_lt, n_le, n_eq, n_lt0, n_ge0, n_gt0, n_le0, n_eq0, m_lt, m_le, m_gt, m_ge, m_eq, m_eq', m_lt0, m_ge0, m_gt0, m_le0, m_ltm, m_lem, n_in, m_in, n_cl, n_ti, n_div, n_rem', n_dec, n_l, nI_add, pk_mul, an0, an1, decide_eq_true_eq, if_true, if_false, ite_true, ite_false, and_true, true_and, and_false, false_and, not_true, not_false_iff, or_false, false_or, or_true, true_or, eq_self, va_some, Bool.false_eq_true, reduceIte, catS_n, catS_i, catS_r, catS_l, catS_d, Nat.zero_add, Nat.add_zero, decide_true, decide_false, Nat.reduceLeDiff, cat_r, cat_i, cat_l, nle_T, nle_F, nlt_T, nlt_F, neq_T, neq_F]
  simp only [← X_go]
  rw [a2, X_go, d225_65]
  simp (disch := first | assumption | omega) only [Nat.reduceAdd, X_go, go2_some, stp, ldI, ldA, ldL, stI, stA, stL, o1I, o2I, o2L, brI, brII, gl, s1, s2, k1, sl, go_sN, go_sR, go_CT, go_sT, go_no, go_if, pops, bk_v, bk_0, d225_0, d225_1, d225_3, d225_4, d225_7, d225_8, d225_9, d225_10, d225_11, d225_14, d225_15, d225_18, d225_21, d225_25, d225_27, d225_29, d225_30, d225_33, d225_34, d225_35, d225_36, d225_37, d225_38, d225_41, d225_42, d225_43, d225_44, d225_45, d225_47, d225_48, d225_49, d225_51, d225_52, d225_55, d225_56, d225_59, d225_62, d225_66, d225_67, d225_70, d225_71, d225_73, d225_74, d225_77, d225_78, d225_79, d225_82, d225_83, d225_84, d225_87, d225_90, d225_93, n_lt, n_le, n_eq, n_lt0, n_ge0, n_gt0, n_le0, n_eq0, m_lt, m_le, m_gt, m_ge, m_eq, m_eq', m_lt0, m_ge0, m_gt0, m_le0, m_ltm, m_lem, n_in, m_in, n_cl, n_ti, n_div, n_rem', n_dec, n_l, nI_add, pk_mul, an0, an1, decide_eq_true_eq, if_true, if_false, ite_true, ite_false, and_true, true_and, and_false, false_and, not_true, not_false_iff, or_false, false_or, or_true, true_or, eq_self, va_some, Bool.false_eq_true, reduceIte, catS_n, catS_i, catS_r, catS_l, catS_d, Nat.zero_add, Nat.add_zero, decide_true, decide_false, Nat.reduceLeDiff, cat_r, cat_i, cat_l, nle_T, nle_F, nlt_T, nlt_F, neq_T, neq_F, k0, i5]
  simp only [← X_go]
  exact a3
theorem d223_0 : dec 223 0 = some (.aload_n 0, 1, []) := rfl
theorem d223_1 : dec 223 1 = some (.iconst 0, 1, [0]) := rfl
theorem d223_2 : dec 223 2 = some (.putfield 65, 3, [1, 10, 4, 0, 0, 998]) := rfl
theorem d223_5 : dec 223 5 = some (.aload_n 0, 1, []) := rfl
theorem d223_6 : dec 223 6 = some (.ldc2_w 255, 3, [9, 3361, 1364]) := rfl
theorem d223_9 : dec 223 9 = some (.putfield 248, 3, [1, 10, 25, 1, 0, 1019]) := rfl
theorem d223_12 : dec 223 12 = some (.aload_n 0, 1, []) := rfl
theorem d223_13 : dec 223 13 = some (.aload_n 0, 1, []) := rfl
theorem d223_14 : dec 223 14 = some (.getfield 218, 3, [1, 10, 6, 0, 0, 1000]) := rfl
theorem d223_17 : dec 223 17 = some (.i2l, 1, []) := rfl
theorem d223_18 : dec 223 18 = some (.invokevirtual 251, 3, [2, 224, 2, 10, 0, 1365, 1]) := rfl
theorem d223_21 : dec 223 21 = some (.iconst 0, 1, [0]) := rfl
theorem d223_22 : dec 223 22 = some (.istore_n 1, 1, []) := rfl
theorem d223_23 : dec 223 23 = some (.iload_n 1, 1, []) := rfl
theorem d223_24 : dec 223 24 = some (.bipush 8, 2, [8]) := rfl
theorem d223_26 : dec 223 26 = some (.if_icmp .ge 19, 3, [45]) := rfl
theorem d223_29 : dec 223 29 = some (.aload_n 0, 1, []) := rfl
theorem d223_30 : dec 223 30 = some (.aload_n 0, 1, []) := rfl
theorem d223_31 : dec 223 31 = some (.iload_n 1, 1, []) := rfl
theorem d223_32 : dec 223 32 = some (.invokevirtual 154, 3, [2, 188, 2, 10, 0, 1214, 0]) := rfl
theorem d223_35 : dec 223 35 = some (.i2l, 1, []) := rfl
theorem d223_36 : dec 223 36 = some (.invokevirtual 251, 3, [2, 224, 2, 10, 0, 1365, 1]) := rfl
theorem d223_39 : dec 223 39 = some (.iinc 1 1, 3, [1]) := rfl
theorem d223_42 : dec 223 42 = some (.goto (-19), 3, [23]) := rfl
theorem d223_45 : dec 223 45 = some (.iconst 1, 1, [1]) := rfl
theorem d223_46 : dec 223 46 = some (.istore_n 1, 1, []) := rfl
theorem d223_47 : dec 223 47 = some (.iload_n 1, 1, []) := rfl
theorem d223_48 : dec 223 48 = some (.iconst 4, 1, [4]) := rfl
theorem d223_49 : dec 223 49 = some (.if_icmp .ge 37, 3, [86]) := rfl
theorem d223_52 : dec 223 52 = some (.aload_n 0, 1, []) := rfl
theorem d223_53 : dec 223 53 = some (.aload_n 0, 1, []) := rfl
theorem d223_54 : dec 223 54 = some (.getfield 7, 3, [1, 10, 0, 2, 0, 994]) := rfl
theorem d223_57 : dec 223 57 = some (.bipush 113, 2, [113]) := rfl
theorem d223_59 : dec 223 59 = some (.iload_n 1, 1, []) := rfl
theorem d223_60 : dec 223 60 = some (.iadd, 1, []) := rfl
theorem d223_61 : dec 223 61 = some (.iaload, 1, []) := rfl
theorem d223_62 : dec 223 62 = some (.i2l, 1, []) := rfl
theorem d223_63 : dec 223 63 = some (.invokevirtual 251, 3, [2, 224, 2, 10, 0, 1365, 1]) := rfl
theorem d223_66 : dec 223 66 = some (.aload_n 0, 1, []) := rfl
theorem d223_67 : dec 223 67 = some (.aload_n 0, 1, []) := rfl
theorem d223_68 : dec 223 68 = some (.getfield 7, 3, [1, 10, 0, 2, 0, 994]) := rfl
theorem d223_71 : dec 223 71 = some (.bipush 116, 2, [116]) := rfl
theorem d223_73 : dec 223 73 = some (.iload_n 1, 1, []) := rfl
theorem d223_74 : dec 223 74 = some (.iadd, 1, []) := rfl
theorem d223_75 : dec 223 75 = some (.iaload, 1, []) := rfl
theorem d223_76 : dec 223 76 = some (.i2l, 1, []) := rfl
theorem d223_77 : dec 223 77 = some (.invokevirtual 251, 3, [2, 224, 2, 10, 0, 1365, 1]) := rfl
theorem d223_80 : dec 223 80 = some (.iinc 1 1, 3, [1]) := rfl
theorem d223_83 : dec 223 83 = some (.goto (-36), 3, [47]) := rfl
theorem d223_86 : dec 223 86 = some (.iconst 0, 1, [0]) := rfl
theorem d223_87 : dec 223 87 = some (.istore_n 1, 1, []) := rfl
theorem d223_88 : dec 223 88 = some (.iload_n 1, 1, []) := rfl
theorem d223_89 : dec 223 89 = some (.iconst 3, 1, [3]) := rfl
theorem d223_90 : dec 223 90 = some (.if_icmp .ge 14, 3, [104]) := rfl
theorem d223_93 : dec 223 93 = some (.aload_n 0, 1, []) := rfl
theorem d223_94 : dec 223 94 = some (.iload_n 1, 1, []) := rfl
theorem d223_95 : dec 223 95 = some (.invokevirtual 257, 3, [2, 225, 2, 10, 0, 1370, 0]) := rfl
theorem d223_98 : dec 223 98 = some (.iinc 1 1, 3, [1]) := rfl
theorem d223_101 : dec 223 101 = some (.goto (-13), 3, [88]) := rfl
theorem d223_104 : dec 223 104 = some (.iconst 0, 1, [0]) := rfl
theorem d223_105 : dec 223 105 = some (.istore_n 1, 1, []) := rfl
theorem d223_106 : dec 223 106 = some (.iload_n 1, 1, []) := rfl
theorem d223_107 : dec 223 107 = some (.bipush 16, 2, [16]) := rfl
theorem d223_109 : dec 223 109 = some (.if_icmp .ge 23, 3, [132]) := rfl
theorem d223_112 : dec 223 112 = some (.aload_n 0, 1, []) := rfl
theorem d223_113 : dec 223 113 = some (.aload_n 0, 1, []) := rfl
theorem d223_114 : dec 223 114 = some (.getfield 7, 3, [1, 10, 0, 2, 0, 994]) := rfl
theorem d223_117 : dec 223 117 = some (.bipush 124, 2, [124]) := rfl
theorem d223_119 : dec 223 119 = some (.iload_n 1, 1, []) := rfl
theorem d223_120 : dec 223 120 = some (.iadd, 1, []) := rfl
theorem d223_121 : dec 223 121 = some (.iaload, 1, []) := rfl
theorem d223_122 : dec 223 122 = some (.i2l, 1, []) := rfl
theorem d223_123 : dec 223 123 = some (.invokevirtual 251, 3, [2, 224, 2, 10, 0, 1365, 1]) := rfl
theorem d223_126 : dec 223 126 = some (.iinc 1 1, 3, [1]) := rfl
theorem d223_129 : dec 223 129 = some (.goto (-23), 3, [106]) := rfl
theorem d223_132 : dec 223 132 = some (.iconst 0, 1, [0]) := rfl
theorem d223_133 : dec 223 133 = some (.istore_n 1, 1, []) := rfl
theorem d223_134 : dec 223 134 = some (.iload_n 1, 1, []) := rfl
theorem d223_135 : dec 223 135 = some (.iconst 3, 1, [3]) := rfl
theorem d223_136 : dec 223 136 = some (.aload_n 0, 1, []) := rfl
theorem d223_137 : dec 223 137 = some (.getfield 7, 3, [1, 10, 0, 2, 0, 994]) := rfl
theorem d223_140 : dec 223 140 = some (.sipush 140, 3, [140]) := rfl
theorem d223_143 : dec 223 143 = some (.iaload, 1, []) := rfl
theorem d223_144 : dec 223 144 = some (.imul, 1, []) := rfl
theorem d223_145 : dec 223 145 = some (.if_icmp .ge 24, 3, [169]) := rfl
theorem d223_148 : dec 223 148 = some (.aload_n 0, 1, []) := rfl
theorem d223_149 : dec 223 149 = some (.aload_n 0, 1, []) := rfl
theorem d223_150 : dec 223 150 = some (.getfield 7, 3, [1, 10, 0, 2, 0, 994]) := rfl
theorem d223_153 : dec 223 153 = some (.sipush 141, 3, [141]) := rfl
theorem d223_156 : dec 223 156 = some (.iload_n 1, 1, []) := rfl
theorem d223_157 : dec 223 157 = some (.iadd, 1, []) := rfl
theorem d223_158 : dec 223 158 = some (.iaload, 1, []) := rfl
theorem d223_159 : dec 223 159 = some (.i2l, 1, []) := rfl
theorem d223_160 : dec 223 160 = some (.invokevirtual 251, 3, [2, 224, 2, 10, 0, 1365, 1]) := rfl
theorem d223_163 : dec 223 163 = some (.iinc 1 1, 3, [1]) := rfl
theorem d223_166 : dec 223 166 = some (.goto (-32), 3, [134]) := rfl
theorem d223_169 : dec 223 169 = some (.aload_n 0, 1, []) := rfl
theorem d223_170 : dec 223 170 = some (.aload_n 0, 1, []) := rfl
theorem d223_171 : dec 223 171 = some (.getfield 69, 3, [1, 10, 3, 0, 0, 997]) := rfl
theorem d223_174 : dec 223 174 = some (.i2l, 1, []) := rfl
theorem d223_175 : dec 223 175 = some (.invokevirtual 251, 3, [2, 224, 2, 10, 0, 1365, 1]) := rfl
theorem d223_178 : dec 223 178 = some (.aload_n 0, 1, []) := rfl
theorem d223_179 : dec 223 179 = some (.getfield 248, 3, [1, 10, 25, 1, 0, 1019]) := rfl
theorem d223_182 : dec 223 182 = some (.lreturn, 1, []) := rfl
theorem l223 : mL 223 = 2 := rfl
theorem f223a {d : Nat} {P : MP} {I : MI} {L : ML} {C : MC} {Q : QT} {h : Int64} {g : GS} {B : Nat} (hM : MB P) (hn : NR I g) (hGV : GV B g) (hB : B ≤ 1000000) (hd : 6 ≤ d) : ∀ m w, w + m = 8 → X d 223 23 [.ref 150, .int (nI w)] [] P I (xu L 150 25 (mxs (vF g) w h)) C Q = X d 223 45 [.ref 150, .int (nI 8)] [] P I (xu L 150 25 (mxs (vF g) 8 h)) C Q := by
  have k0 := hM.1.1
  intro m
  induction m with
  | zero =>
    intro w hw
    have : w = 8 := by omega
    subst this
    rw [X_go, d223_23]
    simp (disch := first | assumption | omega) only [Nat.reduceAdd, X_go, go2_some, stp, ldI, ldA, ldL, stI, stA, stL, o1I, o2I, o2L, brI, brII, gl, s1, s2, k1, sl, go_sN, go_sR, go_CT, go_sT, go_no, go_if, pops, bk_v, bk_0, d223_0, d223_1, d223_2, d223_5, d223_6, d223_9, d223_12, d223_13, d223_14, d223_17, d223_18, d223_21, d223_22, d223_24, d223_26, d223_29, d223_30, d223_31, d223_32, d223_35, d223_36, d223_39, d223_42, d223_46, d223_47, d223_48, d223_49, d223_52, d223_53, d223_54, d223_57, d223_59, d223_60, d223_61, d223_62, d223_63, d223_66, d223_67, d223_68, d223_71, d223_73, d223_74, d223_75, d223_76, d223_77, d223_80, d223_83, d223_86, d223_87, d223_88, d223_89, d223_90, d223_93, d223_94, d223_95, d223_98, d223_101, d223_104, d223_105, d223_106, d223_107, d223_109, d223_112, d223_113, d223_114, d223_117, d223_119, d223_120, d223_121, d223_122, d223_123, d223_126, d223_129, d223_132, d223_133, d223_134, d223_135, d223_136, d223_137, d223_140, d223_143, d223_144, d223_145, d223_148, d223_149, d223_150, d223_153, d223_156, d223_157, d223_158, d223_159, d223_160, d223_163, d223_166, d223_169, d223_170, d223_171, d223_174, d223_175, d223_178, d223_179, d223_182, n_lt, n_le, n_eq, n_lt0, n_ge0, n_gt0, n_le0, n_eq0, m_lt, m_le, m_gt, m_ge, m_eq, m_eq', m_lt0, m_ge0, m_gt0, m_le0, m_ltm, m_lem, n_in, m_in, n_cl, n_ti, n_div, n_rem', n_dec, n_l, nI_add, pk_mul, an0, an1, decide_eq_true_eq, if_true, if_false, ite_true, ite_false, and_true, true_and, and_false, false_and, not_true, not_false_iff, or_false, false_or, or_true, true_or, eq_self, va_some, Bool.false_eq_true, reduceIte, catS_n, catS_i, catS_r, catS_l, catS_d, Nat.zero_add, Nat.add_zero, decide_true, decide_false, Nat.reduceLeDiff, cat_r, cat_i, cat_l, nle_T, nle_F, nlt_T, nlt_F, neq_T, neq_F]
  | succ m ih =>
    intro w hw
    have e1 : (nI (vV g w)).toInt64 = vF g w := rfl
    rw [← ih (w + 1) (by omega), mxs_s, X_go, d223_23]
    simp (disch := first | assumption | omega) only [Nat.reduceAdd, X_go, go2_some, stp, ldI, ldA, ldL, stI, stA, stL, o1I, o2I, o2L, brI, brII, gl, s1, s2, k1, sl, go_sN, go_sR, go_CT, go_sT, go_no, go_if, pops, bk_v, bk_0, d223_0, d223_1, d223_2, d223_5, d223_6, d223_9, d223_12, d223_13, d223_14, d223_17, d223_18, d223_21, d223_22, d223_24, d223_26, d223_29, d223_30, d223_31, d223_32, d223_35, d223_36, d223_39, d223_42, d223_46, d223_47, d223_48, d223_49, d223_52, d223_53, d223_54, d223_57, d223_59, d223_60, d223_61, d223_62, d223_63, d223_66, d223_67, d223_68, d223_71, d223_73, d223_74, d223_75, d223_76, d223_77, d223_80, d223_83, d223_86, d223_87, d223_88, d223_89, d223_90, d223_93, d223_94, d223_95, d223_98, d223_101, d223_104, d223_105, d223_106, d223_107, d223_109, d223_112, d223_113, d223_114, d223_117, d223_119, d223_120, d223_121, d223_122, d223_123, d223_126, d223_129, d223_132, d223_133, d223_134, d223_135, d223_136, d223_137, d223_140, d223_143, d223_144, d223_145, d223_148, d223_149, d223_150, d223_153, d223_156, d223_157, d223_158, d223_159, d223_160, d223_163, d223_166, d223_169, d223_170, d223_171, d223_174, d223_175, d223_178, d223_179, d223_182, n_lt, n_le, n_eq, n_lt0, n_ge0, n_gt0, n_le0, n_eq0, m_lt, m_le, m_gt, m_ge, m_eq, m_eq', m_lt0, m_ge0, m_gt0, m_le0, m_ltm, m_lem, n_in, m_in, n_cl, n_ti, n_div, n_rem', n_dec, n_l, nI_add, pk_mul, an0, an1, decide_eq_true_eq, if_true, if_false, ite_true, ite_false, and_true, true_and, and_false, false_and, not_true, not_false_iff, or_false, false_or, or_true, true_or, eq_self, va_some, Bool.false_eq_true, reduceIte, catS_n, catS_i, catS_r, catS_l, catS_d, Nat.zero_add, Nat.add_zero, decide_true, decide_false, Nat.reduceLeDiff, cat_r, cat_i, cat_l, nle_T, nle_F, nlt_T, nlt_F, neq_T, neq_F, k0, c188 hM hn hGV hB, e1, c224 hM]
    done
theorem f223b {d : Nat} {P : MP} {I : MI} {L : ML} {C : MC} {Q : QT} {h : Int64} {g : GS} (hM : MB P) (hn : NR I g) (hd : 6 ≤ d) : ∀ m i, i + m = 3 → X d 223 47 [.ref 150, .int (nI (i + 1))] [] P I (xu L 150 25 (mxs (coF g) (2 * i) h)) C Q = X d 223 86 [.ref 150, .int (nI 4)] [] P I (xu L 150 25 (mxs (coF g) 6 h)) C Q := by
  obtain ⟨⟨k0, p0, p1, p2, p5, y1, _⟩, _⟩ := id hM
  intro m
  induction m with
  | zero =>
    intro i hi
    have : i = 3 := by omega
    subst this
    rw [X_go, d223_47]
    simp (disch := first | assumption | omega) only [Nat.reduceAdd, X_go, go2_some, stp, ldI, ldA, ldL, stI, stA, stL, o1I, o2I, o2L, brI, brII, gl, s1, s2, k1, sl, go_sN, go_sR, go_CT, go_sT, go_no, go_if, pops, bk_v, bk_0, d223_0, d223_1, d223_2, d223_5, d223_6, d223_9, d223_12, d223_13, d223_14, d223_17, d223_18, d223_21, d223_22, d223_23, d223_24, d223_26, d223_29, d223_30, d223_31, d223_32, d223_35, d223_36, d223_39, d223_42, d223_45, d223_46, d223_48, d223_49, d223_52, d223_53, d223_54, d223_57, d223_59, d223_60, d223_61, d223_62, d223_63, d223_66, d223_67, d223_68, d223_71, d223_73, d223_74, d223_75, d223_76, d223_77, d223_80, d223_83, d223_87, d223_88, d223_89, d223_90, d223_93, d223_94, d223_95, d223_98, d223_101, d223_104, d223_105, d223_106, d223_107, d223_109, d223_112, d223_113, d223_114, d223_117, d223_119, d223_120, d223_121, d223_122, d223_123, d223_126, d223_129, d223_132, d223_133, d223_134, d223_135, d223_136, d223_137, d223_140, d223_143, d223_144, d223_145, d223_148, d223_149, d223_150, d223_153, d223_156, d223_157, d223_158, d223_159, d223_160, d223_163, d223_166, d223_169, d223_170, d223_171, d223_174, d223_175, d223_178, d223_179, d223_182, n_lt, n_le, n_eq, n_lt0, n_ge0, n_gt0, n_le0, n_eq0, m_lt, m_le, m_gt, m_ge, m_eq, m_eq', m_lt0, m_ge0, m_gt0, m_le0, m_ltm, m_lem, n_in, m_in, n_cl, n_ti, n_div, n_rem', n_dec, n_l, nI_add, pk_mul, an0, an1, decide_eq_true_eq, if_true, if_false, ite_true, ite_false, and_true, true_and, and_false, false_and, not_true, not_false_iff, or_false, false_or, or_true, true_or, eq_self, va_some, Bool.false_eq_true, reduceIte, catS_n, catS_i, catS_r, catS_l, catS_d, Nat.zero_add, Nat.add_zero, decide_true, decide_false, Nat.reduceLeDiff, cat_r, cat_i, cat_l, nle_T, nle_F, nlt_T, nlt_F, neq_T, neq_F]
  | succ m ih =>
    intro i hi
    have a1 := hn (114 + i) (by omega)
    have a2 := hn (117 + i) (by omega)
    have q1 : 113 + (i + 1) = 114 + i := by omega
    have q2 : 116 + (i + 1) = 117 + i := by omega
    have e1 : (nI (g (114 + i))).toInt64 = coF g (2 * i) := by
      unfold coF
      rw [if_pos (by omega), show 2 * i / 2 = i by omega]
    have e2 : (nI (g (117 + i))).toInt64 = coF g (2 * i + 1) := by
      unfold coF
      rw [if_neg (by omega), show (2 * i + 1) / 2 = i by omega]
    rw [← ih (i + 1) (by omega), show 2 * (i + 1) = 2 * i + 1 + 1 by omega, mxs_s, mxs_s, X_go, d223_47]
    simp (disch := first | assumption | omega) only [Nat.reduceAdd, X_go, go2_some, stp, ldI, ldA, ldL, stI, stA, stL, o1I, o2I, o2L, brI, brII, gl, s1, s2, k1, sl, go_sN, go_sR, go_CT, go_sT, go_no, go_if, pops, bk_v, bk_0, d223_0, d223_1, d223_2, d223_5, d223_6, d223_9, d223_12, d223_13, d223_14, d223_17, d223_18, d223_21, d223_22, d223_23, d223_24, d223_26, d223_29, d223_30, d223_31, d223_32, d223_35, d223_36, d223_39, d223_42, d223_45, d223_46, d223_48, d223_49, d223_52, d223_53, d223_54, d223_57, d223_59, d223_60, d223_61, d223_62, d223_63, d223_66, d223_67, d223_68, d223_71, d223_73, d223_74, d223_75, d223_76, d223_77, d223_80, d223_83, d223_87, d223_88, d223_89, d223_90, d223_93, d223_94, d223_95, d223_98, d223_101, d223_104, d223_105, d223_106, d223_107, d223_109, d223_112, d223_113, d223_114, d223_117, d223_119, d223_120, d223_121, d223_122, d223_123, d223_126, d223_129, d223_132, d223_133, d223_134, d223_135, d223_136, d223_137, d223_140, d223_143, d223_144, d223_145, d223_148, d223_149, d223_150, d223_153, d223_156, d223_157, d223_158, d223_159, d223_160, d223_163, d223_166, d223_169, d223_170, d223_171, d223_174, d223_175, d223_178, d223_179, d223_182, n_lt, n_le, n_eq, n_lt0, n_ge0, n_gt0, n_le0, n_eq0, m_lt, m_le, m_gt, m_ge, m_eq, m_eq', m_lt0, m_ge0, m_gt0, m_le0, m_ltm, m_lem, n_in, m_in, n_cl, n_ti, n_div, n_rem', n_dec, n_l, nI_add, pk_mul, an0, an1, decide_eq_true_eq, if_true, if_false, ite_true, ite_false, and_true, true_and, and_false, false_and, not_true, not_false_iff, or_false, false_or, or_true, true_or, eq_self, va_some, Bool.false_eq_true, reduceIte, catS_n, catS_i, catS_r, catS_l, catS_d, Nat.zero_add, Nat.add_zero, decide_true, decide_false, Nat.reduceLeDiff, cat_r, cat_i, cat_l, nle_T, nle_F, nlt_T, nlt_F, neq_T, neq_F, k0, p0, y1, q1, q2, a1, a2, e1, e2, c224 hM]
    done
theorem f223c {d : Nat} {P : MP} {C : MC} {h : Int64} {g : GS} (hM : MB P) (hv : TV g) (hl : LV g) (hd : 15 ≤ d) : ∀ m t (I : MI) (L : ML), t + m = 3 → NR I g → ∃ I' L', NR I' g ∧ (∀ k j, k ≠ 150 → k < 155 ∨ 165 < k → I' k j = I k j) ∧ (∀ j, j ≠ 18 → I' 150 j = I 150 j) ∧ fml L L' ∧ ∀ Q, X d 223 88 [.ref 150, .int (nI t)] [] P I (xu L 150 25 (dgT g t h)) C Q = X d 223 104 [.ref 150, .int (nI 3)] [] P I' (xu L' 150 25 (dgT g 3 h)) C Q := by
  have k0 := hM.1.1
  intro m
  induction m with
  | zero =>
    intro t I L ht hn
    have : t = 3 := by omega
    subst this
    refine ⟨I, L, hn, fun _ _ _ _ => rfl, fun _ _ => rfl, fun _ _ _ => rfl, fun Q => ?_⟩
    rw [X_go, d223_88]
    simp (disch := first | assumption | omega) only [Nat.reduceAdd, X_go, go2_some, stp, ldI, ldA, ldL, stI, stA, stL, o1I, o2I, o2L, brI, brII, gl, s1, s2, k1, sl, go_sN, go_sR, go_CT, go_sT, go_no, go_if, pops, bk_v, bk_0, d223_0, d223_1, d223_2, d223_5, d223_6, d223_9, d223_12, d223_13, d223_14, d223_17, d223_18, d223_21, d223_22, d223_23, d223_24, d223_26, d223_29, d223_30, d223_31, d223_32, d223_35, d223_36, d223_39, d223_42, d223_45, d223_46, d223_47, d223_48, d223_49, d223_52, d223_53, d223_54, d223_57, d223_59, d223_60, d223_61, d223_62, d223_63, d223_66, d223_67, d223_68, d223_71, d223_73, d223_74, d223_75, d223_76, d223_77, d223_80, d223_83, d223_86, d223_87, d223_89, d223_90, d223_93, d223_94, d223_95, d223_98, d223_101, d223_105, d223_106, d223_107, d223_109, d223_112, d223_113, d223_114, d223_117, d223_119, d223_120, d223_121, d223_122, d223_123, d223_126, d223_129, d223_132, d223_133, d223_134, d223_135, d223_136, d223_137, d223_140, d223_143, d223_144, d223_145, d223_148, d223_149, d223_150, d223_153, d223_156, d223_157, d223_158, d223_159, d223_160, d223_163, d223_166, d223_169, d223_170, d223_171, d223_174, d223_175, d223_178, d223_179, d223_182, n_lt, n_le, n_eq, n_lt0, n_ge0, n_gt0, n_le0, n_eq0, m_lt, m_le, m_gt, m_ge, m_eq, m_eq', m_lt0, m_ge0, m_gt0, m_le0, m_ltm, m_lem, n_in, m_in, n_cl, n_ti, n_div, n_rem', n_dec, n_l, nI_add, pk_mul, an0, an1, decide_eq_true_eq, if_true, if_false, ite_true, ite_false, and_true, true_and, and_false, false_and, not_true, not_false_iff, or_false, false_or, or_true, true_or, eq_self, va_some, Bool.false_eq_true, reduceIte, catS_n, catS_i, catS_r, catS_l, catS_d, Nat.zero_add, Nat.add_zero, decide_true, decide_false, Nat.reduceLeDiff, cat_r, cat_i, cat_l, nle_T, nle_F, nlt_T, nlt_F, neq_T, neq_F]
  | succ m ih =>
    intro t I L ht hn
    obtain ⟨J, L1, i1, i2, i3, i4⟩ := c225 (d := d) (L := L) (C := C) (h := dgT g t h) hM hn hv hl (by omega) (show t < 3 by omega)
    have hnJ : NR J g := NR_fr hn fun j => i1 _ _ (by omega) (by omega)
    obtain ⟨I', L', a1, a2, a3, a4, a5⟩ := ih (t + 1) J L1 (by omega) hnJ
    refine ⟨I', L', a1, fun k j q1 q2 => by rw [a2 k j q1 q2, i1 k j q1 q2], fun j q => by rw [a3 j q, i2 j q], fun k j q => by rw [a4 k j q, i3 k j q], fun Q => ?_⟩
    have a5 := a5 Q
    have e1 : dgT g (t + 1) h = mxs (raV (chV g t)) 4 (tabM g t (dgT g t h)) := rfl
    rw [e1] at a5
    rw [← a5, X_go, d223_88]
    simp (disch := first | assumption | omega) only [Nat.reduceAdd, X_go, go2_some, stp, ldI, ldA, ldL, stI, stA, stL, o1I, o2I, o2L, brI, brII, gl, s1, s2, k1, sl, go_sN, go_sR, go_CT, go_sT, go_no, go_if, pops, bk_v, bk_0, d223_0, d223_1, d223_2, d223_5, d223_6, d223_9, d223_12, d223_13, d223_14, d223_17, d223_18, d223_21, d223_22, d223_23, d223_24, d223_26, d223_29, d223_30, d223_31, d223_32, d223_35, d223_36, d223_39, d223_42, d223_45, d223_46, d223_47, d223_48, d223_49, d223_52, d223_53, d223_54, d223_57, d223_59, d223_60, d223_61, d223_62, d223_63, d223_66, d223_67, d223_68, d223_71, d223_73, d223_74, d223_75, d223_76, d223_77, d223_80, d223_83, d223_86, d223_87, d223_89, d223_90, d223_93, d223_94, d223_95, d223_98, d223_101, d223_105, d223_106, d223_107, d223_109, d223_112, d223_113, d223_114, d223_117, d223_119, d223_120, d223_121, d223_122, d223_123, d223_126, d223_129, d223_132, d223_133, d223_134, d223_135, d223_136, d223_137, d223_140, d223_143, d223_144, d223_145, d223_148, d223_149, d223_150, d223_153, d223_156, d223_157, d223_158, d223_159, d223_160, d223_163, d223_166, d223_169, d223_170, d223_171, d223_174, d223_175, d223_178, d223_179, d223_182, n_lt, n_le, n_eq, n_lt0, n_ge0, n_gt0, n_le0, n_eq0, m_lt, m_le, m_gt, m_ge, m_eq, m_eq', m_lt0, m_ge0, m_gt0, m_le0, m_ltm, m_lem, n_in, m_in, n_cl, n_ti, n_div, n_rem', n_dec, n_l, nI_add, pk_mul, an0, an1, decide_eq_true_eq, if_true, if_false, ite_true, ite_false, and_true, true_and, and_false, false_and, not_true, not_false_iff, or_false, false_or, or_true, true_or, eq_self, va_some, Bool.false_eq_true, reduceIte, catS_n, catS_i, catS_r, catS_l, catS_d, Nat.zero_add, Nat.add_zero, decide_true, decide_false, Nat.reduceLeDiff, cat_r, cat_i, cat_l, nle_T, nle_F, nlt_T, nlt_F, neq_T, neq_F, k0, i4]
    done
theorem f223d {d : Nat} {P : MP} {I : MI} {L : ML} {C : MC} {Q : QT} {h : Int64} {g : GS} (hM : MB P) (hn : NR I g) (hd : 6 ≤ d) : ∀ m i, i + m = 16 → X d 223 106 [.ref 150, .int (nI i)] [] P I (xu L 150 25 (mxs (oF g) i h)) C Q = X d 223 132 [.ref 150, .int (nI 16)] [] P I (xu L 150 25 (mxs (oF g) 16 h)) C Q := by
  obtain ⟨⟨k0, p0, p1, p2, p5, y1, _⟩, _⟩ := id hM
  intro m
  induction m with
  | zero =>
    intro i hi
    have : i = 16 := by omega
    subst this
    rw [X_go, d223_106]
    simp (disch := first | assumption | omega) only [Nat.reduceAdd, X_go, go2_some, stp, ldI, ldA, ldL, stI, stA, stL, o1I, o2I, o2L, brI, brII, gl, s1, s2, k1, sl, go_sN, go_sR, go_CT, go_sT, go_no, go_if, pops, bk_v, bk_0, d223_0, d223_1, d223_2, d223_5, d223_6, d223_9, d223_12, d223_13, d223_14, d223_17, d223_18, d223_21, d223_22, d223_23, d223_24, d223_26, d223_29, d223_30, d223_31, d223_32, d223_35, d223_36, d223_39, d223_42, d223_45, d223_46, d223_47, d223_48, d223_49, d223_52, d223_53, d223_54, d223_57, d223_59, d223_60, d223_61, d223_62, d223_63, d223_66, d223_67, d223_68, d223_71, d223_73, d223_74, d223_75, d223_76, d223_77, d223_80, d223_83, d223_86, d223_87, d223_88, d223_89, d223_90, d223_93, d223_94, d223_95, d223_98, d223_101, d223_104, d223_105, d223_107, d223_109, d223_112, d223_113, d223_114, d223_117, d223_119, d223_120, d223_121, d223_122, d223_123, d223_126, d223_129, d223_133, d223_134, d223_135, d223_136, d223_137, d223_140, d223_143, d223_144, d223_145, d223_148, d223_149, d223_150, d223_153, d223_156, d223_157, d223_158, d223_159, d223_160, d223_163, d223_166, d223_169, d223_170, d223_171, d223_174, d223_175, d223_178, d223_179, d223_182, n_lt, n_le, n_eq, n_lt0, n_ge0, n_gt0, n_le0, n_eq0, m_lt, m_le, m_gt, m_ge, m_eq, m_eq', m_lt0, m_ge0, m_gt0, m_le0, m_ltm, m_lem, n_in, m_in, n_cl, n_ti, n_div, n_rem', n_dec, n_l, nI_add, pk_mul, an0, an1, decide_eq_true_eq, if_true, if_false, ite_true, ite_false, and_true, true_and, and_false, false_and, not_true, not_false_iff, or_false, false_or, or_true, true_or, eq_self, va_some, Bool.false_eq_true, reduceIte, catS_n, catS_i, catS_r, catS_l, catS_d, Nat.zero_add, Nat.add_zero, decide_true, decide_false, Nat.reduceLeDiff, cat_r, cat_i, cat_l, nle_T, nle_F, nlt_T, nlt_F, neq_T, neq_F]
  | succ m ih =>
    intro i hi
    have a1 := hn (124 + i) (by omega)
    have e1 : (nI (g (124 + i))).toInt64 = oF g i := rfl
    rw [← ih (i + 1) (by omega), mxs_s, X_go, d223_106]
    simp (disch := first | assumption | omega) only [Nat.reduceAdd, X_go, go2_some, stp, ldI, ldA, ldL, stI, stA, stL, o1I, o2I, o2L, brI, brII, gl, s1, s2, k1, sl, go_sN, go_sR, go_CT, go_sT, go_no, go_if, pops, bk_v, bk_0, d223_0, d223_1, d223_2, d223_5, d223_6, d223_9, d223_12, d223_13, d223_14, d223_17, d223_18, d223_21, d223_22, d223_23, d223_24, d223_26, d223_29, d223_30, d223_31, d223_32, d223_35, d223_36, d223_39, d223_42, d223_45, d223_46, d223_47, d223_48, d223_49, d223_52, d223_53, d223_54, d223_57, d223_59, d223_60, d223_61, d223_62, d223_63, d223_66, d223_67, d223_68, d223_71, d223_73, d223_74, d223_75, d223_76, d223_77, d223_80, d223_83, d223_86, d223_87, d223_88, d223_89, d223_90, d223_93, d223_94, d223_95, d223_98, d223_101, d223_104, d223_105, d223_107, d223_109, d223_112, d223_113, d223_114, d223_117, d223_119, d223_120, d223_121, d223_122, d223_123, d223_126, d223_129, d223_133, d223_134, d223_135, d223_136, d223_137, d223_140, d223_143, d223_144, d223_145, d223_148, d223_149, d223_150, d223_153, d223_156, d223_157, d223_158, d223_159, d223_160, d223_163, d223_166, d223_169, d223_170, d223_171, d223_174, d223_175, d223_178, d223_179, d223_182, n_lt, n_le, n_eq, n_lt0, n_ge0, n_gt0, n_le0, n_eq0, m_lt, m_le, m_gt, m_ge, m_eq, m_eq', m_lt0, m_ge0, m_gt0, m_le0, m_ltm, m_lem, n_in, m_in, n_cl, n_ti, n_div, n_rem', n_dec, n_l, nI_add, pk_mul, an0, an1, decide_eq_true_eq, if_true, if_false, ite_true, ite_false, and_true, true_and, and_false, false_and, not_true, not_false_iff, or_false, false_or, or_true, true_or, eq_self, va_some, Bool.false_eq_true, reduceIte, catS_n, catS_i, catS_r, catS_l, catS_d, Nat.zero_add, Nat.add_zero, decide_true, decide_false, Nat.reduceLeDiff, cat_r, cat_i, cat_l, nle_T, nle_F, nlt_T, nlt_F, neq_T, neq_F, k0, p0, y1, a1, e1, c224 hM]
    done
theorem f223e {d : Nat} {P : MP} {I : MI} {L : ML} {C : MC} {Q : QT} {h : Int64} {g : GS} {n : Nat} (hM : MB P) (hn : NR I g) (h3 : I 150 3 = nI n) (h140 : g 140 ≤ 20) (hn4 : n ≤ 4) (hd : 6 ≤ d) : ∀ m k, k + m = 3 * g 140 → X d 223 134 [.ref 150, .int (nI k)] [] P I (xu L 150 25 (mxs (kF g) k h)) C Q = Q (.inl (some (.long (mx (mxs (kF g) (3 * g 140) h) (nI n).toInt64)))) P I (xu L 150 25 (mx (mxs (kF g) (3 * g 140) h) (nI n).toInt64)) C := by
  obtain ⟨⟨k0, p0, p1, p2, p5, y1, _⟩, _⟩ := id hM
  have a0 := hn 140 (by omega)
  intro m
  induction m with
  | zero =>
    intro k hk
    have : k = 3 * g 140 := by omega
    subst this
    unfold mx
    rw [X_go, d223_134]
    simp (disch := first | assumption | omega) only [Nat.reduceAdd, X_go, go2_some, stp, ldI, ldA, ldL, stI, stA, stL, o1I, o2I, o2L, brI, brII, gl, s1, s2, k1, sl, go_sN, go_sR, go_CT, go_sT, go_no, go_if, pops, bk_v, bk_0, d223_0, d223_1, d223_2, d223_5, d223_6, d223_9, d223_12, d223_13, d223_14, d223_17, d223_18, d223_21, d223_22, d223_23, d223_24, d223_26, d223_29, d223_30, d223_31, d223_32, d223_35, d223_36, d223_39, d223_42, d223_45, d223_46, d223_47, d223_48, d223_49, d223_52, d223_53, d223_54, d223_57, d223_59, d223_60, d223_61, d223_62, d223_63, d223_66, d223_67, d223_68, d223_71, d223_73, d223_74, d223_75, d223_76, d223_77, d223_80, d223_83, d223_86, d223_87, d223_88, d223_89, d223_90, d223_93, d223_94, d223_95, d223_98, d223_101, d223_104, d223_105, d223_106, d223_107, d223_109, d223_112, d223_113, d223_114, d223_117, d223_119, d223_120, d223_121, d223_122, d223_123, d223_126, d223_129, d223_132, d223_133, d223_135, d223_136, d223_137, d223_140, d223_143, d223_144, d223_145, d223_148, d223_149, d223_150, d223_153, d223_156, d223_157, d223_158, d223_159, d223_160, d223_163, d223_166, d223_169, d223_170, d223_171, d223_174, d223_175, d223_178, d223_179, d223_182, n_lt, n_le, n_eq, n_lt0, n_ge0, n_gt0, n_le0, n_eq0, m_lt, m_le, m_gt, m_ge, m_eq, m_eq', m_lt0, m_ge0, m_gt0, m_le0, m_ltm, m_lem, n_in, m_in, n_cl, n_ti, n_div, n_rem', n_dec, n_l, nI_add, pk_mul, an0, an1, decide_eq_true_eq, if_true, if_false, ite_true, ite_false, and_true, true_and, and_false, false_and, not_true, not_false_iff, or_false, false_or, or_true, true_or, eq_self, va_some, Bool.false_eq_true, reduceIte, catS_n, catS_i, catS_r, catS_l, catS_d, Nat.zero_add, Nat.add_zero, decide_true, decide_false, Nat.reduceLeDiff, cat_r, cat_i, cat_l, nle_T, nle_F, nlt_T, nlt_F, neq_T, neq_F, k0, p0, y1, a0, h3, c224 hM, xu_s]
  | succ m ih =>
    intro k hk
    have a1 := hn (141 + k) (by omega)
    have e1 : (nI (g (141 + k))).toInt64 = kF g k := rfl
    rw [← ih (k + 1) (by omega), mxs_s, X_go, d223_134]
    simp (disch := first | assumption | omega) only [Nat.reduceAdd, X_go, go2_some, stp, ldI, ldA, ldL, stI, stA, stL, o1I, o2I, o2L, brI, brII, gl, s1, s2, k1, sl, go_sN, go_sR, go_CT, go_sT, go_no, go_if, pops, bk_v, bk_0, d223_0, d223_1, d223_2, d223_5, d223_6, d223_9, d223_12, d223_13, d223_14, d223_17, d223_18, d223_21, d223_22, d223_23, d223_24, d223_26, d223_29, d223_30, d223_31, d223_32, d223_35, d223_36, d223_39, d223_42, d223_45, d223_46, d223_47, d223_48, d223_49, d223_52, d223_53, d223_54, d223_57, d223_59, d223_60, d223_61, d223_62, d223_63, d223_66, d223_67, d223_68, d223_71, d223_73, d223_74, d223_75, d223_76, d223_77, d223_80, d223_83, d223_86, d223_87, d223_88, d223_89, d223_90, d223_93, d223_94, d223_95, d223_98, d223_101, d223_104, d223_105, d223_106, d223_107, d223_109, d223_112, d223_113, d223_114, d223_117, d223_119, d223_120, d223_121, d223_122, d223_123, d223_126, d223_129, d223_132, d223_133, d223_135, d223_136, d223_137, d223_140, d223_143, d223_144, d223_145, d223_148, d223_149, d223_150, d223_153, d223_156, d223_157, d223_158, d223_159, d223_160, d223_163, d223_166, d223_169, d223_170, d223_171, d223_174, d223_175, d223_178, d223_179, d223_182, n_lt, n_le, n_eq, n_lt0, n_ge0, n_gt0, n_le0, n_eq0, m_lt, m_le, m_gt, m_ge, m_eq, m_eq', m_lt0, m_ge0, m_gt0, m_le0, m_ltm, m_lem, n_in, m_in, n_cl, n_ti, n_div, n_rem', n_dec, n_l, nI_add, pk_mul, an0, an1, decide_eq_true_eq, if_true, if_false, ite_true, ite_false, and_true, true_and, and_false, false_and, not_true, not_false_iff, or_false, false_or, or_true, true_or, eq_self, va_some, Bool.false_eq_true, reduceIte, catS_n, catS_i, catS_r, catS_l, catS_d, Nat.zero_add, Nat.add_zero, decide_true, decide_false, Nat.reduceLeDiff, cat_r, cat_i, cat_l, nle_T, nle_F, nlt_T, nlt_F, neq_T, neq_F, k0, p0, y1, a0, a1, e1, c224 hM]
    done
theorem c223 {d : Nat} {P : MP} {I : MI} {L : ML} {C : MC} {B n len : Nat} {g : GS} {ps : Nat → GS} {tx : Nat → Nat} (hM : MB P) (hR : ZR I g n ps len tx) (hA : AV B g n ps len tx) (hB : B ≤ 1000000) (hd : 17 ≤ d) : ∃ I' L', ZR I' g n ps len tx ∧ I' 150 4 = nI 0 ∧ fm I I' ∧ fml L L' ∧ ∀ Q, CT d 223 [.ref 150] P I L C Q = Q (.inl (some (.long (digV g n len)))) P I' L' C := by
  have hM' := hM
  obtain ⟨⟨k0, p0, p1, p2, p5, y1, y2, y3, y4⟩, _⟩ := hM'
  have hR' := hR
  obtain ⟨hN, h3, hps', h6, htx'⟩ := hR'
  have hA' := hA
  obtain ⟨hGV, hps, hn4, hlen, htx⟩ := hA'
  have h140 := GV_140 hGV
  have hv := hGV.1
  have hl := hGV.2.1
  have hFv := hGV.2.2
  have hR0 : ZR (xu I 150 4 (nI 0)) g n ps len tx := ZR_4 hR
  have hN0 := hR0.1
  obtain ⟨J, L1, i1, i2, i3, i4, i5⟩ := f223c (d := d - 1) (C := C) (h := mxs (coF g) 6 (mxs (vF g) 8 (mx (lN 3361) (nI len).toInt64))) hM hv hl (by omega) 3 0 (xu I 150 4 (nI 0)) L (by omega) hN0
  have hRJ := ZR_th hR0 i2 i3
  have h3J : J 150 3 = nI n := hRJ.2.1
  refine ⟨J, xu L1 150 25 (digV g n len), hRJ, by rw [i3 _ (by omega), xu_s], fun k j h => by rw [i2 _ _ (by omega) (by omega), xu_n _ _ (by omega)], fun k j h => by rw [xu_n _ _ (by omega), i4 k j h], fun Q => ?_⟩
  have s5 := f223e (d := d - 1) (L := L1) (C := C) (Q := Q) (h := mxs (oF g) 16 (dgT g 3 (mxs (coF g) 6 (mxs (vF g) 8 (mx (lN 3361) (nI len).toInt64))))) hM i1 h3J h140 hn4 (by omega) (3 * g 140) 0 (by omega)
  have s4 := f223d (d := d - 1) (L := L1) (C := C) (Q := Q) (h := dgT g 3 (mxs (coF g) 6 (mxs (vF g) 8 (mx (lN 3361) (nI len).toInt64)))) hM i1 (by omega) 16 0 (by omega)
  have s3 := i5 Q
  have s2' := f223b (d := d - 1) (L := L) (C := C) (Q := Q) (h := mxs (vF g) 8 (mx (lN 3361) (nI len).toInt64)) hM hN0 (by omega) 3 0 (by omega)
  have s1' := f223a (d := d - 1) (L := L) (C := C) (Q := Q) (h := mx (lN 3361) (nI len).toInt64) hM hN0 hGV hB (by omega) 8 0 (by omega)
  have e0 : ∀ (f : Nat → Int64) h, mxs f 0 h = h := fun _ _ => rfl
  have e2 : ∀ (f : Nat → Int64) h, mxs f (2 * 0) h = h := fun _ _ => rfl
  have e3 : ∀ h, dgT g 0 h = h := fun _ => rfl
  rw [e0] at s5 s4 s1'
  rw [e2] at s2'
  rw [e3] at s3
  have h6' : (xu I 150 4 (nI 0)) 150 6 = nI len := hR0.2.2.2.1
  have r5 : ∀ h5, X (d - 1) 223 132 [.ref 150, .int (nI 16)] [] P J (xu L1 150 25 h5) C Q = X (d - 1) 223 134 [.ref 150, .int (nI 0)] [] P J (xu L1 150 25 h5) C Q := fun h5 => by
    rw [X_go, d223_132]
    simp (disch := first | assumption | omega) only [Nat.reduceAdd, X_go, go2_some, stp, ldI, ldA, ldL, stI, stA, stL, o1I, o2I, o2L, brI, brII, gl, s1, s2, k1, sl, go_sN, go_sR, go_CT, go_sT, go_no, go_if, pops, bk_v, bk_0, d223_0, d223_1, d223_2, d223_5, d223_6, d223_9, d223_12, d223_13, d223_14, d223_17, d223_18, d223_21, d223_22, d223_23, d223_24, d223_26, d223_29, d223_30, d223_31, d223_32, d223_35, d223_36, d223_39, d223_42, d223_45, d223_46, d223_47, d223_48, d223_49, d223_52, d223_53, d223_54, d223_57, d223_59, d223_60, d223_61, d223_62, d223_63, d223_66, d223_67, d223_68, d223_71, d223_73, d223_74, d223_75, d223_76, d223_77, d223_80, d223_83, d223_86, d223_87, d223_88, d223_89, d223_90, d223_93, d223_94, d223_95, d223_98, d223_101, d223_104, d223_105, d223_106, d223_107, d223_109, d223_112, d223_113, d223_114, d223_117, d223_119, d223_120, d223_121, d223_122, d223_123, d223_126, d223_129, d223_133, d223_135, d223_136, d223_137, d223_140, d223_143, d223_144, d223_145, d223_148, d223_149, d223_150, d223_153, d223_156, d223_157, d223_158, d223_159, d223_160, d223_163, d223_166, d223_169, d223_170, d223_171, d223_174, d223_175, d223_178, d223_179, d223_182, n_lt, n_le, n_eq, n_lt0, n_ge0, n_gt0, n_le0, n_eq0, m_lt, m_le, m_gt, m_ge, m_eq, m_eq', m_lt0, m_ge0, m_gt0, m_le0, m_ltm, m_lem, n_in, m_in, n_cl, n_ti, n_div, n_rem', n_dec, n_l, nI_add, pk_mul, an0, an1, decide_eq_true_eq, if_true, if_false, ite_true, ite_false, and_true, true_and, and_false, false_and, not_true, not_false_iff, or_false, false_or, or_true, true_or, eq_self, va_some, Bool.false_eq_true, reduceIte, catS_n, catS_i, catS_r, catS_l, catS_d, Nat.zero_add, Nat.add_zero, decide_true, decide_false, Nat.reduceLeDiff, cat_r, cat_i, cat_l, nle_T, nle_F, nlt_T, nlt_F, neq_T, neq_F]
  have r4 : ∀ h5, X (d - 1) 223 104 [.ref 150, .int (nI 3)] [] P J (xu L1 150 25 h5) C Q = X (d - 1) 223 106 [.ref 150, .int (nI 0)] [] P J (xu L1 150 25 h5) C Q := fun h5 => by
    rw [X_go, d223_104]
    simp (disch := first | assumption | omega) only [Nat.reduceAdd, X_go, go2_some, stp, ldI, ldA, ldL, stI, stA, stL, o1I, o2I, o2L, brI, brII, gl, s1, s2, k1, sl, go_sN, go_sR, go_CT, go_sT, go_no, go_if, pops, bk_v, bk_0, d223_0, d223_1, d223_2, d223_5, d223_6, d223_9, d223_12, d223_13, d223_14, d223_17, d223_18, d223_21, d223_22, d223_23, d223_24, d223_26, d223_29, d223_30, d223_31, d223_32, d223_35, d223_36, d223_39, d223_42, d223_45, d223_46, d223_47, d223_48, d223_49, d223_52, d223_53, d223_54, d223_57, d223_59, d223_60, d223_61, d223_62, d223_63, d223_66, d223_67, d223_68, d223_71, d223_73, d223_74, d223_75, d223_76, d223_77, d223_80, d223_83, d223_86, d223_87, d223_88, d223_89, d223_90, d223_93, d223_94, d223_95, d223_98, d223_101, d223_105, d223_107, d223_109, d223_112, d223_113, d223_114, d223_117, d223_119, d223_120, d223_121, d223_122, d223_123, d223_126, d223_129, d223_132, d223_133, d223_134, d223_135, d223_136, d223_137, d223_140, d223_143, d223_144, d223_145, d223_148, d223_149, d223_150, d223_153, d223_156, d223_157, d223_158, d223_159, d223_160, d223_163, d223_166, d223_169, d223_170, d223_171, d223_174, d223_175, d223_178, d223_179, d223_182, n_lt, n_le, n_eq, n_lt0, n_ge0, n_gt0, n_le0, n_eq0, m_lt, m_le, m_gt, m_ge, m_eq, m_eq', m_lt0, m_ge0, m_gt0, m_le0, m_ltm, m_lem, n_in, m_in, n_cl, n_ti, n_div, n_rem', n_dec, n_l, nI_add, pk_mul, an0, an1, decide_eq_true_eq, if_true, if_false, ite_true, ite_false, and_true, true_and, and_false, false_and, not_true, not_false_iff, or_false, false_or, or_true, true_or, eq_self, va_some, Bool.false_eq_true, reduceIte, catS_n, catS_i, catS_r, catS_l, catS_d, Nat.zero_add, Nat.add_zero, decide_true, decide_false, Nat.reduceLeDiff, cat_r, cat_i, cat_l, nle_T, nle_F, nlt_T, nlt_F, neq_T, neq_F]
  have r3 : ∀ h5, X (d - 1) 223 86 [.ref 150, .int (nI 4)] [] P (xu I 150 4 (nI 0)) (xu L 150 25 h5) C Q = X (d - 1) 223 88 [.ref 150, .int (nI 0)] [] P (xu I 150 4 (nI 0)) (xu L 150 25 h5) C Q := fun h5 => by
    rw [X_go, d223_86]
    simp (disch := first | assumption | omega) only [Nat.reduceAdd, X_go, go2_some, stp, ldI, ldA, ldL, stI, stA, stL, o1I, o2I, o2L, brI, brII, gl, s1, s2, k1, sl, go_sN, go_sR, go_CT, go_sT, go_no, go_if, pops, bk_v, bk_0, d223_0, d223_1, d223_2, d223_5, d223_6, d223_9, d223_12, d223_13, d223_14, d223_17, d223_18, d223_21, d223_22, d223_23, d223_24, d223_26, d223_29, d223_30, d223_31, d223_32, d223_35, d223_36, d223_39, d223_42, d223_45, d223_46, d223_47, d223_48, d223_49, d223_52, d223_53, d223_54, d223_57, d223_59, d223_60, d223_61, d223_62, d223_63, d223_66, d223_67, d223_68, d223_71, d223_73, d223_74, d223_75, d223_76, d223_77, d223_80, d223_83, d223_87, d223_89, d223_90, d223_93, d223_94, d223_95, d223_98, d223_101, d223_104, d223_105, d223_106, d223_107, d223_109, d223_112, d223_113, d223_114, d223_117, d223_119, d223_120, d223_121, d223_122, d223_123, d223_126, d223_129, d223_132, d223_133, d223_134, d223_135, d223_136, d223_137, d223_140, d223_143, d223_144, d223_145, d223_148, d223_149, d223_150, d223_153, d223_156, d223_157, d223_158, d223_159, d223_160, d223_163, d223_166, d223_169, d223_170, d223_171, d223_174, d223_175, d223_178, d223_179, d223_182, n_lt, n_le, n_eq, n_lt0, n_ge0, n_gt0, n_le0, n_eq0, m_lt, m_le, m_gt, m_ge, m_eq, m_eq', m_lt0, m_ge0, m_gt0, m_le0, m_ltm, m_lem, n_in, m_in, n_cl, n_ti, n_div, n_rem', n_dec, n_l, nI_add, pk_mul, an0, an1, decide_eq_true_eq, if_true, if_false, ite_true, ite_false, and_true, true_and, and_false, false_and, not_true, not_false_iff, or_false, false_or, or_true, true_or, eq_self, va_some, Bool.false_eq_true, reduceIte, catS_n, catS_i, catS_r, catS_l, catS_d, Nat.zero_add, Nat.add_zero, decide_true, decide_false, Nat.reduceLeDiff, cat_r, cat_i, cat_l, nle_T, nle_F, nlt_T, nlt_F, neq_T, neq_F]
  have r2' : ∀ h5, X (d - 1) 223 45 [.ref 150, .int (nI 8)] [] P (xu I 150 4 (nI 0)) (xu L 150 25 h5) C Q = X (d - 1) 223 47 [.ref 150, .int (nI (0 + 1))] [] P (xu I 150 4 (nI 0)) (xu L 150 25 h5) C Q := fun h5 => by
    rw [X_go, d223_45]
    simp (disch := first | assumption | omega) only [Nat.reduceAdd, X_go, go2_some, stp, ldI, ldA, ldL, stI, stA, stL, o1I, o2I, o2L, brI, brII, gl, s1, s2, k1, sl, go_sN, go_sR, go_CT, go_sT, go_no, go_if, pops, bk_v, bk_0, d223_0, d223_1, d223_2, d223_5, d223_6, d223_9, d223_12, d223_13, d223_14, d223_17, d223_18, d223_21, d223_22, d223_23, d223_24, d223_26, d223_29, d223_30, d223_31, d223_32, d223_35, d223_36, d223_39, d223_42, d223_46, d223_48, d223_49, d223_52, d223_53, d223_54, d223_57, d223_59, d223_60, d223_61, d223_62, d223_63, d223_66, d223_67, d223_68, d223_71, d223_73, d223_74, d223_75, d223_76, d223_77, d223_80, d223_83, d223_86, d223_87, d223_88, d223_89, d223_90, d223_93, d223_94, d223_95, d223_98, d223_101, d223_104, d223_105, d223_106, d223_107, d223_109, d223_112, d223_113, d223_114, d223_117, d223_119, d223_120, d223_121, d223_122, d223_123, d223_126, d223_129, d223_132, d223_133, d223_134, d223_135, d223_136, d223_137, d223_140, d223_143, d223_144, d223_145, d223_148, d223_149, d223_150, d223_153, d223_156, d223_157, d223_158, d223_159, d223_160, d223_163, d223_166, d223_169, d223_170, d223_171, d223_174, d223_175, d223_178, d223_179, d223_182, n_lt, n_le, n_eq, n_lt0, n_ge0, n_gt0, n_le0, n_eq0, m_lt, m_le, m_gt, m_ge, m_eq, m_eq', m_lt0, m_ge0, m_gt0, m_le0, m_ltm, m_lem, n_in, m_in, n_cl, n_ti, n_div, n_rem', n_dec, n_l, nI_add, pk_mul, an0, an1, decide_eq_true_eq, if_true, if_false, ite_true, ite_false, and_true, true_and, and_false, false_and, not_true, not_false_iff, or_false, false_or, or_true, true_or, eq_self, va_some, Bool.false_eq_true, reduceIte, catS_n, catS_i, catS_r, catS_l, catS_d, Nat.zero_add, Nat.add_zero, decide_true, decide_false, Nat.reduceLeDiff, cat_r, cat_i, cat_l, nle_T, nle_F, nlt_T, nlt_F, neq_T, neq_F]
  have st : CT d 223 [.ref 150] P I L C Q = X (d - 1) 223 23 [.ref 150, .int (nI 0)] [] P (xu I 150 4 (nI 0)) (xu L 150 25 (mx (lN 3361) (nI len).toInt64)) C Q := by
    unfold mx
    rw [CT_e (mj := 223) (e := [.ref 150, UN]) (by omega) rfl (Nat.le_of_ble_eq_true rfl)]
    simp (disch := first | assumption | omega) only [Nat.reduceAdd, X_go, go2_some, stp, ldI, ldA, ldL, stI, stA, stL, o1I, o2I, o2L, brI, brII, gl, s1, s2, k1, sl, go_sN, go_sR, go_CT, go_sT, go_no, go_if, pops, bk_v, bk_0, d223_0, d223_1, d223_2, d223_5, d223_6, d223_9, d223_12, d223_13, d223_14, d223_17, d223_18, d223_21, d223_22, d223_24, d223_26, d223_29, d223_30, d223_31, d223_32, d223_35, d223_36, d223_39, d223_42, d223_45, d223_46, d223_47, d223_48, d223_49, d223_52, d223_53, d223_54, d223_57, d223_59, d223_60, d223_61, d223_62, d223_63, d223_66, d223_67, d223_68, d223_71, d223_73, d223_74, d223_75, d223_76, d223_77, d223_80, d223_83, d223_86, d223_87, d223_88, d223_89, d223_90, d223_93, d223_94, d223_95, d223_98, d223_101, d223_104, d223_105, d223_106, d223_107, d223_109, d223_112, d223_113, d223_114, d223_117, d223_119, d223_120, d223_121, d223_122, d223_123, d223_126, d223_129, d223_132, d223_133, d223_134, d223_135, d223_136, d223_137, d223_140, d223_143, d223_144, d223_145, d223_148, d223_149, d223_150, d223_153, d223_156, d223_157, d223_158, d223_159, d223_160, d223_163, d223_166, d223_169, d223_170, d223_171, d223_174, d223_175, d223_178, d223_179, d223_182, n_lt, n_le, n_eq, n_lt0, n_ge0, n_gt0, n_le0, n_eq0, m_lt, m_le, m_gt, m_ge, m_eq, m_eq', m_lt0, m_ge0, m_gt0, m_le0, m_ltm, m_lem, n_in, m_in, n_cl, n_ti, n_div, n_rem', n_dec, n_l, nI_add, pk_mul, an0, an1, decide_eq_true_eq, if_true, if_false, ite_true, ite_false, and_true, true_and, and_false, false_and, not_true, not_false_iff, or_false, false_or, or_true, true_or, eq_self, va_some, Bool.false_eq_true, reduceIte, catS_n, catS_i, catS_r, catS_l, catS_d, Nat.zero_add, Nat.add_zero, decide_true, decide_false, Nat.reduceLeDiff, cat_r, cat_i, cat_l, nle_T, nle_F, nlt_T, nlt_F, neq_T, neq_F, k0, h6', c224 hM]
    done
  rw [st, s1', r2', s2', r3, s3, r4, s4, r5, s5]
  rfl
