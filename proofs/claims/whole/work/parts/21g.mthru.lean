/-! THE MODEL: chances, told -/
def CM (L : ML) (V : CV) : Prop := (∀ i, i < 16 → L 166 i = V i) ∧ (∀ r, r < 4 → L 167 r = raV V r) ∧ L 150 21 = V 20
def fml (L L' : ML) : Prop := ∀ k j, k < 150 ∨ 168 < k → L' k j = L k j
theorem f201a {d : Nat} {P : MP} {I : MI} {C : MC} {Q : QT} {top : Nat} (hM : MB P) (hd : 1 ≤ d) : ∀ m i (L : ML) (R : Nat → Int64), i + m = 16 → X d 201 2 [.ref 150, .int (nI top), .int (nI i)] [] P I (xr L 166 R) C Q = X d 201 21 [.ref 150, .int (nI top), .int (nI 16)] [] P I (xr L 166 (fun j => if i ≤ j ∧ j < 16 then lN 0 else R j)) C Q := by
  obtain ⟨⟨k0, _⟩, _, _, r19, r20, r24, s19, s20, s24⟩ := hM
  intro m
  induction m with
  | zero =>
    intro i L R h
    have : i = 16 := by omega
    subst this
    have e : (fun j => if 16 ≤ j ∧ j < 16 then lN 0 else R j) = R := funext fun j => if_neg (by omega)
    rw [e, X_go, d201_2]
    simp (disch := first | assumption | omega) only [Nat.reduceAdd, X_go, go2_some, stp, ldI, ldA, ldL, stI, stA, stL, o1I, o2I, o2L, brI, brII, gl, s1, s2, k1, sl, go_sN, go_sR, go_CT, go_sT, go_no, go_if, pops, bk_v, bk_0, d201_0, d201_1, d201_3, d201_5, d201_8, d201_9, d201_12, d201_13, d201_14, d201_15, d201_18, d201_22, d201_23, d201_24, d201_25, d201_28, d201_29, d201_32, d201_33, d201_34, d201_35, d201_38, d201_41, d201_42, d201_43, d201_46, d201_47, d201_48, d201_51, d201_52, d201_53, d201_56, d201_57, d201_58, d201_61, d201_62, d201_63, d201_64, d201_65, d201_68, d201_69, d201_72, d201_75, d201_76, d201_79, d201_80, d201_81, d201_82, d201_85, d201_86, d201_87, d201_90, d201_91, d201_92, d201_95, d201_98, d201_99, d201_100, d201_101, d201_104, d201_107, n_lt, n_le, n_eq, n_lt0, n_ge0, n_gt0, n_le0, n_eq0, m_lt, m_le, m_gt, m_ge, m_eq, m_eq', m_lt0, m_ge0, m_gt0, m_le0, m_ltm, m_lem, n_in, m_in, n_cl, n_ti, n_div, n_rem', n_dec, n_l, nI_add, pk_mul, an0, an1, decide_eq_true_eq, if_true, if_false, ite_true, ite_false, and_true, true_and, and_false, false_and, not_true, not_false_iff, or_false, false_or, or_true, true_or, eq_self, va_some, Bool.false_eq_true, reduceIte, catS_n, catS_i, catS_r, catS_l, catS_d, Nat.zero_add, Nat.add_zero, decide_true, decide_false, Nat.reduceLeDiff, cat_r, cat_i, cat_l, nle_T, nle_F, nlt_T, nlt_F, neq_T, neq_F]
  | succ m ih =>
    intro i L R h
    have e : (fun j => if i + 1 ≤ j ∧ j < 16 then lN 0 else (fun i' => if i' = i then lN 0 else R i') j) = (fun j => if i ≤ j ∧ j < 16 then lN 0 else R j) := by
      funext j
      dsimp only
      by_cases z : i + 1 ≤ j ∧ j < 16
      · rw [if_pos z, if_pos (show i ≤ j ∧ j < 16 by omega)]
      · rw [if_neg z]
        by_cases y : j = i
        · subst y
          rw [if_pos rfl, if_pos (show j ≤ j ∧ j < 16 by omega)]
        · rw [if_neg y, if_neg (show ¬ (i ≤ j ∧ j < 16) by omega)]
    rw [← e, ← ih (i + 1) L (fun i' => if i' = i then lN 0 else R i') (by omega), X_go, d201_2]
    simp (disch := first | assumption | omega) only [Nat.reduceAdd, X_go, go2_some, stp, ldI, ldA, ldL, stI, stA, stL, o1I, o2I, o2L, brI, brII, gl, s1, s2, k1, sl, go_sN, go_sR, go_CT, go_sT, go_no, go_if, pops, bk_v, bk_0, d201_0, d201_1, d201_3, d201_5, d201_8, d201_9, d201_12, d201_13, d201_14, d201_15, d201_18, d201_22, d201_23, d201_24, d201_25, d201_28, d201_29, d201_32, d201_33, d201_34, d201_35, d201_38, d201_41, d201_42, d201_43, d201_46, d201_47, d201_48, d201_51, d201_52, d201_53, d201_56, d201_57, d201_58, d201_61, d201_62, d201_63, d201_64, d201_65, d201_68, d201_69, d201_72, d201_75, d201_76, d201_79, d201_80, d201_81, d201_82, d201_85, d201_86, d201_87, d201_90, d201_91, d201_92, d201_95, d201_98, d201_99, d201_100, d201_101, d201_104, d201_107, n_lt, n_le, n_eq, n_lt0, n_ge0, n_gt0, n_le0, n_eq0, m_lt, m_le, m_gt, m_ge, m_eq, m_eq', m_lt0, m_ge0, m_gt0, m_le0, m_ltm, m_lem, n_in, m_in, n_cl, n_ti, n_div, n_rem', n_dec, n_l, nI_add, pk_mul, an0, an1, decide_eq_true_eq, if_true, if_false, ite_true, ite_false, and_true, true_and, and_false, false_and, not_true, not_false_iff, or_false, false_or, or_true, true_or, eq_self, va_some, Bool.false_eq_true, reduceIte, catS_n, catS_i, catS_r, catS_l, catS_d, Nat.zero_add, Nat.add_zero, decide_true, decide_false, Nat.reduceLeDiff, cat_r, cat_i, cat_l, nle_T, nle_F, nlt_T, nlt_F, neq_T, neq_F, k0, r19, s19, xu_xr]
    done
theorem f201b {d : Nat} {P : MP} {I : MI} {C : MC} {Q : QT} {top : Nat} (hM : MB P) (hd : 1 ≤ d) : ∀ m i (L : ML) (R : Nat → Int64), i + m = 4 → X d 201 23 [.ref 150, .int (nI top), .int (nI i)] [] P I (xr L 167 R) C Q = X d 201 41 [.ref 150, .int (nI top), .int (nI 4)] [] P I (xr L 167 (fun j => if i ≤ j ∧ j < 4 then lN 0 else R j)) C Q := by
  obtain ⟨⟨k0, _⟩, _, _, r19, r20, r24, s19, s20, s24⟩ := hM
  intro m
  induction m with
  | zero =>
    intro i L R h
    have : i = 4 := by omega
    subst this
    have e : (fun j => if 4 ≤ j ∧ j < 4 then lN 0 else R j) = R := funext fun j => if_neg (by omega)
    rw [e, X_go, d201_23]
    simp (disch := first | assumption | omega) only [Nat.reduceAdd, X_go, go2_some, stp, ldI, ldA, ldL, stI, stA, stL, o1I, o2I, o2L, brI, brII, gl, s1, s2, k1, sl, go_sN, go_sR, go_CT, go_sT, go_no, go_if, pops, bk_v, bk_0, d201_0, d201_1, d201_2, d201_3, d201_5, d201_8, d201_9, d201_12, d201_13, d201_14, d201_15, d201_18, d201_21, d201_22, d201_24, d201_25, d201_28, d201_29, d201_32, d201_33, d201_34, d201_35, d201_38, d201_42, d201_43, d201_46, d201_47, d201_48, d201_51, d201_52, d201_53, d201_56, d201_57, d201_58, d201_61, d201_62, d201_63, d201_64, d201_65, d201_68, d201_69, d201_72, d201_75, d201_76, d201_79, d201_80, d201_81, d201_82, d201_85, d201_86, d201_87, d201_90, d201_91, d201_92, d201_95, d201_98, d201_99, d201_100, d201_101, d201_104, d201_107, n_lt, n_le, n_eq, n_lt0, n_ge0, n_gt0, n_le0, n_eq0, m_lt, m_le, m_gt, m_ge, m_eq, m_eq', m_lt0, m_ge0, m_gt0, m_le0, m_ltm, m_lem, n_in, m_in, n_cl, n_ti, n_div, n_rem', n_dec, n_l, nI_add, pk_mul, an0, an1, decide_eq_true_eq, if_true, if_false, ite_true, ite_false, and_true, true_and, and_false, false_and, not_true, not_false_iff, or_false, false_or, or_true, true_or, eq_self, va_some, Bool.false_eq_true, reduceIte, catS_n, catS_i, catS_r, catS_l, catS_d, Nat.zero_add, Nat.add_zero, decide_true, decide_false, Nat.reduceLeDiff, cat_r, cat_i, cat_l, nle_T, nle_F, nlt_T, nlt_F, neq_T, neq_F]
  | succ m ih =>
    intro i L R h
    have e : (fun j => if i + 1 ≤ j ∧ j < 4 then lN 0 else (fun i' => if i' = i then lN 0 else R i') j) = (fun j => if i ≤ j ∧ j < 4 then lN 0 else R j) := by
      funext j
      dsimp only
      by_cases z : i + 1 ≤ j ∧ j < 4
      · rw [if_pos z, if_pos (show i ≤ j ∧ j < 4 by omega)]
      · rw [if_neg z]
        by_cases y : j = i
        · subst y
          rw [if_pos rfl, if_pos (show j ≤ j ∧ j < 4 by omega)]
        · rw [if_neg y, if_neg (show ¬ (i ≤ j ∧ j < 4) by omega)]
    rw [← e, ← ih (i + 1) L (fun i' => if i' = i then lN 0 else R i') (by omega), X_go, d201_23]
    simp (disch := first | assumption | omega) only [Nat.reduceAdd, X_go, go2_some, stp, ldI, ldA, ldL, stI, stA, stL, o1I, o2I, o2L, brI, brII, gl, s1, s2, k1, sl, go_sN, go_sR, go_CT, go_sT, go_no, go_if, pops, bk_v, bk_0, d201_0, d201_1, d201_2, d201_3, d201_5, d201_8, d201_9, d201_12, d201_13, d201_14, d201_15, d201_18, d201_21, d201_22, d201_24, d201_25, d201_28, d201_29, d201_32, d201_33, d201_34, d201_35, d201_38, d201_42, d201_43, d201_46, d201_47, d201_48, d201_51, d201_52, d201_53, d201_56, d201_57, d201_58, d201_61, d201_62, d201_63, d201_64, d201_65, d201_68, d201_69, d201_72, d201_75, d201_76, d201_79, d201_80, d201_81, d201_82, d201_85, d201_86, d201_87, d201_90, d201_91, d201_92, d201_95, d201_98, d201_99, d201_100, d201_101, d201_104, d201_107, n_lt, n_le, n_eq, n_lt0, n_ge0, n_gt0, n_le0, n_eq0, m_lt, m_le, m_gt, m_ge, m_eq, m_eq', m_lt0, m_ge0, m_gt0, m_le0, m_ltm, m_lem, n_in, m_in, n_cl, n_ti, n_div, n_rem', n_dec, n_l, nI_add, pk_mul, an0, an1, decide_eq_true_eq, if_true, if_false, ite_true, ite_false, and_true, true_and, and_false, false_and, not_true, not_false_iff, or_false, false_or, or_true, true_or, eq_self, va_some, Bool.false_eq_true, reduceIte, catS_n, catS_i, catS_r, catS_l, catS_d, Nat.zero_add, Nat.add_zero, decide_true, decide_false, Nat.reduceLeDiff, cat_r, cat_i, cat_l, nle_T, nle_F, nlt_T, nlt_F, neq_T, neq_F, k0, r20, s20, xu_xr]
    done
theorem CM_of {L L' : ML} {V : CV} (h1 : ∀ i, i < 16 → L 166 i = lN 0) (h2 : ∀ r, r < 4 → L 167 r = lN 0) (h3 : L 150 21 = lN 0) (h : ∀ k j, k ≠ 159 → L' k j = L k j + dM (TM V) k j) : CM L' V := by
  refine ⟨fun i hi => ?_, fun r hr => ?_, ?_⟩
  · rw [h _ _ (by omega), h1 i hi]
    unfold dM TM
    rw [if_pos ⟨rfl, hi⟩, if_neg (by omega)]
    exact Int64.zero_add _
  · rw [h _ _ (by omega), h2 r hr]
    unfold dM TM
    rw [if_neg (by omega), if_pos ⟨rfl, hr⟩, if_pos (by omega), show 16 + r - 16 = r by omega]
    exact Int64.zero_add _
  · rw [h _ _ (by omega), h3]
    unfold dM TM
    rw [if_neg (by omega), if_neg (by omega), if_pos ⟨rfl, rfl⟩, if_neg (by omega)]
    exact Int64.zero_add _
theorem c201 {d : Nat} {P : MP} {I : MI} {L : ML} {C : MC} {top : Nat} {g : GS} (hM : MB P) (hn : NR I g) (hv : TV g) (hl : LV g) (hd : 13 ≤ d) (ht : top < 3) : ∃ I' L', CM L' (chV g top) ∧ (∀ k j, k ≠ 150 → k < 155 ∨ 165 < k → I' k j = I k j) ∧ (∀ j, j ≠ 18 → I' 150 j = I 150 j) ∧ (fml L L' ∧ ∀ j, j ≠ 21 → L' 150 j = L 150 j) ∧ ∀ Q, CT d 201 [.ref 150, .int (nI top)] P I L C Q = Q (.inl none) P I' L' C := by
  have hM' := hM
  obtain ⟨⟨k0, _⟩, _, _, r19, r20, r24, s19, s20, s24⟩ := hM'
  have hdr := hv.1 top ht
  obtain ⟨L1, hL1⟩ : ∃ L1, L1 = xr L 166 (fun j => if 0 ≤ j ∧ j < 16 then lN 0 else L 166 j) := ⟨_, rfl⟩
  obtain ⟨L2, hL2⟩ : ∃ L2, L2 = xr L1 167 (fun j => if 0 ≤ j ∧ j < 4 then lN 0 else L1 167 j) := ⟨_, rfl⟩
  obtain ⟨L3, hL3⟩ : ∃ L3, L3 = xu L2 150 21 (lN 0) := ⟨_, rfl⟩
  have h1 : ∀ i, i < 16 → L3 166 i = lN 0 := fun i hi => by
    rw [hL3, xu_n _ _ (by omega), hL2, xr_n _ _ (by omega), hL1, xr_s, if_pos ⟨Nat.zero_le i, hi⟩]
  have h2 : ∀ r, r < 4 → L3 167 r = lN 0 := fun i hi => by
    rw [hL3, xu_n _ _ (by omega), hL2, xr_s, if_pos ⟨Nat.zero_le i, hi⟩]
  have h3 : L3 150 21 = lN 0 := by rw [hL3, xu_s]
  have hLn : fml L L3 := fun k j h => by rw [hL3, xu_n _ _ (by omega), hL2, xr_n _ _ (by omega), hL1, xr_n _ _ (by omega)]
  have hL150 : ∀ j, j ≠ 21 → L3 150 j = L 150 j := fun j h => by rw [hL3, xu_n _ _ (by omega), hL2, xr_n _ _ (by omega), hL1, xr_n _ _ (by omega)]
  have hdm : ∀ V j, j ≠ 21 → dM V 150 j = 0 := fun V j h => by unfold dM; rw [if_neg (by omega), if_neg (by omega), if_neg (by omega)]
  have ha := fun Q => f201a (d := d - 1) (I := I) (C := C) (Q := Q) (top := top) hM (by omega) 16 0 L (L 166) (by omega)
  have hb := fun Q => f201b (d := d - 1) (I := I) (C := C) (Q := Q) (top := top) hM (by omega) 4 0 L1 (L1 167) (by omega)
  simp only [xr_id] at ha hb
  rw [← hL1] at ha
  rw [← hL2] at hb
  have hn0 : NR (xu I 150 18 (nI 0)) g := NR_fr hn fun j => xu_n _ _ (by omega)
  have start : ∀ Q, CT d 201 [.ref 150, .int (nI top)] P I L C Q = CT (d - 1) 202 [.ref 150, .int (nI top), .long (lN 1000000000), .int (nI 0), .int (sbits g), .int (nI 0), .int (nI 0), .int (fI 0), .int (nI 0)] P (xu I 150 18 (nI 0)) L3 C (bk (d - 1) 201 65 [.ref 150, .int (nI top), .int (nI 4)] [] Q) := fun Q => by
    rw [CT_e (mj := 201) (e := [.ref 150, .int (nI top), UN]) (by omega) rfl (Nat.le_of_ble_eq_true rfl), fI_0]
    simp (disch := first | assumption | omega) only [Nat.reduceAdd, X_go, go2_some, stp, ldI, ldA, ldL, stI, stA, stL, o1I, o2I, o2L, brI, brII, gl, s1, s2, k1, sl, go_sN, go_sR, go_CT, go_sT, go_no, go_if, pops, bk_v, bk_0, d201_0, d201_1, d201_3, d201_5, d201_8, d201_9, d201_12, d201_13, d201_14, d201_15, d201_18, d201_22, d201_24, d201_25, d201_28, d201_29, d201_32, d201_33, d201_34, d201_35, d201_38, d201_42, d201_43, d201_46, d201_47, d201_48, d201_51, d201_52, d201_53, d201_56, d201_57, d201_58, d201_61, d201_62, d201_63, d201_64, d201_65, d201_68, d201_69, d201_72, d201_75, d201_76, d201_79, d201_80, d201_81, d201_82, d201_85, d201_86, d201_87, d201_90, d201_91, d201_92, d201_95, d201_98, d201_99, d201_100, d201_101, d201_104, d201_107, n_lt, n_le, n_eq, n_lt0, n_ge0, n_gt0, n_le0, n_eq0, m_lt, m_le, m_gt, m_ge, m_eq, m_eq', m_lt0, m_ge0, m_gt0, m_le0, m_ltm, m_lem, n_in, m_in, n_cl, n_ti, n_div, n_rem', n_dec, n_l, nI_add, pk_mul, an0, an1, decide_eq_true_eq, if_true, if_false, ite_true, ite_false, and_true, true_and, and_false, false_and, not_true, not_false_iff, or_false, false_or, or_true, true_or, eq_self, va_some, Bool.false_eq_true, reduceIte, catS_n, catS_i, catS_r, catS_l, catS_d, Nat.zero_add, Nat.add_zero, decide_true, decide_false, Nat.reduceLeDiff, cat_r, cat_i, cat_l, nle_T, nle_F, nlt_T, nlt_F, neq_T, neq_F]
    simp only [← X_go]
    rw [ha, X_go, d201_21]
    simp (disch := first | assumption | omega) only [Nat.reduceAdd, X_go, go2_some, stp, ldI, ldA, ldL, stI, stA, stL, o1I, o2I, o2L, brI, brII, gl, s1, s2, k1, sl, go_sN, go_sR, go_CT, go_sT, go_no, go_if, pops, bk_v, bk_0, d201_0, d201_1, d201_3, d201_5, d201_8, d201_9, d201_12, d201_13, d201_14, d201_15, d201_18, d201_22, d201_24, d201_25, d201_28, d201_29, d201_32, d201_33, d201_34, d201_35, d201_38, d201_42, d201_43, d201_46, d201_47, d201_48, d201_51, d201_52, d201_53, d201_56, d201_57, d201_58, d201_61, d201_62, d201_63, d201_64, d201_65, d201_68, d201_69, d201_72, d201_75, d201_76, d201_79, d201_80, d201_81, d201_82, d201_85, d201_86, d201_87, d201_90, d201_91, d201_92, d201_95, d201_98, d201_99, d201_100, d201_101, d201_104, d201_107, n_lt, n_le, n_eq, n_lt0, n_ge0, n_gt0, n_le0, n_eq0, m_lt, m_le, m_gt, m_ge, m_eq, m_eq', m_lt0, m_ge0, m_gt0, m_le0, m_ltm, m_lem, n_in, m_in, n_cl, n_ti, n_div, n_rem', n_dec, n_l, nI_add, pk_mul, an0, an1, decide_eq_true_eq, if_true, if_false, ite_true, ite_false, and_true, true_and, and_false, false_and, not_true, not_false_iff, or_false, false_or, or_true, true_or, eq_self, va_some, Bool.false_eq_true, reduceIte, catS_n, catS_i, catS_r, catS_l, catS_d, Nat.zero_add, Nat.add_zero, decide_true, decide_false, Nat.reduceLeDiff, cat_r, cat_i, cat_l, nle_T, nle_F, nlt_T, nlt_F, neq_T, neq_F]
    simp only [← X_go]
    rw [hb, X_go, d201_41]
    simp (disch := first | assumption | omega) only [Nat.reduceAdd, X_go, go2_some, stp, ldI, ldA, ldL, stI, stA, stL, o1I, o2I, o2L, brI, brII, gl, s1, s2, k1, sl, go_sN, go_sR, go_CT, go_sT, go_no, go_if, pops, bk_v, bk_0, d201_0, d201_1, d201_3, d201_5, d201_8, d201_9, d201_12, d201_13, d201_14, d201_15, d201_18, d201_22, d201_24, d201_25, d201_28, d201_29, d201_32, d201_33, d201_34, d201_35, d201_38, d201_42, d201_43, d201_46, d201_47, d201_48, d201_51, d201_52, d201_53, d201_56, d201_57, d201_58, d201_61, d201_62, d201_63, d201_64, d201_65, d201_68, d201_69, d201_72, d201_75, d201_76, d201_79, d201_80, d201_81, d201_82, d201_85, d201_86, d201_87, d201_90, d201_91, d201_92, d201_95, d201_98, d201_99, d201_100, d201_101, d201_104, d201_107, n_lt, n_le, n_eq, n_lt0, n_ge0, n_gt0, n_le0, n_eq0, m_lt, m_le, m_gt, m_ge, m_eq, m_eq', m_lt0, m_ge0, m_gt0, m_le0, m_ltm, m_lem, n_in, m_in, n_cl, n_ti, n_div, n_rem', n_dec, n_l, nI_add, pk_mul, an0, an1, decide_eq_true_eq, if_true, if_false, ite_true, ite_false, and_true, true_and, and_false, false_and, not_true, not_false_iff, or_false, false_or, or_true, true_or, eq_self, va_some, Bool.false_eq_true, reduceIte, catS_n, catS_i, catS_r, catS_l, catS_d, Nat.zero_add, Nat.add_zero, decide_true, decide_false, Nat.reduceLeDiff, cat_r, cat_i, cat_l, nle_T, nle_F, nlt_T, nlt_F, neq_T, neq_F, k0, c174 hM hn0 hv]
    rw [hL3]
  have fin : ∀ (I' : MI) (L' : ML) (u : Value) Q, I' 150 18 = nI 0 → X (d - 1) 201 68 [.ref 150, .int (nI top), u] [] P I' L' C Q = Q (.inl none) P I' L' C := fun I' L' u Q h => by
    rw [X_go, d201_68]
    simp (disch := first | assumption | omega) only [Nat.reduceAdd, X_go, go2_some, stp, ldI, ldA, ldL, stI, stA, stL, o1I, o2I, o2L, brI, brII, gl, s1, s2, k1, sl, go_sN, go_sR, go_CT, go_sT, go_no, go_if, pops, bk_v, bk_0, d201_0, d201_1, d201_2, d201_3, d201_5, d201_8, d201_9, d201_12, d201_13, d201_14, d201_15, d201_18, d201_21, d201_22, d201_23, d201_24, d201_25, d201_28, d201_29, d201_32, d201_33, d201_34, d201_35, d201_38, d201_41, d201_42, d201_43, d201_46, d201_47, d201_48, d201_51, d201_52, d201_53, d201_56, d201_57, d201_58, d201_61, d201_62, d201_63, d201_64, d201_65, d201_69, d201_72, d201_75, d201_76, d201_79, d201_80, d201_81, d201_82, d201_85, d201_86, d201_87, d201_90, d201_91, d201_92, d201_95, d201_98, d201_99, d201_100, d201_101, d201_104, d201_107, n_lt, n_le, n_eq, n_lt0, n_ge0, n_gt0, n_le0, n_eq0, m_lt, m_le, m_gt, m_ge, m_eq, m_eq', m_lt0, m_ge0, m_gt0, m_le0, m_ltm, m_lem, n_in, m_in, n_cl, n_ti, n_div, n_rem', n_dec, n_l, nI_add, pk_mul, an0, an1, decide_eq_true_eq, if_true, if_false, ite_true, ite_false, and_true, true_and, and_false, false_and, not_true, not_false_iff, or_false, false_or, or_true, true_or, eq_self, va_some, Bool.false_eq_true, reduceIte, catS_n, catS_i, catS_r, catS_l, catS_d, Nat.zero_add, Nat.add_zero, decide_true, decide_false, Nat.reduceLeDiff, cat_r, cat_i, cat_l, nle_T, nle_F, nlt_T, nlt_F, neq_T, neq_F, k0, h]
    done
  have cont : ∀ (I' : MI) (L' : ML) Q, bk (d - 1) 201 65 [.ref 150, .int (nI top), .int (nI 4)] [] Q (.inl none) P I' L' C = X (d - 1) 201 68 [.ref 150, .int (nI top), .int (nI 4)] [] P I' L' C Q := fun I' L' Q => by
    simp (disch := first | assumption | omega) only [Nat.reduceAdd, X_go, go2_some, stp, ldI, ldA, ldL, stI, stA, stL, o1I, o2I, o2L, brI, brII, gl, s1, s2, k1, sl, go_sN, go_sR, go_CT, go_sT, go_no, go_if, pops, bk_v, bk_0, d201_0, d201_1, d201_2, d201_3, d201_5, d201_8, d201_9, d201_12, d201_13, d201_14, d201_15, d201_18, d201_21, d201_22, d201_23, d201_24, d201_25, d201_28, d201_29, d201_32, d201_33, d201_34, d201_35, d201_38, d201_41, d201_42, d201_43, d201_46, d201_47, d201_48, d201_51, d201_52, d201_53, d201_56, d201_57, d201_58, d201_61, d201_62, d201_63, d201_64, d201_65, d201_69, d201_72, d201_75, d201_76, d201_79, d201_80, d201_81, d201_82, d201_85, d201_86, d201_87, d201_90, d201_91, d201_92, d201_95, d201_98, d201_99, d201_100, d201_101, d201_104, d201_107, n_lt, n_le, n_eq, n_lt0, n_ge0, n_gt0, n_le0, n_eq0, m_lt, m_le, m_gt, m_ge, m_eq, m_eq', m_lt0, m_ge0, m_gt0, m_le0, m_ltm, m_lem, n_in, m_in, n_cl, n_ti, n_div, n_rem', n_dec, n_l, nI_add, pk_mul, an0, an1, decide_eq_true_eq, if_true, if_false, ite_true, ite_false, and_true, true_and, and_false, false_and, not_true, not_false_iff, or_false, false_or, or_true, true_or, eq_self, va_some, Bool.false_eq_true, reduceIte, catS_n, catS_i, catS_r, catS_l, catS_d, Nat.zero_add, Nat.add_zero, decide_true, decide_false, Nat.reduceLeDiff, cat_r, cat_i, cat_l, nle_T, nle_F, nlt_T, nlt_F, neq_T, neq_F]
    done
  rcases c202 (d := d - 1) (I := xu I 150 18 (nI 0)) (L := L3) (C := C) (top := top) (p := 0) (s := 1000000000) (fd := 0) (mn := 0) (r := g top) (k := 0) (w0 := 0) (w1 := 0) (its := nI 0) hM hn0 hv hl (MSp_s hv) MGr_0 (xu_s _ _ _ _) (by omega) (by omega) ht (by omega) (by omega) (fun i hi => by rw [show nI 0 = 0 from rfl, b_0]; exact (decide_eq_false (by omega)).symm) rfl (by omega) (by omega) with ⟨L', q1, q2⟩ | ⟨k', r', w0', w1', I3, L4, ⟨z1, z2, z3⟩, z4, ⟨z5, z6, z7, z8⟩, z9, z10, z11, z12, z13, z14⟩
  · refine ⟨xu I 150 18 (nI 0), L', CM_of h1 h2 h3 fun k j _ => q1 k j, fun k j h h' => xu_n _ _ (by omega), fun j h => xu_n _ _ (by omega), ⟨fun k j h => by rw [q1, dM_o (by omega) (by omega) (by omega), Int64.add_zero, hLn k j h], fun j h => by rw [q1, hdm _ _ h, Int64.add_zero, hL150 j h]⟩, fun Q => ?_⟩
    have q2 := q2 (bk (d - 1) 201 65 [.ref 150, .int (nI top), .int (nI 4)] [] Q)
    dsimp only at q2
    rw [start, q2, cont, fin _ _ _ _ (xu_s _ _ _ _)]
  · have hn3 : NR I3 g := NR_fr hn0 fun j' => z12 _ _ (pf_n (by omega))
    obtain ⟨I2, L2', b1, b2, b3, b4⟩ := run201 (d := d - 1) (C := C) hM hv hl (by omega) ht r' 2 (g (3 + top)) 0 top 0 k' (cS g top 0 (spG g) noG) I3 L4 (spG g) noG (sbits g) (nI 0) (nI 0) 0 0 w0' w1' 1000000000 (by omega) ht (by omega) (by omega) (by omega) (by omega) hn3 z11 z10 z9 (CI2_wt hv hl) (MSp_s hv) MGr_0 z5 z6 z7 z8 (by omega) (by omega)
    have e4 : chV g top = sE (hE g (wS g (cS g top 0 (spG g) noG)) (KF g top r' k' w0' w1') (hV g (wS g (cS g top 0 (spG g) noG)) (KF g top r' k' w0' w1') 2) top (spG g) noG 0 1000000000) 0 (g (3 + top)) := z4
    refine ⟨I2, L2', CM_of h1 h2 h3 fun k j h => by rw [b3 k j (.inl h), z13 k j (.inl h), e4], fun k j h h' => by rw [b2 _ _ (by unfold pf; omega), z12 _ _ (by unfold pf; omega), xu_n _ _ (by omega)], fun j h => by rw [b2 _ _ (by unfold pf; omega), z12 _ _ (by unfold pf; omega), xu_n _ _ (by omega)], ⟨fun k j h => by rw [b3 k j (by omega), z13 k j (by omega), dM_o (by omega) (by omega) (by omega), Int64.add_zero, hLn k j h], fun j h => by rw [b3 _ _ (by omega), z13 _ _ (by omega), hdm _ _ h, Int64.add_zero, hL150 j h]⟩, fun Q => ?_⟩
    have q2 := z14 (bk (d - 1) 201 65 [.ref 150, .int (nI top), .int (nI 4)] [] Q)
    dsimp only at q2
    obtain ⟨v, b4⟩ := b4 (.int (nI 4))
    rw [start, q2, cont, b4, fin _ _ _ _ b1]
theorem ZR_th {I I' : MI} {g : GS} {n len : Nat} {ps : Nat → GS} {tx : Nat → Nat} (h : ZR I g n ps len tx) (h1 : ∀ k j, k ≠ 150 → k < 155 ∨ 165 < k → I' k j = I k j) (h2 : ∀ j, j ≠ 18 → I' 150 j = I 150 j) : ZR I' g n ps len tx := by
  obtain ⟨q1, q2, q3, q4, q5⟩ := h
  exact ⟨NR_fr q1 fun j => h1 _ _ (by omega) (by omega), by rw [h2 _ (by omega)]; exact q2, fun i k hi hk => by rw [h1 _ _ (by omega) (by omega)]; exact q3 i k hi hk, by rw [h2 _ (by omega)]; exact q4, fun i hi => by rw [h1 _ _ (by omega) (by omega)]; exact q5 i hi⟩
theorem d200_0 : dec 200 0 = some (.aload_n 0, 1, []) := rfl
theorem d200_1 : dec 200 1 = some (.iload_n 1, 1, []) := rfl
theorem d200_2 : dec 200 2 = some (.invokestatic 84, 3, [2, 155, 0, 10, 0, 1089, 0]) := rfl
theorem d200_5 : dec 200 5 = some (.ifCond .eq 14, 3, [19]) := rfl
theorem d200_8 : dec 200 8 = some (.iload_n 2, 1, []) := rfl
theorem d200_9 : dec 200 9 = some (.invokestatic 90, 3, [2, 160, 0, 10, 0, 1106, 0]) := rfl
theorem d200_12 : dec 200 12 = some (.ifCond .eq 7, 3, [19]) := rfl
theorem d200_15 : dec 200 15 = some (.iconst 0, 1, [0]) := rfl
theorem d200_16 : dec 200 16 = some (.goto 4, 3, [20]) := rfl
theorem d200_19 : dec 200 19 = some (.iconst 1, 1, [1]) := rfl
theorem d200_20 : dec 200 20 = some (.invokevirtual 72, 3, [2, 153, 2, 10, 0, 1081, 0]) := rfl
theorem d200_23 : dec 200 23 = some (.ifCond .eq 5, 3, [28]) := rfl
theorem d200_26 : dec 200 26 = some (.iconst 0, 1, [0]) := rfl
theorem d200_27 : dec 200 27 = some (.ireturn, 1, [0]) := rfl
theorem d200_28 : dec 200 28 = some (.aload_n 0, 1, []) := rfl
theorem d200_29 : dec 200 29 = some (.iload_n 1, 1, []) := rfl
theorem d200_30 : dec 200 30 = some (.invokevirtual 206, 3, [2, 201, 2, 10, 0, 1270, 0]) := rfl
theorem d200_33 : dec 200 33 = some (.aload_n 0, 1, []) := rfl
theorem d200_34 : dec 200 34 = some (.getfield 56, 3, [1, 10, 19, 2, 0, 1013]) := rfl
theorem d200_37 : dec 200 37 = some (.iload_n 2, 1, []) := rfl
theorem d200_38 : dec 200 38 = some (.laload, 1, []) := rfl
theorem d200_39 : dec 200 39 = some (.l2i, 1, []) := rfl
theorem d200_40 : dec 200 40 = some (.ireturn, 1, [0]) := rfl
theorem l200 : mL 200 = 3 := rfl
theorem c200 {d : Nat} {P : MP} {I : MI} {L : ML} {C : MC} {t it : Nat} {B n len : Nat} {g : GS} {ps : Nat → GS} {tx : Nat → Nat} (hM : MB P) (hR : ZR I g n ps len tx) (hA : AV B g n ps len tx) (hd : 15 ≤ d) (ht : t < 3) (hit : it < 16) : ∃ I' L', ZR I' g n ps len tx ∧ I' 150 4 = nI 0 ∧ fm I I' ∧ fml L L' ∧ ∀ Q, CT d 200 [.ref 150, .int (nI t), .int (nI it)] P I L C Q = Q (.inl (some (.int (chV g t it).toInt32))) P I' L' C := by
  have hM' := hM
  obtain ⟨⟨k0, p0, p1, p2, p5, y1, y2, y3, y4⟩, _⟩ := hM'
  have hR' := hR
  obtain ⟨hN, h3, hps', h6, htx'⟩ := hR'
  have hA' := hA
  obtain ⟨hGV, hps, hn4, hlen, htx⟩ := hA'
  have h140 := GV_140 hGV
  have hv := hGV.1
  have hl := hGV.2.1
  have hFv := hGV.2.2
  have hR0 : ZR (xu I 150 4 (nI 0)) g n ps len tx := ZR_4 hR
  have hN0 := hR0.1
  have hM2 := hM
  obtain ⟨_, _, _, r19, r20, r24, s19, s20, s24⟩ := hM2
  obtain ⟨I', L', i1, i2, i3, ⟨i4, _⟩, i5⟩ := c201 (d := d - 1) (L := L) (C := C) hM hN0 hv hl (by omega) ht
  have hc := i1.1 it hit
  refine ⟨I', L', ZR_th hR0 i2 i3, by rw [i3 _ (by omega), xu_s], fun k j h => by rw [i2 _ _ (by omega) (by omega), xu_n _ _ (by omega)], i4, fun Q => ?_⟩
  rw [CT_e (mj := 200) (e := [.ref 150, .int (nI t), .int (nI it)]) (by omega) rfl (Nat.le_of_ble_eq_true rfl)]
  simp (disch := first | assumption | omega) only [Nat.reduceAdd, X_go, go2_some, stp, ldI, ldA, ldL, stI, stA, stL, o1I, o2I, o2L, brI, brII, gl, s1, s2, k1, sl, go_sN, go_sR, go_CT, go_sT, go_no, go_if, pops, bk_v, bk_0, d200_0, d200_1, d200_2, d200_5, d200_8, d200_9, d200_12, d200_15, d200_16, d200_19, d200_20, d200_23, d200_26, d200_27, d200_28, d200_29, d200_30, d200_33, d200_34, d200_37, d200_38, d200_39, d200_40, n_lt, n_le, n_eq, n_lt0, n_ge0, n_gt0, n_le0, n_eq0, m_lt, m_le, m_gt, m_ge, m_eq, m_eq', m_lt0, m_ge0, m_gt0, m_le0, m_ltm, m_lem, n_in, m_in, n_cl, n_ti, n_div, n_rem', n_dec, n_l, nI_add, pk_mul, an0, an1, decide_eq_true_eq, if_true, if_false, ite_true, ite_false, and_true, true_and, and_false, false_and, not_true, not_false_iff, or_false, false_or, or_true, true_or, eq_self, va_some, Bool.false_eq_true, reduceIte, catS_n, catS_i, catS_r, catS_l, catS_d, Nat.zero_add, Nat.add_zero, decide_true, decide_false, Nat.reduceLeDiff, cat_r, cat_i, cat_l, nle_T, nle_F, nlt_T, nlt_F, neq_T, neq_F, k0, r19, s19, c155, c160, c153 hM, i5, hc]
  done
theorem c200b {d : Nat} {P : MP} {I : MI} {L : ML} {C : MC} {Q : QT} {x y : Int32} (hM : MB P) (hd : 6 ≤ d) (hx : x < 0 ∨ nI 3 ≤ x) : CT d 200 [.ref 150, .int x, .int y] P I L C Q = Q (.inl (some (.int (nI 0)))) P (xu I 150 4 (nI 1)) L C := by
  have k0 := hM.1.1
  rw [CT_e (mj := 200) (e := [.ref 150, .int x, .int y]) (by omega) rfl (Nat.le_of_ble_eq_true rfl)]
  simp (disch := first | assumption | omega) only [Nat.reduceAdd, X_go, go2_some, stp, ldI, ldA, ldL, stI, stA, stL, o1I, o2I, o2L, brI, brII, gl, s1, s2, k1, sl, go_sN, go_sR, go_CT, go_sT, go_no, go_if, pops, bk_v, bk_0, d200_0, d200_1, d200_2, d200_5, d200_8, d200_9, d200_12, d200_15, d200_16, d200_19, d200_20, d200_23, d200_26, d200_27, d200_28, d200_29, d200_30, d200_33, d200_34, d200_37, d200_38, d200_39, d200_40, n_lt, n_le, n_eq, n_lt0, n_ge0, n_gt0, n_le0, n_eq0, m_lt, m_le, m_gt, m_ge, m_eq, m_eq', m_lt0, m_ge0, m_gt0, m_le0, m_ltm, m_lem, n_in, m_in, n_cl, n_ti, n_div, n_rem', n_dec, n_l, nI_add, pk_mul, an0, an1, decide_eq_true_eq, if_true, if_false, ite_true, ite_false, and_true, true_and, and_false, false_and, not_true, not_false_iff, or_false, false_or, or_true, true_or, eq_self, va_some, Bool.false_eq_true, reduceIte, catS_n, catS_i, catS_r, catS_l, catS_d, Nat.zero_add, Nat.add_zero, decide_true, decide_false, Nat.reduceLeDiff, cat_r, cat_i, cat_l, nle_T, nle_F, nlt_T, nlt_F, neq_T, neq_F, k0, c155b, c153 hM]
  done
theorem c200c {d : Nat} {P : MP} {I : MI} {L : ML} {C : MC} {Q : QT} {t : Nat} {y : Int32} (hM : MB P) (hd : 6 ≤ d) (ht : t < 3) (hy : y < 0 ∨ nI 16 ≤ y) : CT d 200 [.ref 150, .int (nI t), .int y] P I L C Q = Q (.inl (some (.int (nI 0)))) P (xu I 150 4 (nI 1)) L C := by
  have k0 := hM.1.1
  rw [CT_e (mj := 200) (e := [.ref 150, .int (nI t), .int y]) (by omega) rfl (Nat.le_of_ble_eq_true rfl)]
  simp (disch := first | assumption | omega) only [Nat.reduceAdd, X_go, go2_some, stp, ldI, ldA, ldL, stI, stA, stL, o1I, o2I, o2L, brI, brII, gl, s1, s2, k1, sl, go_sN, go_sR, go_CT, go_sT, go_no, go_if, pops, bk_v, bk_0, d200_0, d200_1, d200_2, d200_5, d200_8, d200_9, d200_12, d200_15, d200_16, d200_19, d200_20, d200_23, d200_26, d200_27, d200_28, d200_29, d200_30, d200_33, d200_34, d200_37, d200_38, d200_39, d200_40, n_lt, n_le, n_eq, n_lt0, n_ge0, n_gt0, n_le0, n_eq0, m_lt, m_le, m_gt, m_ge, m_eq, m_eq', m_lt0, m_ge0, m_gt0, m_le0, m_ltm, m_lem, n_in, m_in, n_cl, n_ti, n_div, n_rem', n_dec, n_l, nI_add, pk_mul, an0, an1, decide_eq_true_eq, if_true, if_false, ite_true, ite_false, and_true, true_and, and_false, false_and, not_true, not_false_iff, or_false, false_or, or_true, true_or, eq_self, va_some, Bool.false_eq_true, reduceIte, catS_n, catS_i, catS_r, catS_l, catS_d, Nat.zero_add, Nat.add_zero, decide_true, decide_false, Nat.reduceLeDiff, cat_r, cat_i, cat_l, nle_T, nle_F, nlt_T, nlt_F, neq_T, neq_F, k0, c155, c160b, c153 hM]
  done
theorem d207_0 : dec 207 0 = some (.aload_n 0, 1, []) := rfl
theorem d207_1 : dec 207 1 = some (.iload_n 1, 1, []) := rfl
theorem d207_2 : dec 207 2 = some (.invokestatic 84, 3, [2, 155, 0, 10, 0, 1089, 0]) := rfl
theorem d207_5 : dec 207 5 = some (.ifCond .ne 7, 3, [12]) := rfl
theorem d207_8 : dec 207 8 = some (.iconst 1, 1, [1]) := rfl
theorem d207_9 : dec 207 9 = some (.goto 17, 3, [26]) := rfl
theorem d207_12 : dec 207 12 = some (.iload_n 2, 1, []) := rfl
theorem d207_13 : dec 207 13 = some (.iconst 0, 1, [0]) := rfl
theorem d207_14 : dec 207 14 = some (.iconst 3, 1, [3]) := rfl
theorem d207_15 : dec 207 15 = some (.invokestatic 76, 3, [2, 156, 0, 10, 0, 1092, 0, 0, 0]) := rfl
theorem d207_18 : dec 207 18 = some (.ifCond .eq 7, 3, [25]) := rfl
theorem d207_21 : dec 207 21 = some (.iconst 0, 1, [0]) := rfl
theorem d207_22 : dec 207 22 = some (.goto 4, 3, [26]) := rfl
theorem d207_25 : dec 207 25 = some (.iconst 2, 1, [2]) := rfl
theorem d207_26 : dec 207 26 = some (.invokevirtual 72, 3, [2, 153, 2, 10, 0, 1081, 0]) := rfl
theorem d207_29 : dec 207 29 = some (.ifCond .eq 5, 3, [34]) := rfl
theorem d207_32 : dec 207 32 = some (.iconst 0, 1, [0]) := rfl
theorem d207_33 : dec 207 33 = some (.ireturn, 1, [0]) := rfl
theorem d207_34 : dec 207 34 = some (.aload_n 0, 1, []) := rfl
theorem d207_35 : dec 207 35 = some (.iload_n 1, 1, []) := rfl
theorem d207_36 : dec 207 36 = some (.invokevirtual 206, 3, [2, 201, 2, 10, 0, 1270, 0]) := rfl
theorem d207_39 : dec 207 39 = some (.aload_n 0, 1, []) := rfl
theorem d207_40 : dec 207 40 = some (.getfield 59, 3, [1, 10, 20, 2, 0, 1014]) := rfl
theorem d207_43 : dec 207 43 = some (.iload_n 2, 1, []) := rfl
theorem d207_44 : dec 207 44 = some (.laload, 1, []) := rfl
theorem d207_45 : dec 207 45 = some (.l2i, 1, []) := rfl
theorem d207_46 : dec 207 46 = some (.ireturn, 1, [0]) := rfl
theorem l207 : mL 207 = 3 := rfl
theorem c207 {d : Nat} {P : MP} {I : MI} {L : ML} {C : MC} {t r : Nat} {B n len : Nat} {g : GS} {ps : Nat → GS} {tx : Nat → Nat} (hM : MB P) (hR : ZR I g n ps len tx) (hA : AV B g n ps len tx) (hd : 15 ≤ d) (ht : t < 3) (hr : r ≤ 3) : ∃ I' L', ZR I' g n ps len tx ∧ I' 150 4 = nI 0 ∧ fm I I' ∧ fml L L' ∧ ∀ Q, CT d 207 [.ref 150, .int (nI t), .int (nI r)] P I L C Q = Q (.inl (some (.int (raV (chV g t) r).toInt32))) P I' L' C := by
  have hM' := hM
  obtain ⟨⟨k0, p0, p1, p2, p5, y1, y2, y3, y4⟩, _⟩ := hM'
  have hR' := hR
  obtain ⟨hN, h3, hps', h6, htx'⟩ := hR'
  have hA' := hA
  obtain ⟨hGV, hps, hn4, hlen, htx⟩ := hA'
  have h140 := GV_140 hGV
  have hv := hGV.1
  have hl := hGV.2.1
  have hFv := hGV.2.2
  have hR0 : ZR (xu I 150 4 (nI 0)) g n ps len tx := ZR_4 hR
  have hN0 := hR0.1
  have hM2 := hM
  obtain ⟨_, _, _, r19, r20, r24, s19, s20, s24⟩ := hM2
  obtain ⟨I', L', i1, i2, i3, ⟨i4, _⟩, i5⟩ := c201 (d := d - 1) (L := L) (C := C) hM hN0 hv hl (by omega) ht
  have hc := i1.2.1 r (by omega)
  refine ⟨I', L', ZR_th hR0 i2 i3, by rw [i3 _ (by omega), xu_s], fun k j h => by rw [i2 _ _ (by omega) (by omega), xu_n _ _ (by omega)], i4, fun Q => ?_⟩
  rw [CT_e (mj := 207) (e := [.ref 150, .int (nI t), .int (nI r)]) (by omega) rfl (Nat.le_of_ble_eq_true rfl)]
  simp (disch := first | assumption | omega) only [Nat.reduceAdd, X_go, go2_some, stp, ldI, ldA, ldL, stI, stA, stL, o1I, o2I, o2L, brI, brII, gl, s1, s2, k1, sl, go_sN, go_sR, go_CT, go_sT, go_no, go_if, pops, bk_v, bk_0, d207_0, d207_1, d207_2, d207_5, d207_8, d207_9, d207_12, d207_13, d207_14, d207_15, d207_18, d207_21, d207_22, d207_25, d207_26, d207_29, d207_32, d207_33, d207_34, d207_35, d207_36, d207_39, d207_40, d207_43, d207_44, d207_45, d207_46, n_lt, n_le, n_eq, n_lt0, n_ge0, n_gt0, n_le0, n_eq0, m_lt, m_le, m_gt, m_ge, m_eq, m_eq', m_lt0, m_ge0, m_gt0, m_le0, m_ltm, m_lem, n_in, m_in, n_cl, n_ti, n_div, n_rem', n_dec, n_l, nI_add, pk_mul, an0, an1, decide_eq_true_eq, if_true, if_false, ite_true, ite_false, and_true, true_and, and_false, false_and, not_true, not_false_iff, or_false, false_or, or_true, true_or, eq_self, va_some, Bool.false_eq_true, reduceIte, catS_n, catS_i, catS_r, catS_l, catS_d, Nat.zero_add, Nat.add_zero, decide_true, decide_false, Nat.reduceLeDiff, cat_r, cat_i, cat_l, nle_T, nle_F, nlt_T, nlt_F, neq_T, neq_F, k0, r20, s20, c155, c156, c153 hM, i5, hc]
  done
theorem c207b {d : Nat} {P : MP} {I : MI} {L : ML} {C : MC} {Q : QT} {x y : Int32} (hM : MB P) (hd : 6 ≤ d) (hx : x < 0 ∨ nI 3 ≤ x) : CT d 207 [.ref 150, .int x, .int y] P I L C Q = Q (.inl (some (.int (nI 0)))) P (xu I 150 4 (nI 1)) L C := by
  have k0 := hM.1.1
  rw [CT_e (mj := 207) (e := [.ref 150, .int x, .int y]) (by omega) rfl (Nat.le_of_ble_eq_true rfl)]
  simp (disch := first | assumption | omega) only [Nat.reduceAdd, X_go, go2_some, stp, ldI, ldA, ldL, stI, stA, stL, o1I, o2I, o2L, brI, brII, gl, s1, s2, k1, sl, go_sN, go_sR, go_CT, go_sT, go_no, go_if, pops, bk_v, bk_0, d207_0, d207_1, d207_2, d207_5, d207_8, d207_9, d207_12, d207_13, d207_14, d207_15, d207_18, d207_21, d207_22, d207_25, d207_26, d207_29, d207_32, d207_33, d207_34, d207_35, d207_36, d207_39, d207_40, d207_43, d207_44, d207_45, d207_46, n_lt, n_le, n_eq, n_lt0, n_ge0, n_gt0, n_le0, n_eq0, m_lt, m_le, m_gt, m_ge, m_eq, m_eq', m_lt0, m_ge0, m_gt0, m_le0, m_ltm, m_lem, n_in, m_in, n_cl, n_ti, n_div, n_rem', n_dec, n_l, nI_add, pk_mul, an0, an1, decide_eq_true_eq, if_true, if_false, ite_true, ite_false, and_true, true_and, and_false, false_and, not_true, not_false_iff, or_false, false_or, or_true, true_or, eq_self, va_some, Bool.false_eq_true, reduceIte, catS_n, catS_i, catS_r, catS_l, catS_d, Nat.zero_add, Nat.add_zero, decide_true, decide_false, Nat.reduceLeDiff, cat_r, cat_i, cat_l, nle_T, nle_F, nlt_T, nlt_F, neq_T, neq_F, k0, c155b, c153 hM]
  done
theorem c207c {d : Nat} {P : MP} {I : MI} {L : ML} {C : MC} {Q : QT} {t : Nat} {y : Int32} (hM : MB P) (hd : 6 ≤ d) (ht : t < 3) (hy : y < 0 ∨ nI 3 < y) : CT d 207 [.ref 150, .int (nI t), .int y] P I L C Q = Q (.inl (some (.int (nI 0)))) P (xu I 150 4 (nI 2)) L C := by
  have k0 := hM.1.1
  rw [CT_e (mj := 207) (e := [.ref 150, .int (nI t), .int y]) (by omega) rfl (Nat.le_of_ble_eq_true rfl)]
  simp (disch := first | assumption | omega) only [Nat.reduceAdd, X_go, go2_some, stp, ldI, ldA, ldL, stI, stA, stL, o1I, o2I, o2L, brI, brII, gl, s1, s2, k1, sl, go_sN, go_sR, go_CT, go_sT, go_no, go_if, pops, bk_v, bk_0, d207_0, d207_1, d207_2, d207_5, d207_8, d207_9, d207_12, d207_13, d207_14, d207_15, d207_18, d207_21, d207_22, d207_25, d207_26, d207_29, d207_32, d207_33, d207_34, d207_35, d207_36, d207_39, d207_40, d207_43, d207_44, d207_45, d207_46, n_lt, n_le, n_eq, n_lt0, n_ge0, n_gt0, n_le0, n_eq0, m_lt, m_le, m_gt, m_ge, m_eq, m_eq', m_lt0, m_ge0, m_gt0, m_le0, m_ltm, m_lem, n_in, m_in, n_cl, n_ti, n_div, n_rem', n_dec, n_l, nI_add, pk_mul, an0, an1, decide_eq_true_eq, if_true, if_false, ite_true, ite_false, and_true, true_and, and_false, false_and, not_true, not_false_iff, or_false, false_or, or_true, true_or, eq_self, va_some, Bool.false_eq_true, reduceIte, catS_n, catS_i, catS_r, catS_l, catS_d, Nat.zero_add, Nat.add_zero, decide_true, decide_false, Nat.reduceLeDiff, cat_r, cat_i, cat_l, nle_T, nle_F, nlt_T, nlt_F, neq_T, neq_F, k0, c155, c156b (y := nI 0) (hx := hy), c153 hM]
  done
theorem d208_0 : dec 208 0 = some (.aload_n 0, 1, []) := rfl
theorem d208_1 : dec 208 1 = some (.iload_n 1, 1, []) := rfl
theorem d208_2 : dec 208 2 = some (.invokestatic 84, 3, [2, 155, 0, 10, 0, 1089, 0]) := rfl
theorem d208_5 : dec 208 5 = some (.ifCond .eq 7, 3, [12]) := rfl
theorem d208_8 : dec 208 8 = some (.iconst 0, 1, [0]) := rfl
theorem d208_9 : dec 208 9 = some (.goto 4, 3, [13]) := rfl
theorem d208_12 : dec 208 12 = some (.iconst 1, 1, [1]) := rfl
theorem d208_13 : dec 208 13 = some (.invokevirtual 72, 3, [2, 153, 2, 10, 0, 1081, 0]) := rfl
theorem d208_16 : dec 208 16 = some (.ifCond .eq 5, 3, [21]) := rfl
theorem d208_19 : dec 208 19 = some (.lconst 0, 1, [0]) := rfl
theorem d208_20 : dec 208 20 = some (.lreturn, 1, []) := rfl
theorem d208_21 : dec 208 21 = some (.aload_n 0, 1, []) := rfl
theorem d208_22 : dec 208 22 = some (.iload_n 1, 1, []) := rfl
theorem d208_23 : dec 208 23 = some (.invokevirtual 206, 3, [2, 201, 2, 10, 0, 1270, 0]) := rfl
theorem d208_26 : dec 208 26 = some (.aload_n 0, 1, []) := rfl
theorem d208_27 : dec 208 27 = some (.getfield 187, 3, [1, 10, 21, 1, 0, 1015]) := rfl
theorem d208_30 : dec 208 30 = some (.lreturn, 1, []) := rfl
theorem l208 : mL 208 = 2 := rfl
theorem c208 {d : Nat} {P : MP} {I : MI} {L : ML} {C : MC} {t : Nat} {B n len : Nat} {g : GS} {ps : Nat → GS} {tx : Nat → Nat} (hM : MB P) (hR : ZR I g n ps len tx) (hA : AV B g n ps len tx) (hd : 15 ≤ d) (ht : t < 3) : ∃ I' L', ZR I' g n ps len tx ∧ I' 150 4 = nI 0 ∧ fm I I' ∧ fml L L' ∧ ∀ Q, CT d 208 [.ref 150, .int (nI t)] P I L C Q = Q (.inl (some (.long (chV g t 20)))) P I' L' C := by
  have hM' := hM
  obtain ⟨⟨k0, p0, p1, p2, p5, y1, y2, y3, y4⟩, _⟩ := hM'
  have hR' := hR
  obtain ⟨hN, h3, hps', h6, htx'⟩ := hR'
  have hA' := hA
  obtain ⟨hGV, hps, hn4, hlen, htx⟩ := hA'
  have h140 := GV_140 hGV
  have hv := hGV.1
  have hl := hGV.2.1
  have hFv := hGV.2.2
  have hR0 : ZR (xu I 150 4 (nI 0)) g n ps len tx := ZR_4 hR
  have hN0 := hR0.1
  obtain ⟨I', L', i1, i2, i3, ⟨i4, _⟩, i5⟩ := c201 (d := d - 1) (L := L) (C := C) hM hN0 hv hl (by omega) ht
  have hc := i1.2.2
  refine ⟨I', L', ZR_th hR0 i2 i3, by rw [i3 _ (by omega), xu_s], fun k j h => by rw [i2 _ _ (by omega) (by omega), xu_n _ _ (by omega)], i4, fun Q => ?_⟩
  rw [CT_e (mj := 208) (e := [.ref 150, .int (nI t)]) (by omega) rfl (Nat.le_of_ble_eq_true rfl)]
  simp (disch := first | assumption | omega) only [Nat.reduceAdd, X_go, go2_some, stp, ldI, ldA, ldL, stI, stA, stL, o1I, o2I, o2L, brI, brII, gl, s1, s2, k1, sl, go_sN, go_sR, go_CT, go_sT, go_no, go_if, pops, bk_v, bk_0, d208_0, d208_1, d208_2, d208_5, d208_8, d208_9, d208_12, d208_13, d208_16, d208_19, d208_20, d208_21, d208_22, d208_23, d208_26, d208_27, d208_30, n_lt, n_le, n_eq, n_lt0, n_ge0, n_gt0, n_le0, n_eq0, m_lt, m_le, m_gt, m_ge, m_eq, m_eq', m_lt0, m_ge0, m_gt0, m_le0, m_ltm, m_lem, n_in, m_in, n_cl, n_ti, n_div, n_rem', n_dec, n_l, nI_add, pk_mul, an0, an1, decide_eq_true_eq, if_true, if_false, ite_true, ite_false, and_true, true_and, and_false, false_and, not_true, not_false_iff, or_false, false_or, or_true, true_or, eq_self, va_some, Bool.false_eq_true, reduceIte, catS_n, catS_i, catS_r, catS_l, catS_d, Nat.zero_add, Nat.add_zero, decide_true, decide_false, Nat.reduceLeDiff, cat_r, cat_i, cat_l, nle_T, nle_F, nlt_T, nlt_F, neq_T, neq_F, k0, c155, c153 hM, i5, hc]
  done
theorem c208b {d : Nat} {P : MP} {I : MI} {L : ML} {C : MC} {Q : QT} {x : Int32} (hM : MB P) (hd : 6 ≤ d) (hx : x < 0 ∨ nI 3 ≤ x) : CT d 208 [.ref 150, .int x] P I L C Q = Q (.inl (some (.long (lN 0)))) P (xu I 150 4 (nI 1)) L C := by
  have k0 := hM.1.1
  rw [CT_e (mj := 208) (e := [.ref 150, .int x]) (by omega) rfl (Nat.le_of_ble_eq_true rfl)]
  simp (disch := first | assumption | omega) only [Nat.reduceAdd, X_go, go2_some, stp, ldI, ldA, ldL, stI, stA, stL, o1I, o2I, o2L, brI, brII, gl, s1, s2, k1, sl, go_sN, go_sR, go_CT, go_sT, go_no, go_if, pops, bk_v, bk_0, d208_0, d208_1, d208_2, d208_5, d208_8, d208_9, d208_12, d208_13, d208_16, d208_19, d208_20, d208_21, d208_22, d208_23, d208_26, d208_27, d208_30, n_lt, n_le, n_eq, n_lt0, n_ge0, n_gt0, n_le0, n_eq0, m_lt, m_le, m_gt, m_ge, m_eq, m_eq', m_lt0, m_ge0, m_gt0, m_le0, m_ltm, m_lem, n_in, m_in, n_cl, n_ti, n_div, n_rem', n_dec, n_l, nI_add, pk_mul, an0, an1, decide_eq_true_eq, if_true, if_false, ite_true, ite_false, and_true, true_and, and_false, false_and, not_true, not_false_iff, or_false, false_or, or_true, true_or, eq_self, va_some, Bool.false_eq_true, reduceIte, catS_n, catS_i, catS_r, catS_l, catS_d, Nat.zero_add, Nat.add_zero, decide_true, decide_false, Nat.reduceLeDiff, cat_r, cat_i, cat_l, nle_T, nle_F, nlt_T, nlt_F, neq_T, neq_F, k0, c155b, c153 hM]
  done
theorem d213_0 : dec 213 0 = some (.aload_n 0, 1, []) := rfl
theorem d213_1 : dec 213 1 = some (.iload_n 1, 1, []) := rfl
theorem d213_2 : dec 213 2 = some (.invokestatic 84, 3, [2, 155, 0, 10, 0, 1089, 0]) := rfl
theorem d213_5 : dec 213 5 = some (.ifCond .eq 14, 3, [19]) := rfl
theorem d213_8 : dec 213 8 = some (.iload_n 2, 1, []) := rfl
theorem d213_9 : dec 213 9 = some (.invokestatic 90, 3, [2, 160, 0, 10, 0, 1106, 0]) := rfl
theorem d213_12 : dec 213 12 = some (.ifCond .eq 7, 3, [19]) := rfl
theorem d213_15 : dec 213 15 = some (.iconst 0, 1, [0]) := rfl
theorem d213_16 : dec 213 16 = some (.goto 4, 3, [20]) := rfl
theorem d213_19 : dec 213 19 = some (.iconst 1, 1, [1]) := rfl
theorem d213_20 : dec 213 20 = some (.invokevirtual 72, 3, [2, 153, 2, 10, 0, 1081, 0]) := rfl
theorem d213_23 : dec 213 23 = some (.ifCond .eq 5, 3, [28]) := rfl
theorem d213_26 : dec 213 26 = some (.iconst 0, 1, [0]) := rfl
theorem d213_27 : dec 213 27 = some (.ireturn, 1, [0]) := rfl
theorem d213_28 : dec 213 28 = some (.iconst (-1), 1, [4294967295]) := rfl
theorem d213_29 : dec 213 29 = some (.istore_n 3, 1, []) := rfl
theorem d213_30 : dec 213 30 = some (.ldc2_w 216, 3, [9, 18446744073709551615, 1323]) := rfl
theorem d213_33 : dec 213 33 = some (.lstore 4, 2, []) := rfl
theorem d213_35 : dec 213 35 = some (.iconst 0, 1, [0]) := rfl
theorem d213_36 : dec 213 36 = some (.istore 6, 2, []) := rfl
theorem d213_38 : dec 213 38 = some (.iload 6, 2, []) := rfl
theorem d213_40 : dec 213 40 = some (.aload_n 0, 1, []) := rfl
theorem d213_41 : dec 213 41 = some (.getfield 7, 3, [1, 10, 0, 2, 0, 994]) := rfl
theorem d213_44 : dec 213 44 = some (.iconst 3, 1, [3]) := rfl
theorem d213_45 : dec 213 45 = some (.iload_n 1, 1, []) := rfl
theorem d213_46 : dec 213 46 = some (.iadd, 1, []) := rfl
theorem d213_47 : dec 213 47 = some (.iaload, 1, []) := rfl
theorem d213_48 : dec 213 48 = some (.if_icmp .ge 116, 3, [164]) := rfl
theorem d213_51 : dec 213 51 = some (.aload_n 0, 1, []) := rfl
theorem d213_52 : dec 213 52 = some (.iload_n 1, 1, []) := rfl
theorem d213_53 : dec 213 53 = some (.iload 6, 2, []) := rfl
theorem d213_55 : dec 213 55 = some (.iconst 1, 1, [1]) := rfl
theorem d213_56 : dec 213 56 = some (.invokevirtual 107, 3, [2, 167, 2, 10, 0, 1131, 0, 0, 0]) := rfl
theorem d213_59 : dec 213 59 = some (.istore 7, 2, []) := rfl
theorem d213_61 : dec 213 61 = some (.aload_n 0, 1, []) := rfl
theorem d213_62 : dec 213 62 = some (.getfield 7, 3, [1, 10, 0, 2, 0, 994]) := rfl
theorem d213_65 : dec 213 65 = some (.iload_n 1, 1, []) := rfl
theorem d213_66 : dec 213 66 = some (.iload 6, 2, []) := rfl
theorem d213_68 : dec 213 68 = some (.invokestatic 80, 3, [2, 163, 0, 10, 0, 1116, 0, 0]) := rfl
theorem d213_71 : dec 213 71 = some (.iconst 1, 1, [1]) := rfl
theorem d213_72 : dec 213 72 = some (.iadd, 1, []) := rfl
theorem d213_73 : dec 213 73 = some (.iconst 2, 1, [2]) := rfl
theorem d213_74 : dec 213 74 = some (.iload 7, 2, []) := rfl
theorem d213_76 : dec 213 76 = some (.imul, 1, []) := rfl
theorem d213_77 : dec 213 77 = some (.sipush 1000, 3, [1000]) := rfl
theorem d213_80 : dec 213 80 = some (.if_icmp .le 9, 3, [89]) := rfl
theorem d213_83 : dec 213 83 = some (.sipush 1000, 3, [1000]) := rfl
theorem d213_86 : dec 213 86 = some (.goto 7, 3, [93]) := rfl
theorem d213_89 : dec 213 89 = some (.iconst 2, 1, [2]) := rfl
theorem d213_90 : dec 213 90 = some (.iload 7, 2, []) := rfl
theorem d213_92 : dec 213 92 = some (.imul, 1, []) := rfl
theorem d213_93 : dec 213 93 = some (.iastore, 1, []) := rfl
theorem d213_94 : dec 213 94 = some (.aload_n 0, 1, []) := rfl
theorem d213_95 : dec 213 95 = some (.iload_n 1, 1, []) := rfl
theorem d213_96 : dec 213 96 = some (.invokevirtual 206, 3, [2, 201, 2, 10, 0, 1270, 0]) := rfl
theorem d213_99 : dec 213 99 = some (.aload_n 0, 1, []) := rfl
theorem d213_100 : dec 213 100 = some (.getfield 7, 3, [1, 10, 0, 2, 0, 994]) := rfl
theorem d213_103 : dec 213 103 = some (.iload_n 1, 1, []) := rfl
theorem d213_104 : dec 213 104 = some (.iload 6, 2, []) := rfl
theorem d213_106 : dec 213 106 = some (.invokestatic 80, 3, [2, 163, 0, 10, 0, 1116, 0, 0]) := rfl
theorem d213_109 : dec 213 109 = some (.iconst 1, 1, [1]) := rfl
theorem d213_110 : dec 213 110 = some (.iadd, 1, []) := rfl
theorem d213_111 : dec 213 111 = some (.iload 7, 2, []) := rfl
theorem d213_113 : dec 213 113 = some (.iastore, 1, []) := rfl
theorem d213_114 : dec 213 114 = some (.aload_n 0, 1, []) := rfl
theorem d213_115 : dec 213 115 = some (.getfield 56, 3, [1, 10, 19, 2, 0, 1013]) := rfl
theorem d213_118 : dec 213 118 = some (.iload_n 2, 1, []) := rfl
theorem d213_119 : dec 213 119 = some (.laload, 1, []) := rfl
theorem d213_120 : dec 213 120 = some (.lload 4, 2, []) := rfl
theorem d213_122 : dec 213 122 = some (.lcmp, 1, []) := rfl
theorem d213_123 : dec 213 123 = some (.ifCond .le 8, 3, [131]) := rfl
theorem d213_126 : dec 213 126 = some (.iload 6, 2, []) := rfl
theorem d213_128 : dec 213 128 = some (.goto 4, 3, [132]) := rfl
theorem d213_131 : dec 213 131 = some (.iload_n 3, 1, []) := rfl
theorem d213_132 : dec 213 132 = some (.istore_n 3, 1, []) := rfl
theorem d213_133 : dec 213 133 = some (.aload_n 0, 1, []) := rfl
theorem d213_134 : dec 213 134 = some (.getfield 56, 3, [1, 10, 19, 2, 0, 1013]) := rfl
theorem d213_137 : dec 213 137 = some (.iload_n 2, 1, []) := rfl
theorem d213_138 : dec 213 138 = some (.laload, 1, []) := rfl
theorem d213_139 : dec 213 139 = some (.lload 4, 2, []) := rfl
theorem d213_141 : dec 213 141 = some (.lcmp, 1, []) := rfl
theorem d213_142 : dec 213 142 = some (.ifCond .le 12, 3, [154]) := rfl
theorem d213_145 : dec 213 145 = some (.aload_n 0, 1, []) := rfl
theorem d213_146 : dec 213 146 = some (.getfield 56, 3, [1, 10, 19, 2, 0, 1013]) := rfl
theorem d213_149 : dec 213 149 = some (.iload_n 2, 1, []) := rfl
theorem d213_150 : dec 213 150 = some (.laload, 1, []) := rfl
theorem d213_151 : dec 213 151 = some (.goto 5, 3, [156]) := rfl
theorem d213_154 : dec 213 154 = some (.lload 4, 2, []) := rfl
theorem d213_156 : dec 213 156 = some (.lstore 4, 2, []) := rfl
theorem d213_158 : dec 213 158 = some (.iinc 6 1, 3, [1]) := rfl
theorem d213_161 : dec 213 161 = some (.goto (-123), 3, [38]) := rfl
theorem d213_164 : dec 213 164 = some (.iload_n 3, 1, []) := rfl
theorem d213_165 : dec 213 165 = some (.ireturn, 1, [0]) := rfl
theorem l213 : mL 213 = 8 := rfl
theorem f213 {d : Nat} {P : MP} {C : MC} {t it B : Nat} {g : GS} (hM : MB P) (hd : 14 ≤ d) (ht : t < 3) (hit : it < 16) (hGV : GV B g) : ∀ m e (b : Int32) (mo : Int64) (I : MI) (L : ML) (u7 : Value), e + m = g (3 + t) → NR I g → ∃ I' L', NR I' g ∧ (∀ k j, k ≠ 150 → k ≠ 151 → k < 155 ∨ 165 < k → I' k j = I k j) ∧ (∀ j, j ≠ 18 → I' 150 j = I 150 j) ∧ fml L L' ∧ ∀ Q, X d 213 38 [.ref 150, .int (nI t), .int (nI it), .int b, .long mo, UN, .int (nI e), u7] [] P I L C Q = Q (.inl (some (.int (bdV g t it m e b mo)))) P I' L' C := by
  have hM' := hM
  obtain ⟨⟨k0, p0, p1, p2, p5, y1, _⟩, _, _, r19, r20, r24, s19, s20, s24⟩ := hM'
  have hv := hGV.1
  have hc := hv.2.1 t ht
  intro m
  induction m with
  | zero =>
    intro e b mo I L u7 hm hn
    have hnc := hn (3 + t) (by omega)
    have : e = g (3 + t) := by omega
    subst this
    refine ⟨I, L, hn, fun _ _ _ _ _ => rfl, fun _ _ => rfl, fun _ _ _ => rfl, fun Q => ?_⟩
    have e0 : bdV g t it 0 (g (3 + t)) b mo = b := rfl
    rw [X_go, d213_38]
    simp (disch := first | assumption | omega) only [Nat.reduceAdd, X_go, go2_some, stp, ldI, ldA, ldL, stI, stA, stL, o1I, o2I, o2L, brI, brII, gl, s1, s2, k1, sl, go_sN, go_sR, go_CT, go_sT, go_no, go_if, pops, bk_v, bk_0, d213_0, d213_1, d213_2, d213_5, d213_8, d213_9, d213_12, d213_15, d213_16, d213_19, d213_20, d213_23, d213_26, d213_27, d213_28, d213_29, d213_30, d213_33, d213_35, d213_36, d213_40, d213_41, d213_44, d213_45, d213_46, d213_47, d213_48, d213_51, d213_52, d213_53, d213_55, d213_56, d213_59, d213_61, d213_62, d213_65, d213_66, d213_68, d213_71, d213_72, d213_73, d213_74, d213_76, d213_77, d213_80, d213_83, d213_86, d213_89, d213_90, d213_92, d213_93, d213_94, d213_95, d213_96, d213_99, d213_100, d213_103, d213_104, d213_106, d213_109, d213_110, d213_111, d213_113, d213_114, d213_115, d213_118, d213_119, d213_120, d213_122, d213_123, d213_126, d213_128, d213_131, d213_132, d213_133, d213_134, d213_137, d213_138, d213_139, d213_141, d213_142, d213_145, d213_146, d213_149, d213_150, d213_151, d213_154, d213_156, d213_158, d213_161, d213_164, d213_165, n_lt, n_le, n_eq, n_lt0, n_ge0, n_gt0, n_le0, n_eq0, m_lt, m_le, m_gt, m_ge, m_eq, m_eq', m_lt0, m_ge0, m_gt0, m_le0, m_ltm, m_lem, n_in, m_in, n_cl, n_ti, n_div, n_rem', n_dec, n_l, nI_add, pk_mul, an0, an1, decide_eq_true_eq, if_true, if_false, ite_true, ite_false, and_true, true_and, and_false, false_and, not_true, not_false_iff, or_false, false_or, or_true, true_or, eq_self, va_some, Bool.false_eq_true, reduceIte, catS_n, catS_i, catS_r, catS_l, catS_d, Nat.zero_add, Nat.add_zero, decide_true, decide_false, Nat.reduceLeDiff, cat_r, cat_i, cat_l, nle_T, nle_F, nlt_T, nlt_F, neq_T, neq_F, k0, p0, y1, hnc, e0]
  | succ m ih =>
    intro e b mo I L u7 hm hn
    have he : e < g (3 + t) := by omega
    have hnc := hn (3 + t) (by omega)
    obtain ⟨E0, E1, E2, E3, E4, E5, E6, E7⟩ := hv.2.2 t e ht he
    have hcl := cl_lt (f := 1) ht (show e < 6 by omega) (by omega)
    have hmn : ∀ (A B : Prop), True := fun _ _ => trivial
    have hGV' : GV B (dbl g t e) := GV_wt hGV ht (by omega) (by omega) (Nat.min_le_left _ _)
    have hnJ : NR (xu I 151 (cl t e 1) (nI (min 1000 (2 * g (cl t e 1))))) (dbl g t e) := NR_ud hn
    obtain ⟨J1, L1, i1, i2, i3, ⟨i4, _⟩, i5⟩ := c201 (d := d) (L := L) (C := C) hM hnJ hGV'.1 hGV'.2.1 (by omega) ht
    have hn1 : NR J1 (dbl g t e) := NR_fr hnJ fun j => i2 _ _ (by omega) (by omega)
    have hn2 : NR (xu J1 151 (cl t e 1) (nI (g (cl t e 1)))) g := by
      have := NR_ud (c := cl t e 1) (v := g (cl t e 1)) hn1
      rw [dbl_b] at this
      exact this
    have hci := i1.1 it hit
    have hgt := lg_cmp_le (chV (dbl g t e) t it) mo
    have rest : ∀ (b' : Int32) (mo' : Int64), bdV g t it (m + 1) e b mo = bdV g t it m (e + 1) b' mo' → (∀ Q, X d 213 38 [.ref 150, .int (nI t), .int (nI it), .int b, .long mo, UN, .int (nI e), u7] [] P I L C Q = X d 213 38 [.ref 150, .int (nI t), .int (nI it), .int b', .long mo', UN, .int (nI (e + 1)), .int (nI (g (cl t e 1)))] [] P (xu J1 151 (cl t e 1) (nI (g (cl t e 1)))) L1 C Q) → ∃ I' L', NR I' g ∧ (∀ k j, k ≠ 150 → k ≠ 151 → k < 155 ∨ 165 < k → I' k j = I k j) ∧ (∀ j, j ≠ 18 → I' 150 j = I 150 j) ∧ fml L L' ∧ ∀ Q, X d 213 38 [.ref 150, .int (nI t), .int (nI it), .int b, .long mo, UN, .int (nI e), u7] [] P I L C Q = Q (.inl (some (.int (bdV g t it (m + 1) e b mo)))) P I' L' C := fun b' mo' e0 h => by
      obtain ⟨I', L', a1, a2, a3, a4, a5⟩ := ih (e + 1) b' mo' (xu J1 151 (cl t e 1) (nI (g (cl t e 1)))) L1 (.int (nI (g (cl t e 1)))) (by omega) hn2
      refine ⟨I', L', a1, fun k j h1 h2 h3 => by rw [a2 k j h1 h2 h3, xu_n _ _ (by omega), i2 _ _ (by omega) (by omega), xu_n _ _ (by omega)], fun j h => by rw [a3 j h, xu_n _ _ (by omega), i3 j h, xu_n _ _ (by omega)], fun k j h => by rw [a4 k j h, i4 k j h], fun Q => by rw [h, a5, e0]⟩
    by_cases z : mo < chV (dbl g t e) t it
    · have hz : (lg_cmp (chV (dbl g t e) t it) mo ≤ 0) = False := eq_false fun q => absurd (hgt.mp q) (Int64.not_le.mpr z)
      refine rest (nI e) (chV (dbl g t e) t it) (if_pos z) fun Q => ?_
      rw [X_go, d213_38]
      by_cases w : 2 * g (cl t e 1) ≤ 1000
      · have hm0 : min 1000 (2 * g (cl t e 1)) = 2 * g (cl t e 1) := Nat.min_eq_right w
        rw [hm0] at i5
        simp (disch := first | assumption | omega) only [Nat.reduceAdd, X_go, go2_some, stp, ldI, ldA, ldL, stI, stA, stL, o1I, o2I, o2L, brI, brII, gl, s1, s2, k1, sl, go_sN, go_sR, go_CT, go_sT, go_no, go_if, pops, bk_v, bk_0, d213_0, d213_1, d213_2, d213_5, d213_8, d213_9, d213_12, d213_15, d213_16, d213_19, d213_20, d213_23, d213_26, d213_27, d213_28, d213_29, d213_30, d213_33, d213_35, d213_36, d213_40, d213_41, d213_44, d213_45, d213_46, d213_47, d213_48, d213_51, d213_52, d213_53, d213_55, d213_56, d213_59, d213_61, d213_62, d213_65, d213_66, d213_68, d213_71, d213_72, d213_73, d213_74, d213_76, d213_77, d213_80, d213_83, d213_86, d213_89, d213_90, d213_92, d213_93, d213_94, d213_95, d213_96, d213_99, d213_100, d213_103, d213_104, d213_106, d213_109, d213_110, d213_111, d213_113, d213_114, d213_115, d213_118, d213_119, d213_120, d213_122, d213_123, d213_126, d213_128, d213_131, d213_132, d213_133, d213_134, d213_137, d213_138, d213_139, d213_141, d213_142, d213_145, d213_146, d213_149, d213_150, d213_151, d213_154, d213_156, d213_158, d213_161, d213_164, d213_165, n_lt, n_le, n_eq, n_lt0, n_ge0, n_gt0, n_le0, n_eq0, m_lt, m_le, m_gt, m_ge, m_eq, m_eq', m_lt0, m_ge0, m_gt0, m_le0, m_ltm, m_lem, n_in, m_in, n_cl, n_ti, n_div, n_rem', n_dec, n_l, nI_add, pk_mul, an0, an1, decide_eq_true_eq, if_true, if_false, ite_true, ite_false, and_true, true_and, and_false, false_and, not_true, not_false_iff, or_false, false_or, or_true, true_or, eq_self, va_some, Bool.false_eq_true, reduceIte, catS_n, catS_i, catS_r, catS_l, catS_d, Nat.zero_add, Nat.add_zero, decide_true, decide_false, Nat.reduceLeDiff, cat_r, cat_i, cat_l, nle_T, nle_F, nlt_T, nlt_F, neq_T, neq_F, k0, p0, y1, r19, s19, hnc, c167 hM hn, c163, cl_f, w, i5, hci, hz]
        done
      · have hm0 : min 1000 (2 * g (cl t e 1)) = 1000 := Nat.min_eq_left (by omega)
        rw [hm0] at i5
        simp (disch := first | assumption | omega) only [Nat.reduceAdd, X_go, go2_some, stp, ldI, ldA, ldL, stI, stA, stL, o1I, o2I, o2L, brI, brII, gl, s1, s2, k1, sl, go_sN, go_sR, go_CT, go_sT, go_no, go_if, pops, bk_v, bk_0, d213_0, d213_1, d213_2, d213_5, d213_8, d213_9, d213_12, d213_15, d213_16, d213_19, d213_20, d213_23, d213_26, d213_27, d213_28, d213_29, d213_30, d213_33, d213_35, d213_36, d213_40, d213_41, d213_44, d213_45, d213_46, d213_47, d213_48, d213_51, d213_52, d213_53, d213_55, d213_56, d213_59, d213_61, d213_62, d213_65, d213_66, d213_68, d213_71, d213_72, d213_73, d213_74, d213_76, d213_77, d213_80, d213_83, d213_86, d213_89, d213_90, d213_92, d213_93, d213_94, d213_95, d213_96, d213_99, d213_100, d213_103, d213_104, d213_106, d213_109, d213_110, d213_111, d213_113, d213_114, d213_115, d213_118, d213_119, d213_120, d213_122, d213_123, d213_126, d213_128, d213_131, d213_132, d213_133, d213_134, d213_137, d213_138, d213_139, d213_141, d213_142, d213_145, d213_146, d213_149, d213_150, d213_151, d213_154, d213_156, d213_158, d213_161, d213_164, d213_165, n_lt, n_le, n_eq, n_lt0, n_ge0, n_gt0, n_le0, n_eq0, m_lt, m_le, m_gt, m_ge, m_eq, m_eq', m_lt0, m_ge0, m_gt0, m_le0, m_ltm, m_lem, n_in, m_in, n_cl, n_ti, n_div, n_rem', n_dec, n_l, nI_add, pk_mul, an0, an1, decide_eq_true_eq, if_true, if_false, ite_true, ite_false, and_true, true_and, and_false, false_and, not_true, not_false_iff, or_false, false_or, or_true, true_or, eq_self, va_some, Bool.false_eq_true, reduceIte, catS_n, catS_i, catS_r, catS_l, catS_d, Nat.zero_add, Nat.add_zero, decide_true, decide_false, Nat.reduceLeDiff, cat_r, cat_i, cat_l, nle_T, nle_F, nlt_T, nlt_F, neq_T, neq_F, k0, p0, y1, r19, s19, hnc, c167 hM hn, c163, cl_f, w, i5, hci, hz]
        done
    · have hz : (lg_cmp (chV (dbl g t e) t it) mo ≤ 0) = True := eq_true (hgt.mpr (Int64.not_lt.mp z))
      refine rest b mo (if_neg z) fun Q => ?_
      rw [X_go, d213_38]
      by_cases w : 2 * g (cl t e 1) ≤ 1000
      · have hm0 : min 1000 (2 * g (cl t e 1)) = 2 * g (cl t e 1) := Nat.min_eq_right w
        rw [hm0] at i5
        simp (disch := first | assumption | omega) only [Nat.reduceAdd, X_go, go2_some, stp, ldI, ldA, ldL, stI, stA, stL, o1I, o2I, o2L, brI, brII, gl, s1, s2, k1, sl, go_sN, go_sR, go_CT, go_sT, go_no, go_if, pops, bk_v, bk_0, d213_0, d213_1, d213_2, d213_5, d213_8, d213_9, d213_12, d213_15, d213_16, d213_19, d213_20, d213_23, d213_26, d213_27, d213_28, d213_29, d213_30, d213_33, d213_35, d213_36, d213_40, d213_41, d213_44, d213_45, d213_46, d213_47, d213_48, d213_51, d213_52, d213_53, d213_55, d213_56, d213_59, d213_61, d213_62, d213_65, d213_66, d213_68, d213_71, d213_72, d213_73, d213_74, d213_76, d213_77, d213_80, d213_83, d213_86, d213_89, d213_90, d213_92, d213_93, d213_94, d213_95, d213_96, d213_99, d213_100, d213_103, d213_104, d213_106, d213_109, d213_110, d213_111, d213_113, d213_114, d213_115, d213_118, d213_119, d213_120, d213_122, d213_123, d213_126, d213_128, d213_131, d213_132, d213_133, d213_134, d213_137, d213_138, d213_139, d213_141, d213_142, d213_145, d213_146, d213_149, d213_150, d213_151, d213_154, d213_156, d213_158, d213_161, d213_164, d213_165, n_lt, n_le, n_eq, n_lt0, n_ge0, n_gt0, n_le0, n_eq0, m_lt, m_le, m_gt, m_ge, m_eq, m_eq', m_lt0, m_ge0, m_gt0, m_le0, m_ltm, m_lem, n_in, m_in, n_cl, n_ti, n_div, n_rem', n_dec, n_l, nI_add, pk_mul, an0, an1, decide_eq_true_eq, if_true, if_false, ite_true, ite_false, and_true, true_and, and_false, false_and, not_true, not_false_iff, or_false, false_or, or_true, true_or, eq_self, va_some, Bool.false_eq_true, reduceIte, catS_n, catS_i, catS_r, catS_l, catS_d, Nat.zero_add, Nat.add_zero, decide_true, decide_false, Nat.reduceLeDiff, cat_r, cat_i, cat_l, nle_T, nle_F, nlt_T, nlt_F, neq_T, neq_F, k0, p0, y1, r19, s19, hnc, c167 hM hn, c163, cl_f, w, i5, hci, hz]
        done
      · have hm0 : min 1000 (2 * g (cl t e 1)) = 1000 := Nat.min_eq_left (by omega)
        rw [hm0] at i5
        simp (disch := first | assumption | omega) only [Nat.reduceAdd, X_go, go2_some, stp, ldI, ldA, ldL, stI, stA, stL, o1I, o2I, o2L, brI, brII, gl, s1, s2, k1, sl, go_sN, go_sR, go_CT, go_sT, go_no, go_if, pops, bk_v, bk_0, d213_0, d213_1, d213_2, d213_5, d213_8, d213_9, d213_12, d213_15, d213_16, d213_19, d213_20, d213_23, d213_26, d213_27, d213_28, d213_29, d213_30, d213_33, d213_35, d213_36, d213_40, d213_41, d213_44, d213_45, d213_46, d213_47, d213_48, d213_51, d213_52, d213_53, d213_55, d213_56, d213_59, d213_61, d213_62, d213_65, d213_66, d213_68, d213_71, d213_72, d213_73, d213_74, d213_76, d213_77, d213_80, d213_83, d213_86, d213_89, d213_90, d213_92, d213_93, d213_94, d213_95, d213_96, d213_99, d213_100, d213_103, d213_104, d213_106, d213_109, d213_110, d213_111, d213_113, d213_114, d213_115, d213_118, d213_119, d213_120, d213_122, d213_123, d213_126, d213_128, d213_131, d213_132, d213_133, d213_134, d213_137, d213_138, d213_139, d213_141, d213_142, d213_145, d213_146, d213_149, d213_150, d213_151, d213_154, d213_156, d213_158, d213_161, d213_164, d213_165, n_lt, n_le, n_eq, n_lt0, n_ge0, n_gt0, n_le0, n_eq0, m_lt, m_le, m_gt, m_ge, m_eq, m_eq', m_lt0, m_ge0, m_gt0, m_le0, m_ltm, m_lem, n_in, m_in, n_cl, n_ti, n_div, n_rem', n_dec, n_l, nI_add, pk_mul, an0, an1, decide_eq_true_eq, if_true, if_false, ite_true, ite_false, and_true, true_and, and_false, false_and, not_true, not_false_iff, or_false, false_or, or_true, true_or, eq_self, va_some, Bool.false_eq_true, reduceIte, catS_n, catS_i, catS_r, catS_l, catS_d, Nat.zero_add, Nat.add_zero, decide_true, decide_false, Nat.reduceLeDiff, cat_r, cat_i, cat_l, nle_T, nle_F, nlt_T, nlt_F, neq_T, neq_F, k0, p0, y1, r19, s19, hnc, c167 hM hn, c163, cl_f, w, i5, hci, hz]
        done
theorem c213 {d : Nat} {P : MP} {I : MI} {L : ML} {C : MC} {t it : Nat} {B n len : Nat} {g : GS} {ps : Nat → GS} {tx : Nat → Nat} (hM : MB P) (hR : ZR I g n ps len tx) (hA : AV B g n ps len tx) (hd : 16 ≤ d) (ht : t < 3) (hit : it < 16) : ∃ I' L', ZR I' g n ps len tx ∧ I' 150 4 = nI 0 ∧ fm I I' ∧ fml L L' ∧ ∀ Q, CT d 213 [.ref 150, .int (nI t), .int (nI it)] P I L C Q = Q (.inl (some (.int (bdV g t it (g (3 + t)) 0 (nI 4294967295) (lN 18446744073709551615))))) P I' L' C := by
  have hM' := hM
  obtain ⟨⟨k0, p0, p1, p2, p5, y1, y2, y3, y4⟩, _⟩ := hM'
  have hR' := hR
  obtain ⟨hN, h3, hps', h6, htx'⟩ := hR'
  have hA' := hA
  obtain ⟨hGV, hps, hn4, hlen, htx⟩ := hA'
  have h140 := GV_140 hGV
  have hv := hGV.1
  have hl := hGV.2.1
  have hFv := hGV.2.2
  have hR0 : ZR (xu I 150 4 (nI 0)) g n ps len tx := ZR_4 hR
  have hN0 := hR0.1
  obtain ⟨I', L', a1, a2, a3, a4, a5⟩ := f213 (d := d - 1) (C := C) hM (by omega) ht hit hGV (g (3 + t)) 0 (nI 4294967295) (lN 18446744073709551615) (xu I 150 4 (nI 0)) L UN (by omega) hN0
  obtain ⟨q1, q2, q3, q4, q5⟩ := hR0
  refine ⟨I', L', ⟨a1, by rw [a3 _ (by omega)]; exact q2, fun i k hi hk => by rw [a2 _ _ (by omega) (by omega) (by omega)]; exact q3 i k hi hk, by rw [a3 _ (by omega)]; exact q4, fun i hi => by rw [a2 _ _ (by omega) (by omega) (by omega)]; exact q5 i hi⟩, by rw [a3 _ (by omega), xu_s], fun k j h => by rw [a2 _ _ (by omega) (by omega) (by omega), xu_n _ _ (by omega)], a4, fun Q => ?_⟩
  have a5 := a5 Q
  rw [CT_e (mj := 213) (e := [.ref 150, .int (nI t), .int (nI it), UN, UN, UN, UN, UN]) (by omega) rfl (Nat.le_of_ble_eq_true rfl)]
  simp (disch := first | assumption | omega) only [Nat.reduceAdd, X_go, go2_some, stp, ldI, ldA, ldL, stI, stA, stL, o1I, o2I, o2L, brI, brII, gl, s1, s2, k1, sl, go_sN, go_sR, go_CT, go_sT, go_no, go_if, pops, bk_v, bk_0, d213_0, d213_1, d213_2, d213_5, d213_8, d213_9, d213_12, d213_15, d213_16, d213_19, d213_20, d213_23, d213_26, d213_27, d213_28, d213_29, d213_30, d213_33, d213_35, d213_36, d213_40, d213_41, d213_44, d213_45, d213_46, d213_47, d213_48, d213_51, d213_52, d213_53, d213_55, d213_56, d213_59, d213_61, d213_62, d213_65, d213_66, d213_68, d213_71, d213_72, d213_73, d213_74, d213_76, d213_77, d213_80, d213_83, d213_86, d213_89, d213_90, d213_92, d213_93, d213_94, d213_95, d213_96, d213_99, d213_100, d213_103, d213_104, d213_106, d213_109, d213_110, d213_111, d213_113, d213_114, d213_115, d213_118, d213_119, d213_120, d213_122, d213_123, d213_126, d213_128, d213_131, d213_132, d213_133, d213_134, d213_137, d213_138, d213_139, d213_141, d213_142, d213_145, d213_146, d213_149, d213_150, d213_151, d213_154, d213_156, d213_158, d213_161, d213_164, d213_165, n_lt, n_le, n_eq, n_lt0, n_ge0, n_gt0, n_le0, n_eq0, m_lt, m_le, m_gt, m_ge, m_eq, m_eq', m_lt0, m_ge0, m_gt0, m_le0, m_ltm, m_lem, n_in, m_in, n_cl, n_ti, n_div, n_rem', n_dec, n_l, nI_add, pk_mul, an0, an1, decide_eq_true_eq, if_true, if_false, ite_true, ite_false, and_true, true_and, and_false, false_and, not_true, not_false_iff, or_false, false_or, or_true, true_or, eq_self, va_some, Bool.false_eq_true, reduceIte, catS_n, catS_i, catS_r, catS_l, catS_d, Nat.zero_add, Nat.add_zero, decide_true, decide_false, Nat.reduceLeDiff, cat_r, cat_i, cat_l, nle_T, nle_F, nlt_T, nlt_F, neq_T, neq_F, k0, c155, c160, c153 hM]
  simp only [← X_go]
  exact a5
theorem c213b {d : Nat} {P : MP} {I : MI} {L : ML} {C : MC} {Q : QT} {x y : Int32} (hM : MB P) (hd : 6 ≤ d) (hx : x < 0 ∨ nI 3 ≤ x) : CT d 213 [.ref 150, .int x, .int y] P I L C Q = Q (.inl (some (.int (nI 0)))) P (xu I 150 4 (nI 1)) L C := by
  have k0 := hM.1.1
  rw [CT_e (mj := 213) (e := [.ref 150, .int x, .int y, UN, UN, UN, UN, UN]) (by omega) rfl (Nat.le_of_ble_eq_true rfl)]
  simp (disch := first | assumption | omega) only [Nat.reduceAdd, X_go, go2_some, stp, ldI, ldA, ldL, stI, stA, stL, o1I, o2I, o2L, brI, brII, gl, s1, s2, k1, sl, go_sN, go_sR, go_CT, go_sT, go_no, go_if, pops, bk_v, bk_0, d213_0, d213_1, d213_2, d213_5, d213_8, d213_9, d213_12, d213_15, d213_16, d213_19, d213_20, d213_23, d213_26, d213_27, d213_28, d213_29, d213_30, d213_33, d213_35, d213_36, d213_38, d213_40, d213_41, d213_44, d213_45, d213_46, d213_47, d213_48, d213_51, d213_52, d213_53, d213_55, d213_56, d213_59, d213_61, d213_62, d213_65, d213_66, d213_68, d213_71, d213_72, d213_73, d213_74, d213_76, d213_77, d213_80, d213_83, d213_86, d213_89, d213_90, d213_92, d213_93, d213_94, d213_95, d213_96, d213_99, d213_100, d213_103, d213_104, d213_106, d213_109, d213_110, d213_111, d213_113, d213_114, d213_115, d213_118, d213_119, d213_120, d213_122, d213_123, d213_126, d213_128, d213_131, d213_132, d213_133, d213_134, d213_137, d213_138, d213_139, d213_141, d213_142, d213_145, d213_146, d213_149, d213_150, d213_151, d213_154, d213_156, d213_158, d213_161, d213_164, d213_165, n_lt, n_le, n_eq, n_lt0, n_ge0, n_gt0, n_le0, n_eq0, m_lt, m_le, m_gt, m_ge, m_eq, m_eq', m_lt0, m_ge0, m_gt0, m_le0, m_ltm, m_lem, n_in, m_in, n_cl, n_ti, n_div, n_rem', n_dec, n_l, nI_add, pk_mul, an0, an1, decide_eq_true_eq, if_true, if_false, ite_true, ite_false, and_true, true_and, and_false, false_and, not_true, not_false_iff, or_false, false_or, or_true, true_or, eq_self, va_some, Bool.false_eq_true, reduceIte, catS_n, catS_i, catS_r, catS_l, catS_d, Nat.zero_add, Nat.add_zero, decide_true, decide_false, Nat.reduceLeDiff, cat_r, cat_i, cat_l, nle_T, nle_F, nlt_T, nlt_F, neq_T, neq_F, k0, c155b, c153 hM]
  done
theorem c213c {d : Nat} {P : MP} {I : MI} {L : ML} {C : MC} {Q : QT} {t : Nat} {y : Int32} (hM : MB P) (hd : 6 ≤ d) (ht : t < 3) (hy : y < 0 ∨ nI 16 ≤ y) : CT d 213 [.ref 150, .int (nI t), .int y] P I L C Q = Q (.inl (some (.int (nI 0)))) P (xu I 150 4 (nI 1)) L C := by
  have k0 := hM.1.1
  rw [CT_e (mj := 213) (e := [.ref 150, .int (nI t), .int y, UN, UN, UN, UN, UN]) (by omega) rfl (Nat.le_of_ble_eq_true rfl)]
  simp (disch := first | assumption | omega) only [Nat.reduceAdd, X_go, go2_some, stp, ldI, ldA, ldL, stI, stA, stL, o1I, o2I, o2L, brI, brII, gl, s1, s2, k1, sl, go_sN, go_sR, go_CT, go_sT, go_no, go_if, pops, bk_v, bk_0, d213_0, d213_1, d213_2, d213_5, d213_8, d213_9, d213_12, d213_15, d213_16, d213_19, d213_20, d213_23, d213_26, d213_27, d213_28, d213_29, d213_30, d213_33, d213_35, d213_36, d213_38, d213_40, d213_41, d213_44, d213_45, d213_46, d213_47, d213_48, d213_51, d213_52, d213_53, d213_55, d213_56, d213_59, d213_61, d213_62, d213_65, d213_66, d213_68, d213_71, d213_72, d213_73, d213_74, d213_76, d213_77, d213_80, d213_83, d213_86, d213_89, d213_90, d213_92, d213_93, d213_94, d213_95, d213_96, d213_99, d213_100, d213_103, d213_104, d213_106, d213_109, d213_110, d213_111, d213_113, d213_114, d213_115, d213_118, d213_119, d213_120, d213_122, d213_123, d213_126, d213_128, d213_131, d213_132, d213_133, d213_134, d213_137, d213_138, d213_139, d213_141, d213_142, d213_145, d213_146, d213_149, d213_150, d213_151, d213_154, d213_156, d213_158, d213_161, d213_164, d213_165, n_lt, n_le, n_eq, n_lt0, n_ge0, n_gt0, n_le0, n_eq0, m_lt, m_le, m_gt, m_ge, m_eq, m_eq', m_lt0, m_ge0, m_gt0, m_le0, m_ltm, m_lem, n_in, m_in, n_cl, n_ti, n_div, n_rem', n_dec, n_l, nI_add, pk_mul, an0, an1, decide_eq_true_eq, if_true, if_false, ite_true, ite_false, and_true, true_and, and_false, false_and, not_true, not_false_iff, or_false, false_or, or_true, true_or, eq_self, va_some, Bool.false_eq_true, reduceIte, catS_n, catS_i, catS_r, catS_l, catS_d, Nat.zero_add, Nat.add_zero, decide_true, decide_false, Nat.reduceLeDiff, cat_r, cat_i, cat_l, nle_T, nle_F, nlt_T, nlt_F, neq_T, neq_F, k0, c155, c160b, c153 hM]
  done
