/-! THE OBJECT: its shape, its state; what is refused -/
def XB (P : MP) : Prop := P.1 1 = (10, 0) ∧ (P.2.1 1 0 = some 2 ∧ P.2.1 1 1 = some 20 ∧ P.2.1 1 2 = some 38 ∧ P.2.1 1 3 = some 112 ∧ P.2.1 1 4 = some 114 ∧ P.2.1 1 5 = some 123 ∧ P.2.1 1 6 = some 127 ∧ P.2.1 1 7 = some 130 ∧ P.2.1 1 8 = some 140) ∧ SB P 2 ∧ SB P 20 ∧ VB P ∧ (P.1 112 = (9, 0) ∧ P.2.1 112 0 = some 113 ∧ P.1 113 = (22, 160)) ∧ TB P 114 ∧ OB P ∧ DB P 127 ∧ HB P 130 ∧ HB P 140
def XT (I : MI) (len : Nat) (tx : Nat → Nat) : Prop := I 112 1 = nI len ∧ ∀ i, i < len → I 113 i = nI (tx i)
/-- the object holds the state -/
def XR (I : MI) (L : ML) (g : GS) (n : Nat) (ps : Nat → GS) (len : Nat) (tx : Nat → Nat) : Prop := RC I 2 g ∧ VR I n ps ∧ XT I len tx ∧ CC I L 130 g
/-- the state is in order -/
def AV (B : Nat) (g : GS) (n : Nat) (ps : Nat → GS) (len : Nat) (tx : Nat → Nat) : Prop := GV B g ∧ (∀ i, i < n → GV B (ps i)) ∧ n ≤ 4 ∧ len ≤ 160 ∧ ∀ i, i < len → tx i ≤ 127
theorem FV_B {B B' : Nat} {g : GS} (h : FV B g) (hB : B ≤ B') : FV B' g := by
  obtain ⟨h1, h2, h3, h4, h5⟩ := h
  exact ⟨by omega, by omega, h3, h4, h5⟩
theorem GV_B {B B' : Nat} {g : GS} (h : GV B g) (hB : B ≤ B') : GV B' g := ⟨h.1, h.2.1, FV_B h.2.2 hB⟩
theorem AV_push {B B' n len : Nat} {g g' : GS} {ps : Nat → GS} {tx : Nat → Nat} (h : AV B g n ps len tx) (hg : GV B' g') (hB : B ≤ B') : AV B' g' (puN n) (puS n ps g) len tx := by
  obtain ⟨h1, h2, h3, h4, h5⟩ := h
  refine ⟨hg, fun i hi => ?_, ?_, h4, h5⟩
  · unfold puN at hi
    unfold puS
    by_cases z : n < 4
    · rw [if_pos z] at hi ⊢
      by_cases y : i = n
      · subst y; rw [ud_s]; exact GV_B h1 hB
      · rw [ud_n y]; exact GV_B (h2 i (by omega)) hB
    · rw [if_neg z]
      split
      · exact GV_B (h2 _ (by omega)) hB
      · exact GV_B h1 hB
  · unfold puN; split <;> omega
theorem XT_fr {I I' : MI} {len : Nat} {tx : Nat → Nat} (h : XT I len tx) (hf : ∀ k j, k = 112 ∨ k = 113 → I' k j = I k j) : XT I' len tx := ⟨by rw [hf _ _ (.inl rfl)]; exact h.1, fun i hi => by rw [hf _ _ (.inr rfl)]; exact h.2 i hi⟩
theorem CC_fr {I I' : MI} {L L' : ML} {H : Nat} {g : GS} (h : CC I L H g) (h6 : I' H 6 = I H 6) (hL : ∀ k j, H ≤ k → k ≤ H + 9 → L' k j = L k j) : CC I' L' H g := by
  obtain ⟨tp, h1, h2, h3⟩ := h
  refine ⟨tp, h1, by rw [h6]; exact h2, fun h => ?_⟩
  obtain ⟨c1, c2, c3⟩ := h3 h
  exact ⟨fun i hi => by rw [hL _ _ (by omega) (by omega)]; exact c1 i hi, fun r hr => by rw [hL _ _ (by omega) (by omega)]; exact c2 r hr, by rw [hL _ _ (by omega) (by omega)]; exact c3⟩
theorem CC_no {I : MI} {L : ML} {H : Nat} {g : GS} (h : I H 6 = nI 4294967295) : CC I L H g := ⟨0, by omega, by rw [h, fI_0], fun q => by omega⟩
/-- an exception leaves a method that holds no handler -/
theorem bk_x {d mi pc : Nat} {ls st : List Value} {Q : QT} {E : Nat} {P : MP} {I : MI} {L : ML} {C : MC} (h : (mG mi).2.2.2.2 = []) : bk d mi pc ls st Q (.inr E) P I L C = Q (.inr E) P I L C := by
  unfold bk
  rw [h]
  rfl
theorem d86_0 : dec 86 0 = some (.iload_n 0, 1, []) := rfl
theorem d86_1 : dec 86 1 = some (.ifCond .lt 8, 3, [9]) := rfl
theorem d86_4 : dec 86 4 = some (.iload_n 0, 1, []) := rfl
theorem d86_5 : dec 86 5 = some (.iconst 3, 1, [3]) := rfl
theorem d86_6 : dec 86 6 = some (.if_icmp .lt 14, 3, [20]) := rfl
theorem d86_9 : dec 86 9 = some (.new 279, 3, [6, 0, 510]) := rfl
theorem d86_12 : dec 86 12 = some (.dup, 1, []) := rfl
theorem d86_13 : dec 86 13 = some (.ldc_w 281, 3, []) := rfl
theorem d86_16 : dec 86 16 = some (.invokespecial 283, 3, []) := rfl
theorem d86_19 : dec 86 19 = some (.athrow, 1, []) := rfl
theorem d86_20 : dec 86 20 = some (.return_, 1, []) := rfl
theorem l86 : mL 86 = 1 := rfl
theorem c86 {d : Nat} {P : MP} {I : MI} {L : ML} {C : MC} {Q : QT} {t : Nat} (hd : 1 ≤ d) (ht : t < 3) : CT d 86 [.int (nI t)] P I L C Q = Q (.inl none) P I L C := by
  rw [CT_e (mj := 86) (e := [.int (nI t)]) (by omega) rfl (Nat.le_of_ble_eq_true rfl)]
  simp (disch := first | assumption | omega) only [Nat.reduceAdd, X_go, go2_some, stp, ldI, ldA, ldL, stI, stA, stL, o1I, o2I, o2L, brI, brII, gl, s1, s2, k1, sl, go_sN, go_sR, go_CT, go_sT, go_no, go_if, pops, bk_v, bk_0, d86_0, d86_1, d86_4, d86_5, d86_6, d86_9, d86_12, d86_13, d86_16, d86_19, d86_20, n_lt, n_le, n_eq, n_lt0, n_ge0, n_gt0, n_le0, n_eq0, m_lt, m_le, m_gt, m_ge, m_eq, m_eq', m_lt0, m_ge0, m_gt0, m_le0, m_ltm, m_lem, n_in, m_in, n_cl, n_ti, n_div, n_rem', n_dec, n_l, nI_add, pk_mul, an0, an1, decide_eq_true_eq, if_true, if_false, ite_true, ite_false, and_true, true_and, and_false, false_and, not_true, not_false_iff, or_false, false_or, or_true, true_or, eq_self, va_some, Bool.false_eq_true, reduceIte, catS_n, catS_i, catS_r, catS_l, catS_d, Nat.zero_add, Nat.add_zero, decide_true, decide_false, Nat.reduceLeDiff, cat_r, cat_i, cat_l, nle_T, nle_F, nlt_T, nlt_F, neq_T, neq_F]
  done
theorem c86b {d : Nat} {P : MP} {I : MI} {L : ML} {C : MC} {Q : QT} {x : Int32} (hd : 1 ≤ d) (hx : x < 0 ∨ nI 3 ≤ x) : CT d 86 [.int x] P I L C Q = Q (.inr 0) P I L (C.1 + 1, C.2 + 6) := by
  rw [CT_e (mj := 86) (e := [.int x]) (by omega) rfl (Nat.le_of_ble_eq_true rfl)]
  rcases hx with h | h
  · simp (disch := first | assumption | omega) only [Nat.reduceAdd, X_go, go2_some, stp, ldI, ldA, ldL, stI, stA, stL, o1I, o2I, o2L, brI, brII, gl, s1, s2, k1, sl, go_sN, go_sR, go_CT, go_sT, go_no, go_if, pops, bk_v, bk_0, d86_0, d86_1, d86_4, d86_5, d86_6, d86_9, d86_12, d86_13, d86_16, d86_19, d86_20, n_lt, n_le, n_eq, n_lt0, n_ge0, n_gt0, n_le0, n_eq0, m_lt, m_le, m_gt, m_ge, m_eq, m_eq', m_lt0, m_ge0, m_gt0, m_le0, m_ltm, m_lem, n_in, m_in, n_cl, n_ti, n_div, n_rem', n_dec, n_l, nI_add, pk_mul, an0, an1, decide_eq_true_eq, if_true, if_false, ite_true, ite_false, and_true, true_and, and_false, false_and, not_true, not_false_iff, or_false, false_or, or_true, true_or, eq_self, va_some, Bool.false_eq_true, reduceIte, catS_n, catS_i, catS_r, catS_l, catS_d, Nat.zero_add, Nat.add_zero, decide_true, decide_false, Nat.reduceLeDiff, cat_r, cat_i, cat_l, nle_T, nle_F, nlt_T, nlt_F, neq_T, neq_F, h]
  · by_cases z : x < 0
    · simp (disch := first | assumption | omega) only [Nat.reduceAdd, X_go, go2_some, stp, ldI, ldA, ldL, stI, stA, stL, o1I, o2I, o2L, brI, brII, gl, s1, s2, k1, sl, go_sN, go_sR, go_CT, go_sT, go_no, go_if, pops, bk_v, bk_0, d86_0, d86_1, d86_4, d86_5, d86_6, d86_9, d86_12, d86_13, d86_16, d86_19, d86_20, n_lt, n_le, n_eq, n_lt0, n_ge0, n_gt0, n_le0, n_eq0, m_lt, m_le, m_gt, m_ge, m_eq, m_eq', m_lt0, m_ge0, m_gt0, m_le0, m_ltm, m_lem, n_in, m_in, n_cl, n_ti, n_div, n_rem', n_dec, n_l, nI_add, pk_mul, an0, an1, decide_eq_true_eq, if_true, if_false, ite_true, ite_false, and_true, true_and, and_false, false_and, not_true, not_false_iff, or_false, false_or, or_true, true_or, eq_self, va_some, Bool.false_eq_true, reduceIte, catS_n, catS_i, catS_r, catS_l, catS_d, Nat.zero_add, Nat.add_zero, decide_true, decide_false, Nat.reduceLeDiff, cat_r, cat_i, cat_l, nle_T, nle_F, nlt_T, nlt_F, neq_T, neq_F, z]
    · have h' : ¬ x < nI 3 := Int32.not_lt.mpr h
      simp (disch := first | assumption | omega) only [Nat.reduceAdd, X_go, go2_some, stp, ldI, ldA, ldL, stI, stA, stL, o1I, o2I, o2L, brI, brII, gl, s1, s2, k1, sl, go_sN, go_sR, go_CT, go_sT, go_no, go_if, pops, bk_v, bk_0, d86_0, d86_1, d86_4, d86_5, d86_6, d86_9, d86_12, d86_13, d86_16, d86_19, d86_20, n_lt, n_le, n_eq, n_lt0, n_ge0, n_gt0, n_le0, n_eq0, m_lt, m_le, m_gt, m_ge, m_eq, m_eq', m_lt0, m_ge0, m_gt0, m_le0, m_ltm, m_lem, n_in, m_in, n_cl, n_ti, n_div, n_rem', n_dec, n_l, nI_add, pk_mul, an0, an1, decide_eq_true_eq, if_true, if_false, ite_true, ite_false, and_true, true_and, and_false, false_and, not_true, not_false_iff, or_false, false_or, or_true, true_or, eq_self, va_some, Bool.false_eq_true, reduceIte, catS_n, catS_i, catS_r, catS_l, catS_d, Nat.zero_add, Nat.add_zero, decide_true, decide_false, Nat.reduceLeDiff, cat_r, cat_i, cat_l, nle_T, nle_F, nlt_T, nlt_F, neq_T, neq_F, z, h']
theorem d129_0 : dec 129 0 = some (.iload_n 0, 1, []) := rfl
theorem d129_1 : dec 129 1 = some (.ifCond .lt 9, 3, [10]) := rfl
theorem d129_4 : dec 129 4 = some (.iload_n 0, 1, []) := rfl
theorem d129_5 : dec 129 5 = some (.bipush 16, 2, [16]) := rfl
theorem d129_7 : dec 129 7 = some (.if_icmp .lt 14, 3, [21]) := rfl
theorem d129_10 : dec 129 10 = some (.new 279, 3, [6, 0, 510]) := rfl
theorem d129_13 : dec 129 13 = some (.dup, 1, []) := rfl
theorem d129_14 : dec 129 14 = some (.ldc_w 286, 3, []) := rfl
theorem d129_17 : dec 129 17 = some (.invokespecial 283, 3, []) := rfl
theorem d129_20 : dec 129 20 = some (.athrow, 1, []) := rfl
theorem d129_21 : dec 129 21 = some (.return_, 1, []) := rfl
theorem l129 : mL 129 = 1 := rfl
theorem c129 {d : Nat} {P : MP} {I : MI} {L : ML} {C : MC} {Q : QT} {t : Nat} (hd : 1 ≤ d) (ht : t < 16) : CT d 129 [.int (nI t)] P I L C Q = Q (.inl none) P I L C := by
  rw [CT_e (mj := 129) (e := [.int (nI t)]) (by omega) rfl (Nat.le_of_ble_eq_true rfl)]
  simp (disch := first | assumption | omega) only [Nat.reduceAdd, X_go, go2_some, stp, ldI, ldA, ldL, stI, stA, stL, o1I, o2I, o2L, brI, brII, gl, s1, s2, k1, sl, go_sN, go_sR, go_CT, go_sT, go_no, go_if, pops, bk_v, bk_0, d129_0, d129_1, d129_4, d129_5, d129_7, d129_10, d129_13, d129_14, d129_17, d129_20, d129_21, n_lt, n_le, n_eq, n_lt0, n_ge0, n_gt0, n_le0, n_eq0, m_lt, m_le, m_gt, m_ge, m_eq, m_eq', m_lt0, m_ge0, m_gt0, m_le0, m_ltm, m_lem, n_in, m_in, n_cl, n_ti, n_div, n_rem', n_dec, n_l, nI_add, pk_mul, an0, an1, decide_eq_true_eq, if_true, if_false, ite_true, ite_false, and_true, true_and, and_false, false_and, not_true, not_false_iff, or_false, false_or, or_true, true_or, eq_self, va_some, Bool.false_eq_true, reduceIte, catS_n, catS_i, catS_r, catS_l, catS_d, Nat.zero_add, Nat.add_zero, decide_true, decide_false, Nat.reduceLeDiff, cat_r, cat_i, cat_l, nle_T, nle_F, nlt_T, nlt_F, neq_T, neq_F]
  done
theorem c129b {d : Nat} {P : MP} {I : MI} {L : ML} {C : MC} {Q : QT} {x : Int32} (hd : 1 ≤ d) (hx : x < 0 ∨ nI 16 ≤ x) : CT d 129 [.int x] P I L C Q = Q (.inr 0) P I L (C.1 + 1, C.2 + 6) := by
  rw [CT_e (mj := 129) (e := [.int x]) (by omega) rfl (Nat.le_of_ble_eq_true rfl)]
  rcases hx with h | h
  · simp (disch := first | assumption | omega) only [Nat.reduceAdd, X_go, go2_some, stp, ldI, ldA, ldL, stI, stA, stL, o1I, o2I, o2L, brI, brII, gl, s1, s2, k1, sl, go_sN, go_sR, go_CT, go_sT, go_no, go_if, pops, bk_v, bk_0, d129_0, d129_1, d129_4, d129_5, d129_7, d129_10, d129_13, d129_14, d129_17, d129_20, d129_21, n_lt, n_le, n_eq, n_lt0, n_ge0, n_gt0, n_le0, n_eq0, m_lt, m_le, m_gt, m_ge, m_eq, m_eq', m_lt0, m_ge0, m_gt0, m_le0, m_ltm, m_lem, n_in, m_in, n_cl, n_ti, n_div, n_rem', n_dec, n_l, nI_add, pk_mul, an0, an1, decide_eq_true_eq, if_true, if_false, ite_true, ite_false, and_true, true_and, and_false, false_and, not_true, not_false_iff, or_false, false_or, or_true, true_or, eq_self, va_some, Bool.false_eq_true, reduceIte, catS_n, catS_i, catS_r, catS_l, catS_d, Nat.zero_add, Nat.add_zero, decide_true, decide_false, Nat.reduceLeDiff, cat_r, cat_i, cat_l, nle_T, nle_F, nlt_T, nlt_F, neq_T, neq_F, h]
  · by_cases z : x < 0
    · simp (disch := first | assumption | omega) only [Nat.reduceAdd, X_go, go2_some, stp, ldI, ldA, ldL, stI, stA, stL, o1I, o2I, o2L, brI, brII, gl, s1, s2, k1, sl, go_sN, go_sR, go_CT, go_sT, go_no, go_if, pops, bk_v, bk_0, d129_0, d129_1, d129_4, d129_5, d129_7, d129_10, d129_13, d129_14, d129_17, d129_20, d129_21, n_lt, n_le, n_eq, n_lt0, n_ge0, n_gt0, n_le0, n_eq0, m_lt, m_le, m_gt, m_ge, m_eq, m_eq', m_lt0, m_ge0, m_gt0, m_le0, m_ltm, m_lem, n_in, m_in, n_cl, n_ti, n_div, n_rem', n_dec, n_l, nI_add, pk_mul, an0, an1, decide_eq_true_eq, if_true, if_false, ite_true, ite_false, and_true, true_and, and_false, false_and, not_true, not_false_iff, or_false, false_or, or_true, true_or, eq_self, va_some, Bool.false_eq_true, reduceIte, catS_n, catS_i, catS_r, catS_l, catS_d, Nat.zero_add, Nat.add_zero, decide_true, decide_false, Nat.reduceLeDiff, cat_r, cat_i, cat_l, nle_T, nle_F, nlt_T, nlt_F, neq_T, neq_F, z]
    · have h' : ¬ x < nI 16 := Int32.not_lt.mpr h
      simp (disch := first | assumption | omega) only [Nat.reduceAdd, X_go, go2_some, stp, ldI, ldA, ldL, stI, stA, stL, o1I, o2I, o2L, brI, brII, gl, s1, s2, k1, sl, go_sN, go_sR, go_CT, go_sT, go_no, go_if, pops, bk_v, bk_0, d129_0, d129_1, d129_4, d129_5, d129_7, d129_10, d129_13, d129_14, d129_17, d129_20, d129_21, n_lt, n_le, n_eq, n_lt0, n_ge0, n_gt0, n_le0, n_eq0, m_lt, m_le, m_gt, m_ge, m_eq, m_eq', m_lt0, m_ge0, m_gt0, m_le0, m_ltm, m_lem, n_in, m_in, n_cl, n_ti, n_div, n_rem', n_dec, n_l, nI_add, pk_mul, an0, an1, decide_eq_true_eq, if_true, if_false, ite_true, ite_false, and_true, true_and, and_false, false_and, not_true, not_false_iff, or_false, false_or, or_true, true_or, eq_self, va_some, Bool.false_eq_true, reduceIte, catS_n, catS_i, catS_r, catS_l, catS_d, Nat.zero_add, Nat.add_zero, decide_true, decide_false, Nat.reduceLeDiff, cat_r, cat_i, cat_l, nle_T, nle_F, nlt_T, nlt_F, neq_T, neq_F, z, h']
theorem d104_0 : dec 104 0 = some (.iload_n 0, 1, []) := rfl
theorem d104_1 : dec 104 1 = some (.iconst 1, 1, [1]) := rfl
theorem d104_2 : dec 104 2 = some (.if_icmp .lt 8, 3, [10]) := rfl
theorem d104_5 : dec 104 5 = some (.iload_n 0, 1, []) := rfl
theorem d104_6 : dec 104 6 = some (.iconst 3, 1, [3]) := rfl
theorem d104_7 : dec 104 7 = some (.if_icmp .le 14, 3, [21]) := rfl
theorem d104_10 : dec 104 10 = some (.new 279, 3, [6, 0, 510]) := rfl
theorem d104_13 : dec 104 13 = some (.dup, 1, []) := rfl
theorem d104_14 : dec 104 14 = some (.ldc_w 288, 3, []) := rfl
theorem d104_17 : dec 104 17 = some (.invokespecial 283, 3, []) := rfl
theorem d104_20 : dec 104 20 = some (.athrow, 1, []) := rfl
theorem d104_21 : dec 104 21 = some (.return_, 1, []) := rfl
theorem l104 : mL 104 = 1 := rfl
theorem c104 {d : Nat} {P : MP} {I : MI} {L : ML} {C : MC} {Q : QT} {r : Nat} (hd : 1 ≤ d) (h1 : 1 ≤ r) (h3 : r ≤ 3) : CT d 104 [.int (nI r)] P I L C Q = Q (.inl none) P I L C := by
  rw [CT_e (mj := 104) (e := [.int (nI r)]) (by omega) rfl (Nat.le_of_ble_eq_true rfl)]
  simp (disch := first | assumption | omega) only [Nat.reduceAdd, X_go, go2_some, stp, ldI, ldA, ldL, stI, stA, stL, o1I, o2I, o2L, brI, brII, gl, s1, s2, k1, sl, go_sN, go_sR, go_CT, go_sT, go_no, go_if, pops, bk_v, bk_0, d104_0, d104_1, d104_2, d104_5, d104_6, d104_7, d104_10, d104_13, d104_14, d104_17, d104_20, d104_21, n_lt, n_le, n_eq, n_lt0, n_ge0, n_gt0, n_le0, n_eq0, m_lt, m_le, m_gt, m_ge, m_eq, m_eq', m_lt0, m_ge0, m_gt0, m_le0, m_ltm, m_lem, n_in, m_in, n_cl, n_ti, n_div, n_rem', n_dec, n_l, nI_add, pk_mul, an0, an1, decide_eq_true_eq, if_true, if_false, ite_true, ite_false, and_true, true_and, and_false, false_and, not_true, not_false_iff, or_false, false_or, or_true, true_or, eq_self, va_some, Bool.false_eq_true, reduceIte, catS_n, catS_i, catS_r, catS_l, catS_d, Nat.zero_add, Nat.add_zero, decide_true, decide_false, Nat.reduceLeDiff, cat_r, cat_i, cat_l, nle_T, nle_F, nlt_T, nlt_F, neq_T, neq_F]
  done
theorem c104b {d : Nat} {P : MP} {I : MI} {L : ML} {C : MC} {Q : QT} {x : Int32} (hd : 1 ≤ d) (hx : x < nI 1 ∨ nI 3 < x) : CT d 104 [.int x] P I L C Q = Q (.inr 0) P I L (C.1 + 1, C.2 + 6) := by
  rw [CT_e (mj := 104) (e := [.int x]) (by omega) rfl (Nat.le_of_ble_eq_true rfl)]
  rcases hx with h | h
  · simp (disch := first | assumption | omega) only [Nat.reduceAdd, X_go, go2_some, stp, ldI, ldA, ldL, stI, stA, stL, o1I, o2I, o2L, brI, brII, gl, s1, s2, k1, sl, go_sN, go_sR, go_CT, go_sT, go_no, go_if, pops, bk_v, bk_0, d104_0, d104_1, d104_2, d104_5, d104_6, d104_7, d104_10, d104_13, d104_14, d104_17, d104_20, d104_21, n_lt, n_le, n_eq, n_lt0, n_ge0, n_gt0, n_le0, n_eq0, m_lt, m_le, m_gt, m_ge, m_eq, m_eq', m_lt0, m_ge0, m_gt0, m_le0, m_ltm, m_lem, n_in, m_in, n_cl, n_ti, n_div, n_rem', n_dec, n_l, nI_add, pk_mul, an0, an1, decide_eq_true_eq, if_true, if_false, ite_true, ite_false, and_true, true_and, and_false, false_and, not_true, not_false_iff, or_false, false_or, or_true, true_or, eq_self, va_some, Bool.false_eq_true, reduceIte, catS_n, catS_i, catS_r, catS_l, catS_d, Nat.zero_add, Nat.add_zero, decide_true, decide_false, Nat.reduceLeDiff, cat_r, cat_i, cat_l, nle_T, nle_F, nlt_T, nlt_F, neq_T, neq_F, h]
  · by_cases z : x < nI 1
    · simp (disch := first | assumption | omega) only [Nat.reduceAdd, X_go, go2_some, stp, ldI, ldA, ldL, stI, stA, stL, o1I, o2I, o2L, brI, brII, gl, s1, s2, k1, sl, go_sN, go_sR, go_CT, go_sT, go_no, go_if, pops, bk_v, bk_0, d104_0, d104_1, d104_2, d104_5, d104_6, d104_7, d104_10, d104_13, d104_14, d104_17, d104_20, d104_21, n_lt, n_le, n_eq, n_lt0, n_ge0, n_gt0, n_le0, n_eq0, m_lt, m_le, m_gt, m_ge, m_eq, m_eq', m_lt0, m_ge0, m_gt0, m_le0, m_ltm, m_lem, n_in, m_in, n_cl, n_ti, n_div, n_rem', n_dec, n_l, nI_add, pk_mul, an0, an1, decide_eq_true_eq, if_true, if_false, ite_true, ite_false, and_true, true_and, and_false, false_and, not_true, not_false_iff, or_false, false_or, or_true, true_or, eq_self, va_some, Bool.false_eq_true, reduceIte, catS_n, catS_i, catS_r, catS_l, catS_d, Nat.zero_add, Nat.add_zero, decide_true, decide_false, Nat.reduceLeDiff, cat_r, cat_i, cat_l, nle_T, nle_F, nlt_T, nlt_F, neq_T, neq_F, z]
    · have h' : ¬ x ≤ nI 3 := Int32.not_le.mpr h
      simp (disch := first | assumption | omega) only [Nat.reduceAdd, X_go, go2_some, stp, ldI, ldA, ldL, stI, stA, stL, o1I, o2I, o2L, brI, brII, gl, s1, s2, k1, sl, go_sN, go_sR, go_CT, go_sT, go_no, go_if, pops, bk_v, bk_0, d104_0, d104_1, d104_2, d104_5, d104_6, d104_7, d104_10, d104_13, d104_14, d104_17, d104_20, d104_21, n_lt, n_le, n_eq, n_lt0, n_ge0, n_gt0, n_le0, n_eq0, m_lt, m_le, m_gt, m_ge, m_eq, m_eq', m_lt0, m_ge0, m_gt0, m_le0, m_ltm, m_lem, n_in, m_in, n_cl, n_ti, n_div, n_rem', n_dec, n_l, nI_add, pk_mul, an0, an1, decide_eq_true_eq, if_true, if_false, ite_true, ite_false, and_true, true_and, and_false, false_and, not_true, not_false_iff, or_false, false_or, or_true, true_or, eq_self, va_some, Bool.false_eq_true, reduceIte, catS_n, catS_i, catS_r, catS_l, catS_d, Nat.zero_add, Nat.add_zero, decide_true, decide_false, Nat.reduceLeDiff, cat_r, cat_i, cat_l, nle_T, nle_F, nlt_T, nlt_F, neq_T, neq_F, z, h']
theorem d87_0 : dec 87 0 = some (.iload_n 0, 1, []) := rfl
theorem d87_1 : dec 87 1 = some (.iload_n 1, 1, []) := rfl
theorem d87_2 : dec 87 2 = some (.if_icmp .lt 8, 3, [10]) := rfl
theorem d87_5 : dec 87 5 = some (.iload_n 0, 1, []) := rfl
theorem d87_6 : dec 87 6 = some (.iload_n 2, 1, []) := rfl
theorem d87_7 : dec 87 7 = some (.if_icmp .le 14, 3, [21]) := rfl
theorem d87_10 : dec 87 10 = some (.new 90, 3, [6, 1, 437]) := rfl
theorem d87_13 : dec 87 13 = some (.dup, 1, []) := rfl
theorem d87_14 : dec 87 14 = some (.ldc_w 290, 3, []) := rfl
theorem d87_17 : dec 87 17 = some (.invokespecial 94, 3, []) := rfl
theorem d87_20 : dec 87 20 = some (.athrow, 1, []) := rfl
theorem d87_21 : dec 87 21 = some (.return_, 1, []) := rfl
theorem l87 : mL 87 = 3 := rfl
theorem c87 {d : Nat} {P : MP} {I : MI} {L : ML} {C : MC} {Q : QT} {x lo hi : Nat} (hd : 1 ≤ d) (h1 : lo ≤ x) (h2 : x ≤ hi) (h3 : hi < 2147483648) : CT d 87 [.int (nI x), .int (nI lo), .int (nI hi)] P I L C Q = Q (.inl none) P I L C := by
  rw [CT_e (mj := 87) (e := [.int (nI x), .int (nI lo), .int (nI hi)]) (by omega) rfl (Nat.le_of_ble_eq_true rfl)]
  simp (disch := first | assumption | omega) only [Nat.reduceAdd, X_go, go2_some, stp, ldI, ldA, ldL, stI, stA, stL, o1I, o2I, o2L, brI, brII, gl, s1, s2, k1, sl, go_sN, go_sR, go_CT, go_sT, go_no, go_if, pops, bk_v, bk_0, d87_0, d87_1, d87_2, d87_5, d87_6, d87_7, d87_10, d87_13, d87_14, d87_17, d87_20, d87_21, n_lt, n_le, n_eq, n_lt0, n_ge0, n_gt0, n_le0, n_eq0, m_lt, m_le, m_gt, m_ge, m_eq, m_eq', m_lt0, m_ge0, m_gt0, m_le0, m_ltm, m_lem, n_in, m_in, n_cl, n_ti, n_div, n_rem', n_dec, n_l, nI_add, pk_mul, an0, an1, decide_eq_true_eq, if_true, if_false, ite_true, ite_false, and_true, true_and, and_false, false_and, not_true, not_false_iff, or_false, false_or, or_true, true_or, eq_self, va_some, Bool.false_eq_true, reduceIte, catS_n, catS_i, catS_r, catS_l, catS_d, Nat.zero_add, Nat.add_zero, decide_true, decide_false, Nat.reduceLeDiff, cat_r, cat_i, cat_l, nle_T, nle_F, nlt_T, nlt_F, neq_T, neq_F]
  done
theorem c87b {d : Nat} {P : MP} {I : MI} {L : ML} {C : MC} {Q : QT} {x y z : Int32} (hd : 1 ≤ d) (hx : x < y ∨ z < x) : CT d 87 [.int x, .int y, .int z] P I L C Q = Q (.inr 1) P I L (C.1 + 1, C.2 + 6) := by
  rw [CT_e (mj := 87) (e := [.int x, .int y, .int z]) (by omega) rfl (Nat.le_of_ble_eq_true rfl)]
  by_cases h : x < y
  · simp (disch := first | assumption | omega) only [Nat.reduceAdd, X_go, go2_some, stp, ldI, ldA, ldL, stI, stA, stL, o1I, o2I, o2L, brI, brII, gl, s1, s2, k1, sl, go_sN, go_sR, go_CT, go_sT, go_no, go_if, pops, bk_v, bk_0, d87_0, d87_1, d87_2, d87_5, d87_6, d87_7, d87_10, d87_13, d87_14, d87_17, d87_20, d87_21, n_lt, n_le, n_eq, n_lt0, n_ge0, n_gt0, n_le0, n_eq0, m_lt, m_le, m_gt, m_ge, m_eq, m_eq', m_lt0, m_ge0, m_gt0, m_le0, m_ltm, m_lem, n_in, m_in, n_cl, n_ti, n_div, n_rem', n_dec, n_l, nI_add, pk_mul, an0, an1, decide_eq_true_eq, if_true, if_false, ite_true, ite_false, and_true, true_and, and_false, false_and, not_true, not_false_iff, or_false, false_or, or_true, true_or, eq_self, va_some, Bool.false_eq_true, reduceIte, catS_n, catS_i, catS_r, catS_l, catS_d, Nat.zero_add, Nat.add_zero, decide_true, decide_false, Nat.reduceLeDiff, cat_r, cat_i, cat_l, nle_T, nle_F, nlt_T, nlt_F, neq_T, neq_F, h]
  · have h' : ¬ x ≤ z := Int32.not_le.mpr (hx.resolve_left h)
    simp (disch := first | assumption | omega) only [Nat.reduceAdd, X_go, go2_some, stp, ldI, ldA, ldL, stI, stA, stL, o1I, o2I, o2L, brI, brII, gl, s1, s2, k1, sl, go_sN, go_sR, go_CT, go_sT, go_no, go_if, pops, bk_v, bk_0, d87_0, d87_1, d87_2, d87_5, d87_6, d87_7, d87_10, d87_13, d87_14, d87_17, d87_20, d87_21, n_lt, n_le, n_eq, n_lt0, n_ge0, n_gt0, n_le0, n_eq0, m_lt, m_le, m_gt, m_ge, m_eq, m_eq', m_lt0, m_ge0, m_gt0, m_le0, m_ltm, m_lem, n_in, m_in, n_cl, n_ti, n_div, n_rem', n_dec, n_l, nI_add, pk_mul, an0, an1, decide_eq_true_eq, if_true, if_false, ite_true, ite_false, and_true, true_and, and_false, false_and, not_true, not_false_iff, or_false, false_or, or_true, true_or, eq_self, va_some, Bool.false_eq_true, reduceIte, catS_n, catS_i, catS_r, catS_l, catS_d, Nat.zero_add, Nat.add_zero, decide_true, decide_false, Nat.reduceLeDiff, cat_r, cat_i, cat_l, nle_T, nle_F, nlt_T, nlt_F, neq_T, neq_F, h, h']
theorem d93_0 : dec 93 0 = some (.iload_n 1, 1, []) := rfl
theorem d93_1 : dec 93 1 = some (.invokestatic 64, 3, [2, 86, 0, 9, 0, 507, 0]) := rfl
theorem d93_4 : dec 93 4 = some (.iload_n 2, 1, []) := rfl
theorem d93_5 : dec 93 5 = some (.ifCond .lt 18, 3, [23]) := rfl
theorem d93_8 : dec 93 8 = some (.iload_n 2, 1, []) := rfl
theorem d93_9 : dec 93 9 = some (.aload_n 0, 1, []) := rfl
theorem d93_10 : dec 93 10 = some (.getfield 12, 3, [1, 9, 0, 2, 0, 267]) := rfl
theorem d93_13 : dec 93 13 = some (.getfield 75, 3, [1, 6, 0, 2, 1, 138]) := rfl
theorem d93_16 : dec 93 16 = some (.iload_n 1, 1, []) := rfl
theorem d93_17 : dec 93 17 = some (.invokevirtual 101, 3, [2, 25, 2, 7, 0, 531, 0]) := rfl
theorem d93_20 : dec 93 20 = some (.if_icmp .lt 14, 3, [34]) := rfl
theorem d93_23 : dec 93 23 = some (.new 279, 3, [6, 0, 510]) := rfl
theorem d93_26 : dec 93 26 = some (.dup, 1, []) := rfl
theorem d93_27 : dec 93 27 = some (.ldc_w 284, 3, []) := rfl
theorem d93_30 : dec 93 30 = some (.invokespecial 283, 3, []) := rfl
theorem d93_33 : dec 93 33 = some (.athrow, 1, []) := rfl
theorem d93_34 : dec 93 34 = some (.return_, 1, []) := rfl
theorem l93 : mL 93 = 3 := rfl
theorem x93 : (mG 93).2.2.2.2 = [] := rfl
theorem c93 {d : Nat} {P : MP} {I : MI} {L : ML} {C : MC} {Q : QT} {t e : Nat} {g : GS} (hX : XB P) (hg : RC I 2 g) (hv : TV g) (hd : 3 ≤ d) (ht : t < 3) (he : e < g (3 + t)) : CT d 93 [.ref 1, .int (nI t), .int (nI e)] P I L C Q = Q (.inl none) P I L C := by
  obtain ⟨k0, ⟨p0, _⟩, hS, _⟩ := hX
  obtain ⟨l0, r0, r1, r2, hT, hK, hF⟩ := hS
  have hc := hv.2.1 t ht
  have hT0 := hT.1.1
  rw [CT_e (mj := 93) (e := [.ref 1, .int (nI t), .int (nI e)]) (by omega) rfl (Nat.le_of_ble_eq_true rfl)]
  simp (disch := first | assumption | omega) only [Nat.reduceAdd, X_go, go2_some, stp, ldI, ldA, ldL, stI, stA, stL, o1I, o2I, o2L, brI, brII, gl, s1, s2, k1, sl, go_sN, go_sR, go_CT, go_sT, go_no, go_if, pops, bk_v, bk_0, d93_0, d93_1, d93_4, d93_5, d93_8, d93_9, d93_10, d93_13, d93_16, d93_17, d93_20, d93_23, d93_26, d93_27, d93_30, d93_33, d93_34, n_lt, n_le, n_eq, n_lt0, n_ge0, n_gt0, n_le0, n_eq0, m_lt, m_le, m_gt, m_ge, m_eq, m_eq', m_lt0, m_ge0, m_gt0, m_le0, m_ltm, m_lem, n_in, m_in, n_cl, n_ti, n_div, n_rem', n_dec, n_l, nI_add, pk_mul, an0, an1, decide_eq_true_eq, if_true, if_false, ite_true, ite_false, and_true, true_and, and_false, false_and, not_true, not_false_iff, or_false, false_or, or_true, true_or, eq_self, va_some, Bool.false_eq_true, reduceIte, catS_n, catS_i, catS_r, catS_l, catS_d, Nat.zero_add, Nat.add_zero, decide_true, decide_false, Nat.reduceLeDiff, cat_r, cat_i, cat_l, nle_T, nle_F, nlt_T, nlt_F, neq_T, neq_F, k0, p0, l0, r0, hT0, c86, c25g hT hg.1]
  done
theorem c93t {d : Nat} {P : MP} {I : MI} {L : ML} {C : MC} {Q : QT} {x y : Int32} (hX : XB P) (hd : 3 ≤ d) (hx : x < 0 ∨ nI 3 ≤ x) : CT d 93 [.ref 1, .int x, .int y] P I L C Q = Q (.inr 0) P I L (C.1 + 1, C.2 + 6) := by
  obtain ⟨k0, ⟨p0, _⟩, hS, _⟩ := hX
  rw [CT_e (mj := 93) (e := [.ref 1, .int x, .int y]) (by omega) rfl (Nat.le_of_ble_eq_true rfl)]
  simp (disch := first | assumption | omega) only [Nat.reduceAdd, X_go, go2_some, stp, ldI, ldA, ldL, stI, stA, stL, o1I, o2I, o2L, brI, brII, gl, s1, s2, k1, sl, go_sN, go_sR, go_CT, go_sT, go_no, go_if, pops, bk_v, bk_0, d93_0, d93_1, d93_4, d93_5, d93_8, d93_9, d93_10, d93_13, d93_16, d93_17, d93_20, d93_23, d93_26, d93_27, d93_30, d93_33, d93_34, n_lt, n_le, n_eq, n_lt0, n_ge0, n_gt0, n_le0, n_eq0, m_lt, m_le, m_gt, m_ge, m_eq, m_eq', m_lt0, m_ge0, m_gt0, m_le0, m_ltm, m_lem, n_in, m_in, n_cl, n_ti, n_div, n_rem', n_dec, n_l, nI_add, pk_mul, an0, an1, decide_eq_true_eq, if_true, if_false, ite_true, ite_false, and_true, true_and, and_false, false_and, not_true, not_false_iff, or_false, false_or, or_true, true_or, eq_self, va_some, Bool.false_eq_true, reduceIte, catS_n, catS_i, catS_r, catS_l, catS_d, Nat.zero_add, Nat.add_zero, decide_true, decide_false, Nat.reduceLeDiff, cat_r, cat_i, cat_l, nle_T, nle_F, nlt_T, nlt_F, neq_T, neq_F, k0, c86b, bk_x x93]
  done
theorem c93e {d : Nat} {P : MP} {I : MI} {L : ML} {C : MC} {Q : QT} {t : Nat} {y : Int32} {g : GS} (hX : XB P) (hg : RC I 2 g) (hv : TV g) (hd : 3 ≤ d) (ht : t < 3) (he : y < 0 ∨ nI (g (3 + t)) ≤ y) : CT d 93 [.ref 1, .int (nI t), .int y] P I L C Q = Q (.inr 0) P I L (C.1 + 1, C.2 + 6) := by
  obtain ⟨k0, ⟨p0, _⟩, hS, _⟩ := hX
  obtain ⟨l0, r0, r1, r2, hT, hK, hF⟩ := hS
  have hc := hv.2.1 t ht
  have hT0 := hT.1.1
  rw [CT_e (mj := 93) (e := [.ref 1, .int (nI t), .int y]) (by omega) rfl (Nat.le_of_ble_eq_true rfl)]
  by_cases z : y < 0
  · simp (disch := first | assumption | omega) only [Nat.reduceAdd, X_go, go2_some, stp, ldI, ldA, ldL, stI, stA, stL, o1I, o2I, o2L, brI, brII, gl, s1, s2, k1, sl, go_sN, go_sR, go_CT, go_sT, go_no, go_if, pops, bk_v, bk_0, d93_0, d93_1, d93_4, d93_5, d93_8, d93_9, d93_10, d93_13, d93_16, d93_17, d93_20, d93_23, d93_26, d93_27, d93_30, d93_33, d93_34, n_lt, n_le, n_eq, n_lt0, n_ge0, n_gt0, n_le0, n_eq0, m_lt, m_le, m_gt, m_ge, m_eq, m_eq', m_lt0, m_ge0, m_gt0, m_le0, m_ltm, m_lem, n_in, m_in, n_cl, n_ti, n_div, n_rem', n_dec, n_l, nI_add, pk_mul, an0, an1, decide_eq_true_eq, if_true, if_false, ite_true, ite_false, and_true, true_and, and_false, false_and, not_true, not_false_iff, or_false, false_or, or_true, true_or, eq_self, va_some, Bool.false_eq_true, reduceIte, catS_n, catS_i, catS_r, catS_l, catS_d, Nat.zero_add, Nat.add_zero, decide_true, decide_false, Nat.reduceLeDiff, cat_r, cat_i, cat_l, nle_T, nle_F, nlt_T, nlt_F, neq_T, neq_F, k0, p0, l0, r0, hT0, c86, c25g hT hg.1, z]
  · have h' : ¬ y < nI (g (3 + t)) := Int32.not_lt.mpr (he.resolve_left z)
    simp (disch := first | assumption | omega) only [Nat.reduceAdd, X_go, go2_some, stp, ldI, ldA, ldL, stI, stA, stL, o1I, o2I, o2L, brI, brII, gl, s1, s2, k1, sl, go_sN, go_sR, go_CT, go_sT, go_no, go_if, pops, bk_v, bk_0, d93_0, d93_1, d93_4, d93_5, d93_8, d93_9, d93_10, d93_13, d93_16, d93_17, d93_20, d93_23, d93_26, d93_27, d93_30, d93_33, d93_34, n_lt, n_le, n_eq, n_lt0, n_ge0, n_gt0, n_le0, n_eq0, m_lt, m_le, m_gt, m_ge, m_eq, m_eq', m_lt0, m_ge0, m_gt0, m_le0, m_ltm, m_lem, n_in, m_in, n_cl, n_ti, n_div, n_rem', n_dec, n_l, nI_add, pk_mul, an0, an1, decide_eq_true_eq, if_true, if_false, ite_true, ite_false, and_true, true_and, and_false, false_and, not_true, not_false_iff, or_false, false_or, or_true, true_or, eq_self, va_some, Bool.false_eq_true, reduceIte, catS_n, catS_i, catS_r, catS_l, catS_d, Nat.zero_add, Nat.add_zero, decide_true, decide_false, Nat.reduceLeDiff, cat_r, cat_i, cat_l, nle_T, nle_F, nlt_T, nlt_F, neq_T, neq_F, k0, p0, l0, r0, hT0, c86, c25g hT hg.1, z, h']
theorem d11_0 : dec 11 0 = some (.aload_n 0, 1, []) := rfl
theorem d11_1 : dec 11 1 = some (.getfield 22, 3, [1, 9, 2, 2, 0, 269]) := rfl
theorem d11_4 : dec 11 4 = some (.aload_n 0, 1, []) := rfl
theorem d11_5 : dec 11 5 = some (.getfield 12, 3, [1, 9, 0, 2, 0, 267]) := rfl
theorem d11_8 : dec 11 8 = some (.invokevirtual 292, 3, [2, 12, 2, 5, 0, 645, 2]) := rfl
theorem d11_11 : dec 11 11 = some (.aload_n 0, 1, []) := rfl
theorem d11_12 : dec 11 12 = some (.getfield 57, 3, [1, 9, 7, 2, 0, 274]) := rfl
theorem d11_15 : dec 11 15 = some (.invokevirtual 237, 3, [2, 21, 2, 0, 0, 416]) := rfl
theorem d11_18 : dec 11 18 = some (.return_, 1, []) := rfl
theorem l11 : mL 11 = 1 := rfl
theorem c11 {d : Nat} {P : MP} {I : MI} {L : ML} {C : MC} {n len : Nat} {g : GS} {ps : Nat → GS} {tx : Nat → Nat} (hX : XB P) (hR : XR I L g n ps len tx) (hv : TV g) (hd : 5 ≤ d) : ∃ J, RC J 2 g ∧ VR J (puN n) (puS n ps g) ∧ J 130 6 = nI 4294967295 ∧ (∀ k j, k < 38 ∨ 111 < k → (k = 130 → j ≠ 6) → J k j = I k j) ∧ ∀ Q, CT d 11 [.ref 1] P I L C Q = Q (.inl none) P J L C := by
  obtain ⟨k0, ⟨p0, p1, p2, p3, p4, p5, p6, p7, p8⟩, hS, hS2, hV, hTx, hT2, hO, hD, hH, hH2⟩ := hX
  obtain ⟨hg, hVR, hXT, hCC⟩ := hR
  have hV0 := hV.1
  have hH0 := hH.1
  obtain ⟨J, j1, j2, j3⟩ := c12 (d := d - 1) (L := L) (C := C) hV hS hVR hg hv (by omega)
  refine ⟨xu J 130 6 (nI 4294967295), RC_fr hg fun k j h h' => by rw [xu_n _ _ (by omega), j2 _ _ (by omega)], VR_fr j1 fun k j h h' => xu_n _ _ (by omega), xu_s _ _ _ _, fun k j h h' => by rw [xu_n _ _ (by omega), j2 _ _ (by omega)], fun Q => ?_⟩
  rw [CT_e (mj := 11) (e := [.ref 1]) (by omega) rfl (Nat.le_of_ble_eq_true rfl)]
  simp (disch := first | assumption | omega) only [Nat.reduceAdd, X_go, go2_some, stp, ldI, ldA, ldL, stI, stA, stL, o1I, o2I, o2L, brI, brII, gl, s1, s2, k1, sl, go_sN, go_sR, go_CT, go_sT, go_no, go_if, pops, bk_v, bk_0, d11_0, d11_1, d11_4, d11_5, d11_8, d11_11, d11_12, d11_15, d11_18, n_lt, n_le, n_eq, n_lt0, n_ge0, n_gt0, n_le0, n_eq0, m_lt, m_le, m_gt, m_ge, m_eq, m_eq', m_lt0, m_ge0, m_gt0, m_le0, m_ltm, m_lem, n_in, m_in, n_cl, n_ti, n_div, n_rem', n_dec, n_l, nI_add, pk_mul, an0, an1, decide_eq_true_eq, if_true, if_false, ite_true, ite_false, and_true, true_and, and_false, false_and, not_true, not_false_iff, or_false, false_or, or_true, true_or, eq_self, va_some, Bool.false_eq_true, reduceIte, catS_n, catS_i, catS_r, catS_l, catS_d, Nat.zero_add, Nat.add_zero, decide_true, decide_false, Nat.reduceLeDiff, cat_r, cat_i, cat_l, nle_T, nle_F, nlt_T, nlt_F, neq_T, neq_F, k0, p0, p2, p7, hV0, hH0, j3, c21]
  done
