/-! THE MODEL: saved states -/
def ZR (I : MI) (g : GS) (n : Nat) (ps : Nat → GS) (len : Nat) (tx : Nat → Nat) : Prop := NR I g ∧ I 150 3 = nI n ∧ (∀ i k, i < n → k < 201 → I 152 (201 * i + k) = nI (ps i k)) ∧ I 150 6 = nI len ∧ ∀ i, i < len → I 154 i = nI (tx i)
theorem xu_xr {α : Type} (f : Nat → Nat → α) {k j : Nat} {r : Nat → α} {v : α} : xu (xr f k r) k j v = xr f k (fun i => if i = j then v else r i) := by
  funext a b
  unfold xu xr
  by_cases z : a = k
  · subst z
    rw [if_pos rfl, if_pos rfl]
    by_cases y : b = j
    · rw [if_pos ⟨rfl, y⟩, if_pos y]
    · rw [if_neg (fun q => y q.2), if_neg y]
  · rw [if_neg (fun q => z q.1), if_neg z, if_neg z]
theorem xr_id {α : Type} (f : Nat → α) {k : Nat} : xr f k (f k) = f := xr_self f rfl
theorem d157_0 : dec 157 0 = some (.aload_n 0, 1, []) := rfl
theorem d157_1 : dec 157 1 = some (.getfield 69, 3, [1, 10, 3, 0, 0, 997]) := rfl
theorem d157_4 : dec 157 4 = some (.iconst 4, 1, [4]) := rfl
theorem d157_5 : dec 157 5 = some (.if_icmp .ne 44, 3, [49]) := rfl
theorem d157_8 : dec 157 8 = some (.iconst 0, 1, [0]) := rfl
theorem d157_9 : dec 157 9 = some (.istore_n 1, 1, []) := rfl
theorem d157_10 : dec 157 10 = some (.iload_n 1, 1, []) := rfl
theorem d157_11 : dec 157 11 = some (.sipush 603, 3, [603]) := rfl
theorem d157_14 : dec 157 14 = some (.if_icmp .ge 25, 3, [39]) := rfl
theorem d157_17 : dec 157 17 = some (.aload_n 0, 1, []) := rfl
theorem d157_18 : dec 157 18 = some (.getfield 13, 3, [1, 10, 1, 2, 0, 995]) := rfl
theorem d157_21 : dec 157 21 = some (.iload_n 1, 1, []) := rfl
theorem d157_22 : dec 157 22 = some (.aload_n 0, 1, []) := rfl
theorem d157_23 : dec 157 23 = some (.getfield 13, 3, [1, 10, 1, 2, 0, 995]) := rfl
theorem d157_26 : dec 157 26 = some (.iload_n 1, 1, []) := rfl
theorem d157_27 : dec 157 27 = some (.sipush 201, 3, [201]) := rfl
theorem d157_30 : dec 157 30 = some (.iadd, 1, []) := rfl
theorem d157_31 : dec 157 31 = some (.iaload, 1, []) := rfl
theorem d157_32 : dec 157 32 = some (.iastore, 1, []) := rfl
theorem d157_33 : dec 157 33 = some (.iinc 1 1, 3, [1]) := rfl
theorem d157_36 : dec 157 36 = some (.goto (-26), 3, [10]) := rfl
theorem d157_39 : dec 157 39 = some (.aload_n 0, 1, []) := rfl
theorem d157_40 : dec 157 40 = some (.dup, 1, []) := rfl
theorem d157_41 : dec 157 41 = some (.getfield 69, 3, [1, 10, 3, 0, 0, 997]) := rfl
theorem d157_44 : dec 157 44 = some (.iconst 1, 1, [1]) := rfl
theorem d157_45 : dec 157 45 = some (.isub, 1, []) := rfl
theorem d157_46 : dec 157 46 = some (.putfield 69, 3, [1, 10, 3, 0, 0, 997]) := rfl
theorem d157_49 : dec 157 49 = some (.iconst 0, 1, [0]) := rfl
theorem d157_50 : dec 157 50 = some (.istore_n 1, 1, []) := rfl
theorem d157_51 : dec 157 51 = some (.iload_n 1, 1, []) := rfl
theorem d157_52 : dec 157 52 = some (.sipush 201, 3, [201]) := rfl
theorem d157_55 : dec 157 55 = some (.if_icmp .ge 30, 3, [85]) := rfl
theorem d157_58 : dec 157 58 = some (.aload_n 0, 1, []) := rfl
theorem d157_59 : dec 157 59 = some (.getfield 13, 3, [1, 10, 1, 2, 0, 995]) := rfl
theorem d157_62 : dec 157 62 = some (.sipush 201, 3, [201]) := rfl
theorem d157_65 : dec 157 65 = some (.aload_n 0, 1, []) := rfl
theorem d157_66 : dec 157 66 = some (.getfield 69, 3, [1, 10, 3, 0, 0, 997]) := rfl
theorem d157_69 : dec 157 69 = some (.imul, 1, []) := rfl
theorem d157_70 : dec 157 70 = some (.iload_n 1, 1, []) := rfl
theorem d157_71 : dec 157 71 = some (.iadd, 1, []) := rfl
theorem d157_72 : dec 157 72 = some (.aload_n 0, 1, []) := rfl
theorem d157_73 : dec 157 73 = some (.getfield 7, 3, [1, 10, 0, 2, 0, 994]) := rfl
theorem d157_76 : dec 157 76 = some (.iload_n 1, 1, []) := rfl
theorem d157_77 : dec 157 77 = some (.iaload, 1, []) := rfl
theorem d157_78 : dec 157 78 = some (.iastore, 1, []) := rfl
theorem d157_79 : dec 157 79 = some (.iinc 1 1, 3, [1]) := rfl
theorem d157_82 : dec 157 82 = some (.goto (-31), 3, [51]) := rfl
theorem d157_85 : dec 157 85 = some (.aload_n 0, 1, []) := rfl
theorem d157_86 : dec 157 86 = some (.dup, 1, []) := rfl
theorem d157_87 : dec 157 87 = some (.getfield 69, 3, [1, 10, 3, 0, 0, 997]) := rfl
theorem d157_90 : dec 157 90 = some (.iconst 1, 1, [1]) := rfl
theorem d157_91 : dec 157 91 = some (.iadd, 1, []) := rfl
theorem d157_92 : dec 157 92 = some (.putfield 69, 3, [1, 10, 3, 0, 0, 997]) := rfl
theorem d157_95 : dec 157 95 = some (.return_, 1, []) := rfl
theorem l157 : mL 157 = 2 := rfl
theorem f157a {d : Nat} {P : MP} {I : MI} {L : ML} {C : MC} {Q : QT} (hM : MB P) (hd : 1 ≤ d) : ∀ m k (R : Nat → Int32), k + m = 603 → X d 157 10 [.ref 150, .int (nI k)] [] P (xr I 152 R) L C Q = X d 157 39 [.ref 150, .int (nI 603)] [] P (xr I 152 (fun j => if k ≤ j ∧ j < 603 then R (j + 201) else R j)) L C Q := by
  obtain ⟨⟨k0, p0, p1, p2, p5, y1, y2, y3, y4⟩, _⟩ := hM
  intro m
  induction m with
  | zero =>
    intro k R h
    have : k = 603 := by omega
    subst this
    have e : (fun j => if 603 ≤ j ∧ j < 603 then R (j + 201) else R j) = R := funext fun j => if_neg (by omega)
    rw [e, X_go, d157_10]
    simp (disch := first | assumption | omega) only [Nat.reduceAdd, X_go, go2_some, stp, ldI, ldA, ldL, stI, stA, stL, o1I, o2I, o2L, brI, brII, gl, s1, s2, k1, sl, go_sN, go_sR, go_CT, go_sT, go_no, go_if, pops, bk_v, bk_0, d157_0, d157_1, d157_4, d157_5, d157_8, d157_9, d157_11, d157_14, d157_17, d157_18, d157_21, d157_22, d157_23, d157_26, d157_27, d157_30, d157_31, d157_32, d157_33, d157_36, d157_40, d157_41, d157_44, d157_45, d157_46, d157_49, d157_50, d157_51, d157_52, d157_55, d157_58, d157_59, d157_62, d157_65, d157_66, d157_69, d157_70, d157_71, d157_72, d157_73, d157_76, d157_77, d157_78, d157_79, d157_82, d157_85, d157_86, d157_87, d157_90, d157_91, d157_92, d157_95, n_lt, n_le, n_eq, n_lt0, n_ge0, n_gt0, n_le0, n_eq0, m_lt, m_le, m_gt, m_ge, m_eq, m_eq', m_lt0, m_ge0, m_gt0, m_le0, m_ltm, m_lem, n_in, m_in, n_cl, n_ti, n_div, n_rem', n_dec, n_l, nI_add, pk_mul, an0, an1, decide_eq_true_eq, if_true, if_false, ite_true, ite_false, and_true, true_and, and_false, false_and, not_true, not_false_iff, or_false, false_or, or_true, true_or, eq_self, va_some, Bool.false_eq_true, reduceIte, catS_n, catS_i, catS_r, catS_l, catS_d, Nat.zero_add, Nat.add_zero, decide_true, decide_false, Nat.reduceLeDiff, cat_r, cat_i, cat_l, nle_T, nle_F, nlt_T, nlt_F, neq_T, neq_F]
  | succ m ih =>
    intro k R h
    have e : (fun j => if k + 1 ≤ j ∧ j < 603 then (fun i => if i = k then R (k + 201) else R i) (j + 201) else (fun i => if i = k then R (k + 201) else R i) j) = (fun j => if k ≤ j ∧ j < 603 then R (j + 201) else R j) := by
      funext j
      dsimp only
      by_cases z : k + 1 ≤ j ∧ j < 603
      · rw [if_pos z, if_neg (by omega), if_pos (by omega)]
      · rw [if_neg z]
        by_cases y : j = k
        · subst y
          rw [if_pos rfl, if_pos (by omega)]
        · rw [if_neg y, if_neg (by omega)]
    rw [← e, ← ih (k + 1) (fun i => if i = k then R (k + 201) else R i) (by omega), X_go, d157_10]
    simp (disch := first | assumption | omega) only [Nat.reduceAdd, X_go, go2_some, stp, ldI, ldA, ldL, stI, stA, stL, o1I, o2I, o2L, brI, brII, gl, s1, s2, k1, sl, go_sN, go_sR, go_CT, go_sT, go_no, go_if, pops, bk_v, bk_0, d157_0, d157_1, d157_4, d157_5, d157_8, d157_9, d157_11, d157_14, d157_17, d157_18, d157_21, d157_22, d157_23, d157_26, d157_27, d157_30, d157_31, d157_32, d157_33, d157_36, d157_40, d157_41, d157_44, d157_45, d157_46, d157_49, d157_50, d157_51, d157_52, d157_55, d157_58, d157_59, d157_62, d157_65, d157_66, d157_69, d157_70, d157_71, d157_72, d157_73, d157_76, d157_77, d157_78, d157_79, d157_82, d157_85, d157_86, d157_87, d157_90, d157_91, d157_92, d157_95, n_lt, n_le, n_eq, n_lt0, n_ge0, n_gt0, n_le0, n_eq0, m_lt, m_le, m_gt, m_ge, m_eq, m_eq', m_lt0, m_ge0, m_gt0, m_le0, m_ltm, m_lem, n_in, m_in, n_cl, n_ti, n_div, n_rem', n_dec, n_l, nI_add, pk_mul, an0, an1, decide_eq_true_eq, if_true, if_false, ite_true, ite_false, and_true, true_and, and_false, false_and, not_true, not_false_iff, or_false, false_or, or_true, true_or, eq_self, va_some, Bool.false_eq_true, reduceIte, catS_n, catS_i, catS_r, catS_l, catS_d, Nat.zero_add, Nat.add_zero, decide_true, decide_false, Nat.reduceLeDiff, cat_r, cat_i, cat_l, nle_T, nle_F, nlt_T, nlt_F, neq_T, neq_F, k0, p1, y2, xr_s, xu_xr]
    done
theorem f157b {d : Nat} {P : MP} {I : MI} {L : ML} {C : MC} {Q : QT} {n : Nat} (hM : MB P) (h3 : I 150 3 = nI n) (hn : n < 4) (hd : 1 ≤ d) : ∀ m k (R : Nat → Int32), k + m = 201 → X d 157 51 [.ref 150, .int (nI k)] [] P (xr I 152 R) L C Q = X d 157 85 [.ref 150, .int (nI 201)] [] P (xr I 152 (fun j => if 201 * n + k ≤ j ∧ j < 201 * n + 201 then I 151 (j - 201 * n) else R j)) L C Q := by
  obtain ⟨⟨k0, p0, p1, p2, p5, y1, y2, y3, y4⟩, _⟩ := hM
  intro m
  induction m with
  | zero =>
    intro k R h
    have : k = 201 := by omega
    subst this
    have e : (fun j => if 201 * n + 201 ≤ j ∧ j < 201 * n + 201 then I 151 (j - 201 * n) else R j) = R := funext fun j => if_neg (by omega)
    rw [e, X_go, d157_51]
    simp (disch := first | assumption | omega) only [Nat.reduceAdd, X_go, go2_some, stp, ldI, ldA, ldL, stI, stA, stL, o1I, o2I, o2L, brI, brII, gl, s1, s2, k1, sl, go_sN, go_sR, go_CT, go_sT, go_no, go_if, pops, bk_v, bk_0, d157_0, d157_1, d157_4, d157_5, d157_8, d157_9, d157_10, d157_11, d157_14, d157_17, d157_18, d157_21, d157_22, d157_23, d157_26, d157_27, d157_30, d157_31, d157_32, d157_33, d157_36, d157_39, d157_40, d157_41, d157_44, d157_45, d157_46, d157_49, d157_50, d157_52, d157_55, d157_58, d157_59, d157_62, d157_65, d157_66, d157_69, d157_70, d157_71, d157_72, d157_73, d157_76, d157_77, d157_78, d157_79, d157_82, d157_86, d157_87, d157_90, d157_91, d157_92, d157_95, n_lt, n_le, n_eq, n_lt0, n_ge0, n_gt0, n_le0, n_eq0, m_lt, m_le, m_gt, m_ge, m_eq, m_eq', m_lt0, m_ge0, m_gt0, m_le0, m_ltm, m_lem, n_in, m_in, n_cl, n_ti, n_div, n_rem', n_dec, n_l, nI_add, pk_mul, an0, an1, decide_eq_true_eq, if_true, if_false, ite_true, ite_false, and_true, true_and, and_false, false_and, not_true, not_false_iff, or_false, false_or, or_true, true_or, eq_self, va_some, Bool.false_eq_true, reduceIte, catS_n, catS_i, catS_r, catS_l, catS_d, Nat.zero_add, Nat.add_zero, decide_true, decide_false, Nat.reduceLeDiff, cat_r, cat_i, cat_l, nle_T, nle_F, nlt_T, nlt_F, neq_T, neq_F]
  | succ m ih =>
    intro k R h
    have e : (fun j => if 201 * n + (k + 1) ≤ j ∧ j < 201 * n + 201 then I 151 (j - 201 * n) else (fun i => if i = 201 * n + k then I 151 k else R i) j) = (fun j => if 201 * n + k ≤ j ∧ j < 201 * n + 201 then I 151 (j - 201 * n) else R j) := by
      funext j
      dsimp only
      by_cases z : 201 * n + (k + 1) ≤ j ∧ j < 201 * n + 201
      · rw [if_pos z, if_pos (by omega)]
      · rw [if_neg z]
        by_cases y : j = 201 * n + k
        · subst y
          rw [if_pos rfl, if_pos (by omega), show 201 * n + k - 201 * n = k by omega]
        · rw [if_neg y, if_neg (by omega)]
    have h3' : xr I 152 R 150 3 = nI n := by rw [xr_n _ _ (by omega)]; exact h3
    have h151 : xr I 152 R 151 = I 151 := xr_n _ _ (by omega)
    rw [← e, ← ih (k + 1) (fun i => if i = 201 * n + k then I 151 k else R i) (by omega), X_go, d157_51]
    simp (disch := first | assumption | omega) only [Nat.reduceAdd, X_go, go2_some, stp, ldI, ldA, ldL, stI, stA, stL, o1I, o2I, o2L, brI, brII, gl, s1, s2, k1, sl, go_sN, go_sR, go_CT, go_sT, go_no, go_if, pops, bk_v, bk_0, d157_0, d157_1, d157_4, d157_5, d157_8, d157_9, d157_10, d157_11, d157_14, d157_17, d157_18, d157_21, d157_22, d157_23, d157_26, d157_27, d157_30, d157_31, d157_32, d157_33, d157_36, d157_39, d157_40, d157_41, d157_44, d157_45, d157_46, d157_49, d157_50, d157_52, d157_55, d157_58, d157_59, d157_62, d157_65, d157_66, d157_69, d157_70, d157_71, d157_72, d157_73, d157_76, d157_77, d157_78, d157_79, d157_82, d157_86, d157_87, d157_90, d157_91, d157_92, d157_95, n_lt, n_le, n_eq, n_lt0, n_ge0, n_gt0, n_le0, n_eq0, m_lt, m_le, m_gt, m_ge, m_eq, m_eq', m_lt0, m_ge0, m_gt0, m_le0, m_ltm, m_lem, n_in, m_in, n_cl, n_ti, n_div, n_rem', n_dec, n_l, nI_add, pk_mul, an0, an1, decide_eq_true_eq, if_true, if_false, ite_true, ite_false, and_true, true_and, and_false, false_and, not_true, not_false_iff, or_false, false_or, or_true, true_or, eq_self, va_some, Bool.false_eq_true, reduceIte, catS_n, catS_i, catS_r, catS_l, catS_d, Nat.zero_add, Nat.add_zero, decide_true, decide_false, Nat.reduceLeDiff, cat_r, cat_i, cat_l, nle_T, nle_F, nlt_T, nlt_F, neq_T, neq_F, k0, p0, p1, y1, y2, h3', h151, xu_xr]
    done
theorem c157 {d : Nat} {P : MP} {I : MI} {L : ML} {C : MC} {n len : Nat} {g : GS} {ps : Nat → GS} {tx : Nat → Nat} (hM : MB P) (hR : ZR I g n ps len tx) (hn4 : n ≤ 4) (hd : 2 ≤ d) : ∃ I', ZR I' g (puN n) (puS n ps g) len tx ∧ (∀ k j, k ≠ 152 → (k = 150 → j ≠ 3) → I' k j = I k j) ∧ ∀ Q, CT d 157 [.ref 150] P I L C Q = Q (.inl none) P I' L C := by
  have hM' := hM
  obtain ⟨⟨k0, p0, p1, p2, p5, y1, y2, y3, y4⟩, _⟩ := hM'
  obtain ⟨hN, h3, hps, h6, htx⟩ := hR
  by_cases hn : n < 4
  · have e1 : puN n = n + 1 := if_pos hn
    have e2 : puS n ps g = ud ps n g := if_pos hn
    rw [e1, e2]
    refine ⟨xu (xr I 152 (fun j => if 201 * n + 0 ≤ j ∧ j < 201 * n + 201 then I 151 (j - 201 * n) else I 152 j)) 150 3 (nI (n + 1)), ⟨NR_fr hN fun j => by rw [xu_n _ _ (by omega), xr_n _ _ (by omega)], xu_s _ _ _ _, fun i k hi hk => ?_, by rw [xu_n _ _ (by omega), xr_n _ _ (by omega)]; exact h6, fun i hi => by rw [xu_n _ _ (by omega), xr_n _ _ (by omega)]; exact htx i hi⟩, fun k j h h' => by rw [xu_n _ _ (by omega), xr_n _ _ h], fun Q => ?_⟩
    · rw [xu_n _ _ (by omega), xr_s]
      try dsimp only
      by_cases z : i = n
      · subst z
        rw [if_pos (by omega), show 201 * i + k - 201 * i = k by omega, ud_s]
        exact hN k hk
      · rw [if_neg (by omega), ud_n z]
        exact hps i k (by omega) hk
    · have hb := f157b (d := d - 1) (I := I) (L := L) (C := C) (Q := Q) hM h3 hn (by omega) 201 0 (I 152) (by omega)
      rw [xr_id] at hb
      have h3' : (xr I 152 (fun j => if 201 * n + 0 ≤ j ∧ j < 201 * n + 201 then I 151 (j - 201 * n) else I 152 j)) 150 3 = nI n := by rw [xr_n _ _ (by omega)]; exact h3
      rw [CT_e (mj := 157) (e := [.ref 150, UN]) (by omega) rfl (Nat.le_of_ble_eq_true rfl)]
      simp (disch := first | assumption | omega) only [Nat.reduceAdd, X_go, go2_some, stp, ldI, ldA, ldL, stI, stA, stL, o1I, o2I, o2L, brI, brII, gl, s1, s2, k1, sl, go_sN, go_sR, go_CT, go_sT, go_no, go_if, pops, bk_v, bk_0, d157_0, d157_1, d157_4, d157_5, d157_8, d157_9, d157_10, d157_11, d157_14, d157_17, d157_18, d157_21, d157_22, d157_23, d157_26, d157_27, d157_30, d157_31, d157_32, d157_33, d157_36, d157_39, d157_40, d157_41, d157_44, d157_45, d157_46, d157_49, d157_50, d157_52, d157_55, d157_58, d157_59, d157_62, d157_65, d157_66, d157_69, d157_70, d157_71, d157_72, d157_73, d157_76, d157_77, d157_78, d157_79, d157_82, d157_86, d157_87, d157_90, d157_91, d157_92, d157_95, n_lt, n_le, n_eq, n_lt0, n_ge0, n_gt0, n_le0, n_eq0, m_lt, m_le, m_gt, m_ge, m_eq, m_eq', m_lt0, m_ge0, m_gt0, m_le0, m_ltm, m_lem, n_in, m_in, n_cl, n_ti, n_div, n_rem', n_dec, n_l, nI_add, pk_mul, an0, an1, decide_eq_true_eq, if_true, if_false, ite_true, ite_false, and_true, true_and, and_false, false_and, not_true, not_false_iff, or_false, false_or, or_true, true_or, eq_self, va_some, Bool.false_eq_true, reduceIte, catS_n, catS_i, catS_r, catS_l, catS_d, Nat.zero_add, Nat.add_zero, decide_true, decide_false, Nat.reduceLeDiff, cat_r, cat_i, cat_l, nle_T, nle_F, nlt_T, nlt_F, neq_T, neq_F, k0, h3]
      simp only [← X_go]
      rw [hb, X_go, d157_85]
      simp (disch := first | assumption | omega) only [Nat.reduceAdd, X_go, go2_some, stp, ldI, ldA, ldL, stI, stA, stL, o1I, o2I, o2L, brI, brII, gl, s1, s2, k1, sl, go_sN, go_sR, go_CT, go_sT, go_no, go_if, pops, bk_v, bk_0, d157_0, d157_1, d157_4, d157_5, d157_8, d157_9, d157_10, d157_11, d157_14, d157_17, d157_18, d157_21, d157_22, d157_23, d157_26, d157_27, d157_30, d157_31, d157_32, d157_33, d157_36, d157_39, d157_40, d157_41, d157_44, d157_45, d157_46, d157_49, d157_50, d157_52, d157_55, d157_58, d157_59, d157_62, d157_65, d157_66, d157_69, d157_70, d157_71, d157_72, d157_73, d157_76, d157_77, d157_78, d157_79, d157_82, d157_86, d157_87, d157_90, d157_91, d157_92, d157_95, n_lt, n_le, n_eq, n_lt0, n_ge0, n_gt0, n_le0, n_eq0, m_lt, m_le, m_gt, m_ge, m_eq, m_eq', m_lt0, m_ge0, m_gt0, m_le0, m_ltm, m_lem, n_in, m_in, n_cl, n_ti, n_div, n_rem', n_dec, n_l, nI_add, pk_mul, an0, an1, decide_eq_true_eq, if_true, if_false, ite_true, ite_false, and_true, true_and, and_false, false_and, not_true, not_false_iff, or_false, false_or, or_true, true_or, eq_self, va_some, Bool.false_eq_true, reduceIte, catS_n, catS_i, catS_r, catS_l, catS_d, Nat.zero_add, Nat.add_zero, decide_true, decide_false, Nat.reduceLeDiff, cat_r, cat_i, cat_l, nle_T, nle_F, nlt_T, nlt_F, neq_T, neq_F, k0, xr_n, h3]
      done
  · have h4 : n = 4 := by omega
    subst h4
    have e1 : puN 4 = 4 := rfl
    have e2 : puS 4 ps g = fun i => if i < 3 then ps (i + 1) else g := rfl
    rw [e1, e2]
    obtain ⟨R1, hR1⟩ : ∃ R1 : Nat → Int32, R1 = fun j => if 0 ≤ j ∧ j < 603 then I 152 (j + 201) else I 152 j := ⟨_, rfl⟩
    refine ⟨xu (xr (xu I 150 3 (nI 3)) 152 (fun j => if 201 * 3 + 0 ≤ j ∧ j < 201 * 3 + 201 then (xu I 150 3 (nI 3)) 151 (j - 201 * 3) else R1 j)) 150 3 (nI 4), ⟨NR_fr hN fun j => by rw [xu_n _ _ (by omega), xr_n _ _ (by omega), xu_n _ _ (by omega)], xu_s _ _ _ _, fun i k hi hk => ?_, by rw [xu_n _ _ (by omega), xr_n _ _ (by omega), xu_n _ _ (by omega)]; exact h6, fun i hi => by rw [xu_n _ _ (by omega), xr_n _ _ (by omega), xu_n _ _ (by omega)]; exact htx i hi⟩, fun k j h h' => by rw [xu_n _ _ (by omega), xr_n _ _ h, xu_n _ _ (by omega)], fun Q => ?_⟩
    · rw [xu_n _ _ (by omega), xr_s]
      try dsimp only
      by_cases z : i < 3
      · rw [if_neg (by omega), if_pos z, hR1]
        dsimp only
        rw [if_pos (by omega), show 201 * i + k + 201 = 201 * (i + 1) + k by omega]
        exact hps (i + 1) k (by omega) hk
      · rw [if_pos (by omega), if_neg z, show 201 * i + k - 201 * 3 = k by omega, xu_n _ _ (by omega)]
        exact hN k hk
    · have ha := f157a (d := d - 1) (I := I) (L := L) (C := C) (Q := Q) hM (by omega) 603 0 (I 152) (by omega)
      rw [xr_id, ← hR1] at ha
      have hsw : xu (xr I 152 R1) 150 3 (nI 3) = xr (xu I 150 3 (nI 3)) 152 R1 := by
        funext a b
        unfold xu xr
        by_cases z : a = 152
        · subst z
          rw [if_neg (by omega), if_pos rfl, if_pos rfl]
        · rw [if_neg z, if_neg z]
      have hb := f157b (d := d - 1) (I := xu I 150 3 (nI 3)) (L := L) (C := C) (Q := Q) (n := 3) hM (xu_s _ _ _ _) (by omega) (by omega) 201 0 R1 (by omega)
      have h3' : (xr I 152 R1) 150 3 = nI 4 := by rw [xr_n _ _ (by omega)]; exact h3
      have h3'' : (xr (xu I 150 3 (nI 3)) 152 (fun j => if 201 * 3 + 0 ≤ j ∧ j < 201 * 3 + 201 then (xu I 150 3 (nI 3)) 151 (j - 201 * 3) else R1 j)) 150 3 = nI 3 := by rw [xr_n _ _ (by omega), xu_s]
      rw [CT_e (mj := 157) (e := [.ref 150, UN]) (by omega) rfl (Nat.le_of_ble_eq_true rfl)]
      simp (disch := first | assumption | omega) only [Nat.reduceAdd, X_go, go2_some, stp, ldI, ldA, ldL, stI, stA, stL, o1I, o2I, o2L, brI, brII, gl, s1, s2, k1, sl, go_sN, go_sR, go_CT, go_sT, go_no, go_if, pops, bk_v, bk_0, d157_0, d157_1, d157_4, d157_5, d157_8, d157_9, d157_11, d157_14, d157_17, d157_18, d157_21, d157_22, d157_23, d157_26, d157_27, d157_30, d157_31, d157_32, d157_33, d157_36, d157_40, d157_41, d157_44, d157_45, d157_46, d157_49, d157_50, d157_52, d157_55, d157_58, d157_59, d157_62, d157_65, d157_66, d157_69, d157_70, d157_71, d157_72, d157_73, d157_76, d157_77, d157_78, d157_79, d157_82, d157_86, d157_87, d157_90, d157_91, d157_92, d157_95, n_lt, n_le, n_eq, n_lt0, n_ge0, n_gt0, n_le0, n_eq0, m_lt, m_le, m_gt, m_ge, m_eq, m_eq', m_lt0, m_ge0, m_gt0, m_le0, m_ltm, m_lem, n_in, m_in, n_cl, n_ti, n_div, n_rem', n_dec, n_l, nI_add, pk_mul, an0, an1, decide_eq_true_eq, if_true, if_false, ite_true, ite_false, and_true, true_and, and_false, false_and, not_true, not_false_iff, or_false, false_or, or_true, true_or, eq_self, va_some, Bool.false_eq_true, reduceIte, catS_n, catS_i, catS_r, catS_l, catS_d, Nat.zero_add, Nat.add_zero, decide_true, decide_false, Nat.reduceLeDiff, cat_r, cat_i, cat_l, nle_T, nle_F, nlt_T, nlt_F, neq_T, neq_F, k0, h3]
      simp only [← X_go]
      rw [ha, X_go, d157_39]
      simp (disch := first | assumption | omega) only [Nat.reduceAdd, X_go, go2_some, stp, ldI, ldA, ldL, stI, stA, stL, o1I, o2I, o2L, brI, brII, gl, s1, s2, k1, sl, go_sN, go_sR, go_CT, go_sT, go_no, go_if, pops, bk_v, bk_0, d157_0, d157_1, d157_4, d157_5, d157_8, d157_9, d157_11, d157_14, d157_17, d157_18, d157_21, d157_22, d157_23, d157_26, d157_27, d157_30, d157_31, d157_32, d157_33, d157_36, d157_40, d157_41, d157_44, d157_45, d157_46, d157_49, d157_50, d157_52, d157_55, d157_58, d157_59, d157_62, d157_65, d157_66, d157_69, d157_70, d157_71, d157_72, d157_73, d157_76, d157_77, d157_78, d157_79, d157_82, d157_86, d157_87, d157_90, d157_91, d157_92, d157_95, n_lt, n_le, n_eq, n_lt0, n_ge0, n_gt0, n_le0, n_eq0, m_lt, m_le, m_gt, m_ge, m_eq, m_eq', m_lt0, m_ge0, m_gt0, m_le0, m_ltm, m_lem, n_in, m_in, n_cl, n_ti, n_div, n_rem', n_dec, n_l, nI_add, pk_mul, an0, an1, decide_eq_true_eq, if_true, if_false, ite_true, ite_false, and_true, true_and, and_false, false_and, not_true, not_false_iff, or_false, false_or, or_true, true_or, eq_self, va_some, Bool.false_eq_true, reduceIte, catS_n, catS_i, catS_r, catS_l, catS_d, Nat.zero_add, Nat.add_zero, decide_true, decide_false, Nat.reduceLeDiff, cat_r, cat_i, cat_l, nle_T, nle_F, nlt_T, nlt_F, neq_T, neq_F, n_sub, k0, h3']
      simp only [← X_go]
      rw [hsw, hb, X_go, d157_85]
      simp (disch := first | assumption | omega) only [Nat.reduceAdd, X_go, go2_some, stp, ldI, ldA, ldL, stI, stA, stL, o1I, o2I, o2L, brI, brII, gl, s1, s2, k1, sl, go_sN, go_sR, go_CT, go_sT, go_no, go_if, pops, bk_v, bk_0, d157_0, d157_1, d157_4, d157_5, d157_8, d157_9, d157_11, d157_14, d157_17, d157_18, d157_21, d157_22, d157_23, d157_26, d157_27, d157_30, d157_31, d157_32, d157_33, d157_36, d157_40, d157_41, d157_44, d157_45, d157_46, d157_49, d157_50, d157_52, d157_55, d157_58, d157_59, d157_62, d157_65, d157_66, d157_69, d157_70, d157_71, d157_72, d157_73, d157_76, d157_77, d157_78, d157_79, d157_82, d157_86, d157_87, d157_90, d157_91, d157_92, d157_95, n_lt, n_le, n_eq, n_lt0, n_ge0, n_gt0, n_le0, n_eq0, m_lt, m_le, m_gt, m_ge, m_eq, m_eq', m_lt0, m_ge0, m_gt0, m_le0, m_ltm, m_lem, n_in, m_in, n_cl, n_ti, n_div, n_rem', n_dec, n_l, nI_add, pk_mul, an0, an1, decide_eq_true_eq, if_true, if_false, ite_true, ite_false, and_true, true_and, and_false, false_and, not_true, not_false_iff, or_false, false_or, or_true, true_or, eq_self, va_some, Bool.false_eq_true, reduceIte, catS_n, catS_i, catS_r, catS_l, catS_d, Nat.zero_add, Nat.add_zero, decide_true, decide_false, Nat.reduceLeDiff, cat_r, cat_i, cat_l, nle_T, nle_F, nlt_T, nlt_F, neq_T, neq_F, k0, xr_n, xu_s]
      done
theorem d152_0 : dec 152 0 = some (.aload_n 0, 1, []) := rfl
theorem d152_1 : dec 152 1 = some (.aload_n 0, 1, []) := rfl
theorem d152_2 : dec 152 2 = some (.getfield 69, 3, [1, 10, 3, 0, 0, 997]) := rfl
theorem d152_5 : dec 152 5 = some (.ifCond .ne 7, 3, [12]) := rfl
theorem d152_8 : dec 152 8 = some (.iconst 1, 1, [1]) := rfl
theorem d152_9 : dec 152 9 = some (.goto 4, 3, [13]) := rfl
theorem d152_12 : dec 152 12 = some (.iconst 0, 1, [0]) := rfl
theorem d152_13 : dec 152 13 = some (.invokevirtual 72, 3, [2, 153, 2, 10, 0, 1081, 0]) := rfl
theorem d152_16 : dec 152 16 = some (.ifCond .eq 5, 3, [21]) := rfl
theorem d152_19 : dec 152 19 = some (.iconst 0, 1, [0]) := rfl
theorem d152_20 : dec 152 20 = some (.ireturn, 1, [0]) := rfl
theorem d152_21 : dec 152 21 = some (.aload_n 0, 1, []) := rfl
theorem d152_22 : dec 152 22 = some (.dup, 1, []) := rfl
theorem d152_23 : dec 152 23 = some (.getfield 69, 3, [1, 10, 3, 0, 0, 997]) := rfl
theorem d152_26 : dec 152 26 = some (.iconst 1, 1, [1]) := rfl
theorem d152_27 : dec 152 27 = some (.isub, 1, []) := rfl
theorem d152_28 : dec 152 28 = some (.putfield 69, 3, [1, 10, 3, 0, 0, 997]) := rfl
theorem d152_31 : dec 152 31 = some (.iconst 0, 1, [0]) := rfl
theorem d152_32 : dec 152 32 = some (.istore_n 1, 1, []) := rfl
theorem d152_33 : dec 152 33 = some (.iload_n 1, 1, []) := rfl
theorem d152_34 : dec 152 34 = some (.sipush 201, 3, [201]) := rfl
theorem d152_37 : dec 152 37 = some (.if_icmp .ge 30, 3, [67]) := rfl
theorem d152_40 : dec 152 40 = some (.aload_n 0, 1, []) := rfl
theorem d152_41 : dec 152 41 = some (.getfield 7, 3, [1, 10, 0, 2, 0, 994]) := rfl
theorem d152_44 : dec 152 44 = some (.iload_n 1, 1, []) := rfl
theorem d152_45 : dec 152 45 = some (.aload_n 0, 1, []) := rfl
theorem d152_46 : dec 152 46 = some (.getfield 13, 3, [1, 10, 1, 2, 0, 995]) := rfl
theorem d152_49 : dec 152 49 = some (.sipush 201, 3, [201]) := rfl
theorem d152_52 : dec 152 52 = some (.aload_n 0, 1, []) := rfl
theorem d152_53 : dec 152 53 = some (.getfield 69, 3, [1, 10, 3, 0, 0, 997]) := rfl
theorem d152_56 : dec 152 56 = some (.imul, 1, []) := rfl
theorem d152_57 : dec 152 57 = some (.iload_n 1, 1, []) := rfl
theorem d152_58 : dec 152 58 = some (.iadd, 1, []) := rfl
theorem d152_59 : dec 152 59 = some (.iaload, 1, []) := rfl
theorem d152_60 : dec 152 60 = some (.iastore, 1, []) := rfl
theorem d152_61 : dec 152 61 = some (.iinc 1 1, 3, [1]) := rfl
theorem d152_64 : dec 152 64 = some (.goto (-31), 3, [33]) := rfl
theorem d152_67 : dec 152 67 = some (.aload_n 0, 1, []) := rfl
theorem d152_68 : dec 152 68 = some (.getfield 69, 3, [1, 10, 3, 0, 0, 997]) := rfl
theorem d152_71 : dec 152 71 = some (.ireturn, 1, [0]) := rfl
theorem l152 : mL 152 = 2 := rfl
theorem f152 {d : Nat} {P : MP} {I : MI} {L : ML} {C : MC} {Q : QT} {n : Nat} (hM : MB P) (h3 : I 150 3 = nI n) (hn : n < 4) (hd : 1 ≤ d) : ∀ m k (R : Nat → Int32), k + m = 201 → X d 152 33 [.ref 150, .int (nI k)] [] P (xr I 151 R) L C Q = X d 152 67 [.ref 150, .int (nI 201)] [] P (xr I 151 (fun j => if k ≤ j ∧ j < 201 then I 152 (201 * n + j) else R j)) L C Q := by
  obtain ⟨⟨k0, p0, p1, p2, p5, y1, y2, y3, y4⟩, _⟩ := hM
  intro m
  induction m with
  | zero =>
    intro k R h
    have : k = 201 := by omega
    subst this
    have e : (fun j => if 201 ≤ j ∧ j < 201 then I 152 (201 * n + j) else R j) = R := funext fun j => if_neg (by omega)
    rw [e, X_go, d152_33]
    simp (disch := first | assumption | omega) only [Nat.reduceAdd, X_go, go2_some, stp, ldI, ldA, ldL, stI, stA, stL, o1I, o2I, o2L, brI, brII, gl, s1, s2, k1, sl, go_sN, go_sR, go_CT, go_sT, go_no, go_if, pops, bk_v, bk_0, d152_0, d152_1, d152_2, d152_5, d152_8, d152_9, d152_12, d152_13, d152_16, d152_19, d152_20, d152_21, d152_22, d152_23, d152_26, d152_27, d152_28, d152_31, d152_32, d152_34, d152_37, d152_40, d152_41, d152_44, d152_45, d152_46, d152_49, d152_52, d152_53, d152_56, d152_57, d152_58, d152_59, d152_60, d152_61, d152_64, d152_68, d152_71, n_lt, n_le, n_eq, n_lt0, n_ge0, n_gt0, n_le0, n_eq0, m_lt, m_le, m_gt, m_ge, m_eq, m_eq', m_lt0, m_ge0, m_gt0, m_le0, m_ltm, m_lem, n_in, m_in, n_cl, n_ti, n_div, n_rem', n_dec, n_l, nI_add, pk_mul, an0, an1, decide_eq_true_eq, if_true, if_false, ite_true, ite_false, and_true, true_and, and_false, false_and, not_true, not_false_iff, or_false, false_or, or_true, true_or, eq_self, va_some, Bool.false_eq_true, reduceIte, catS_n, catS_i, catS_r, catS_l, catS_d, Nat.zero_add, Nat.add_zero, decide_true, decide_false, Nat.reduceLeDiff, cat_r, cat_i, cat_l, nle_T, nle_F, nlt_T, nlt_F, neq_T, neq_F]
  | succ m ih =>
    intro k R h
    have e : (fun j => if k + 1 ≤ j ∧ j < 201 then I 152 (201 * n + j) else (fun i => if i = k then I 152 (201 * n + k) else R i) j) = (fun j => if k ≤ j ∧ j < 201 then I 152 (201 * n + j) else R j) := by
      funext j
      dsimp only
      by_cases z : k + 1 ≤ j ∧ j < 201
      · rw [if_pos z, if_pos (by omega)]
      · rw [if_neg z]
        by_cases y : j = k
        · subst y
          rw [if_pos rfl, if_pos (by omega)]
        · rw [if_neg y, if_neg (by omega)]
    have h3' : xr I 151 R 150 3 = nI n := by rw [xr_n _ _ (by omega)]; exact h3
    have h152 : xr I 151 R 152 = I 152 := xr_n _ _ (by omega)
    rw [← e, ← ih (k + 1) (fun i => if i = k then I 152 (201 * n + k) else R i) (by omega), X_go, d152_33]
    simp (disch := first | assumption | omega) only [Nat.reduceAdd, X_go, go2_some, stp, ldI, ldA, ldL, stI, stA, stL, o1I, o2I, o2L, brI, brII, gl, s1, s2, k1, sl, go_sN, go_sR, go_CT, go_sT, go_no, go_if, pops, bk_v, bk_0, d152_0, d152_1, d152_2, d152_5, d152_8, d152_9, d152_12, d152_13, d152_16, d152_19, d152_20, d152_21, d152_22, d152_23, d152_26, d152_27, d152_28, d152_31, d152_32, d152_34, d152_37, d152_40, d152_41, d152_44, d152_45, d152_46, d152_49, d152_52, d152_53, d152_56, d152_57, d152_58, d152_59, d152_60, d152_61, d152_64, d152_68, d152_71, n_lt, n_le, n_eq, n_lt0, n_ge0, n_gt0, n_le0, n_eq0, m_lt, m_le, m_gt, m_ge, m_eq, m_eq', m_lt0, m_ge0, m_gt0, m_le0, m_ltm, m_lem, n_in, m_in, n_cl, n_ti, n_div, n_rem', n_dec, n_l, nI_add, pk_mul, an0, an1, decide_eq_true_eq, if_true, if_false, ite_true, ite_false, and_true, true_and, and_false, false_and, not_true, not_false_iff, or_false, false_or, or_true, true_or, eq_self, va_some, Bool.false_eq_true, reduceIte, catS_n, catS_i, catS_r, catS_l, catS_d, Nat.zero_add, Nat.add_zero, decide_true, decide_false, Nat.reduceLeDiff, cat_r, cat_i, cat_l, nle_T, nle_F, nlt_T, nlt_F, neq_T, neq_F, k0, p0, p1, y1, y2, h3', h152, xu_xr]
    done
theorem c152 {d : Nat} {P : MP} {I : MI} {L : ML} {C : MC} {n len : Nat} {g : GS} {ps : Nat → GS} {tx : Nat → Nat} (hM : MB P) (hR : ZR I g n ps len tx) (hn4 : n ≤ 4) (hd : 3 ≤ d) (h1 : 1 ≤ n) : ∃ I', ZR I' (ps (n - 1)) (n - 1) ps len tx ∧ I' 150 4 = nI 0 ∧ (∀ k j, k < 150 ∨ 168 < k → I' k j = I k j) ∧ ∀ Q, CT d 152 [.ref 150] P I L C Q = Q (.inl (some (.int (nI (n - 1))))) P I' L C := by
  have hM' := hM
  obtain ⟨⟨k0, p0, p1, p2, p5, y1, y2, y3, y4⟩, _⟩ := hM'
  obtain ⟨hN, h3, hps, h6, htx⟩ := hR
  obtain ⟨I0, hI0⟩ : ∃ I0, I0 = xu (xu I 150 4 (nI 0)) 150 3 (nI (n - 1)) := ⟨_, rfl⟩
  have hn0 : ∀ k j, (k ≠ 150 ∨ (j ≠ 3 ∧ j ≠ 4)) → I0 k j = I k j := fun k j h => by rw [hI0, xu_n _ _ (by omega), xu_n _ _ (by omega)]
  have h03 : I0 150 3 = nI (n - 1) := by rw [hI0, xu_s]
  have h04 : I0 150 4 = nI 0 := by rw [hI0, xu_n _ _ (by omega), xu_s]
  refine ⟨xr I0 151 (fun j => if 0 ≤ j ∧ j < 201 then I0 152 (201 * (n - 1) + j) else I0 151 j), ⟨fun k hk => ?_, by rw [xr_n _ _ (by omega)]; exact h03, fun i k hi hk => ?_, by rw [xr_n _ _ (by omega), hn0 _ _ (by omega)]; exact h6, fun i hi => by rw [xr_n _ _ (by omega), hn0 _ _ (by omega)]; exact htx i hi⟩, by rw [xr_n _ _ (by omega)]; exact h04, fun k j h => by rw [xr_n _ _ (by omega), hn0 _ _ (by omega)], fun Q => ?_⟩
  · rw [xr_s]
    try dsimp only
    rw [if_pos (by omega), hn0 _ _ (by omega)]
    exact hps (n - 1) k (by omega) hk
  · rw [xr_n _ _ (by omega), hn0 _ _ (by omega)]
    exact hps i k (by omega) hk
  · have hb := f152 (d := d - 1) (I := I0) (L := L) (C := C) (Q := Q) hM h03 (by omega) (by omega) 201 0 (I0 151) (by omega)
    rw [xr_id] at hb
    have h3' : (xr I0 151 (fun j => if 0 ≤ j ∧ j < 201 then I0 152 (201 * (n - 1) + j) else I0 151 j)) 150 3 = nI (n - 1) := by rw [xr_n _ _ (by omega)]; exact h03
    rw [CT_e (mj := 152) (e := [.ref 150, UN]) (by omega) rfl (Nat.le_of_ble_eq_true rfl)]
    simp (disch := first | assumption | omega) only [Nat.reduceAdd, X_go, go2_some, stp, ldI, ldA, ldL, stI, stA, stL, o1I, o2I, o2L, brI, brII, gl, s1, s2, k1, sl, go_sN, go_sR, go_CT, go_sT, go_no, go_if, pops, bk_v, bk_0, d152_0, d152_1, d152_2, d152_5, d152_8, d152_9, d152_12, d152_13, d152_16, d152_19, d152_20, d152_21, d152_22, d152_23, d152_26, d152_27, d152_28, d152_31, d152_32, d152_34, d152_37, d152_40, d152_41, d152_44, d152_45, d152_46, d152_49, d152_52, d152_53, d152_56, d152_57, d152_58, d152_59, d152_60, d152_61, d152_64, d152_68, d152_71, n_lt, n_le, n_eq, n_lt0, n_ge0, n_gt0, n_le0, n_eq0, m_lt, m_le, m_gt, m_ge, m_eq, m_eq', m_lt0, m_ge0, m_gt0, m_le0, m_ltm, m_lem, n_in, m_in, n_cl, n_ti, n_div, n_rem', n_dec, n_l, nI_add, pk_mul, an0, an1, decide_eq_true_eq, if_true, if_false, ite_true, ite_false, and_true, true_and, and_false, false_and, not_true, not_false_iff, or_false, false_or, or_true, true_or, eq_self, va_some, Bool.false_eq_true, reduceIte, catS_n, catS_i, catS_r, catS_l, catS_d, Nat.zero_add, Nat.add_zero, decide_true, decide_false, Nat.reduceLeDiff, cat_r, cat_i, cat_l, nle_T, nle_F, nlt_T, nlt_F, neq_T, neq_F, n_sub, k0, h3, c153 hM, xu_n]
    rw [← hI0]
    simp only [← X_go]
    rw [hb, X_go, d152_67]
    simp (disch := first | assumption | omega) only [Nat.reduceAdd, X_go, go2_some, stp, ldI, ldA, ldL, stI, stA, stL, o1I, o2I, o2L, brI, brII, gl, s1, s2, k1, sl, go_sN, go_sR, go_CT, go_sT, go_no, go_if, pops, bk_v, bk_0, d152_0, d152_1, d152_2, d152_5, d152_8, d152_9, d152_12, d152_13, d152_16, d152_19, d152_20, d152_21, d152_22, d152_23, d152_26, d152_27, d152_28, d152_31, d152_32, d152_34, d152_37, d152_40, d152_41, d152_44, d152_45, d152_46, d152_49, d152_52, d152_53, d152_56, d152_57, d152_58, d152_59, d152_60, d152_61, d152_64, d152_68, d152_71, n_lt, n_le, n_eq, n_lt0, n_ge0, n_gt0, n_le0, n_eq0, m_lt, m_le, m_gt, m_ge, m_eq, m_eq', m_lt0, m_ge0, m_gt0, m_le0, m_ltm, m_lem, n_in, m_in, n_cl, n_ti, n_div, n_rem', n_dec, n_l, nI_add, pk_mul, an0, an1, decide_eq_true_eq, if_true, if_false, ite_true, ite_false, and_true, true_and, and_false, false_and, not_true, not_false_iff, or_false, false_or, or_true, true_or, eq_self, va_some, Bool.false_eq_true, reduceIte, catS_n, catS_i, catS_r, catS_l, catS_d, Nat.zero_add, Nat.add_zero, decide_true, decide_false, Nat.reduceLeDiff, cat_r, cat_i, cat_l, nle_T, nle_F, nlt_T, nlt_F, neq_T, neq_F, k0, xr_n, h03]
    done
theorem c152b {d : Nat} {P : MP} {I : MI} {L : ML} {C : MC} {n len : Nat} {g : GS} {ps : Nat → GS} {tx : Nat → Nat} {Q : QT} (hM : MB P) (hR : ZR I g n ps len tx) (hd : 3 ≤ d) (h0 : n = 0) : CT d 152 [.ref 150] P I L C Q = Q (.inl (some (.int (nI 0)))) P (xu I 150 4 (nI 1)) L C := by
  have hM' := hM
  obtain ⟨⟨k0, _⟩, _⟩ := hM'
  obtain ⟨hN, h3, _⟩ := hR
  rw [CT_e (mj := 152) (e := [.ref 150, UN]) (by omega) rfl (Nat.le_of_ble_eq_true rfl)]
  simp (disch := first | assumption | omega) only [Nat.reduceAdd, X_go, go2_some, stp, ldI, ldA, ldL, stI, stA, stL, o1I, o2I, o2L, brI, brII, gl, s1, s2, k1, sl, go_sN, go_sR, go_CT, go_sT, go_no, go_if, pops, bk_v, bk_0, d152_0, d152_1, d152_2, d152_5, d152_8, d152_9, d152_12, d152_13, d152_16, d152_19, d152_20, d152_21, d152_22, d152_23, d152_26, d152_27, d152_28, d152_31, d152_32, d152_34, d152_37, d152_40, d152_41, d152_44, d152_45, d152_46, d152_49, d152_52, d152_53, d152_56, d152_57, d152_58, d152_59, d152_60, d152_61, d152_64, d152_68, d152_71, n_lt, n_le, n_eq, n_lt0, n_ge0, n_gt0, n_le0, n_eq0, m_lt, m_le, m_gt, m_ge, m_eq, m_eq', m_lt0, m_ge0, m_gt0, m_le0, m_ltm, m_lem, n_in, m_in, n_cl, n_ti, n_div, n_rem', n_dec, n_l, nI_add, pk_mul, an0, an1, decide_eq_true_eq, if_true, if_false, ite_true, ite_false, and_true, true_and, and_false, false_and, not_true, not_false_iff, or_false, false_or, or_true, true_or, eq_self, va_some, Bool.false_eq_true, reduceIte, catS_n, catS_i, catS_r, catS_l, catS_d, Nat.zero_add, Nat.add_zero, decide_true, decide_false, Nat.reduceLeDiff, cat_r, cat_i, cat_l, nle_T, nle_F, nlt_T, nlt_F, neq_T, neq_F, k0, h3, h0, c153 hM]
  done
