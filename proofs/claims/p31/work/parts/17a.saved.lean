/-! SAVED: the ring of states; the object as a whole -/
/-- a state is put behind the saved ones -/
def puN (n : Nat) : Nat := if n < 4 then n + 1 else 4
def puS (n : Nat) (ps : Nat → GS) (g : GS) : Nat → GS := if n < 4 then ud ps n g else fun i => if i < 3 then ps (i + 1) else g
def VR (I : MI) (n : Nat) (ps : Nat → GS) : Prop := ∃ o, o < 4 ∧ I 38 1 = nI o ∧ I 38 2 = nI n ∧ n ≤ 4 ∧ ∀ i, i < n → RC I (vb ((o + i) % 4)) (ps i)
theorem RC_copo {I : MI} {b a c : Nat} {g : GS} (hg : RC I c g) (h : b + 17 < c ∨ c + 17 < b) : RC (copS I b a) c g := RC_fr hg fun k j h1 h2 => copS_n (by omega)
theorem VR_fr {I I' : MI} {n : Nat} {ps : Nat → GS} (hV : VR I n ps) (h : ∀ k j, 38 ≤ k → k ≤ 111 → I' k j = I k j) : VR I' n ps := by
  obtain ⟨o, h1, h2, h3, h4, h5⟩ := hV
  refine ⟨o, h1, by rw [h _ _ (by omega) (by omega)]; exact h2, by rw [h _ _ (by omega) (by omega)]; exact h3, h4, fun i hi => RC_fr (h5 i hi) fun k j q1 q2 => ?_⟩
  have := Nat.mod_lt (o + i) (by omega : 4 > 0)
  unfold vb at q1 q2
  exact h _ _ (by omega) (by omega)
theorem d12_0 : dec 12 0 = some (.aload_n 0, 1, []) := rfl
theorem d12_1 : dec 12 1 = some (.aload_n 0, 1, []) := rfl
theorem d12_2 : dec 12 2 = some (.getfield 18, 3, [1, 5, 2, 0, 0, 166]) := rfl
theorem d12_5 : dec 12 5 = some (.invokevirtual 22, 3, [2, 13, 2, 5, 0, 382, 0]) := rfl
theorem d12_8 : dec 12 8 = some (.astore_n 2, 1, []) := rfl
theorem d12_9 : dec 12 9 = some (.aload_n 2, 1, []) := rfl
theorem d12_10 : dec 12 10 = some (.ifnull 8, 3, [18]) := rfl
theorem d12_13 : dec 12 13 = some (.aload_n 2, 1, []) := rfl
theorem d12_14 : dec 12 14 = some (.aload_n 1, 1, []) := rfl
theorem d12_15 : dec 12 15 = some (.invokevirtual 26, 3, [2, 15, 2, 6, 0, 389, 2]) := rfl
theorem d12_18 : dec 12 18 = some (.aload_n 0, 1, []) := rfl
theorem d12_19 : dec 12 19 = some (.getfield 18, 3, [1, 5, 2, 0, 0, 166]) := rfl
theorem d12_22 : dec 12 22 = some (.iconst 4, 1, [4]) := rfl
theorem d12_23 : dec 12 23 = some (.if_icmp .ge 16, 3, [39]) := rfl
theorem d12_26 : dec 12 26 = some (.aload_n 0, 1, []) := rfl
theorem d12_27 : dec 12 27 = some (.dup, 1, []) := rfl
theorem d12_28 : dec 12 28 = some (.getfield 18, 3, [1, 5, 2, 0, 0, 166]) := rfl
theorem d12_31 : dec 12 31 = some (.iconst 1, 1, [1]) := rfl
theorem d12_32 : dec 12 32 = some (.iadd, 1, []) := rfl
theorem d12_33 : dec 12 33 = some (.putfield 18, 3, [1, 5, 2, 0, 0, 166]) := rfl
theorem d12_36 : dec 12 36 = some (.goto 15, 3, [51]) := rfl
theorem d12_39 : dec 12 39 = some (.aload_n 0, 1, []) := rfl
theorem d12_40 : dec 12 40 = some (.aload_n 0, 1, []) := rfl
theorem d12_41 : dec 12 41 = some (.getfield 30, 3, [1, 5, 1, 0, 0, 165]) := rfl
theorem d12_44 : dec 12 44 = some (.iconst 1, 1, [1]) := rfl
theorem d12_45 : dec 12 45 = some (.iadd, 1, []) := rfl
theorem d12_46 : dec 12 46 = some (.iconst 4, 1, [4]) := rfl
theorem d12_47 : dec 12 47 = some (.irem, 1, []) := rfl
theorem d12_48 : dec 12 48 = some (.putfield 30, 3, [1, 5, 1, 0, 0, 165]) := rfl
theorem d12_51 : dec 12 51 = some (.return_, 1, []) := rfl
theorem l12 : mL 12 = 3 := rfl
theorem c12 {d : Nat} {P : MP} {I : MI} {L : ML} {C : MC} {n : Nat} {g : GS} {ps : Nat → GS} (hP : VB P) (hb : SB P 2) (hV : VR I n ps) (hg : RC I 2 g) (hv : TV g) (hd : 4 ≤ d) : ∃ I', VR I' (puN n) (puS n ps g) ∧ (∀ k j, k < 38 ∨ 111 < k → I' k j = I k j) ∧ ∀ Q, CT d 12 [.ref 38, .ref 2] P I L C Q = Q (.inl none) P I' L C := by
  obtain ⟨o, h1, h2, h3, h4, h5⟩ := hV
  have hP' := hP
  obtain ⟨k0, p0, y0, q, hS⟩ := hP'
  have hm := Nat.mod_lt (o + n) (by omega : 4 > 0)
  have hk0 := hb.1
  have hs0 := (hS _ hm).1
  have hvb : vb ((o + n) % 4) = 40 + 18 * ((o + n) % 4) := rfl
  have hJ38 : ∀ j, copS I (vb ((o + n) % 4)) 2 38 j = I 38 j := fun j => copS_n (by omega)
  have e1 : copS I (vb ((o + n) % 4)) 2 38 1 = nI o := by rw [hJ38]; exact h2
  have e2 : copS I (vb ((o + n) % 4)) 2 38 2 = nI n := by rw [hJ38]; exact h3
  by_cases hn : n < 4
  · refine ⟨xu (copS I (vb ((o + n) % 4)) 2) 38 2 (nI (n + 1)), ⟨o, h1, ?_, ?_, ?_, fun i hi => ?_⟩, fun k j h => ?_, fun Q => ?_⟩
    · rw [xu_n _ _ (by omega)]; exact e1
    · rw [xu_s]; unfold puN; rw [if_pos hn]
    · unfold puN; rw [if_pos hn]; omega
    · unfold puN at hi
      rw [if_pos hn] at hi
      have hmi := Nat.mod_lt (o + i) (by omega : 4 > 0)
      unfold puS
      rw [if_pos hn]
      refine RC_fr (I := copS I (vb ((o + n) % 4)) 2) ?_ fun k j q1 q2 => xu_n _ _ (by unfold vb at q1; omega)
      by_cases z : i = n
      · subst z
        rw [ud_s]
        exact RC_cop hg hv (by rw [hvb]; omega)
      · rw [ud_n z]
        exact RC_copo (h5 i (by omega)) (by unfold vb; omega)
    · rw [xu_n _ _ (by omega), copS_n (by unfold vb; omega)]
    · rw [CT_e (mj := 12) (e := [.ref 38, .ref 2, UN]) (by omega) rfl (Nat.le_of_ble_eq_true rfl)]
      simp (disch := first | assumption | omega) only [Nat.reduceAdd, X_go, go2_some, stp, ldI, ldA, ldL, stI, stA, stL, o1I, o2I, o2L, brI, brII, gl, s1, s2, k1, sl, go_sN, go_sR, go_CT, go_sT, go_no, go_if, pops, bk_v, bk_0, d12_0, d12_1, d12_2, d12_5, d12_8, d12_9, d12_10, d12_13, d12_14, d12_15, d12_18, d12_19, d12_22, d12_23, d12_26, d12_27, d12_28, d12_31, d12_32, d12_33, d12_36, d12_39, d12_40, d12_41, d12_44, d12_45, d12_46, d12_47, d12_48, d12_51, n_lt, n_le, n_eq, n_lt0, n_ge0, n_gt0, n_le0, n_eq0, m_lt, m_le, m_gt, m_ge, m_eq, m_eq', m_lt0, m_ge0, m_gt0, m_le0, m_ltm, m_lem, n_in, m_in, n_cl, n_ti, n_div, n_rem', n_dec, n_l, nI_add, pk_mul, an0, an1, decide_eq_true_eq, if_true, if_false, ite_true, ite_false, and_true, true_and, and_false, false_and, not_true, not_false_iff, or_false, false_or, or_true, true_or, eq_self, va_some, Bool.false_eq_true, reduceIte, catS_n, catS_i, catS_r, catS_l, catS_d, Nat.zero_add, Nat.add_zero, decide_true, decide_false, Nat.reduceLeDiff, cat_r, cat_i, cat_l, nle_T, nle_F, nlt_T, nlt_F, neq_T, neq_F, k0, h3, c13 hP h2, c15 (hS _ hm) hb (h := .inr (by unfold vb; omega)), hs0, e2]
      done
  · have h44 : n = 4 := by omega
    subst h44
    have hmo : (o + 4) % 4 = o := by omega
    rw [hmo] at hm e1 e2 hJ38
    refine ⟨xu (copS I (vb o) 2) 38 1 (nI ((o + 1) % 4)), ⟨(o + 1) % 4, by omega, xu_s _ _ _ _, ?_, Nat.le_refl 4, fun i hi => ?_⟩, fun k j h => ?_, fun Q => ?_⟩
    · rw [xu_n _ _ (by omega)]; exact e2
    · have hi : i < 4 := hi
      unfold puS
      rw [if_neg (by omega)]
      refine RC_fr (I := copS I (vb o) 2) ?_ fun k j q1 q2 => xu_n _ _ (by unfold vb at q1; omega)
      by_cases z : i < 3
      · rw [if_pos z, show ((o + 1) % 4 + i) % 4 = (o + (i + 1)) % 4 by omega]
        exact RC_copo (h5 (i + 1) (by omega)) (by unfold vb; omega)
      · rw [if_neg z, show ((o + 1) % 4 + i) % 4 = o by omega]
        exact RC_cop hg hv (by unfold vb; omega)
    · rw [xu_n _ _ (by omega), copS_n (by unfold vb; omega)]
    · rw [CT_e (mj := 12) (e := [.ref 38, .ref 2, UN]) (by omega) rfl (Nat.le_of_ble_eq_true rfl)]
      simp (disch := first | assumption | omega) only [Nat.reduceAdd, X_go, go2_some, stp, ldI, ldA, ldL, stI, stA, stL, o1I, o2I, o2L, brI, brII, gl, s1, s2, k1, sl, go_sN, go_sR, go_CT, go_sT, go_no, go_if, pops, bk_v, bk_0, d12_0, d12_1, d12_2, d12_5, d12_8, d12_9, d12_10, d12_13, d12_14, d12_15, d12_18, d12_19, d12_22, d12_23, d12_26, d12_27, d12_28, d12_31, d12_32, d12_33, d12_36, d12_39, d12_40, d12_41, d12_44, d12_45, d12_46, d12_47, d12_48, d12_51, n_lt, n_le, n_eq, n_lt0, n_ge0, n_gt0, n_le0, n_eq0, m_lt, m_le, m_gt, m_ge, m_eq, m_eq', m_lt0, m_ge0, m_gt0, m_le0, m_ltm, m_lem, n_in, m_in, n_cl, n_ti, n_div, n_rem', n_dec, n_l, nI_add, pk_mul, an0, an1, decide_eq_true_eq, if_true, if_false, ite_true, ite_false, and_true, true_and, and_false, false_and, not_true, not_false_iff, or_false, false_or, or_true, true_or, eq_self, va_some, Bool.false_eq_true, reduceIte, catS_n, catS_i, catS_r, catS_l, catS_d, Nat.zero_add, Nat.add_zero, decide_true, decide_false, Nat.reduceLeDiff, cat_r, cat_i, cat_l, nle_T, nle_F, nlt_T, nlt_F, neq_T, neq_F, k0, h3, c13 hP h2, hmo, (hS o h1).1]
      have h15 := fun Q => c15 (d := d - 1) (I := I) (L := L) (C := C) (Q := Q) (hS o h1) hb (by omega) (.inr (by unfold vb; omega))
      simp (disch := first | assumption | omega) only [Nat.reduceAdd, X_go, go2_some, stp, ldI, ldA, ldL, stI, stA, stL, o1I, o2I, o2L, brI, brII, gl, s1, s2, k1, sl, go_sN, go_sR, go_CT, go_sT, go_no, go_if, pops, bk_v, bk_0, d12_0, d12_1, d12_2, d12_5, d12_8, d12_9, d12_10, d12_13, d12_14, d12_15, d12_18, d12_19, d12_22, d12_23, d12_26, d12_27, d12_28, d12_31, d12_32, d12_33, d12_36, d12_39, d12_40, d12_41, d12_44, d12_45, d12_46, d12_47, d12_48, d12_51, n_lt, n_le, n_eq, n_lt0, n_ge0, n_gt0, n_le0, n_eq0, m_lt, m_le, m_gt, m_ge, m_eq, m_eq', m_lt0, m_ge0, m_gt0, m_le0, m_ltm, m_lem, n_in, m_in, n_cl, n_ti, n_div, n_rem', n_dec, n_l, nI_add, pk_mul, an0, an1, decide_eq_true_eq, if_true, if_false, ite_true, ite_false, and_true, true_and, and_false, false_and, not_true, not_false_iff, or_false, false_or, or_true, true_or, eq_self, va_some, Bool.false_eq_true, reduceIte, catS_n, catS_i, catS_r, catS_l, catS_d, Nat.zero_add, Nat.add_zero, decide_true, decide_false, Nat.reduceLeDiff, cat_r, cat_i, cat_l, nle_T, nle_F, nlt_T, nlt_F, neq_T, neq_F, k0, h15, e1, e2]
      done
theorem d149_0 : dec 149 0 = some (.aload_n 0, 1, []) := rfl
theorem d149_1 : dec 149 1 = some (.aload_n 0, 1, []) := rfl
theorem d149_2 : dec 149 2 = some (.getfield 18, 3, [1, 5, 2, 0, 0, 166]) := rfl
theorem d149_5 : dec 149 5 = some (.iconst 1, 1, [1]) := rfl
theorem d149_6 : dec 149 6 = some (.isub, 1, []) := rfl
theorem d149_7 : dec 149 7 = some (.invokevirtual 22, 3, [2, 13, 2, 5, 0, 382, 0]) := rfl
theorem d149_10 : dec 149 10 = some (.astore_n 2, 1, []) := rfl
theorem d149_11 : dec 149 11 = some (.aload_n 2, 1, []) := rfl
theorem d149_12 : dec 149 12 = some (.ifnull 8, 3, [20]) := rfl
theorem d149_15 : dec 149 15 = some (.aload_n 1, 1, []) := rfl
theorem d149_16 : dec 149 16 = some (.aload_n 2, 1, []) := rfl
theorem d149_17 : dec 149 17 = some (.invokevirtual 26, 3, [2, 15, 2, 6, 0, 389, 2]) := rfl
theorem d149_20 : dec 149 20 = some (.aload_n 0, 1, []) := rfl
theorem d149_21 : dec 149 21 = some (.dup, 1, []) := rfl
theorem d149_22 : dec 149 22 = some (.getfield 18, 3, [1, 5, 2, 0, 0, 166]) := rfl
theorem d149_25 : dec 149 25 = some (.iconst 1, 1, [1]) := rfl
theorem d149_26 : dec 149 26 = some (.isub, 1, []) := rfl
theorem d149_27 : dec 149 27 = some (.putfield 18, 3, [1, 5, 2, 0, 0, 166]) := rfl
theorem d149_30 : dec 149 30 = some (.return_, 1, []) := rfl
theorem l149 : mL 149 = 3 := rfl
theorem c149 {d : Nat} {P : MP} {I : MI} {L : ML} {C : MC} {n : Nat} {ps : Nat → GS} (hP : VB P) (hb : SB P 2) (hV : VR I n ps) (hv : ∀ i, i < n → TV (ps i)) (hd : 4 ≤ d) (h0 : 1 ≤ n) : ∃ I', VR I' (n - 1) ps ∧ RC I' 2 (ps (n - 1)) ∧ (∀ k j, k < 2 ∨ 19 < k → k ≠ 38 → I' k j = I k j) ∧ I' 38 2 = nI (n - 1) ∧ ∀ Q, CT d 149 [.ref 38, .ref 2] P I L C Q = Q (.inl none) P I' L C := by
  obtain ⟨o, h1, h2, h3, h4, h5⟩ := hV
  have hP' := hP
  obtain ⟨k0, p0, y0, q, hS⟩ := hP'
  have hm := Nat.mod_lt (o + (n - 1)) (by omega : 4 > 0)
  have hk0 := hb.1
  have hs0 := (hS _ hm).1
  have hvb : vb ((o + (n - 1)) % 4) = 40 + 18 * ((o + (n - 1)) % 4) := rfl
  have e2 : copS I 2 (vb ((o + (n - 1)) % 4)) 38 2 = nI n := by rw [copS_n (by omega)]; exact h3
  refine ⟨xu (copS I 2 (vb ((o + (n - 1)) % 4))) 38 2 (nI (n - 1)), ⟨o, h1, ?_, xu_s _ _ _ _, by omega, fun i hi => ?_⟩, ?_, fun k j h h' => ?_, xu_s _ _ _ _, fun Q => ?_⟩
  · rw [xu_n _ _ (by omega), copS_n (by omega)]; exact h2
  · have hmi := Nat.mod_lt (o + i) (by omega : 4 > 0)
    exact RC_fr (RC_copo (h5 i (by omega)) (by unfold vb; omega)) fun k j q1 q2 => xu_n _ _ (by unfold vb at q1; omega)
  · exact RC_fr (RC_cop (h5 (n - 1) (by omega)) (hv _ (by omega)) (by unfold vb; omega)) fun k j q1 q2 => xu_n _ _ (by omega)
  · rw [xu_n _ _ (by omega), copS_n (by omega)]
  · rw [CT_e (mj := 149) (e := [.ref 38, .ref 2, UN]) (by omega) rfl (Nat.le_of_ble_eq_true rfl)]
    simp (disch := first | assumption | omega) only [Nat.reduceAdd, X_go, go2_some, stp, ldI, ldA, ldL, stI, stA, stL, o1I, o2I, o2L, brI, brII, gl, s1, s2, k1, sl, go_sN, go_sR, go_CT, go_sT, go_no, go_if, pops, bk_v, bk_0, d149_0, d149_1, d149_2, d149_5, d149_6, d149_7, d149_10, d149_11, d149_12, d149_15, d149_16, d149_17, d149_20, d149_21, d149_22, d149_25, d149_26, d149_27, d149_30, n_lt, n_le, n_eq, n_lt0, n_ge0, n_gt0, n_le0, n_eq0, m_lt, m_le, m_gt, m_ge, m_eq, m_eq', m_lt0, m_ge0, m_gt0, m_le0, m_ltm, m_lem, n_in, m_in, n_cl, n_ti, n_div, n_rem', n_dec, n_l, nI_add, pk_mul, an0, an1, decide_eq_true_eq, if_true, if_false, ite_true, ite_false, and_true, true_and, and_false, false_and, not_true, not_false_iff, or_false, false_or, or_true, true_or, eq_self, va_some, Bool.false_eq_true, reduceIte, catS_n, catS_i, catS_r, catS_l, catS_d, Nat.zero_add, Nat.add_zero, decide_true, decide_false, Nat.reduceLeDiff, cat_r, cat_i, cat_l, nle_T, nle_F, nlt_T, nlt_F, neq_T, neq_F, n_sub, k0, h3, c13 hP h2, c15 hb (hS _ hm) (h := .inl (by unfold vb; omega)), hs0, hk0, e2]
    done
