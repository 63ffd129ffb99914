/-! THE MODEL: sets of entries -/
def aset (g : GS) (c : Nat → Nat → Bool) : Int32 := bset (pb g c) 18
theorem pb_e {g : GS} {c : Nat → Nat → Bool} {t e : Nat} (he : e < 6) : pb g c (6 * t + e) = (decide (e < g (3 + t)) && c t e) := by
  unfold pb
  rw [show (6 * t + e) % 6 = e by omega, show (6 * t + e) / 6 = t by omega]
theorem as_b {g : GS} {c : Nat → Nat → Bool} {t e : Nat} (ht : t < 3) (he : e < 6) : bt (aset g c) (6 * t + e) = (decide (e < g (3 + t)) && c t e) := by
  unfold aset
  rw [b_set (by omega) (by omega), decide_eq_true (by omega), Bool.true_and, pb_e he]
theorem b_sh0 {x : Int32} {n : Nat} (hn : n < 32) : x ||| (nI 0 <<< (nI n &&& 31)) = x := by
  apply b_ext
  intro i hi
  rw [b_or, b_shl n hn _ hi, show nI 0 = 0 from rfl, b_0, Bool.and_false, Bool.or_false]
/-- what is spent, as a set -/
def MSp (g : GS) (x : Int32) (sp : SP) : Prop := ∀ t e, t < 3 → e < g (3 + t) → bt x (6 * t + e) = sp t e
def MGr (y : Int32) (gr : SP) : Prop := ∀ t k, t < 3 → 1 ≤ k → k ≤ 3 → bt y (3 * t + k - 1) = gr t k
theorem MSp_s {g : GS} (hv : TV g) : MSp g (sbits g) (spG g) := fun t e ht he => by
  have hc := hv.2.1 t ht
  have := as_b (g := g) (c := spG g) ht (show e < 6 by omega)
  rw [decide_eq_true he, Bool.true_and] at this
  exact this
theorem MGr_0 : MGr (nI 0) noG := fun t k _ _ _ => by rw [show nI 0 = 0 from rfl, b_0]; rfl
theorem d174_0 : dec 174 0 = some (.iconst 0, 1, [0]) := rfl
theorem d174_1 : dec 174 1 = some (.istore_n 1, 1, []) := rfl
theorem d174_2 : dec 174 2 = some (.iconst 0, 1, [0]) := rfl
theorem d174_3 : dec 174 3 = some (.istore_n 2, 1, []) := rfl
theorem d174_4 : dec 174 4 = some (.iload_n 2, 1, []) := rfl
theorem d174_5 : dec 174 5 = some (.iconst 3, 1, [3]) := rfl
theorem d174_6 : dec 174 6 = some (.if_icmp .ge 46, 3, [52]) := rfl
theorem d174_9 : dec 174 9 = some (.iconst 0, 1, [0]) := rfl
theorem d174_10 : dec 174 10 = some (.istore_n 3, 1, []) := rfl
theorem d174_11 : dec 174 11 = some (.iload_n 3, 1, []) := rfl
theorem d174_12 : dec 174 12 = some (.aload_n 0, 1, []) := rfl
theorem d174_13 : dec 174 13 = some (.getfield 7, 3, [1, 10, 0, 2, 0, 994]) := rfl
theorem d174_16 : dec 174 16 = some (.iconst 3, 1, [3]) := rfl
theorem d174_17 : dec 174 17 = some (.iload_n 2, 1, []) := rfl
theorem d174_18 : dec 174 18 = some (.iadd, 1, []) := rfl
theorem d174_19 : dec 174 19 = some (.iaload, 1, []) := rfl
theorem d174_20 : dec 174 20 = some (.if_icmp .ge 26, 3, [46]) := rfl
theorem d174_23 : dec 174 23 = some (.iload_n 1, 1, []) := rfl
theorem d174_24 : dec 174 24 = some (.aload_n 0, 1, []) := rfl
theorem d174_25 : dec 174 25 = some (.iload_n 2, 1, []) := rfl
theorem d174_26 : dec 174 26 = some (.iload_n 3, 1, []) := rfl
theorem d174_27 : dec 174 27 = some (.iconst 5, 1, [5]) := rfl
theorem d174_28 : dec 174 28 = some (.invokevirtual 107, 3, [2, 167, 2, 10, 0, 1131, 0, 0, 0]) := rfl
theorem d174_31 : dec 174 31 = some (.bipush 6, 2, [6]) := rfl
theorem d174_33 : dec 174 33 = some (.iload_n 2, 1, []) := rfl
theorem d174_34 : dec 174 34 = some (.imul, 1, []) := rfl
theorem d174_35 : dec 174 35 = some (.iload_n 3, 1, []) := rfl
theorem d174_36 : dec 174 36 = some (.iadd, 1, []) := rfl
theorem d174_37 : dec 174 37 = some (.ishl, 1, []) := rfl
theorem d174_38 : dec 174 38 = some (.ior, 1, []) := rfl
theorem d174_39 : dec 174 39 = some (.istore_n 1, 1, []) := rfl
theorem d174_40 : dec 174 40 = some (.iinc 3 1, 3, [1]) := rfl
theorem d174_43 : dec 174 43 = some (.goto (-32), 3, [11]) := rfl
theorem d174_46 : dec 174 46 = some (.iinc 2 1, 3, [1]) := rfl
theorem d174_49 : dec 174 49 = some (.goto (-45), 3, [4]) := rfl
theorem d174_52 : dec 174 52 = some (.iload_n 1, 1, []) := rfl
theorem d174_53 : dec 174 53 = some (.ireturn, 1, [0]) := rfl
theorem l174 : mL 174 = 4 := rfl
theorem f174 {d : Nat} {P : MP} {I : MI} {L : ML} {C : MC} {Q : QT} {t : Nat} {g : GS} (hM : MB P) (hn : NR I g) (hv : TV g) (ht : t < 3) (hd : 3 ≤ d) : ∀ m e x, e + m = g (3 + t) → (∀ i, i < 32 → bt x i = (decide (i < 6 * t + e) && pb g (spG g) i)) → ∃ x', (∀ i, i < 32 → bt x' i = (decide (i < 6 * t + 6) && pb g (spG g) i)) ∧ X d 174 11 [.ref 150, .int x, .int (nI t), .int (nI e)] [] P I L C Q = X d 174 46 [.ref 150, .int x', .int (nI t), .int (nI (g (3 + t)))] [] P I L C Q := by
  have hM' := hM
  obtain ⟨⟨k0, p0, p1, p2, p5, y1, _⟩, _⟩ := hM'
  have hc := hv.2.1 t ht
  have hnc := hn (3 + t) (by omega)
  intro m
  induction m with
  | zero =>
    intro e x h hb
    have : e = g (3 + t) := by omega
    subst this
    refine ⟨x, fun i hi => ?_, ?_⟩
    · rw [hb i hi]
      by_cases z : i < 6 * t + g (3 + t)
      · rw [decide_eq_true z, decide_eq_true (show i < 6 * t + 6 by omega)]
      · rw [decide_eq_false z, Bool.false_and]
        by_cases y : i < 6 * t + 6
        · have : pb g (spG g) i = false := by
            unfold pb
            rw [show i / 6 = t by omega, decide_eq_false (by omega), Bool.false_and]
          rw [this, Bool.and_false]
        · rw [decide_eq_false y, Bool.false_and]
    · rw [X_go, d174_11]
      simp (disch := first | assumption | omega) only [Nat.reduceAdd, X_go, go2_some, stp, ldI, ldA, ldL, stI, stA, stL, o1I, o2I, o2L, brI, brII, gl, s1, s2, k1, sl, go_sN, go_sR, go_CT, go_sT, go_no, go_if, pops, bk_v, bk_0, d174_0, d174_1, d174_2, d174_3, d174_4, d174_5, d174_6, d174_9, d174_10, d174_12, d174_13, d174_16, d174_17, d174_18, d174_19, d174_20, d174_23, d174_24, d174_25, d174_26, d174_27, d174_28, d174_31, d174_33, d174_34, d174_35, d174_36, d174_37, d174_38, d174_39, d174_40, d174_43, d174_49, d174_52, d174_53, n_lt, n_le, n_eq, n_lt0, n_ge0, n_gt0, n_le0, n_eq0, m_lt, m_le, m_gt, m_ge, m_eq, m_eq', m_lt0, m_ge0, m_gt0, m_le0, m_ltm, m_lem, n_in, m_in, n_cl, n_ti, n_div, n_rem', n_dec, n_l, nI_add, pk_mul, an0, an1, decide_eq_true_eq, if_true, if_false, ite_true, ite_false, and_true, true_and, and_false, false_and, not_true, not_false_iff, or_false, false_or, or_true, true_or, eq_self, va_some, Bool.false_eq_true, reduceIte, catS_n, catS_i, catS_r, catS_l, catS_d, Nat.zero_add, Nat.add_zero, decide_true, decide_false, Nat.reduceLeDiff, cat_r, cat_i, cat_l, nle_T, nle_F, nlt_T, nlt_F, neq_T, neq_F, k0, p0, y1, hnc]
  | succ m ih =>
    intro e x h hb
    have he : e < g (3 + t) := by omega
    have hs := (hv.2.2 t e ht he).2.2.2.2.2.2.2
    have hpb : pb g (spG g) (6 * t + e) = decide (g (cl t e 5) ≠ 0) := by
      rw [pb_e (by omega), decide_eq_true he, Bool.true_and]; rfl
    obtain ⟨x', h1, h2⟩ := ih (e + 1) (x ||| (nI (g (cl t e 5)) <<< (nI (6 * t + e) &&& 31))) (by omega) (fun i hi => by
      rcases Nat.eq_zero_or_pos (g (cl t e 5)) with z | z
      · rw [z, b_sh0 (by omega), hb i hi]
        by_cases y : i = 6 * t + e
        · subst y
          rw [hpb, z]
          simp
        · rw [show decide (i < 6 * t + e) = decide (i < 6 * t + (e + 1)) from decide_eq_decide.mpr (by omega)]
      · have z1 : g (cl t e 5) = 1 := by omega
        rw [z1, b_or, b_one (by omega) hi, hb i hi]
        by_cases y : i = 6 * t + e
        · subst y
          rw [hpb, z1, decide_eq_true (show 6 * t + e < 6 * t + (e + 1) by omega), decide_eq_true (rfl : 6 * t + e = 6 * t + e)]
          simp
        · rw [decide_eq_false y, Bool.or_false, show decide (i < 6 * t + e) = decide (i < 6 * t + (e + 1)) from decide_eq_decide.mpr (by omega)])
    refine ⟨x', h1, ?_⟩
    rw [← h2, X_go, d174_11]
    simp (disch := first | assumption | omega) only [Nat.reduceAdd, X_go, go2_some, stp, ldI, ldA, ldL, stI, stA, stL, o1I, o2I, o2L, brI, brII, gl, s1, s2, k1, sl, go_sN, go_sR, go_CT, go_sT, go_no, go_if, pops, bk_v, bk_0, d174_0, d174_1, d174_2, d174_3, d174_4, d174_5, d174_6, d174_9, d174_10, d174_12, d174_13, d174_16, d174_17, d174_18, d174_19, d174_20, d174_23, d174_24, d174_25, d174_26, d174_27, d174_28, d174_31, d174_33, d174_34, d174_35, d174_36, d174_37, d174_38, d174_39, d174_40, d174_43, d174_49, d174_52, d174_53, n_lt, n_le, n_eq, n_lt0, n_ge0, n_gt0, n_le0, n_eq0, m_lt, m_le, m_gt, m_ge, m_eq, m_eq', m_lt0, m_ge0, m_gt0, m_le0, m_ltm, m_lem, n_in, m_in, n_cl, n_ti, n_div, n_rem', n_dec, n_l, nI_add, pk_mul, an0, an1, decide_eq_true_eq, if_true, if_false, ite_true, ite_false, and_true, true_and, and_false, false_and, not_true, not_false_iff, or_false, false_or, or_true, true_or, eq_self, va_some, Bool.false_eq_true, reduceIte, catS_n, catS_i, catS_r, catS_l, catS_d, Nat.zero_add, Nat.add_zero, decide_true, decide_false, Nat.reduceLeDiff, cat_r, cat_i, cat_l, nle_T, nle_F, nlt_T, nlt_F, neq_T, neq_F, k0, p0, y1, hnc, c167 hM hn]
    done
theorem f174o {d : Nat} {P : MP} {I : MI} {L : ML} {C : MC} {Q : QT} {g : GS} (hM : MB P) (hn : NR I g) (hv : TV g) (hd : 3 ≤ d) : ∀ m t x (u : Value), t + m = 3 → (∀ i, i < 32 → bt x i = (decide (i < 6 * t) && pb g (spG g) i)) → X d 174 4 [.ref 150, .int x, .int (nI t), u] [] P I L C Q = Q (.inl (some (.int (sbits g)))) P I L C := by
  intro m
  induction m with
  | zero =>
    intro t x u h hb
    have : t = 3 := by omega
    subst this
    have e : x = sbits g := b_is (by omega) hb
    rw [e, X_go, d174_4]
    simp (disch := first | assumption | omega) only [Nat.reduceAdd, X_go, go2_some, stp, ldI, ldA, ldL, stI, stA, stL, o1I, o2I, o2L, brI, brII, gl, s1, s2, k1, sl, go_sN, go_sR, go_CT, go_sT, go_no, go_if, pops, bk_v, bk_0, d174_0, d174_1, d174_2, d174_3, d174_5, d174_6, d174_9, d174_10, d174_11, d174_12, d174_13, d174_16, d174_17, d174_18, d174_19, d174_20, d174_23, d174_24, d174_25, d174_26, d174_27, d174_28, d174_31, d174_33, d174_34, d174_35, d174_36, d174_37, d174_38, d174_39, d174_40, d174_43, d174_46, d174_49, d174_52, d174_53, n_lt, n_le, n_eq, n_lt0, n_ge0, n_gt0, n_le0, n_eq0, m_lt, m_le, m_gt, m_ge, m_eq, m_eq', m_lt0, m_ge0, m_gt0, m_le0, m_ltm, m_lem, n_in, m_in, n_cl, n_ti, n_div, n_rem', n_dec, n_l, nI_add, pk_mul, an0, an1, decide_eq_true_eq, if_true, if_false, ite_true, ite_false, and_true, true_and, and_false, false_and, not_true, not_false_iff, or_false, false_or, or_true, true_or, eq_self, va_some, Bool.false_eq_true, reduceIte, catS_n, catS_i, catS_r, catS_l, catS_d, Nat.zero_add, Nat.add_zero, decide_true, decide_false, Nat.reduceLeDiff, cat_r, cat_i, cat_l, nle_T, nle_F, nlt_T, nlt_F, neq_T, neq_F]
  | succ m ih =>
    intro t x u h hb
    obtain ⟨x', h1, h2⟩ := f174 (d := d) (L := L) (C := C) (Q := Q) hM hn hv (show t < 3 by omega) hd (g (3 + t)) 0 x (by omega) hb
    have ih := ih (t + 1) x' (.int (nI (g (3 + t)))) (by omega) (fun i hi => h1 i hi)
    have q1 : X d 174 46 [.ref 150, .int x', .int (nI t), .int (nI (g (3 + t)))] [] P I L C Q = X d 174 4 [.ref 150, .int x', .int (nI (t + 1)), .int (nI (g (3 + t)))] [] P I L C Q := by
      rw [X_go, d174_46]
      simp (disch := first | assumption | omega) only [Nat.reduceAdd, X_go, go2_some, stp, ldI, ldA, ldL, stI, stA, stL, o1I, o2I, o2L, brI, brII, gl, s1, s2, k1, sl, go_sN, go_sR, go_CT, go_sT, go_no, go_if, pops, bk_v, bk_0, d174_0, d174_1, d174_2, d174_3, d174_5, d174_6, d174_9, d174_10, d174_11, d174_12, d174_13, d174_16, d174_17, d174_18, d174_19, d174_20, d174_23, d174_24, d174_25, d174_26, d174_27, d174_28, d174_31, d174_33, d174_34, d174_35, d174_36, d174_37, d174_38, d174_39, d174_40, d174_43, d174_49, d174_52, d174_53, n_lt, n_le, n_eq, n_lt0, n_ge0, n_gt0, n_le0, n_eq0, m_lt, m_le, m_gt, m_ge, m_eq, m_eq', m_lt0, m_ge0, m_gt0, m_le0, m_ltm, m_lem, n_in, m_in, n_cl, n_ti, n_div, n_rem', n_dec, n_l, nI_add, pk_mul, an0, an1, decide_eq_true_eq, if_true, if_false, ite_true, ite_false, and_true, true_and, and_false, false_and, not_true, not_false_iff, or_false, false_or, or_true, true_or, eq_self, va_some, Bool.false_eq_true, reduceIte, catS_n, catS_i, catS_r, catS_l, catS_d, Nat.zero_add, Nat.add_zero, decide_true, decide_false, Nat.reduceLeDiff, cat_r, cat_i, cat_l, nle_T, nle_F, nlt_T, nlt_F, neq_T, neq_F]
    rw [← ih, ← q1, ← h2, X_go, d174_4]
    simp (disch := first | assumption | omega) only [Nat.reduceAdd, X_go, go2_some, stp, ldI, ldA, ldL, stI, stA, stL, o1I, o2I, o2L, brI, brII, gl, s1, s2, k1, sl, go_sN, go_sR, go_CT, go_sT, go_no, go_if, pops, bk_v, bk_0, d174_0, d174_1, d174_2, d174_3, d174_5, d174_6, d174_9, d174_10, d174_12, d174_13, d174_16, d174_17, d174_18, d174_19, d174_20, d174_23, d174_24, d174_25, d174_26, d174_27, d174_28, d174_31, d174_33, d174_34, d174_35, d174_36, d174_37, d174_38, d174_39, d174_40, d174_43, d174_49, d174_52, d174_53, n_lt, n_le, n_eq, n_lt0, n_ge0, n_gt0, n_le0, n_eq0, m_lt, m_le, m_gt, m_ge, m_eq, m_eq', m_lt0, m_ge0, m_gt0, m_le0, m_ltm, m_lem, n_in, m_in, n_cl, n_ti, n_div, n_rem', n_dec, n_l, nI_add, pk_mul, an0, an1, decide_eq_true_eq, if_true, if_false, ite_true, ite_false, and_true, true_and, and_false, false_and, not_true, not_false_iff, or_false, false_or, or_true, true_or, eq_self, va_some, Bool.false_eq_true, reduceIte, catS_n, catS_i, catS_r, catS_l, catS_d, Nat.zero_add, Nat.add_zero, decide_true, decide_false, Nat.reduceLeDiff, cat_r, cat_i, cat_l, nle_T, nle_F, nlt_T, nlt_F, neq_T, neq_F]
    done
theorem c174 {d : Nat} {P : MP} {I : MI} {L : ML} {C : MC} {Q : QT} {g : GS} (hM : MB P) (hn : NR I g) (hv : TV g) (hd : 4 ≤ d) : CT d 174 [.ref 150] P I L C Q = Q (.inl (some (.int (sbits g)))) P I L C := by
  have h := f174o (d := d - 1) (L := L) (C := C) (Q := Q) hM hn hv (by omega) 3 0 (nI 0) UN (by omega) (fun i hi => by rw [show nI 0 = 0 from rfl, b_0, decide_eq_false (by omega), Bool.false_and])
  rw [CT_e (mj := 174) (e := [.ref 150, UN, UN, UN]) (by omega) rfl (Nat.le_of_ble_eq_true rfl)]
  simp (disch := first | assumption | omega) only [Nat.reduceAdd, X_go, go2_some, stp, ldI, ldA, ldL, stI, stA, stL, o1I, o2I, o2L, brI, brII, gl, s1, s2, k1, sl, go_sN, go_sR, go_CT, go_sT, go_no, go_if, pops, bk_v, bk_0, d174_0, d174_1, d174_2, d174_3, d174_5, d174_6, d174_9, d174_10, d174_11, d174_12, d174_13, d174_16, d174_17, d174_18, d174_19, d174_20, d174_23, d174_24, d174_25, d174_26, d174_27, d174_28, d174_31, d174_33, d174_34, d174_35, d174_36, d174_37, d174_38, d174_39, d174_40, d174_43, d174_46, d174_49, d174_52, d174_53, n_lt, n_le, n_eq, n_lt0, n_ge0, n_gt0, n_le0, n_eq0, m_lt, m_le, m_gt, m_ge, m_eq, m_eq', m_lt0, m_ge0, m_gt0, m_le0, m_ltm, m_lem, n_in, m_in, n_cl, n_ti, n_div, n_rem', n_dec, n_l, nI_add, pk_mul, an0, an1, decide_eq_true_eq, if_true, if_false, ite_true, ite_false, and_true, true_and, and_false, false_and, not_true, not_false_iff, or_false, false_or, or_true, true_or, eq_self, va_some, Bool.false_eq_true, reduceIte, catS_n, catS_i, catS_r, catS_l, catS_d, Nat.zero_add, Nat.add_zero, decide_true, decide_false, Nat.reduceLeDiff, cat_r, cat_i, cat_l, nle_T, nle_F, nlt_T, nlt_F, neq_T, neq_F]
  simp only [← X_go]
  exact h
theorem d177_0 : dec 177 0 = some (.iload_n 0, 1, []) := rfl
theorem d177_1 : dec 177 1 = some (.bipush 6, 2, [6]) := rfl
theorem d177_3 : dec 177 3 = some (.iload_n 1, 1, []) := rfl
theorem d177_4 : dec 177 4 = some (.imul, 1, []) := rfl
theorem d177_5 : dec 177 5 = some (.ishr, 1, []) := rfl
theorem d177_6 : dec 177 6 = some (.bipush 63, 2, [63]) := rfl
theorem d177_8 : dec 177 8 = some (.iand, 1, []) := rfl
theorem d177_9 : dec 177 9 = some (.ifCond .eq 7, 3, [16]) := rfl
theorem d177_12 : dec 177 12 = some (.iconst 1, 1, [1]) := rfl
theorem d177_13 : dec 177 13 = some (.goto 4, 3, [17]) := rfl
theorem d177_16 : dec 177 16 = some (.iconst 0, 1, [0]) := rfl
theorem d177_17 : dec 177 17 = some (.ireturn, 1, [1]) := rfl
theorem l177 : mL 177 = 2 := rfl
theorem c177 {d : Nat} {P : MP} {I : MI} {L : ML} {C : MC} {Q : QT} {g : GS} {c : Nat → Nat → Bool} {t : Nat} (hv : TV g) (hd : 1 ≤ d) (ht : t < 3) : CT d 177 [.int (aset g c), .int (nI t)] P I L C Q = Q (.inl (some (.int (nI (if anyB (g (3 + t)) (c t) = true then 1 else 0))))) P I L C := by
  have hc := hv.2.1 t ht
  have h6 := b_six (x := aset g c) (n := 6 * t) (by omega)
  rw [CT_e (mj := 177) (e := [.int (aset g c), .int (nI t)]) (by omega) rfl (Nat.le_of_ble_eq_true rfl)]
  by_cases z : anyB (g (3 + t)) (c t) = true
  · have hne : ¬ (∀ e, e < 6 → bt (aset g c) (6 * t + e) = false) := fun q => by
      obtain ⟨i, hi, hp⟩ := any_t.mp z
      have := q i (by omega)
      rw [as_b ht (by omega), decide_eq_true hi, hp] at this
      exact absurd this (by decide)
    simp (disch := first | assumption | omega) only [Nat.reduceAdd, X_go, go2_some, stp, ldI, ldA, ldL, stI, stA, stL, o1I, o2I, o2L, brI, brII, gl, s1, s2, k1, sl, go_sN, go_sR, go_CT, go_sT, go_no, go_if, pops, bk_v, bk_0, d177_0, d177_1, d177_3, d177_4, d177_5, d177_6, d177_8, d177_9, d177_12, d177_13, d177_16, d177_17, n_lt, n_le, n_eq, n_lt0, n_ge0, n_gt0, n_le0, n_eq0, m_lt, m_le, m_gt, m_ge, m_eq, m_eq', m_lt0, m_ge0, m_gt0, m_le0, m_ltm, m_lem, n_in, m_in, n_cl, n_ti, n_div, n_rem', n_dec, n_l, nI_add, pk_mul, an0, an1, decide_eq_true_eq, if_true, if_false, ite_true, ite_false, and_true, true_and, and_false, false_and, not_true, not_false_iff, or_false, false_or, or_true, true_or, eq_self, va_some, Bool.false_eq_true, reduceIte, catS_n, catS_i, catS_r, catS_l, catS_d, Nat.zero_add, Nat.add_zero, decide_true, decide_false, Nat.reduceLeDiff, cat_r, cat_i, cat_l, nle_T, nle_F, nlt_T, nlt_F, neq_T, neq_F, h6, hne, z]
  · have hne : ∀ e, e < 6 → bt (aset g c) (6 * t + e) = false := fun e he => by
      rw [as_b ht he]
      cases hd : decide (e < g (3 + t)) && c t e
      · rfl
      · have := (Bool.and_eq_true _ _).mp hd
        exact absurd (any_t.mpr ⟨e, of_decide_eq_true this.1, this.2⟩) z
    have hne' := eq_true hne
    simp (disch := first | assumption | omega) only [Nat.reduceAdd, X_go, go2_some, stp, ldI, ldA, ldL, stI, stA, stL, o1I, o2I, o2L, brI, brII, gl, s1, s2, k1, sl, go_sN, go_sR, go_CT, go_sT, go_no, go_if, pops, bk_v, bk_0, d177_0, d177_1, d177_3, d177_4, d177_5, d177_6, d177_8, d177_9, d177_12, d177_13, d177_16, d177_17, n_lt, n_le, n_eq, n_lt0, n_ge0, n_gt0, n_le0, n_eq0, m_lt, m_le, m_gt, m_ge, m_eq, m_eq', m_lt0, m_ge0, m_gt0, m_le0, m_ltm, m_lem, n_in, m_in, n_cl, n_ti, n_div, n_rem', n_dec, n_l, nI_add, pk_mul, an0, an1, decide_eq_true_eq, if_true, if_false, ite_true, ite_false, and_true, true_and, and_false, false_and, not_true, not_false_iff, or_false, false_or, or_true, true_or, eq_self, va_some, Bool.false_eq_true, reduceIte, catS_n, catS_i, catS_r, catS_l, catS_d, Nat.zero_add, Nat.add_zero, decide_true, decide_false, Nat.reduceLeDiff, cat_r, cat_i, cat_l, nle_T, nle_F, nlt_T, nlt_F, neq_T, neq_F, h6, hne', z]
/-- the weights of a set -/
def wS (g : GS) (c : Nat → Nat → Bool) (t e : Nat) : Nat := if c t e = true then pw g t e else 0
theorem wS_b {g : GS} {c : Nat → Nat → Bool} (hv : TV g) (hl : LV g) {t e : Nat} (ht : t < 3) (he : e < g (3 + t)) : wS g c t e ≤ 102000 := by
  unfold wS
  split
  · exact (pw_b hv hl ht he).2
  · omega
theorem smS_b {g : GS} {c : Nat → Nat → Bool} (hv : TV g) (hl : LV g) {t n : Nat} (ht : t < 3) (hn : n ≤ g (3 + t)) : sm n (wS g c t) ≤ 612000 := by
  have hc := hv.2.1 t ht
  have h := sm_le (n := n) (b := 102000) (f := wS g c t) (fun e he => wS_b hv hl ht (by omega))
  have : n * 102000 ≤ 6 * 102000 := Nat.mul_le_mul_right _ (by omega)
  omega
theorem d180_0 : dec 180 0 = some (.iconst 0, 1, [0]) := rfl
theorem d180_1 : dec 180 1 = some (.istore_n 3, 1, []) := rfl
theorem d180_2 : dec 180 2 = some (.iconst 0, 1, [0]) := rfl
theorem d180_3 : dec 180 3 = some (.istore 4, 2, []) := rfl
theorem d180_5 : dec 180 5 = some (.iload 4, 2, []) := rfl
theorem d180_7 : dec 180 7 = some (.aload_n 0, 1, []) := rfl
theorem d180_8 : dec 180 8 = some (.getfield 7, 3, [1, 10, 0, 2, 0, 994]) := rfl
theorem d180_11 : dec 180 11 = some (.iconst 3, 1, [3]) := rfl
theorem d180_12 : dec 180 12 = some (.iload_n 1, 1, []) := rfl
theorem d180_13 : dec 180 13 = some (.iadd, 1, []) := rfl
theorem d180_14 : dec 180 14 = some (.iaload, 1, []) := rfl
theorem d180_15 : dec 180 15 = some (.if_icmp .ge 38, 3, [53]) := rfl
theorem d180_18 : dec 180 18 = some (.iload_n 3, 1, []) := rfl
theorem d180_19 : dec 180 19 = some (.iload_n 2, 1, []) := rfl
theorem d180_20 : dec 180 20 = some (.bipush 6, 2, [6]) := rfl
theorem d180_22 : dec 180 22 = some (.iload_n 1, 1, []) := rfl
theorem d180_23 : dec 180 23 = some (.imul, 1, []) := rfl
theorem d180_24 : dec 180 24 = some (.iload 4, 2, []) := rfl
theorem d180_26 : dec 180 26 = some (.iadd, 1, []) := rfl
theorem d180_27 : dec 180 27 = some (.ishr, 1, []) := rfl
theorem d180_28 : dec 180 28 = some (.iconst 1, 1, [1]) := rfl
theorem d180_29 : dec 180 29 = some (.iand, 1, []) := rfl
theorem d180_30 : dec 180 30 = some (.iconst 1, 1, [1]) := rfl
theorem d180_31 : dec 180 31 = some (.if_icmp .ne 13, 3, [44]) := rfl
theorem d180_34 : dec 180 34 = some (.aload_n 0, 1, []) := rfl
theorem d180_35 : dec 180 35 = some (.iload_n 1, 1, []) := rfl
theorem d180_36 : dec 180 36 = some (.iload 4, 2, []) := rfl
theorem d180_38 : dec 180 38 = some (.invokevirtual 121, 3, [2, 172, 2, 10, 0, 1151, 0, 0]) := rfl
theorem d180_41 : dec 180 41 = some (.goto 4, 3, [45]) := rfl
theorem d180_44 : dec 180 44 = some (.iconst 0, 1, [0]) := rfl
theorem d180_45 : dec 180 45 = some (.iadd, 1, []) := rfl
theorem d180_46 : dec 180 46 = some (.istore_n 3, 1, []) := rfl
theorem d180_47 : dec 180 47 = some (.iinc 4 1, 3, [1]) := rfl
theorem d180_50 : dec 180 50 = some (.goto (-45), 3, [5]) := rfl
theorem d180_53 : dec 180 53 = some (.iload_n 3, 1, []) := rfl
theorem d180_54 : dec 180 54 = some (.ireturn, 1, [0]) := rfl
theorem l180 : mL 180 = 5 := rfl
theorem f180 {d : Nat} {P : MP} {I : MI} {L : ML} {C : MC} {Q : QT} {g : GS} {c : Nat → Nat → Bool} {t : Nat} (hM : MB P) (hn : NR I g) (hv : TV g) (hl : LV g) (ht : t < 3) (hd : 4 ≤ d) : ∀ m e, e + m = g (3 + t) → X d 180 5 [.ref 150, .int (nI t), .int (aset g c), .int (nI (sm e (wS g c t))), .int (nI e)] [] P I L C Q = Q (.inl (some (.int (nI (sm (g (3 + t)) (wS g c t)))))) P I L C := by
  have hM' := hM
  obtain ⟨⟨k0, p0, p1, p2, p5, y1, _⟩, _⟩ := hM'
  have hc := hv.2.1 t ht
  have hnc := hn (3 + t) (by omega)
  intro m
  induction m with
  | zero =>
    intro e h
    have : e = g (3 + t) := by omega
    subst this
    rw [X_go, d180_5]
    simp (disch := first | assumption | omega) only [Nat.reduceAdd, X_go, go2_some, stp, ldI, ldA, ldL, stI, stA, stL, o1I, o2I, o2L, brI, brII, gl, s1, s2, k1, sl, go_sN, go_sR, go_CT, go_sT, go_no, go_if, pops, bk_v, bk_0, d180_0, d180_1, d180_2, d180_3, d180_7, d180_8, d180_11, d180_12, d180_13, d180_14, d180_15, d180_18, d180_19, d180_20, d180_22, d180_23, d180_24, d180_26, d180_27, d180_28, d180_29, d180_30, d180_31, d180_34, d180_35, d180_36, d180_38, d180_41, d180_44, d180_45, d180_46, d180_47, d180_50, d180_53, d180_54, n_lt, n_le, n_eq, n_lt0, n_ge0, n_gt0, n_le0, n_eq0, m_lt, m_le, m_gt, m_ge, m_eq, m_eq', m_lt0, m_ge0, m_gt0, m_le0, m_ltm, m_lem, n_in, m_in, n_cl, n_ti, n_div, n_rem', n_dec, n_l, nI_add, pk_mul, an0, an1, decide_eq_true_eq, if_true, if_false, ite_true, ite_false, and_true, true_and, and_false, false_and, not_true, not_false_iff, or_false, false_or, or_true, true_or, eq_self, va_some, Bool.false_eq_true, reduceIte, catS_n, catS_i, catS_r, catS_l, catS_d, Nat.zero_add, Nat.add_zero, decide_true, decide_false, Nat.reduceLeDiff, cat_r, cat_i, cat_l, nle_T, nle_F, nlt_T, nlt_F, neq_T, neq_F, k0, p0, y1, hnc]
  | succ m ih =>
    intro e h
    have he : e < g (3 + t) := by omega
    have hb := as_b (g := g) (c := c) ht (show e < 6 by omega)
    rw [decide_eq_true he, Bool.true_and] at hb
    have ht1 := b_tst (x := aset g c) (n := 6 * t + e) (by omega)
    rw [hb] at ht1
    have e1 : sm (e + 1) (wS g c t) = sm e (wS g c t) + wS g c t e := rfl
    rw [← ih (e + 1) (by omega), e1, X_go, d180_5]
    unfold wS
    by_cases z : c t e = true
    · rw [if_pos z] at ht1
      simp (disch := first | assumption | omega) only [Nat.reduceAdd, X_go, go2_some, stp, ldI, ldA, ldL, stI, stA, stL, o1I, o2I, o2L, brI, brII, gl, s1, s2, k1, sl, go_sN, go_sR, go_CT, go_sT, go_no, go_if, pops, bk_v, bk_0, d180_0, d180_1, d180_2, d180_3, d180_7, d180_8, d180_11, d180_12, d180_13, d180_14, d180_15, d180_18, d180_19, d180_20, d180_22, d180_23, d180_24, d180_26, d180_27, d180_28, d180_29, d180_30, d180_31, d180_34, d180_35, d180_36, d180_38, d180_41, d180_44, d180_45, d180_46, d180_47, d180_50, d180_53, d180_54, n_lt, n_le, n_eq, n_lt0, n_ge0, n_gt0, n_le0, n_eq0, m_lt, m_le, m_gt, m_ge, m_eq, m_eq', m_lt0, m_ge0, m_gt0, m_le0, m_ltm, m_lem, n_in, m_in, n_cl, n_ti, n_div, n_rem', n_dec, n_l, nI_add, pk_mul, an0, an1, decide_eq_true_eq, if_true, if_false, ite_true, ite_false, and_true, true_and, and_false, false_and, not_true, not_false_iff, or_false, false_or, or_true, true_or, eq_self, va_some, Bool.false_eq_true, reduceIte, catS_n, catS_i, catS_r, catS_l, catS_d, Nat.zero_add, Nat.add_zero, decide_true, decide_false, Nat.reduceLeDiff, cat_r, cat_i, cat_l, nle_T, nle_F, nlt_T, nlt_F, neq_T, neq_F, k0, p0, y1, hnc, ht1, c172 hM hn hv hl, z]
      done
    · rw [if_neg z] at ht1
      simp (disch := first | assumption | omega) only [Nat.reduceAdd, X_go, go2_some, stp, ldI, ldA, ldL, stI, stA, stL, o1I, o2I, o2L, brI, brII, gl, s1, s2, k1, sl, go_sN, go_sR, go_CT, go_sT, go_no, go_if, pops, bk_v, bk_0, d180_0, d180_1, d180_2, d180_3, d180_7, d180_8, d180_11, d180_12, d180_13, d180_14, d180_15, d180_18, d180_19, d180_20, d180_22, d180_23, d180_24, d180_26, d180_27, d180_28, d180_29, d180_30, d180_31, d180_34, d180_35, d180_36, d180_38, d180_41, d180_44, d180_45, d180_46, d180_47, d180_50, d180_53, d180_54, n_lt, n_le, n_eq, n_lt0, n_ge0, n_gt0, n_le0, n_eq0, m_lt, m_le, m_gt, m_ge, m_eq, m_eq', m_lt0, m_ge0, m_gt0, m_le0, m_ltm, m_lem, n_in, m_in, n_cl, n_ti, n_div, n_rem', n_dec, n_l, nI_add, pk_mul, an0, an1, decide_eq_true_eq, if_true, if_false, ite_true, ite_false, and_true, true_and, and_false, false_and, not_true, not_false_iff, or_false, false_or, or_true, true_or, eq_self, va_some, Bool.false_eq_true, reduceIte, catS_n, catS_i, catS_r, catS_l, catS_d, Nat.zero_add, Nat.add_zero, decide_true, decide_false, Nat.reduceLeDiff, cat_r, cat_i, cat_l, nle_T, nle_F, nlt_T, nlt_F, neq_T, neq_F, k0, p0, y1, hnc, ht1, c172 hM hn hv hl, z]
      done
theorem c180 {d : Nat} {P : MP} {I : MI} {L : ML} {C : MC} {Q : QT} {g : GS} {c : Nat → Nat → Bool} {t : Nat} (hM : MB P) (hn : NR I g) (hv : TV g) (hl : LV g) (hd : 5 ≤ d) (ht : t < 3) : CT d 180 [.ref 150, .int (nI t), .int (aset g c)] P I L C Q = Q (.inl (some (.int (nI (sm (g (3 + t)) (wS g c t)))))) P I L C := by
  have h := f180 (d := d - 1) (L := L) (C := C) (Q := Q) (c := c) hM hn hv hl ht (by omega) (g (3 + t)) 0 (by omega)
  rw [CT_e (mj := 180) (e := [.ref 150, .int (nI t), .int (aset g c), UN, UN]) (by omega) rfl (Nat.le_of_ble_eq_true rfl)]
  simp (disch := first | assumption | omega) only [Nat.reduceAdd, X_go, go2_some, stp, ldI, ldA, ldL, stI, stA, stL, o1I, o2I, o2L, brI, brII, gl, s1, s2, k1, sl, go_sN, go_sR, go_CT, go_sT, go_no, go_if, pops, bk_v, bk_0, d180_0, d180_1, d180_2, d180_3, d180_7, d180_8, d180_11, d180_12, d180_13, d180_14, d180_15, d180_18, d180_19, d180_20, d180_22, d180_23, d180_24, d180_26, d180_27, d180_28, d180_29, d180_30, d180_31, d180_34, d180_35, d180_36, d180_38, d180_41, d180_44, d180_45, d180_46, d180_47, d180_50, d180_53, d180_54, n_lt, n_le, n_eq, n_lt0, n_ge0, n_gt0, n_le0, n_eq0, m_lt, m_le, m_gt, m_ge, m_eq, m_eq', m_lt0, m_ge0, m_gt0, m_le0, m_ltm, m_lem, n_in, m_in, n_cl, n_ti, n_div, n_rem', n_dec, n_l, nI_add, pk_mul, an0, an1, decide_eq_true_eq, if_true, if_false, ite_true, ite_false, and_true, true_and, and_false, false_and, not_true, not_false_iff, or_false, false_or, or_true, true_or, eq_self, va_some, Bool.false_eq_true, reduceIte, catS_n, catS_i, catS_r, catS_l, catS_d, Nat.zero_add, Nat.add_zero, decide_true, decide_false, Nat.reduceLeDiff, cat_r, cat_i, cat_l, nle_T, nle_F, nlt_T, nlt_F, neq_T, neq_F]
  simp only [← X_go]
  exact h
theorem d194_0 : dec 194 0 = some (.aload_n 0, 1, []) := rfl
theorem d194_1 : dec 194 1 = some (.iload_n 2, 1, []) := rfl
theorem d194_2 : dec 194 2 = some (.iload_n 3, 1, []) := rfl
theorem d194_3 : dec 194 3 = some (.iconst 3, 1, [3]) := rfl
theorem d194_4 : dec 194 4 = some (.invokevirtual 107, 3, [2, 167, 2, 10, 0, 1131, 0, 0, 0]) := rfl
theorem d194_7 : dec 194 7 = some (.istore 4, 2, []) := rfl
theorem d194_9 : dec 194 9 = some (.iload 4, 2, []) := rfl
theorem d194_11 : dec 194 11 = some (.ifCond .ne 7, 3, [18]) := rfl
theorem d194_14 : dec 194 14 = some (.iload_n 1, 1, []) := rfl
theorem d194_15 : dec 194 15 = some (.goto 15, 3, [30]) := rfl
theorem d194_18 : dec 194 18 = some (.iload_n 1, 1, []) := rfl
theorem d194_19 : dec 194 19 = some (.iconst 1, 1, [1]) := rfl
theorem d194_20 : dec 194 20 = some (.iconst 3, 1, [3]) := rfl
theorem d194_21 : dec 194 21 = some (.iload_n 2, 1, []) := rfl
theorem d194_22 : dec 194 22 = some (.imul, 1, []) := rfl
theorem d194_23 : dec 194 23 = some (.iload 4, 2, []) := rfl
theorem d194_25 : dec 194 25 = some (.iadd, 1, []) := rfl
theorem d194_26 : dec 194 26 = some (.iconst 1, 1, [1]) := rfl
theorem d194_27 : dec 194 27 = some (.isub, 1, []) := rfl
theorem d194_28 : dec 194 28 = some (.ishl, 1, []) := rfl
theorem d194_29 : dec 194 29 = some (.ior, 1, []) := rfl
theorem d194_30 : dec 194 30 = some (.ireturn, 1, [0]) := rfl
theorem l194 : mL 194 = 5 := rfl
theorem c194 {d : Nat} {P : MP} {I : MI} {L : ML} {C : MC} {Q : QT} {g : GS} {t e : Nat} {y : Int32} (hM : MB P) (hn : NR I g) (hd : 3 ≤ d) (ht : t < 3) (he : e < 6) (h3 : g (cl t e 3) ≤ 3) : CT d 194 [.ref 150, .int y, .int (nI t), .int (nI e)] P I L C Q = Q (.inl (some (.int (if g (cl t e 3) = 0 then y else y ||| (nI 1 <<< (nI (3 * t + g (cl t e 3) - 1) &&& 31)))))) P I L C := by
  have k0 := hM.1.1
  rw [CT_e (mj := 194) (e := [.ref 150, .int y, .int (nI t), .int (nI e), UN]) (by omega) rfl (Nat.le_of_ble_eq_true rfl)]
  by_cases z : g (cl t e 3) = 0
  · simp (disch := first | assumption | omega) only [Nat.reduceAdd, X_go, go2_some, stp, ldI, ldA, ldL, stI, stA, stL, o1I, o2I, o2L, brI, brII, gl, s1, s2, k1, sl, go_sN, go_sR, go_CT, go_sT, go_no, go_if, pops, bk_v, bk_0, d194_0, d194_1, d194_2, d194_3, d194_4, d194_7, d194_9, d194_11, d194_14, d194_15, d194_18, d194_19, d194_20, d194_21, d194_22, d194_23, d194_25, d194_26, d194_27, d194_28, d194_29, d194_30, n_lt, n_le, n_eq, n_lt0, n_ge0, n_gt0, n_le0, n_eq0, m_lt, m_le, m_gt, m_ge, m_eq, m_eq', m_lt0, m_ge0, m_gt0, m_le0, m_ltm, m_lem, n_in, m_in, n_cl, n_ti, n_div, n_rem', n_dec, n_l, nI_add, pk_mul, an0, an1, decide_eq_true_eq, if_true, if_false, ite_true, ite_false, and_true, true_and, and_false, false_and, not_true, not_false_iff, or_false, false_or, or_true, true_or, eq_self, va_some, Bool.false_eq_true, reduceIte, catS_n, catS_i, catS_r, catS_l, catS_d, Nat.zero_add, Nat.add_zero, decide_true, decide_false, Nat.reduceLeDiff, cat_r, cat_i, cat_l, nle_T, nle_F, nlt_T, nlt_F, neq_T, neq_F, k0, c167 hM hn, z]
  · simp (disch := first | assumption | omega) only [Nat.reduceAdd, X_go, go2_some, stp, ldI, ldA, ldL, stI, stA, stL, o1I, o2I, o2L, brI, brII, gl, s1, s2, k1, sl, go_sN, go_sR, go_CT, go_sT, go_no, go_if, pops, bk_v, bk_0, d194_0, d194_1, d194_2, d194_3, d194_4, d194_7, d194_9, d194_11, d194_14, d194_15, d194_18, d194_19, d194_20, d194_21, d194_22, d194_23, d194_25, d194_26, d194_27, d194_28, d194_29, d194_30, n_lt, n_le, n_eq, n_lt0, n_ge0, n_gt0, n_le0, n_eq0, m_lt, m_le, m_gt, m_ge, m_eq, m_eq', m_lt0, m_ge0, m_gt0, m_le0, m_ltm, m_lem, n_in, m_in, n_cl, n_ti, n_div, n_rem', n_dec, n_l, nI_add, pk_mul, an0, an1, decide_eq_true_eq, if_true, if_false, ite_true, ite_false, and_true, true_and, and_false, false_and, not_true, not_false_iff, or_false, false_or, or_true, true_or, eq_self, va_some, Bool.false_eq_true, reduceIte, catS_n, catS_i, catS_r, catS_l, catS_d, Nat.zero_add, Nat.add_zero, decide_true, decide_false, Nat.reduceLeDiff, cat_r, cat_i, cat_l, nle_T, nle_F, nlt_T, nlt_F, neq_T, neq_F, k0, c167 hM hn, z, n_sub]
theorem MGr_w {y : Int32} {gr : SP} {t k : Nat} (hy : MGr y gr) (ht : t < 3) (hk : k ≤ 3) : MGr (if k = 0 then y else y ||| (nI 1 <<< (nI (3 * t + k - 1) &&& 31))) (grW gr t k) := by
  intro t' k' ht' h1 h3
  unfold grW
  by_cases z : k = 0
  · rw [if_pos z, hy t' k' ht' h1 h3, decide_eq_false (show ¬ k ≠ 0 from fun q => q z), Bool.and_false, Bool.false_or]
  · rw [if_neg z, b_or, hy t' k' ht' h1 h3, b_one (by omega) (by omega), decide_eq_true (show k ≠ 0 from z), Bool.and_true, Bool.or_comm]
    congr 1
    exact decide_eq_decide.mpr ⟨fun q => by omega, fun q => by omega⟩
theorem d206_0 : dec 206 0 = some (.aload_n 0, 1, []) := rfl
theorem d206_1 : dec 206 1 = some (.iload_n 2, 1, []) := rfl
theorem d206_2 : dec 206 2 = some (.iload_n 3, 1, []) := rfl
theorem d206_3 : dec 206 3 = some (.iconst 4, 1, [4]) := rfl
theorem d206_4 : dec 206 4 = some (.invokevirtual 107, 3, [2, 167, 2, 10, 0, 1131, 0, 0, 0]) := rfl
theorem d206_7 : dec 206 7 = some (.ifCond .ne 7, 3, [14]) := rfl
theorem d206_10 : dec 206 10 = some (.iload_n 1, 1, []) := rfl
theorem d206_11 : dec 206 11 = some (.goto 13, 3, [24]) := rfl
theorem d206_14 : dec 206 14 = some (.iload_n 1, 1, []) := rfl
theorem d206_15 : dec 206 15 = some (.iconst 1, 1, [1]) := rfl
theorem d206_16 : dec 206 16 = some (.bipush 6, 2, [6]) := rfl
theorem d206_18 : dec 206 18 = some (.iload_n 2, 1, []) := rfl
theorem d206_19 : dec 206 19 = some (.imul, 1, []) := rfl
theorem d206_20 : dec 206 20 = some (.iload_n 3, 1, []) := rfl
theorem d206_21 : dec 206 21 = some (.iadd, 1, []) := rfl
theorem d206_22 : dec 206 22 = some (.ishl, 1, []) := rfl
theorem d206_23 : dec 206 23 = some (.ior, 1, []) := rfl
theorem d206_24 : dec 206 24 = some (.ireturn, 1, [0]) := rfl
theorem l206 : mL 206 = 4 := rfl
theorem c206 {d : Nat} {P : MP} {I : MI} {L : ML} {C : MC} {Q : QT} {g : GS} {t e : Nat} {x : Int32} (hM : MB P) (hn : NR I g) (hd : 3 ≤ d) (ht : t < 3) (he : e < 6) (h4 : g (cl t e 4) ≤ 1) : CT d 206 [.ref 150, .int x, .int (nI t), .int (nI e)] P I L C Q = Q (.inl (some (.int (if g (cl t e 4) = 0 then x else x ||| (nI 1 <<< (nI (6 * t + e) &&& 31)))))) P I L C := by
  have k0 := hM.1.1
  rw [CT_e (mj := 206) (e := [.ref 150, .int x, .int (nI t), .int (nI e)]) (by omega) rfl (Nat.le_of_ble_eq_true rfl)]
  by_cases z : g (cl t e 4) = 0
  · simp (disch := first | assumption | omega) only [Nat.reduceAdd, X_go, go2_some, stp, ldI, ldA, ldL, stI, stA, stL, o1I, o2I, o2L, brI, brII, gl, s1, s2, k1, sl, go_sN, go_sR, go_CT, go_sT, go_no, go_if, pops, bk_v, bk_0, d206_0, d206_1, d206_2, d206_3, d206_4, d206_7, d206_10, d206_11, d206_14, d206_15, d206_16, d206_18, d206_19, d206_20, d206_21, d206_22, d206_23, d206_24, n_lt, n_le, n_eq, n_lt0, n_ge0, n_gt0, n_le0, n_eq0, m_lt, m_le, m_gt, m_ge, m_eq, m_eq', m_lt0, m_ge0, m_gt0, m_le0, m_ltm, m_lem, n_in, m_in, n_cl, n_ti, n_div, n_rem', n_dec, n_l, nI_add, pk_mul, an0, an1, decide_eq_true_eq, if_true, if_false, ite_true, ite_false, and_true, true_and, and_false, false_and, not_true, not_false_iff, or_false, false_or, or_true, true_or, eq_self, va_some, Bool.false_eq_true, reduceIte, catS_n, catS_i, catS_r, catS_l, catS_d, Nat.zero_add, Nat.add_zero, decide_true, decide_false, Nat.reduceLeDiff, cat_r, cat_i, cat_l, nle_T, nle_F, nlt_T, nlt_F, neq_T, neq_F, k0, c167 hM hn, z]
  · simp (disch := first | assumption | omega) only [Nat.reduceAdd, X_go, go2_some, stp, ldI, ldA, ldL, stI, stA, stL, o1I, o2I, o2L, brI, brII, gl, s1, s2, k1, sl, go_sN, go_sR, go_CT, go_sT, go_no, go_if, pops, bk_v, bk_0, d206_0, d206_1, d206_2, d206_3, d206_4, d206_7, d206_10, d206_11, d206_14, d206_15, d206_16, d206_18, d206_19, d206_20, d206_21, d206_22, d206_23, d206_24, n_lt, n_le, n_eq, n_lt0, n_ge0, n_gt0, n_le0, n_eq0, m_lt, m_le, m_gt, m_ge, m_eq, m_eq', m_lt0, m_ge0, m_gt0, m_le0, m_ltm, m_lem, n_in, m_in, n_cl, n_ti, n_div, n_rem', n_dec, n_l, nI_add, pk_mul, an0, an1, decide_eq_true_eq, if_true, if_false, ite_true, ite_false, and_true, true_and, and_false, false_and, not_true, not_false_iff, or_false, false_or, or_true, true_or, eq_self, va_some, Bool.false_eq_true, reduceIte, catS_n, catS_i, catS_r, catS_l, catS_d, Nat.zero_add, Nat.add_zero, decide_true, decide_false, Nat.reduceLeDiff, cat_r, cat_i, cat_l, nle_T, nle_F, nlt_T, nlt_F, neq_T, neq_F, k0, c167 hM hn, z]
theorem MSp_w {g : GS} {x : Int32} {sp : SP} {t e : Nat} (hx : MSp g x sp) (hv : TV g) (ht : t < 3) (he : e < g (3 + t)) : MSp g (if g (cl t e 4) = 0 then x else x ||| (nI 1 <<< (nI (6 * t + e) &&& 31))) (spW g sp t e) := by
  intro t' e' ht' he'
  have hc := hv.2.1 t ht
  have hc' := hv.2.1 t' ht'
  unfold spW
  by_cases z : g (cl t e 4) = 0
  · rw [if_pos z, hx t' e' ht' he', decide_eq_false (show ¬ g (cl t e 4) ≠ 0 from fun q => q z), Bool.and_false, Bool.or_false]
  · rw [if_neg z, b_or, hx t' e' ht' he', b_one (by omega) (by omega), decide_eq_true (show g (cl t e 4) ≠ 0 from z), Bool.and_true]
    congr 1
    exact decide_eq_decide.mpr ⟨fun q => by omega, fun q => by omega⟩
