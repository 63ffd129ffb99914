/-! CALLS of the class: chances -/
/-- the two numbers that are divided by each other, f times at most -/
def eu : Nat → Nat → Nat → Nat
  | 0, a, _ => a
  | f + 1, a, b => if b = 0 then a else eu f b (a % b)
theorem eu_gcd : ∀ k f a b, b < 2 ^ k → 2 * k ≤ f → eu f a b = Nat.gcd a b := by
  intro k
  induction k with
  | zero =>
    intro f a b h hf
    have : b = 0 := by omega
    subst this
    cases f with
    | zero => exact (Nat.gcd_zero_right a).symm
    | succ f => exact (Nat.gcd_zero_right a).symm
  | succ k ih =>
    intro f a b h hf
    obtain ⟨f, rfl⟩ : ∃ f', f = f' + 2 := ⟨f - 2, by omega⟩
    by_cases hb : b = 0
    · subst hb
      exact (Nat.gcd_zero_right a).symm
    · have e1 : eu (f + 2) a b = eu (f + 1) b (a % b) := if_neg hb
      rw [e1, Nat.gcd_comm, Nat.gcd_rec, Nat.gcd_comm]
      by_cases hr : a % b = 0
      · rw [hr, Nat.gcd_zero_right]
        exact if_pos rfl
      · have e2 : eu (f + 1) b (a % b) = eu f (a % b) (b % (a % b)) := if_neg hr
        have h1 := Nat.mod_lt a (show 0 < b by omega)
        have h2 := Nat.mod_lt b (show 0 < a % b by omega)
        have h3 : b % (a % b) ≤ b - a % b := by
          have := Nat.mod_eq_sub_mod (show a % b ≤ b by omega)
          rw [this]
          exact Nat.mod_le _ _
        have h4 : (2 : Nat) ^ (k + 1) = 2 ^ k + 2 ^ k := by rw [Nat.pow_succ, Nat.mul_two]
        rw [e2, ih f (a % b) (b % (a % b)) (by omega) (by omega), Nat.gcd_comm b, Nat.gcd_rec (a % b) b, Nat.gcd_comm]
theorem d132_0 : dec 132 0 = some (.iload_n 0, 1, []) := rfl
theorem d132_1 : dec 132 1 = some (.istore_n 2, 1, []) := rfl
theorem d132_2 : dec 132 2 = some (.iload_n 1, 1, []) := rfl
theorem d132_3 : dec 132 3 = some (.istore_n 3, 1, []) := rfl
theorem d132_4 : dec 132 4 = some (.iconst 0, 1, [0]) := rfl
theorem d132_5 : dec 132 5 = some (.istore 4, 2, []) := rfl
theorem d132_7 : dec 132 7 = some (.iload 4, 2, []) := rfl
theorem d132_9 : dec 132 9 = some (.bipush 64, 2, [64]) := rfl
theorem d132_11 : dec 132 11 = some (.if_icmp .ge 23, 3, [34]) := rfl
theorem d132_14 : dec 132 14 = some (.iload_n 3, 1, []) := rfl
theorem d132_15 : dec 132 15 = some (.ifCond .le 19, 3, [34]) := rfl
theorem d132_18 : dec 132 18 = some (.iload_n 2, 1, []) := rfl
theorem d132_19 : dec 132 19 = some (.iload_n 3, 1, []) := rfl
theorem d132_20 : dec 132 20 = some (.irem, 1, []) := rfl
theorem d132_21 : dec 132 21 = some (.istore 5, 2, []) := rfl
theorem d132_23 : dec 132 23 = some (.iload_n 3, 1, []) := rfl
theorem d132_24 : dec 132 24 = some (.istore_n 2, 1, []) := rfl
theorem d132_25 : dec 132 25 = some (.iload 5, 2, []) := rfl
theorem d132_27 : dec 132 27 = some (.istore_n 3, 1, []) := rfl
theorem d132_28 : dec 132 28 = some (.iinc 4 1, 3, [1]) := rfl
theorem d132_31 : dec 132 31 = some (.goto (-24), 3, [7]) := rfl
theorem d132_34 : dec 132 34 = some (.iload_n 2, 1, []) := rfl
theorem d132_35 : dec 132 35 = some (.ireturn, 1, [0]) := rfl
theorem l132 : mL 132 = 6 := rfl
theorem f132 {d : Nat} {P : MP} {I : MI} {L : ML} {C : MC} {Q : QT} {x y : Int32} : ∀ m i a b (u : Value), i + m = 64 → a < 2147483648 → b < 2147483648 → X d 132 7 [.int x, .int y, .int (nI a), .int (nI b), .int (nI i), u] [] P I L C Q = Q (.inl (some (.int (nI (eu m a b))))) P I L C := by
  intro m
  induction m with
  | zero =>
    intro i a b u hi ha hb
    have : i = 64 := by omega
    subst this
    have e : eu 0 a b = a := rfl
    rw [X_go, d132_7]
    simp (disch := first | assumption | omega) only [Nat.reduceAdd, X_go, go2_some, stp, ldI, ldA, ldL, stI, stA, stL, o1I, o2I, o2L, brI, brII, gl, s1, s2, k1, sl, go_sN, go_sR, go_CT, go_sT, go_no, go_if, pops, bk_v, bk_0, d132_0, d132_1, d132_2, d132_3, d132_4, d132_5, d132_9, d132_11, d132_14, d132_15, d132_18, d132_19, d132_20, d132_21, d132_23, d132_24, d132_25, d132_27, d132_28, d132_31, d132_34, d132_35, n_lt, n_le, n_eq, n_lt0, n_ge0, n_gt0, n_le0, n_eq0, m_lt, m_le, m_gt, m_ge, m_eq, m_eq', m_lt0, m_ge0, m_gt0, m_le0, m_ltm, m_lem, n_in, m_in, n_cl, n_ti, n_div, n_rem', n_dec, n_l, nI_add, pk_mul, an0, an1, decide_eq_true_eq, if_true, if_false, ite_true, ite_false, and_true, true_and, and_false, false_and, not_true, not_false_iff, or_false, false_or, or_true, true_or, eq_self, va_some, Bool.false_eq_true, reduceIte, catS_n, catS_i, catS_r, catS_l, catS_d, Nat.zero_add, Nat.add_zero, decide_true, decide_false, Nat.reduceLeDiff, cat_r, cat_i, cat_l, nle_T, nle_F, nlt_T, nlt_F, neq_T, neq_F, e]
  | succ m ih =>
    intro i a b u hi ha hb
    by_cases z : b = 0
    · subst z
      have e : eu (m + 1) a 0 = a := if_pos rfl
      rw [X_go, d132_7]
      simp (disch := first | assumption | omega) only [Nat.reduceAdd, X_go, go2_some, stp, ldI, ldA, ldL, stI, stA, stL, o1I, o2I, o2L, brI, brII, gl, s1, s2, k1, sl, go_sN, go_sR, go_CT, go_sT, go_no, go_if, pops, bk_v, bk_0, d132_0, d132_1, d132_2, d132_3, d132_4, d132_5, d132_9, d132_11, d132_14, d132_15, d132_18, d132_19, d132_20, d132_21, d132_23, d132_24, d132_25, d132_27, d132_28, d132_31, d132_34, d132_35, n_lt, n_le, n_eq, n_lt0, n_ge0, n_gt0, n_le0, n_eq0, m_lt, m_le, m_gt, m_ge, m_eq, m_eq', m_lt0, m_ge0, m_gt0, m_le0, m_ltm, m_lem, n_in, m_in, n_cl, n_ti, n_div, n_rem', n_dec, n_l, nI_add, pk_mul, an0, an1, decide_eq_true_eq, if_true, if_false, ite_true, ite_false, and_true, true_and, and_false, false_and, not_true, not_false_iff, or_false, false_or, or_true, true_or, eq_self, va_some, Bool.false_eq_true, reduceIte, catS_n, catS_i, catS_r, catS_l, catS_d, Nat.zero_add, Nat.add_zero, decide_true, decide_false, Nat.reduceLeDiff, cat_r, cat_i, cat_l, nle_T, nle_F, nlt_T, nlt_F, neq_T, neq_F, e]
    · have e : eu (m + 1) a b = eu m b (a % b) := if_neg z
      have hm := Nat.mod_lt a (show 0 < b by omega)
      have ih := ih (i + 1) b (a % b) (.int (nI (a % b))) (by omega) hb (by omega)
      rw [X_go, d132_7]
      simp (disch := first | assumption | omega) only [Nat.reduceAdd, X_go, go2_some, stp, ldI, ldA, ldL, stI, stA, stL, o1I, o2I, o2L, brI, brII, gl, s1, s2, k1, sl, go_sN, go_sR, go_CT, go_sT, go_no, go_if, pops, bk_v, bk_0, d132_0, d132_1, d132_2, d132_3, d132_4, d132_5, d132_9, d132_11, d132_14, d132_15, d132_18, d132_19, d132_20, d132_21, d132_23, d132_24, d132_25, d132_27, d132_28, d132_31, d132_34, d132_35, n_lt, n_le, n_eq, n_lt0, n_ge0, n_gt0, n_le0, n_eq0, m_lt, m_le, m_gt, m_ge, m_eq, m_eq', m_lt0, m_ge0, m_gt0, m_le0, m_ltm, m_lem, n_in, m_in, n_cl, n_ti, n_div, n_rem', n_dec, n_l, nI_add, pk_mul, an0, an1, decide_eq_true_eq, if_true, if_false, ite_true, ite_false, and_true, true_and, and_false, false_and, not_true, not_false_iff, or_false, false_or, or_true, true_or, eq_self, va_some, Bool.false_eq_true, reduceIte, catS_n, catS_i, catS_r, catS_l, catS_d, Nat.zero_add, Nat.add_zero, decide_true, decide_false, Nat.reduceLeDiff, cat_r, cat_i, cat_l, nle_T, nle_F, nlt_T, nlt_F, neq_T, neq_F, e]
      simp only [← X_go]
      exact ih
theorem c132 {d : Nat} {P : MP} {I : MI} {L : ML} {C : MC} {Q : QT} {a b : Nat} (hd : 1 ≤ d) (ha : a < 2147483648) (hb : b < 2147483648) : CT d 132 [.int (nI a), .int (nI b)] P I L C Q = Q (.inl (some (.int (nI (Nat.gcd a b))))) P I L C := by
  rw [← eu_gcd 31 64 a b hb (by omega)]
  rw [CT_e (mj := 132) (e := [.int (nI a), .int (nI b), UN, UN, UN, UN]) (by omega) rfl (Nat.le_of_ble_eq_true rfl)]
  have h := f132 (d := d - 1) (I := I) (L := L) (C := C) (Q := Q) (P := P) (x := nI a) (y := nI b) 64 0 a b UN (by omega) ha hb
  simp (disch := first | assumption | omega) only [Nat.reduceAdd, X_go, go2_some, stp, ldI, ldA, ldL, stI, stA, stL, o1I, o2I, o2L, brI, brII, gl, s1, s2, k1, sl, go_sN, go_sR, go_CT, go_sT, go_no, go_if, pops, bk_v, bk_0, d132_0, d132_1, d132_2, d132_3, d132_4, d132_5, d132_9, d132_11, d132_14, d132_15, d132_18, d132_19, d132_20, d132_21, d132_23, d132_24, d132_25, d132_27, d132_28, d132_31, d132_34, d132_35, n_lt, n_le, n_eq, n_lt0, n_ge0, n_gt0, n_le0, n_eq0, m_lt, m_le, m_gt, m_ge, m_eq, m_eq', m_lt0, m_ge0, m_gt0, m_le0, m_ltm, m_lem, n_in, m_in, n_cl, n_ti, n_div, n_rem', n_dec, n_l, nI_add, pk_mul, an0, an1, decide_eq_true_eq, if_true, if_false, ite_true, ite_false, and_true, true_and, and_false, false_and, not_true, not_false_iff, or_false, false_or, or_true, true_or, eq_self, va_some, Bool.false_eq_true, reduceIte, catS_n, catS_i, catS_r, catS_l, catS_d, Nat.zero_add, Nat.add_zero, decide_true, decide_false, Nat.reduceLeDiff, cat_r, cat_i, cat_l, nle_T, nle_F, nlt_T, nlt_F, neq_T, neq_F]
  simp only [← X_go]
  exact h
/-- a part of a whole, in lowest terms -/
def frV (a b : Nat) (below : Nat) : Nat := if a = 0 then (if below = 0 then 0 else 1) else if below = 0 then a / Nat.gcd a b else b / Nat.gcd a b
theorem d131_0 : dec 131 0 = some (.aload_n 0, 1, []) := rfl
theorem d131_1 : dec 131 1 = some (.iload_n 1, 1, []) := rfl
theorem d131_2 : dec 131 2 = some (.iload_n 2, 1, []) := rfl
theorem d131_3 : dec 131 3 = some (.invokevirtual 113, 3, [2, 93, 2, 9, 0, 590, 0, 0]) := rfl
theorem d131_6 : dec 131 6 = some (.aload_n 0, 1, []) := rfl
theorem d131_7 : dec 131 7 = some (.iload_n 1, 1, []) := rfl
theorem d131_8 : dec 131 8 = some (.invokevirtual 189, 3, [2, 63, 2, 9, 0, 532, 0]) := rfl
theorem d131_11 : dec 131 11 = some (.aload_n 0, 1, []) := rfl
theorem d131_12 : dec 131 12 = some (.getfield 50, 3, [1, 9, 6, 2, 0, 273]) := rfl
theorem d131_15 : dec 131 15 = some (.iload_n 1, 1, []) := rfl
theorem d131_16 : dec 131 16 = some (.iload_n 2, 1, []) := rfl
theorem d131_17 : dec 131 17 = some (.invokestatic 124, 3, [2, 27, 0, 9, 0, 599, 0, 0]) := rfl
theorem d131_20 : dec 131 20 = some (.invokevirtual 192, 3, [2, 74, 2, 1, 0, 601, 0]) := rfl
theorem d131_23 : dec 131 23 = some (.istore 4, 2, []) := rfl
theorem d131_25 : dec 131 25 = some (.aload_n 0, 1, []) := rfl
theorem d131_26 : dec 131 26 = some (.getfield 50, 3, [1, 9, 6, 2, 0, 273]) := rfl
theorem d131_29 : dec 131 29 = some (.iload_n 1, 1, []) := rfl
theorem d131_30 : dec 131 30 = some (.invokevirtual 195, 3, [2, 70, 2, 1, 0, 581, 0]) := rfl
theorem d131_33 : dec 131 33 = some (.istore 5, 2, []) := rfl
theorem d131_35 : dec 131 35 = some (.iload 4, 2, []) := rfl
theorem d131_37 : dec 131 37 = some (.iload 5, 2, []) := rfl
theorem d131_39 : dec 131 39 = some (.invokestatic 198, 3, [2, 132, 0, 9, 0, 809, 0, 0]) := rfl
theorem d131_42 : dec 131 42 = some (.istore 6, 2, []) := rfl
theorem d131_44 : dec 131 44 = some (.iload 4, 2, []) := rfl
theorem d131_46 : dec 131 46 = some (.ifCond .le 8, 3, [54]) := rfl
theorem d131_49 : dec 131 49 = some (.iload 6, 2, []) := rfl
theorem d131_51 : dec 131 51 = some (.ifCond .gt 13, 3, [64]) := rfl
theorem d131_54 : dec 131 54 = some (.iload_n 3, 1, []) := rfl
theorem d131_55 : dec 131 55 = some (.ifCond .eq 7, 3, [62]) := rfl
theorem d131_58 : dec 131 58 = some (.iconst 1, 1, [1]) := rfl
theorem d131_59 : dec 131 59 = some (.goto 4, 3, [63]) := rfl
theorem d131_62 : dec 131 62 = some (.iconst 0, 1, [0]) := rfl
theorem d131_63 : dec 131 63 = some (.ireturn, 1, [0]) := rfl
theorem d131_64 : dec 131 64 = some (.iload_n 3, 1, []) := rfl
theorem d131_65 : dec 131 65 = some (.ifCond .eq 11, 3, [76]) := rfl
theorem d131_68 : dec 131 68 = some (.iload 5, 2, []) := rfl
theorem d131_70 : dec 131 70 = some (.iload 6, 2, []) := rfl
theorem d131_72 : dec 131 72 = some (.idiv, 1, []) := rfl
theorem d131_73 : dec 131 73 = some (.goto 8, 3, [81]) := rfl
theorem d131_76 : dec 131 76 = some (.iload 4, 2, []) := rfl
theorem d131_78 : dec 131 78 = some (.iload 6, 2, []) := rfl
theorem d131_80 : dec 131 80 = some (.idiv, 1, []) := rfl
theorem d131_81 : dec 131 81 = some (.ireturn, 1, [0]) := rfl
theorem l131 : mL 131 = 7 := rfl
theorem x131 : (mG 131).2.2.2.2 = [] := rfl
theorem c131 {d : Nat} {P : MP} {I : MI} {L : ML} {C : MC} {t e w : Nat} {B n len : Nat} {g : GS} {ps : Nat → GS} {tx : Nat → Nat} (hX : XB P) (hR : XR I L g n ps len tx) (hA : AV B g n ps len tx) (hd : 12 ≤ d) (ht : t < 3) (he : e < g (3 + t)) (hw : w ≤ 1) : ∃ I', XR I' L g n ps len tx ∧ fo I I' ∧ ∀ Q, CT d 131 [.ref 1, .int (nI t), .int (nI e), .int (nI w)] P I L C Q = Q (.inl (some (.int (nI (frV (fw g t e) (fs g t) w))))) P I' L C := by
  have hX' := hX
  obtain ⟨k0, ⟨p0, p1, p2, p3, p4, p5, p6, p7, p8⟩, hS, hS2, hV, ⟨x0, x1, x2⟩, hT2, hO, hD, hH, hH2⟩ := hX'
  have hS' := hS
  obtain ⟨l0, r0, r1, r2, hT, hK, hF⟩ := hS'
  have hT' := hT
  have hK' := hK
  have hF' := hF
  have hR' := hR
  have hA' := hA
  obtain ⟨⟨m0, q0, q1, q2, q3, q4, q5, q6, q7⟩, z1, z2, z3, z4, z5, z6, z7, z8⟩ := hT'
  obtain ⟨w0, w1, w2, w3, w4⟩ := hK'
  obtain ⟨f0, f1, f2, f3, f4, f5, f6, f7, f8⟩ := hF'
  obtain ⟨hg, hVR, hXT, hCC⟩ := hR'
  obtain ⟨hGV, hps, hn4, hlen, htx⟩ := hA'
  have h140 := GV_140 hGV
  have hv := hGV.1
  have hl := hGV.2.1
  have hFv := hGV.2.2
  have hc := hv.2.1 t ht
  have hD0 := hD.1
  obtain ⟨I', i1, i2, ⟨i3, i4, i5⟩, i6⟩ := c63 (d := d - 1) (C := C) hX hR hA (by omega) ht
  have i5 := i5 e he
  have hb : fw g t e ≤ 102000 := wt_b (q := fq g t) (sp := spG g) (gr := noG) hv hl ht he
  have hsb : fs g t ≤ 612000 := sw_b (q := fq g t) (sp := spG g) (gr := noG) hv hl ht
  refine ⟨I', i1, i2, fun Q => ?_⟩
  rw [CT_e (mj := 131) (e := [.ref 1, .int (nI t), .int (nI e), .int (nI w), UN, UN, UN]) (by omega) rfl (Nat.le_of_ble_eq_true rfl)]
  unfold frV
  by_cases z : fw g t e = 0
  · by_cases y : w = 0
    · simp (disch := first | assumption | omega) only [Nat.reduceAdd, X_go, go2_some, stp, ldI, ldA, ldL, stI, stA, stL, o1I, o2I, o2L, brI, brII, gl, s1, s2, k1, sl, go_sN, go_sR, go_CT, go_sT, go_no, go_if, pops, bk_v, bk_0, d131_0, d131_1, d131_2, d131_3, d131_6, d131_7, d131_8, d131_11, d131_12, d131_15, d131_16, d131_17, d131_20, d131_23, d131_25, d131_26, d131_29, d131_30, d131_33, d131_35, d131_37, d131_39, d131_42, d131_44, d131_46, d131_49, d131_51, d131_54, d131_55, d131_58, d131_59, d131_62, d131_63, d131_64, d131_65, d131_68, d131_70, d131_72, d131_73, d131_76, d131_78, d131_80, d131_81, n_lt, n_le, n_eq, n_lt0, n_ge0, n_gt0, n_le0, n_eq0, m_lt, m_le, m_gt, m_ge, m_eq, m_eq', m_lt0, m_ge0, m_gt0, m_le0, m_ltm, m_lem, n_in, m_in, n_cl, n_ti, n_div, n_rem', n_dec, n_l, nI_add, pk_mul, an0, an1, decide_eq_true_eq, if_true, if_false, ite_true, ite_false, and_true, true_and, and_false, false_and, not_true, not_false_iff, or_false, false_or, or_true, true_or, eq_self, va_some, Bool.false_eq_true, reduceIte, catS_n, catS_i, catS_r, catS_l, catS_d, Nat.zero_add, Nat.add_zero, decide_true, decide_false, Nat.reduceLeDiff, cat_r, cat_i, cat_l, nle_T, nle_F, nlt_T, nlt_F, neq_T, neq_F, k0, p0, p1, p2, p3, p4, p5, p6, p7, p8, x0, x1, x2, l0, r0, r1, r2, m0, q0, q1, q2, q3, q4, q5, q6, q7, w0, w1, w2, f0, f1, f2, f3, f4, c93 hX hg hv, i6, hD0, c27, c74 hD, c70 hD, i5, i4, c132, z, y]
    · simp (disch := first | assumption | omega) only [Nat.reduceAdd, X_go, go2_some, stp, ldI, ldA, ldL, stI, stA, stL, o1I, o2I, o2L, brI, brII, gl, s1, s2, k1, sl, go_sN, go_sR, go_CT, go_sT, go_no, go_if, pops, bk_v, bk_0, d131_0, d131_1, d131_2, d131_3, d131_6, d131_7, d131_8, d131_11, d131_12, d131_15, d131_16, d131_17, d131_20, d131_23, d131_25, d131_26, d131_29, d131_30, d131_33, d131_35, d131_37, d131_39, d131_42, d131_44, d131_46, d131_49, d131_51, d131_54, d131_55, d131_58, d131_59, d131_62, d131_63, d131_64, d131_65, d131_68, d131_70, d131_72, d131_73, d131_76, d131_78, d131_80, d131_81, n_lt, n_le, n_eq, n_lt0, n_ge0, n_gt0, n_le0, n_eq0, m_lt, m_le, m_gt, m_ge, m_eq, m_eq', m_lt0, m_ge0, m_gt0, m_le0, m_ltm, m_lem, n_in, m_in, n_cl, n_ti, n_div, n_rem', n_dec, n_l, nI_add, pk_mul, an0, an1, decide_eq_true_eq, if_true, if_false, ite_true, ite_false, and_true, true_and, and_false, false_and, not_true, not_false_iff, or_false, false_or, or_true, true_or, eq_self, va_some, Bool.false_eq_true, reduceIte, catS_n, catS_i, catS_r, catS_l, catS_d, Nat.zero_add, Nat.add_zero, decide_true, decide_false, Nat.reduceLeDiff, cat_r, cat_i, cat_l, nle_T, nle_F, nlt_T, nlt_F, neq_T, neq_F, k0, p0, p1, p2, p3, p4, p5, p6, p7, p8, x0, x1, x2, l0, r0, r1, r2, m0, q0, q1, q2, q3, q4, q5, q6, q7, w0, w1, w2, f0, f1, f2, f3, f4, c93 hX hg hv, i6, hD0, c27, c74 hD, c70 hD, i5, i4, c132, z, y]
  · have hgp : 0 < Nat.gcd (fw g t e) (fs g t) := Nat.gcd_pos_of_pos_left _ (by omega)
    have hgl : Nat.gcd (fw g t e) (fs g t) ≤ fw g t e := Nat.gcd_le_left _ (by omega)
    by_cases y : w = 0
    · simp (disch := first | assumption | omega) only [Nat.reduceAdd, X_go, go2_some, stp, ldI, ldA, ldL, stI, stA, stL, o1I, o2I, o2L, brI, brII, gl, s1, s2, k1, sl, go_sN, go_sR, go_CT, go_sT, go_no, go_if, pops, bk_v, bk_0, d131_0, d131_1, d131_2, d131_3, d131_6, d131_7, d131_8, d131_11, d131_12, d131_15, d131_16, d131_17, d131_20, d131_23, d131_25, d131_26, d131_29, d131_30, d131_33, d131_35, d131_37, d131_39, d131_42, d131_44, d131_46, d131_49, d131_51, d131_54, d131_55, d131_58, d131_59, d131_62, d131_63, d131_64, d131_65, d131_68, d131_70, d131_72, d131_73, d131_76, d131_78, d131_80, d131_81, n_lt, n_le, n_eq, n_lt0, n_ge0, n_gt0, n_le0, n_eq0, m_lt, m_le, m_gt, m_ge, m_eq, m_eq', m_lt0, m_ge0, m_gt0, m_le0, m_ltm, m_lem, n_in, m_in, n_cl, n_ti, n_div, n_rem', n_dec, n_l, nI_add, pk_mul, an0, an1, decide_eq_true_eq, if_true, if_false, ite_true, ite_false, and_true, true_and, and_false, false_and, not_true, not_false_iff, or_false, false_or, or_true, true_or, eq_self, va_some, Bool.false_eq_true, reduceIte, catS_n, catS_i, catS_r, catS_l, catS_d, Nat.zero_add, Nat.add_zero, decide_true, decide_false, Nat.reduceLeDiff, cat_r, cat_i, cat_l, nle_T, nle_F, nlt_T, nlt_F, neq_T, neq_F, k0, p0, p1, p2, p3, p4, p5, p6, p7, p8, x0, x1, x2, l0, r0, r1, r2, m0, q0, q1, q2, q3, q4, q5, q6, q7, w0, w1, w2, f0, f1, f2, f3, f4, c93 hX hg hv, i6, hD0, c27, c74 hD, c70 hD, i5, i4, c132, z, y]
    · simp (disch := first | assumption | omega) only [Nat.reduceAdd, X_go, go2_some, stp, ldI, ldA, ldL, stI, stA, stL, o1I, o2I, o2L, brI, brII, gl, s1, s2, k1, sl, go_sN, go_sR, go_CT, go_sT, go_no, go_if, pops, bk_v, bk_0, d131_0, d131_1, d131_2, d131_3, d131_6, d131_7, d131_8, d131_11, d131_12, d131_15, d131_16, d131_17, d131_20, d131_23, d131_25, d131_26, d131_29, d131_30, d131_33, d131_35, d131_37, d131_39, d131_42, d131_44, d131_46, d131_49, d131_51, d131_54, d131_55, d131_58, d131_59, d131_62, d131_63, d131_64, d131_65, d131_68, d131_70, d131_72, d131_73, d131_76, d131_78, d131_80, d131_81, n_lt, n_le, n_eq, n_lt0, n_ge0, n_gt0, n_le0, n_eq0, m_lt, m_le, m_gt, m_ge, m_eq, m_eq', m_lt0, m_ge0, m_gt0, m_le0, m_ltm, m_lem, n_in, m_in, n_cl, n_ti, n_div, n_rem', n_dec, n_l, nI_add, pk_mul, an0, an1, decide_eq_true_eq, if_true, if_false, ite_true, ite_false, and_true, true_and, and_false, false_and, not_true, not_false_iff, or_false, false_or, or_true, true_or, eq_self, va_some, Bool.false_eq_true, reduceIte, catS_n, catS_i, catS_r, catS_l, catS_d, Nat.zero_add, Nat.add_zero, decide_true, decide_false, Nat.reduceLeDiff, cat_r, cat_i, cat_l, nle_T, nle_F, nlt_T, nlt_F, neq_T, neq_F, k0, p0, p1, p2, p3, p4, p5, p6, p7, p8, x0, x1, x2, l0, r0, r1, r2, m0, q0, q1, q2, q3, q4, q5, q6, q7, w0, w1, w2, f0, f1, f2, f3, f4, c93 hX hg hv, i6, hD0, c27, c74 hD, c70 hD, i5, i4, c132, z, y]
theorem c131b {d : Nat} {P : MP} {I : MI} {L : ML} {C : MC} {Q : QT} {x y z : Int32} (hX : XB P) (hd : 8 ≤ d) (hx : x < 0 ∨ nI 3 ≤ x) : CT d 131 [.ref 1, .int x, .int y, .int z] P I L C Q = Q (.inr 0) P I L (C.1 + 1, C.2 + 6) := by
  have k0 := hX.1
  rw [CT_e (mj := 131) (e := [.ref 1, .int x, .int y, .int z, UN, UN, UN]) (by omega) rfl (Nat.le_of_ble_eq_true rfl)]
  simp (disch := first | assumption | omega) only [Nat.reduceAdd, X_go, go2_some, stp, ldI, ldA, ldL, stI, stA, stL, o1I, o2I, o2L, brI, brII, gl, s1, s2, k1, sl, go_sN, go_sR, go_CT, go_sT, go_no, go_if, pops, bk_v, bk_0, d131_0, d131_1, d131_2, d131_3, d131_6, d131_7, d131_8, d131_11, d131_12, d131_15, d131_16, d131_17, d131_20, d131_23, d131_25, d131_26, d131_29, d131_30, d131_33, d131_35, d131_37, d131_39, d131_42, d131_44, d131_46, d131_49, d131_51, d131_54, d131_55, d131_58, d131_59, d131_62, d131_63, d131_64, d131_65, d131_68, d131_70, d131_72, d131_73, d131_76, d131_78, d131_80, d131_81, n_lt, n_le, n_eq, n_lt0, n_ge0, n_gt0, n_le0, n_eq0, m_lt, m_le, m_gt, m_ge, m_eq, m_eq', m_lt0, m_ge0, m_gt0, m_le0, m_ltm, m_lem, n_in, m_in, n_cl, n_ti, n_div, n_rem', n_dec, n_l, nI_add, pk_mul, an0, an1, decide_eq_true_eq, if_true, if_false, ite_true, ite_false, and_true, true_and, and_false, false_and, not_true, not_false_iff, or_false, false_or, or_true, true_or, eq_self, va_some, Bool.false_eq_true, reduceIte, catS_n, catS_i, catS_r, catS_l, catS_d, Nat.zero_add, Nat.add_zero, decide_true, decide_false, Nat.reduceLeDiff, cat_r, cat_i, cat_l, nle_T, nle_F, nlt_T, nlt_F, neq_T, neq_F, k0, c93t hX, bk_x x131]
  done
theorem c131c {d : Nat} {P : MP} {I : MI} {L : ML} {C : MC} {Q : QT} {t : Nat} {y z : Int32} {g : GS} (hX : XB P) (hg : RC I 2 g) (hv : TV g) (hd : 8 ≤ d) (ht : t < 3) (hy : y < 0 ∨ nI (g (3 + t)) ≤ y) : CT d 131 [.ref 1, .int (nI t), .int y, .int z] P I L C Q = Q (.inr 0) P I L (C.1 + 1, C.2 + 6) := by
  have k0 := hX.1
  rw [CT_e (mj := 131) (e := [.ref 1, .int (nI t), .int y, .int z, UN, UN, UN]) (by omega) rfl (Nat.le_of_ble_eq_true rfl)]
  simp (disch := first | assumption | omega) only [Nat.reduceAdd, X_go, go2_some, stp, ldI, ldA, ldL, stI, stA, stL, o1I, o2I, o2L, brI, brII, gl, s1, s2, k1, sl, go_sN, go_sR, go_CT, go_sT, go_no, go_if, pops, bk_v, bk_0, d131_0, d131_1, d131_2, d131_3, d131_6, d131_7, d131_8, d131_11, d131_12, d131_15, d131_16, d131_17, d131_20, d131_23, d131_25, d131_26, d131_29, d131_30, d131_33, d131_35, d131_37, d131_39, d131_42, d131_44, d131_46, d131_49, d131_51, d131_54, d131_55, d131_58, d131_59, d131_62, d131_63, d131_64, d131_65, d131_68, d131_70, d131_72, d131_73, d131_76, d131_78, d131_80, d131_81, n_lt, n_le, n_eq, n_lt0, n_ge0, n_gt0, n_le0, n_eq0, m_lt, m_le, m_gt, m_ge, m_eq, m_eq', m_lt0, m_ge0, m_gt0, m_le0, m_ltm, m_lem, n_in, m_in, n_cl, n_ti, n_div, n_rem', n_dec, n_l, nI_add, pk_mul, an0, an1, decide_eq_true_eq, if_true, if_false, ite_true, ite_false, and_true, true_and, and_false, false_and, not_true, not_false_iff, or_false, false_or, or_true, true_or, eq_self, va_some, Bool.false_eq_true, reduceIte, catS_n, catS_i, catS_r, catS_l, catS_d, Nat.zero_add, Nat.add_zero, decide_true, decide_false, Nat.reduceLeDiff, cat_r, cat_i, cat_l, nle_T, nle_F, nlt_T, nlt_F, neq_T, neq_F, k0, c93e hX hg hv, bk_x x131]
  done
theorem XR_ch {I I' : MI} {L L' : ML} {g : GS} {n len t : Nat} {ps : Nat → GS} {tx : Nat → Nat} (h : XR I L g n ps len tx) (ht : t < 3) (h6 : I' 130 6 = nI t) (hcl : CL L' 130 (chV g t)) (hf : ∀ k j, k < 130 ∨ 130 + 9 < k → I' k j = I k j) : XR I' L' g n ps len tx :=
  ⟨RC_fr h.1 fun k j _ _ => hf k j (by omega), VR_fr h.2.1 fun k j _ _ => hf k j (by omega), XT_fr h.2.2.1 fun k j _ => hf k j (by omega), ⟨t + 1, by omega, by rw [h6, fI_s], fun _ => hcl⟩⟩
theorem d134_0 : dec 134 0 = some (.iload_n 1, 1, []) := rfl
theorem d134_1 : dec 134 1 = some (.invokestatic 64, 3, [2, 86, 0, 9, 0, 507, 0]) := rfl
theorem d134_4 : dec 134 4 = some (.iload_n 2, 1, []) := rfl
theorem d134_5 : dec 134 5 = some (.invokestatic 183, 3, [2, 129, 0, 9, 0, 798, 0]) := rfl
theorem d134_8 : dec 134 8 = some (.aload_n 0, 1, []) := rfl
theorem d134_9 : dec 134 9 = some (.getfield 57, 3, [1, 9, 7, 2, 0, 274]) := rfl
theorem d134_12 : dec 134 12 = some (.aload_n 0, 1, []) := rfl
theorem d134_13 : dec 134 13 = some (.getfield 12, 3, [1, 9, 0, 2, 0, 267]) := rfl
theorem d134_16 : dec 134 16 = some (.iload_n 1, 1, []) := rfl
theorem d134_17 : dec 134 17 = some (.invokevirtual 201, 3, [2, 75, 2, 0, 0, 819, 0, 2]) := rfl
theorem d134_20 : dec 134 20 = some (.aload_n 0, 1, []) := rfl
theorem d134_21 : dec 134 21 = some (.getfield 57, 3, [1, 9, 7, 2, 0, 274]) := rfl
theorem d134_24 : dec 134 24 = some (.iload_n 2, 1, []) := rfl
theorem d134_25 : dec 134 25 = some (.invokevirtual 205, 3, [2, 135, 2, 0, 0, 851, 0]) := rfl
theorem d134_28 : dec 134 28 = some (.l2i, 1, []) := rfl
theorem d134_29 : dec 134 29 = some (.ireturn, 1, [0]) := rfl
theorem l134 : mL 134 = 3 := rfl
theorem x134 : (mG 134).2.2.2.2 = [] := rfl
theorem c134 {d : Nat} {P : MP} {I : MI} {L : ML} {C : MC} {t i : Nat} {B n len : Nat} {g : GS} {ps : Nat → GS} {tx : Nat → Nat} (hX : XB P) (hR : XR I L g n ps len tx) (hA : AV B g n ps len tx) (hd : 22 ≤ d) (ht : t < 3) (hi : i < 16) : ∃ I' L', XR I' L' g n ps len tx ∧ fo I I' ∧ fo L L' ∧ ∀ Q, CT d 134 [.ref 1, .int (nI t), .int (nI i)] P I L C Q = Q (.inl (some (.int (chV g t i).toInt32))) P I' L' C := by
  have hX' := hX
  obtain ⟨k0, ⟨p0, p1, p2, p3, p4, p5, p6, p7, p8⟩, hS, hS2, hV, ⟨x0, x1, x2⟩, hT2, hO, hD, hH, hH2⟩ := hX'
  have hS' := hS
  obtain ⟨l0, r0, r1, r2, hT, hK, hF⟩ := hS'
  have hT' := hT
  have hK' := hK
  have hF' := hF
  have hR' := hR
  have hA' := hA
  obtain ⟨⟨m0, q0, q1, q2, q3, q4, q5, q6, q7⟩, z1, z2, z3, z4, z5, z6, z7, z8⟩ := hT'
  obtain ⟨w0, w1, w2, w3, w4⟩ := hK'
  obtain ⟨f0, f1, f2, f3, f4, f5, f6, f7, f8⟩ := hF'
  obtain ⟨hg, hVR, hXT, hCC⟩ := hR'
  obtain ⟨hGV, hps, hn4, hlen, htx⟩ := hA'
  have h140 := GV_140 hGV
  have hv := hGV.1
  have hl := hGV.2.1
  have hFv := hGV.2.2
  have hH0 := hH.1
  obtain ⟨I', L', i1, i2, i3, i4, i5⟩ := c75 (d := d - 1) (C := C) hH hS hg hv hl hCC (by omega) ht (by omega)
  have hci : L' (130 + 8) i = chV g t i := i2.1 i hi
  refine ⟨I', L', XR_ch hR ht i1 i2 i3, fun k j h => i3 _ _ (by omega), fun k j h => i4 _ _ (by omega), fun Q => ?_⟩
  rw [CT_e (mj := 134) (e := [.ref 1, .int (nI t), .int (nI i)]) (by omega) rfl (Nat.le_of_ble_eq_true rfl)]
  rw [← hci]
  simp (disch := first | assumption | omega) only [Nat.reduceAdd, X_go, go2_some, stp, ldI, ldA, ldL, stI, stA, stL, o1I, o2I, o2L, brI, brII, gl, s1, s2, k1, sl, go_sN, go_sR, go_CT, go_sT, go_no, go_if, pops, bk_v, bk_0, d134_0, d134_1, d134_4, d134_5, d134_8, d134_9, d134_12, d134_13, d134_16, d134_17, d134_20, d134_21, d134_24, d134_25, d134_28, d134_29, n_lt, n_le, n_eq, n_lt0, n_ge0, n_gt0, n_le0, n_eq0, m_lt, m_le, m_gt, m_ge, m_eq, m_eq', m_lt0, m_ge0, m_gt0, m_le0, m_ltm, m_lem, n_in, m_in, n_cl, n_ti, n_div, n_rem', n_dec, n_l, nI_add, pk_mul, an0, an1, decide_eq_true_eq, if_true, if_false, ite_true, ite_false, and_true, true_and, and_false, false_and, not_true, not_false_iff, or_false, false_or, or_true, true_or, eq_self, va_some, Bool.false_eq_true, reduceIte, catS_n, catS_i, catS_r, catS_l, catS_d, Nat.zero_add, Nat.add_zero, decide_true, decide_false, Nat.reduceLeDiff, cat_r, cat_i, cat_l, nle_T, nle_F, nlt_T, nlt_F, neq_T, neq_F, k0, p0, p1, p2, p3, p4, p5, p6, p7, p8, x0, x1, x2, l0, r0, r1, r2, m0, q0, q1, q2, q3, q4, q5, q6, q7, w0, w1, w2, f0, f1, f2, f3, f4, c86, c129, hH0, i5, c135 hH]
  done
theorem c134b {d : Nat} {P : MP} {I : MI} {L : ML} {C : MC} {Q : QT} {x y : Int32} (hd : 8 ≤ d) (hx : x < 0 ∨ nI 3 ≤ x) : CT d 134 [.ref 1, .int x, .int y] P I L C Q = Q (.inr 0) P I L (C.1 + 1, C.2 + 6) := by
  rw [CT_e (mj := 134) (e := [.ref 1, .int x, .int y]) (by omega) rfl (Nat.le_of_ble_eq_true rfl)]
  simp (disch := first | assumption | omega) only [Nat.reduceAdd, X_go, go2_some, stp, ldI, ldA, ldL, stI, stA, stL, o1I, o2I, o2L, brI, brII, gl, s1, s2, k1, sl, go_sN, go_sR, go_CT, go_sT, go_no, go_if, pops, bk_v, bk_0, d134_0, d134_1, d134_4, d134_5, d134_8, d134_9, d134_12, d134_13, d134_16, d134_17, d134_20, d134_21, d134_24, d134_25, d134_28, d134_29, n_lt, n_le, n_eq, n_lt0, n_ge0, n_gt0, n_le0, n_eq0, m_lt, m_le, m_gt, m_ge, m_eq, m_eq', m_lt0, m_ge0, m_gt0, m_le0, m_ltm, m_lem, n_in, m_in, n_cl, n_ti, n_div, n_rem', n_dec, n_l, nI_add, pk_mul, an0, an1, decide_eq_true_eq, if_true, if_false, ite_true, ite_false, and_true, true_and, and_false, false_and, not_true, not_false_iff, or_false, false_or, or_true, true_or, eq_self, va_some, Bool.false_eq_true, reduceIte, catS_n, catS_i, catS_r, catS_l, catS_d, Nat.zero_add, Nat.add_zero, decide_true, decide_false, Nat.reduceLeDiff, cat_r, cat_i, cat_l, nle_T, nle_F, nlt_T, nlt_F, neq_T, neq_F, c86b, bk_x x134]
  done
theorem c134c {d : Nat} {P : MP} {I : MI} {L : ML} {C : MC} {Q : QT} {t : Nat} {y : Int32} (hd : 8 ≤ d) (ht : t < 3) (hy : y < 0 ∨ nI 16 ≤ y) : CT d 134 [.ref 1, .int (nI t), .int y] P I L C Q = Q (.inr 0) P I L (C.1 + 1, C.2 + 6) := by
  rw [CT_e (mj := 134) (e := [.ref 1, .int (nI t), .int y]) (by omega) rfl (Nat.le_of_ble_eq_true rfl)]
  simp (disch := first | assumption | omega) only [Nat.reduceAdd, X_go, go2_some, stp, ldI, ldA, ldL, stI, stA, stL, o1I, o2I, o2L, brI, brII, gl, s1, s2, k1, sl, go_sN, go_sR, go_CT, go_sT, go_no, go_if, pops, bk_v, bk_0, d134_0, d134_1, d134_4, d134_5, d134_8, d134_9, d134_12, d134_13, d134_16, d134_17, d134_20, d134_21, d134_24, d134_25, d134_28, d134_29, n_lt, n_le, n_eq, n_lt0, n_ge0, n_gt0, n_le0, n_eq0, m_lt, m_le, m_gt, m_ge, m_eq, m_eq', m_lt0, m_ge0, m_gt0, m_le0, m_ltm, m_lem, n_in, m_in, n_cl, n_ti, n_div, n_rem', n_dec, n_l, nI_add, pk_mul, an0, an1, decide_eq_true_eq, if_true, if_false, ite_true, ite_false, and_true, true_and, and_false, false_and, not_true, not_false_iff, or_false, false_or, or_true, true_or, eq_self, va_some, Bool.false_eq_true, reduceIte, catS_n, catS_i, catS_r, catS_l, catS_d, Nat.zero_add, Nat.add_zero, decide_true, decide_false, Nat.reduceLeDiff, cat_r, cat_i, cat_l, nle_T, nle_F, nlt_T, nlt_F, neq_T, neq_F, c86, c129b, bk_x x134]
  done
theorem d137_0 : dec 137 0 = some (.iload_n 1, 1, []) := rfl
theorem d137_1 : dec 137 1 = some (.invokestatic 64, 3, [2, 86, 0, 9, 0, 507, 0]) := rfl
theorem d137_4 : dec 137 4 = some (.iload_n 2, 1, []) := rfl
theorem d137_5 : dec 137 5 = some (.iconst 0, 1, [0]) := rfl
theorem d137_6 : dec 137 6 = some (.iconst 3, 1, [3]) := rfl
theorem d137_7 : dec 137 7 = some (.invokestatic 68, 3, [2, 87, 0, 9, 0, 434, 0, 0, 0]) := rfl
theorem d137_10 : dec 137 10 = some (.aload_n 0, 1, []) := rfl
theorem d137_11 : dec 137 11 = some (.getfield 57, 3, [1, 9, 7, 2, 0, 274]) := rfl
theorem d137_14 : dec 137 14 = some (.aload_n 0, 1, []) := rfl
theorem d137_15 : dec 137 15 = some (.getfield 12, 3, [1, 9, 0, 2, 0, 267]) := rfl
theorem d137_18 : dec 137 18 = some (.iload_n 1, 1, []) := rfl
theorem d137_19 : dec 137 19 = some (.invokevirtual 201, 3, [2, 75, 2, 0, 0, 819, 0, 2]) := rfl
theorem d137_22 : dec 137 22 = some (.aload_n 0, 1, []) := rfl
theorem d137_23 : dec 137 23 = some (.getfield 57, 3, [1, 9, 7, 2, 0, 274]) := rfl
theorem d137_26 : dec 137 26 = some (.iload_n 2, 1, []) := rfl
theorem d137_27 : dec 137 27 = some (.invokevirtual 209, 3, [2, 82, 2, 0, 0, 865, 0]) := rfl
theorem d137_30 : dec 137 30 = some (.l2i, 1, []) := rfl
theorem d137_31 : dec 137 31 = some (.ireturn, 1, [0]) := rfl
theorem l137 : mL 137 = 3 := rfl
theorem x137 : (mG 137).2.2.2.2 = [] := rfl
theorem c137 {d : Nat} {P : MP} {I : MI} {L : ML} {C : MC} {t r : Nat} {B n len : Nat} {g : GS} {ps : Nat → GS} {tx : Nat → Nat} (hX : XB P) (hR : XR I L g n ps len tx) (hA : AV B g n ps len tx) (hd : 22 ≤ d) (ht : t < 3) (hr : r ≤ 3) : ∃ I' L', XR I' L' g n ps len tx ∧ fo I I' ∧ fo L L' ∧ ∀ Q, CT d 137 [.ref 1, .int (nI t), .int (nI r)] P I L C Q = Q (.inl (some (.int (raV (chV g t) r).toInt32))) P I' L' C := by
  have hX' := hX
  obtain ⟨k0, ⟨p0, p1, p2, p3, p4, p5, p6, p7, p8⟩, hS, hS2, hV, ⟨x0, x1, x2⟩, hT2, hO, hD, hH, hH2⟩ := hX'
  have hS' := hS
  obtain ⟨l0, r0, r1, r2, hT, hK, hF⟩ := hS'
  have hT' := hT
  have hK' := hK
  have hF' := hF
  have hR' := hR
  have hA' := hA
  obtain ⟨⟨m0, q0, q1, q2, q3, q4, q5, q6, q7⟩, z1, z2, z3, z4, z5, z6, z7, z8⟩ := hT'
  obtain ⟨w0, w1, w2, w3, w4⟩ := hK'
  obtain ⟨f0, f1, f2, f3, f4, f5, f6, f7, f8⟩ := hF'
  obtain ⟨hg, hVR, hXT, hCC⟩ := hR'
  obtain ⟨hGV, hps, hn4, hlen, htx⟩ := hA'
  have h140 := GV_140 hGV
  have hv := hGV.1
  have hl := hGV.2.1
  have hFv := hGV.2.2
  have hH0 := hH.1
  obtain ⟨I', L', i1, i2, i3, i4, i5⟩ := c75 (d := d - 1) (C := C) hH hS hg hv hl hCC (by omega) ht (by omega)
  refine ⟨I', L', XR_ch hR ht i1 i2 i3, fun k j h => i3 _ _ (by omega), fun k j h => i4 _ _ (by omega), fun Q => ?_⟩
  rw [CT_e (mj := 137) (e := [.ref 1, .int (nI t), .int (nI r)]) (by omega) rfl (Nat.le_of_ble_eq_true rfl)]
  simp (disch := first | assumption | omega) only [Nat.reduceAdd, X_go, go2_some, stp, ldI, ldA, ldL, stI, stA, stL, o1I, o2I, o2L, brI, brII, gl, s1, s2, k1, sl, go_sN, go_sR, go_CT, go_sT, go_no, go_if, pops, bk_v, bk_0, d137_0, d137_1, d137_4, d137_5, d137_6, d137_7, d137_10, d137_11, d137_14, d137_15, d137_18, d137_19, d137_22, d137_23, d137_26, d137_27, d137_30, d137_31, n_lt, n_le, n_eq, n_lt0, n_ge0, n_gt0, n_le0, n_eq0, m_lt, m_le, m_gt, m_ge, m_eq, m_eq', m_lt0, m_ge0, m_gt0, m_le0, m_ltm, m_lem, n_in, m_in, n_cl, n_ti, n_div, n_rem', n_dec, n_l, nI_add, pk_mul, an0, an1, decide_eq_true_eq, if_true, if_false, ite_true, ite_false, and_true, true_and, and_false, false_and, not_true, not_false_iff, or_false, false_or, or_true, true_or, eq_self, va_some, Bool.false_eq_true, reduceIte, catS_n, catS_i, catS_r, catS_l, catS_d, Nat.zero_add, Nat.add_zero, decide_true, decide_false, Nat.reduceLeDiff, cat_r, cat_i, cat_l, nle_T, nle_F, nlt_T, nlt_F, neq_T, neq_F, k0, p0, p1, p2, p3, p4, p5, p6, p7, p8, x0, x1, x2, l0, r0, r1, r2, m0, q0, q1, q2, q3, q4, q5, q6, q7, w0, w1, w2, f0, f1, f2, f3, f4, c86, c87, hH0, i5, c82 hH i2]
  done
theorem c137b {d : Nat} {P : MP} {I : MI} {L : ML} {C : MC} {Q : QT} {x y : Int32} (hd : 8 ≤ d) (hx : x < 0 ∨ nI 3 ≤ x) : CT d 137 [.ref 1, .int x, .int y] P I L C Q = Q (.inr 0) P I L (C.1 + 1, C.2 + 6) := by
  rw [CT_e (mj := 137) (e := [.ref 1, .int x, .int y]) (by omega) rfl (Nat.le_of_ble_eq_true rfl)]
  simp (disch := first | assumption | omega) only [Nat.reduceAdd, X_go, go2_some, stp, ldI, ldA, ldL, stI, stA, stL, o1I, o2I, o2L, brI, brII, gl, s1, s2, k1, sl, go_sN, go_sR, go_CT, go_sT, go_no, go_if, pops, bk_v, bk_0, d137_0, d137_1, d137_4, d137_5, d137_6, d137_7, d137_10, d137_11, d137_14, d137_15, d137_18, d137_19, d137_22, d137_23, d137_26, d137_27, d137_30, d137_31, n_lt, n_le, n_eq, n_lt0, n_ge0, n_gt0, n_le0, n_eq0, m_lt, m_le, m_gt, m_ge, m_eq, m_eq', m_lt0, m_ge0, m_gt0, m_le0, m_ltm, m_lem, n_in, m_in, n_cl, n_ti, n_div, n_rem', n_dec, n_l, nI_add, pk_mul, an0, an1, decide_eq_true_eq, if_true, if_false, ite_true, ite_false, and_true, true_and, and_false, false_and, not_true, not_false_iff, or_false, false_or, or_true, true_or, eq_self, va_some, Bool.false_eq_true, reduceIte, catS_n, catS_i, catS_r, catS_l, catS_d, Nat.zero_add, Nat.add_zero, decide_true, decide_false, Nat.reduceLeDiff, cat_r, cat_i, cat_l, nle_T, nle_F, nlt_T, nlt_F, neq_T, neq_F, c86b, bk_x x137]
  done
theorem c137c {d : Nat} {P : MP} {I : MI} {L : ML} {C : MC} {Q : QT} {t : Nat} {y : Int32} (hd : 8 ≤ d) (ht : t < 3) (hy : y < 0 ∨ nI 3 < y) : CT d 137 [.ref 1, .int (nI t), .int y] P I L C Q = Q (.inr 1) P I L (C.1 + 1, C.2 + 6) := by
  rw [CT_e (mj := 137) (e := [.ref 1, .int (nI t), .int y]) (by omega) rfl (Nat.le_of_ble_eq_true rfl)]
  simp (disch := first | assumption | omega) only [Nat.reduceAdd, X_go, go2_some, stp, ldI, ldA, ldL, stI, stA, stL, o1I, o2I, o2L, brI, brII, gl, s1, s2, k1, sl, go_sN, go_sR, go_CT, go_sT, go_no, go_if, pops, bk_v, bk_0, d137_0, d137_1, d137_4, d137_5, d137_6, d137_7, d137_10, d137_11, d137_14, d137_15, d137_18, d137_19, d137_22, d137_23, d137_26, d137_27, d137_30, d137_31, n_lt, n_le, n_eq, n_lt0, n_ge0, n_gt0, n_le0, n_eq0, m_lt, m_le, m_gt, m_ge, m_eq, m_eq', m_lt0, m_ge0, m_gt0, m_le0, m_ltm, m_lem, n_in, m_in, n_cl, n_ti, n_div, n_rem', n_dec, n_l, nI_add, pk_mul, an0, an1, decide_eq_true_eq, if_true, if_false, ite_true, ite_false, and_true, true_and, and_false, false_and, not_true, not_false_iff, or_false, false_or, or_true, true_or, eq_self, va_some, Bool.false_eq_true, reduceIte, catS_n, catS_i, catS_r, catS_l, catS_d, Nat.zero_add, Nat.add_zero, decide_true, decide_false, Nat.reduceLeDiff, cat_r, cat_i, cat_l, nle_T, nle_F, nlt_T, nlt_F, neq_T, neq_F, c86, c87b (y := nI 0) (hx := hy), bk_x x137]
  done
theorem d139_0 : dec 139 0 = some (.iload_n 1, 1, []) := rfl
theorem d139_1 : dec 139 1 = some (.invokestatic 64, 3, [2, 86, 0, 9, 0, 507, 0]) := rfl
theorem d139_4 : dec 139 4 = some (.aload_n 0, 1, []) := rfl
theorem d139_5 : dec 139 5 = some (.getfield 57, 3, [1, 9, 7, 2, 0, 274]) := rfl
theorem d139_8 : dec 139 8 = some (.aload_n 0, 1, []) := rfl
theorem d139_9 : dec 139 9 = some (.getfield 12, 3, [1, 9, 0, 2, 0, 267]) := rfl
theorem d139_12 : dec 139 12 = some (.iload_n 1, 1, []) := rfl
theorem d139_13 : dec 139 13 = some (.invokevirtual 201, 3, [2, 75, 2, 0, 0, 819, 0, 2]) := rfl
theorem d139_16 : dec 139 16 = some (.aload_n 0, 1, []) := rfl
theorem d139_17 : dec 139 17 = some (.getfield 57, 3, [1, 9, 7, 2, 0, 274]) := rfl
theorem d139_20 : dec 139 20 = some (.getfield 212, 3, [1, 0, 5, 1, 1, 249]) := rfl
theorem d139_23 : dec 139 23 = some (.lreturn, 1, []) := rfl
theorem l139 : mL 139 = 2 := rfl
theorem x139 : (mG 139).2.2.2.2 = [] := rfl
theorem c139 {d : Nat} {P : MP} {I : MI} {L : ML} {C : MC} {t : Nat} {B n len : Nat} {g : GS} {ps : Nat → GS} {tx : Nat → Nat} (hX : XB P) (hR : XR I L g n ps len tx) (hA : AV B g n ps len tx) (hd : 22 ≤ d) (ht : t < 3) : ∃ I' L', XR I' L' g n ps len tx ∧ fo I I' ∧ fo L L' ∧ ∀ Q, CT d 139 [.ref 1, .int (nI t)] P I L C Q = Q (.inl (some (.long (chV g t 20)))) P I' L' C := by
  have hX' := hX
  obtain ⟨k0, ⟨p0, p1, p2, p3, p4, p5, p6, p7, p8⟩, hS, hS2, hV, ⟨x0, x1, x2⟩, hT2, hO, hD, hH, hH2⟩ := hX'
  have hS' := hS
  obtain ⟨l0, r0, r1, r2, hT, hK, hF⟩ := hS'
  have hT' := hT
  have hK' := hK
  have hF' := hF
  have hR' := hR
  have hA' := hA
  obtain ⟨⟨m0, q0, q1, q2, q3, q4, q5, q6, q7⟩, z1, z2, z3, z4, z5, z6, z7, z8⟩ := hT'
  obtain ⟨w0, w1, w2, w3, w4⟩ := hK'
  obtain ⟨f0, f1, f2, f3, f4, f5, f6, f7, f8⟩ := hF'
  obtain ⟨hg, hVR, hXT, hCC⟩ := hR'
  obtain ⟨hGV, hps, hn4, hlen, htx⟩ := hA'
  have h140 := GV_140 hGV
  have hv := hGV.1
  have hl := hGV.2.1
  have hFv := hGV.2.2
  have hH0 := hH.1
  obtain ⟨I', L', i1, i2, i3, i4, i5⟩ := c75 (d := d - 1) (C := C) hH hS hg hv hl hCC (by omega) ht (by omega)
  have hci : L' 130 5 = chV g t 20 := i2.2.2
  refine ⟨I', L', XR_ch hR ht i1 i2 i3, fun k j h => i3 _ _ (by omega), fun k j h => i4 _ _ (by omega), fun Q => ?_⟩
  rw [CT_e (mj := 139) (e := [.ref 1, .int (nI t)]) (by omega) rfl (Nat.le_of_ble_eq_true rfl)]
  simp (disch := first | assumption | omega) only [Nat.reduceAdd, X_go, go2_some, stp, ldI, ldA, ldL, stI, stA, stL, o1I, o2I, o2L, brI, brII, gl, s1, s2, k1, sl, go_sN, go_sR, go_CT, go_sT, go_no, go_if, pops, bk_v, bk_0, d139_0, d139_1, d139_4, d139_5, d139_8, d139_9, d139_12, d139_13, d139_16, d139_17, d139_20, d139_23, n_lt, n_le, n_eq, n_lt0, n_ge0, n_gt0, n_le0, n_eq0, m_lt, m_le, m_gt, m_ge, m_eq, m_eq', m_lt0, m_ge0, m_gt0, m_le0, m_ltm, m_lem, n_in, m_in, n_cl, n_ti, n_div, n_rem', n_dec, n_l, nI_add, pk_mul, an0, an1, decide_eq_true_eq, if_true, if_false, ite_true, ite_false, and_true, true_and, and_false, false_and, not_true, not_false_iff, or_false, false_or, or_true, true_or, eq_self, va_some, Bool.false_eq_true, reduceIte, catS_n, catS_i, catS_r, catS_l, catS_d, Nat.zero_add, Nat.add_zero, decide_true, decide_false, Nat.reduceLeDiff, cat_r, cat_i, cat_l, nle_T, nle_F, nlt_T, nlt_F, neq_T, neq_F, k0, p0, p1, p2, p3, p4, p5, p6, p7, p8, x0, x1, x2, l0, r0, r1, r2, m0, q0, q1, q2, q3, q4, q5, q6, q7, w0, w1, w2, f0, f1, f2, f3, f4, c86, hH0, i5, hci]
  done
theorem c139b {d : Nat} {P : MP} {I : MI} {L : ML} {C : MC} {Q : QT} {x : Int32} (hd : 8 ≤ d) (hx : x < 0 ∨ nI 3 ≤ x) : CT d 139 [.ref 1, .int x] P I L C Q = Q (.inr 0) P I L (C.1 + 1, C.2 + 6) := by
  rw [CT_e (mj := 139) (e := [.ref 1, .int x]) (by omega) rfl (Nat.le_of_ble_eq_true rfl)]
  simp (disch := first | assumption | omega) only [Nat.reduceAdd, X_go, go2_some, stp, ldI, ldA, ldL, stI, stA, stL, o1I, o2I, o2L, brI, brII, gl, s1, s2, k1, sl, go_sN, go_sR, go_CT, go_sT, go_no, go_if, pops, bk_v, bk_0, d139_0, d139_1, d139_4, d139_5, d139_8, d139_9, d139_12, d139_13, d139_16, d139_17, d139_20, d139_23, n_lt, n_le, n_eq, n_lt0, n_ge0, n_gt0, n_le0, n_eq0, m_lt, m_le, m_gt, m_ge, m_eq, m_eq', m_lt0, m_ge0, m_gt0, m_le0, m_ltm, m_lem, n_in, m_in, n_cl, n_ti, n_div, n_rem', n_dec, n_l, nI_add, pk_mul, an0, an1, decide_eq_true_eq, if_true, if_false, ite_true, ite_false, and_true, true_and, and_false, false_and, not_true, not_false_iff, or_false, false_or, or_true, true_or, eq_self, va_some, Bool.false_eq_true, reduceIte, catS_n, catS_i, catS_r, catS_l, catS_d, Nat.zero_add, Nat.add_zero, decide_true, decide_false, Nat.reduceLeDiff, cat_r, cat_i, cat_l, nle_T, nle_F, nlt_T, nlt_F, neq_T, neq_F, c86b, bk_x x139]
  done
