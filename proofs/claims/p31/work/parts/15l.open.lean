/-! OPENINGS: one opening -/
def op0 (g : GS) : OST := (ud g 122 (g 122 + 1), noG, 0, 0)
def op2 (top : Nat) (g : GS) : OST := if g top = 1 then drw top (op0 g) else drw top (drw top (op0 g))
/-- the state behind an opening, and how much was found -/
def opn (top : Nat) (g : GS) : GS := couG (op2 top g).1 (op2 top g).2.2.1
def opN (top : Nat) (g : GS) : Nat := (op2 top g).2.2.2
theorem CB_sb {g : GS} (hv : TV g) : CB g (sbits g) (spG g) noG := by
  refine ⟨fun t e ht he => ?_, fun t k ht h1 h3 => ?_⟩
  · have hc := hv.2.1 t ht
    unfold sbits
    rw [b_set (by omega) (by omega), decide_eq_true (show 6 * t + e < 18 by omega), Bool.true_and]
    unfold pb
    have q1 : (6 * t + e) % 6 = e := by omega
    have q2 : (6 * t + e) / 6 = t := by omega
    rw [q1, q2, decide_eq_true he, Bool.true_and]
  · unfold sbits
    rw [b_set (by omega) (by omega), decide_eq_false (by omega)]
    rfl
theorem d115_0 : dec 115 0 = some (.aload_n 0, 1, []) := rfl
theorem d115_1 : dec 115 1 = some (.aload_n 1, 1, []) := rfl
theorem d115_2 : dec 115 2 = some (.getfield 18, 3, [1, 6, 0, 2, 1, 137]) := rfl
theorem d115_5 : dec 115 5 = some (.invokevirtual 24, 3, [2, 24, 2, 7, 0, 732]) := rfl
theorem d115_8 : dec 115 8 = some (.putfield 30, 3, [1, 4, 1, 0, 0, 221]) := rfl
theorem d115_11 : dec 115 11 = some (.aload_n 0, 1, []) := rfl
theorem d115_12 : dec 115 12 = some (.iconst (-1), 1, [4294967295]) := rfl
theorem d115_13 : dec 115 13 = some (.putfield 34, 3, [1, 4, 2, 0, 0, 222]) := rfl
theorem d115_16 : dec 115 16 = some (.aload_n 0, 1, []) := rfl
theorem d115_17 : dec 115 17 = some (.iconst 0, 1, [0]) := rfl
theorem d115_18 : dec 115 18 = some (.putfield 37, 3, [1, 4, 3, 0, 0, 223]) := rfl
theorem d115_21 : dec 115 21 = some (.aload_n 1, 1, []) := rfl
theorem d115_22 : dec 115 22 = some (.getfield 40, 3, [1, 6, 2, 2, 1, 146]) := rfl
theorem d115_25 : dec 115 25 = some (.dup, 1, []) := rfl
theorem d115_26 : dec 115 26 = some (.getfield 44, 3, [1, 2, 4, 0, 1, 118]) := rfl
theorem d115_29 : dec 115 29 = some (.iconst 1, 1, [1]) := rfl
theorem d115_30 : dec 115 30 = some (.iadd, 1, []) := rfl
theorem d115_31 : dec 115 31 = some (.putfield 44, 3, [1, 2, 4, 0, 1, 118]) := rfl
theorem d115_34 : dec 115 34 = some (.iconst 0, 1, [0]) := rfl
theorem d115_35 : dec 115 35 = some (.istore_n 3, 1, []) := rfl
theorem d115_36 : dec 115 36 = some (.iload_n 3, 1, []) := rfl
theorem d115_37 : dec 115 37 = some (.aload_n 1, 1, []) := rfl
theorem d115_38 : dec 115 38 = some (.getfield 18, 3, [1, 6, 0, 2, 1, 137]) := rfl
theorem d115_41 : dec 115 41 = some (.getfield 49, 3, [1, 7, 0, 2, 1, 43]) := rfl
theorem d115_44 : dec 115 44 = some (.iload_n 2, 1, []) := rfl
theorem d115_45 : dec 115 45 = some (.invokestatic 53, 3, [2, 26, 0, 9, 1, 733, 0, 2]) := rfl
theorem d115_48 : dec 115 48 = some (.if_icmp .ge 20, 3, [68]) := rfl
theorem d115_51 : dec 115 51 = some (.iload_n 3, 1, []) := rfl
theorem d115_52 : dec 115 52 = some (.iconst 2, 1, [2]) := rfl
theorem d115_53 : dec 115 53 = some (.if_icmp .ge 15, 3, [68]) := rfl
theorem d115_56 : dec 115 56 = some (.aload_n 0, 1, []) := rfl
theorem d115_57 : dec 115 57 = some (.aload_n 1, 1, []) := rfl
theorem d115_58 : dec 115 58 = some (.iload_n 2, 1, []) := rfl
theorem d115_59 : dec 115 59 = some (.invokevirtual 57, 3, [2, 116, 2, 4, 0, 734, 0, 2]) := rfl
theorem d115_62 : dec 115 62 = some (.iinc 3 1, 3, [1]) := rfl
theorem d115_65 : dec 115 65 = some (.goto (-29), 3, [36]) := rfl
theorem d115_68 : dec 115 68 = some (.aload_n 1, 1, []) := rfl
theorem d115_69 : dec 115 69 = some (.getfield 61, 3, [1, 6, 1, 2, 1, 143]) := rfl
theorem d115_72 : dec 115 72 = some (.aload_n 0, 1, []) := rfl
theorem d115_73 : dec 115 73 = some (.getfield 34, 3, [1, 4, 2, 0, 0, 222]) := rfl
theorem d115_76 : dec 115 76 = some (.invokevirtual 65, 3, [2, 122, 2, 3, 0, 777, 0]) := rfl
theorem d115_79 : dec 115 79 = some (.aload_n 0, 1, []) := rfl
theorem d115_80 : dec 115 80 = some (.getfield 37, 3, [1, 4, 3, 0, 0, 223]) := rfl
theorem d115_83 : dec 115 83 = some (.ireturn, 1, [0]) := rfl
theorem l115 : mL 115 = 4 := rfl
theorem g115 {d : Nat} {P : MP} {I : MI} {L : ML} {C : MC} {Q : QT} {b fd n : Nat} {g : GS} {u v : Value} (hO : OB P) (hb : SB P b) (hg : RC I b g) (hl : LV g) (h2 : I 123 2 = fI fd) (h3 : I 123 3 = nI n) (hbD : b + 17 < 123) (hd : 3 ≤ d) (hf : fd ≤ 4) : X d 115 68 [.ref 123, .ref b, u, v] [] P I L C Q = Q (.inl (some (.int (nI n)))) P (couI I (b + 10) g fd) L C := by
  obtain ⟨k0, p0, hD⟩ := hO
  have hb' := hb
  obtain ⟨l0, r0, r1, r2, hT, hK, hF⟩ := hb'
  have hK0 := hK.1
  have e3 : couI I (b + 10) g fd 123 3 = nI n := by rw [couI_n (by omega)]; exact h3
  simp (disch := first | assumption | omega) only [Nat.reduceAdd, X_go, go2_some, stp, ldI, ldA, ldL, stI, stA, stL, o1I, o2I, o2L, brI, brII, gl, s1, s2, k1, sl, go_sN, go_sR, go_CT, go_sT, go_no, go_if, pops, bk_v, bk_0, d115_0, d115_1, d115_2, d115_5, d115_8, d115_11, d115_12, d115_13, d115_16, d115_17, d115_18, d115_21, d115_22, d115_25, d115_26, d115_29, d115_30, d115_31, d115_34, d115_35, d115_37, d115_38, d115_41, d115_44, d115_45, d115_48, d115_51, d115_52, d115_53, d115_56, d115_57, d115_58, d115_59, d115_62, d115_65, d115_68, d115_69, d115_72, d115_73, d115_76, d115_79, d115_80, d115_83, n_lt, n_le, n_eq, n_lt0, n_ge0, n_gt0, n_le0, n_eq0, m_lt, m_le, m_gt, m_ge, m_eq, m_eq', m_lt0, m_ge0, m_gt0, m_le0, m_ltm, m_lem, n_in, m_in, n_cl, n_ti, n_div, n_rem', n_dec, n_l, nI_add, pk_mul, an0, an1, decide_eq_true_eq, if_true, if_false, ite_true, ite_false, and_true, true_and, and_false, false_and, not_true, not_false_iff, or_false, false_or, or_true, true_or, eq_self, va_some, Bool.false_eq_true, reduceIte, catS_n, catS_i, catS_r, catS_l, catS_d, Nat.zero_add, Nat.add_zero, decide_true, decide_false, Nat.reduceLeDiff, cat_r, cat_i, cat_l, nle_T, nle_F, nlt_T, nlt_F, neq_T, neq_F, k0, l0, r1, hK0, h2, c122 hK hg.2.1 hl, e3]
  done
theorem RC_cou {I : MI} {b : Nat} {g : GS} {fd : Nat} (hg : RC I b g) (hv : TV g) (hc : g 140 ≤ 20) : RC (couI I (b + 10) g fd) b (couG g fd) :=
  ⟨TR_g (TR_fr hg.1 fun k j h h' => couI_n (by omega)) (fun k hk => couG_o (by omega)) hv, LR_cou hg.2.1, FR_g (FR_fr hg.2.2 fun k j h h' => couI_n (by omega)) (fun k h h' => couG_o (by omega)) hc⟩
theorem c115 {d : Nat} {P : MP} {I : MI} {L : ML} {C : MC} {b top B : Nat} {g : GS} (hO : OB P) (hb : SB P b) (hbD : b + 17 < 123) (hg : RC I b g) (hv : TV g) (hl : LV g) (hF : FV B g) (hB : B < 1000000) (hd : 10 ≤ d) (ht : top < 3) : ∃ I', RC I' b (opn top g) ∧ (TV (opn top g) ∧ LV (opn top g) ∧ FV (B + 1) (opn top g)) ∧ (opN top g ≤ 2 ∧ opn top g 122 = g 122 + 1 ∧ ∀ k, k < 6 → opn top g k = g k) ∧ (∀ k j, k < b ∨ b + 17 < k → k < 123 ∨ 126 < k → I' k j = I k j) ∧ ∀ Q, CT d 115 [.ref 123, .ref b, .int (nI top)] P I L C Q = Q (.inl (some (.int (nI (opN top g))))) P I' L C := by
  have hO' := hO
  have hb' := hb
  obtain ⟨k0, p0, hD⟩ := hO'
  obtain ⟨l0, r0, r1, r2, hT, hK, hFB⟩ := hb'
  have hD0 := hD.1
  have hF0 := hFB.1
  have hT' := hT
  obtain ⟨⟨m0, q0, q1, q2, q3, q4, q5, q6, q7⟩, y1, y2, y3, y4, y5, y6, y7, y8⟩ := hT'
  have hdr := hv.1 top ht
  have hF1 := hg.2.2.2.1
  have hF2 := hF.1
  have hF2b := hF.2.1
  obtain ⟨g0, hg0⟩ : ∃ g0 : GS, g0 = ud g 122 (g 122 + 1) := ⟨_, rfl⟩
  have h2 : ∀ k, k ≠ 122 → g0 k = g k := fun k h => by rw [hg0]; exact ud_n h
  have h122 : g0 122 = g 122 + 1 := by rw [hg0]; exact ud_s
  have hop : op2 top g = if g top = 1 then drw top (g0, noG, 0, 0) else drw top (drw top (g0, noG, 0, 0)) := by rw [hg0]; rfl
  have hJ0 : ∃ J, J = xu (xu (xu (xu I 123 1 (sbits g)) 123 2 (nI 4294967295)) 123 3 (nI 0)) (b + 13) 4 (nI (g 122 + 1)) := ⟨_, rfl⟩
  obtain ⟨J, hJ⟩ := hJ0
  have hJn : ∀ k j, k ≠ 123 → k ≠ b + 13 → J k j = I k j := fun k j h h' => by rw [hJ]; simp (disch := omega) only [xu_n]
  have hJf : ∀ j, j ≠ 4 → J (b + 13) j = I (b + 13) j := fun j h => by rw [hJ]; simp (disch := omega) only [xu_n]
  have hJ4 : J (b + 13) 4 = nI (g 122 + 1) := by rw [hJ, xu_s]
  have hJg : RC J b g0 := by
    refine ⟨TR_g (TR_fr hg.1 fun k j h h' => hJn _ _ (by omega) (by omega)) (fun k hk => h2 k (by omega)) hv, LR_g (LR_fr hg.2.1 fun k j h h' => hJn _ _ (by omega) (by omega)) (fun k h h' => h2 k (by omega)), ?_⟩
    obtain ⟨z1, z2, z3, z4⟩ := hg.2.2
    refine ⟨fun i hi => ?_, ?_, ?_, fun i hi => ?_⟩
    · rw [h2 _ (by omega), hJn _ _ (by omega) (by omega)]; exact z1 i hi
    · rw [h122]; exact hJ4
    · rw [h2 _ (by omega), hJf _ (by omega)]; exact z3
    · rw [h2 _ (by omega)] at hi
      rw [h2 123 (by omega), h2 _ (by omega), h2 _ (by omega), h2 _ (by omega), hJn _ _ (by omega) (by omega), hJn _ _ (by omega) (by omega), hJn _ _ (by omega) (by omega)]
      exact z4 i hi
  have hv0 : TV g0 := TV_g (fun k hk => h2 k (by omega)) hv
  have hl0 : LV g0 := LV_g (fun k h h' => h2 k (by omega)) hl
  have hFv0 : FV (B + 1) g0 := by
    obtain ⟨v1, v2, v3, v4, v5⟩ := hF
    refine ⟨by rw [h122]; omega, by rw [h2 _ (by omega)]; omega, by rw [h2 _ (by omega), h2 _ (by omega)]; exact v3, fun i hi => by rw [h2 _ (by omega), h2 _ (by omega)]; exact v4 i hi, fun i hi => ?_⟩
    rw [h2 _ (by omega)] at hi
    rw [h2 _ (by omega), h2 _ (by omega), h2 _ (by omega), h122]
    have := v5 i hi
    omega
  have hor0 : OR J g0 (spG g0) noG 0 0 := by
    refine ⟨?_, ?_, ?_⟩
    · have e1 : J 123 1 = sbits g0 := by
        rw [hJ, xu_n _ _ (by omega), xu_n _ _ (by omega), xu_n _ _ (by omega), xu_s]
        unfold sbits
        refine bset_c (by omega) fun i hi => ?_
        unfold pb spG
        rw [h2 _ (by omega), h2 _ (by unfold cl; omega)]
      rw [e1]
      exact CB_sb hv0
    · rw [hJ, xu_n _ _ (by omega), xu_n _ _ (by omega), xu_s]; rfl
    · rw [hJ, xu_n _ _ (by omega), xu_s]
  have e123 : g0 123 = g 123 := h2 _ (by omega)
  obtain ⟨J1, ⟨d1, ⟨d2, d3, d4⟩, d5, ⟨d6, d7, d8, d9, d10⟩, d11⟩, hX1⟩ := c116 (d := d - 1) (L := L) (C := C) (top := top) (B := B + 1) hO hb hbD (by omega) (by omega) ht hJg hv0 hl0 hFv0 (by omega) hor0 (by omega) (by omega)
  unfold opn opN
  rw [hop]
  generalize drw top (g0, noG, 0, 0) = a at d1 d2 d3 d4 d5 d6 d7 d8 d9 d10 ⊢
  obtain ⟨g1, gr1, fd1, n1⟩ := a
  dsimp only at d1 d2 d3 d4 d5 d6 d7 d8 d9 d10 ⊢
  have hI0 : J (b + 2) top = nI (g top) := by rw [hJn _ _ (by omega) (by omega)]; exact hg.1.1 top ht
  have hI1 : J1 (b + 2) top = nI (g top) := by
    have := d1.1.1 top ht
    rw [d10 top (by omega), h2 top (by omega)] at this
    exact this
  by_cases z : g top = 1
  · rw [if_pos z]
    dsimp only
    have hm : g1 140 = min 20 (g1 123) := d4.2.2.1
    refine ⟨couI J1 (b + 10) g1 fd1, RC_cou d1 d2 (by omega), ⟨TV_g (fun k hk => couG_o (by omega)) d2, LV_cou d3, FV_g (fun k h h' => couG_o (by omega)) d4⟩, ⟨by omega, ?_, fun k hk => ?_⟩, fun k j h h' => ?_, fun Q => ?_⟩
    · rw [couG_o (by omega), d9]; exact h122
    · rw [couG_o (by omega), d10 k hk, h2 k (by omega)]
    · rw [couI_n (by omega), d11 k j h h', hJn _ _ (by omega) (by omega)]
    · rw [CT_e (mj := 115) (e := [.ref 123, .ref b, .int (nI top), UN]) (by omega) rfl (Nat.le_of_ble_eq_true rfl)]
      simp (disch := first | assumption | omega) only [Nat.reduceAdd, X_go, go2_some, stp, ldI, ldA, ldL, stI, stA, stL, o1I, o2I, o2L, brI, brII, gl, s1, s2, k1, sl, go_sN, go_sR, go_CT, go_sT, go_no, go_if, pops, bk_v, bk_0, d115_0, d115_1, d115_2, d115_5, d115_8, d115_11, d115_12, d115_13, d115_16, d115_17, d115_18, d115_21, d115_22, d115_25, d115_26, d115_29, d115_30, d115_31, d115_34, d115_35, d115_37, d115_38, d115_41, d115_44, d115_45, d115_48, d115_51, d115_52, d115_53, d115_56, d115_57, d115_58, d115_59, d115_62, d115_65, d115_69, d115_72, d115_73, d115_76, d115_79, d115_80, d115_83, n_lt, n_le, n_eq, n_lt0, n_ge0, n_gt0, n_le0, n_eq0, m_lt, m_le, m_gt, m_ge, m_eq, m_eq', m_lt0, m_ge0, m_gt0, m_le0, m_ltm, m_lem, n_in, m_in, n_cl, n_ti, n_div, n_rem', n_dec, n_l, nI_add, pk_mul, an0, an1, decide_eq_true_eq, if_true, if_false, ite_true, ite_false, and_true, true_and, and_false, false_and, not_true, not_false_iff, or_false, false_or, or_true, true_or, eq_self, va_some, Bool.false_eq_true, reduceIte, catS_n, catS_i, catS_r, catS_l, catS_d, Nat.zero_add, Nat.add_zero, decide_true, decide_false, Nat.reduceLeDiff, cat_r, cat_i, cat_l, nle_T, nle_F, nlt_T, nlt_F, neq_T, neq_F, k0, l0, r0, r2, m0, hF0, c24 hT hg.1 hv, hF1, xu_n]
      rw [← hJ]
      rw [d115_36]
      simp (disch := first | assumption | omega) only [Nat.reduceAdd, X_go, go2_some, stp, ldI, ldA, ldL, stI, stA, stL, o1I, o2I, o2L, brI, brII, gl, s1, s2, k1, sl, go_sN, go_sR, go_CT, go_sT, go_no, go_if, pops, bk_v, bk_0, d115_0, d115_1, d115_2, d115_5, d115_8, d115_11, d115_12, d115_13, d115_16, d115_17, d115_18, d115_21, d115_22, d115_25, d115_26, d115_29, d115_30, d115_31, d115_34, d115_35, d115_37, d115_38, d115_41, d115_44, d115_45, d115_48, d115_51, d115_52, d115_53, d115_56, d115_57, d115_58, d115_59, d115_62, d115_65, d115_69, d115_72, d115_73, d115_76, d115_79, d115_80, d115_83, n_lt, n_le, n_eq, n_lt0, n_ge0, n_gt0, n_le0, n_eq0, m_lt, m_le, m_gt, m_ge, m_eq, m_eq', m_lt0, m_ge0, m_gt0, m_le0, m_ltm, m_lem, n_in, m_in, n_cl, n_ti, n_div, n_rem', n_dec, n_l, nI_add, pk_mul, an0, an1, decide_eq_true_eq, if_true, if_false, ite_true, ite_false, and_true, true_and, and_false, false_and, not_true, not_false_iff, or_false, false_or, or_true, true_or, eq_self, va_some, Bool.false_eq_true, reduceIte, catS_n, catS_i, catS_r, catS_l, catS_d, Nat.zero_add, Nat.add_zero, decide_true, decide_false, Nat.reduceLeDiff, cat_r, cat_i, cat_l, nle_T, nle_F, nlt_T, nlt_F, neq_T, neq_F, k0, l0, r0, r2, m0, q0, c26 y1, hI0, hX1]
      rw [d115_36]
      simp (disch := first | assumption | omega) only [Nat.reduceAdd, X_go, go2_some, stp, ldI, ldA, ldL, stI, stA, stL, o1I, o2I, o2L, brI, brII, gl, s1, s2, k1, sl, go_sN, go_sR, go_CT, go_sT, go_no, go_if, pops, bk_v, bk_0, d115_0, d115_1, d115_2, d115_5, d115_8, d115_11, d115_12, d115_13, d115_16, d115_17, d115_18, d115_21, d115_22, d115_25, d115_26, d115_29, d115_30, d115_31, d115_34, d115_35, d115_37, d115_38, d115_41, d115_44, d115_45, d115_48, d115_51, d115_52, d115_53, d115_56, d115_57, d115_58, d115_59, d115_62, d115_65, d115_69, d115_72, d115_73, d115_76, d115_79, d115_80, d115_83, n_lt, n_le, n_eq, n_lt0, n_ge0, n_gt0, n_le0, n_eq0, m_lt, m_le, m_gt, m_ge, m_eq, m_eq', m_lt0, m_ge0, m_gt0, m_le0, m_ltm, m_lem, n_in, m_in, n_cl, n_ti, n_div, n_rem', n_dec, n_l, nI_add, pk_mul, an0, an1, decide_eq_true_eq, if_true, if_false, ite_true, ite_false, and_true, true_and, and_false, false_and, not_true, not_false_iff, or_false, false_or, or_true, true_or, eq_self, va_some, Bool.false_eq_true, reduceIte, catS_n, catS_i, catS_r, catS_l, catS_d, Nat.zero_add, Nat.add_zero, decide_true, decide_false, Nat.reduceLeDiff, cat_r, cat_i, cat_l, nle_T, nle_F, nlt_T, nlt_F, neq_T, neq_F, k0, l0, r0, r2, m0, q0, c26 y1, hI1, z]
      simp only [← X_go]
      exact g115 hO hb d1 d3 d5.2.1 d5.2.2 hbD (by omega) d6
  · rw [if_neg z]
    have z2 : g top = 2 := by omega
    obtain ⟨J2, ⟨b1, ⟨b2, b3, b4⟩, b5, ⟨b6, b7, b8, b9, b10⟩, b11⟩, hX2⟩ := c116 (d := d - 1) (L := L) (C := C) (top := top) (B := B + 1) hO hb hbD (by omega) (by omega) ht d1 d2 d3 d4 (by omega) d5 d6 (by omega)
    generalize drw top (g1, gr1, fd1, n1) = a at b1 b2 b3 b4 b5 b6 b7 b8 b9 b10 ⊢
    obtain ⟨g2, gr2, fd2, n2⟩ := a
    dsimp only at b1 b2 b3 b4 b5 b6 b7 b8 b9 b10 ⊢
    have hI2 : J2 (b + 2) top = nI (g top) := by
      have := b1.1.1 top ht
      rw [b10 top (by omega), d10 top (by omega), h2 top (by omega)] at this
      exact this
    have hm : g2 140 = min 20 (g2 123) := b4.2.2.1
    refine ⟨couI J2 (b + 10) g2 fd2, RC_cou b1 b2 (by omega), ⟨TV_g (fun k hk => couG_o (by omega)) b2, LV_cou b3, FV_g (fun k h h' => couG_o (by omega)) b4⟩, ⟨by omega, ?_, fun k hk => ?_⟩, fun k j h h' => ?_, fun Q => ?_⟩
    · rw [couG_o (by omega), b9, d9]; exact h122
    · rw [couG_o (by omega), b10 k hk, d10 k hk, h2 k (by omega)]
    · rw [couI_n (by omega), b11 k j h h', d11 k j h h', hJn _ _ (by omega) (by omega)]
    · rw [CT_e (mj := 115) (e := [.ref 123, .ref b, .int (nI top), UN]) (by omega) rfl (Nat.le_of_ble_eq_true rfl)]
      simp (disch := first | assumption | omega) only [Nat.reduceAdd, X_go, go2_some, stp, ldI, ldA, ldL, stI, stA, stL, o1I, o2I, o2L, brI, brII, gl, s1, s2, k1, sl, go_sN, go_sR, go_CT, go_sT, go_no, go_if, pops, bk_v, bk_0, d115_0, d115_1, d115_2, d115_5, d115_8, d115_11, d115_12, d115_13, d115_16, d115_17, d115_18, d115_21, d115_22, d115_25, d115_26, d115_29, d115_30, d115_31, d115_34, d115_35, d115_37, d115_38, d115_41, d115_44, d115_45, d115_48, d115_51, d115_52, d115_53, d115_56, d115_57, d115_58, d115_59, d115_62, d115_65, d115_69, d115_72, d115_73, d115_76, d115_79, d115_80, d115_83, n_lt, n_le, n_eq, n_lt0, n_ge0, n_gt0, n_le0, n_eq0, m_lt, m_le, m_gt, m_ge, m_eq, m_eq', m_lt0, m_ge0, m_gt0, m_le0, m_ltm, m_lem, n_in, m_in, n_cl, n_ti, n_div, n_rem', n_dec, n_l, nI_add, pk_mul, an0, an1, decide_eq_true_eq, if_true, if_false, ite_true, ite_false, and_true, true_and, and_false, false_and, not_true, not_false_iff, or_false, false_or, or_true, true_or, eq_self, va_some, Bool.false_eq_true, reduceIte, catS_n, catS_i, catS_r, catS_l, catS_d, Nat.zero_add, Nat.add_zero, decide_true, decide_false, Nat.reduceLeDiff, cat_r, cat_i, cat_l, nle_T, nle_F, nlt_T, nlt_F, neq_T, neq_F, k0, l0, r0, r2, m0, hF0, c24 hT hg.1 hv, hF1, xu_n]
      rw [← hJ]
      rw [d115_36]
      simp (disch := first | assumption | omega) only [Nat.reduceAdd, X_go, go2_some, stp, ldI, ldA, ldL, stI, stA, stL, o1I, o2I, o2L, brI, brII, gl, s1, s2, k1, sl, go_sN, go_sR, go_CT, go_sT, go_no, go_if, pops, bk_v, bk_0, d115_0, d115_1, d115_2, d115_5, d115_8, d115_11, d115_12, d115_13, d115_16, d115_17, d115_18, d115_21, d115_22, d115_25, d115_26, d115_29, d115_30, d115_31, d115_34, d115_35, d115_37, d115_38, d115_41, d115_44, d115_45, d115_48, d115_51, d115_52, d115_53, d115_56, d115_57, d115_58, d115_59, d115_62, d115_65, d115_69, d115_72, d115_73, d115_76, d115_79, d115_80, d115_83, n_lt, n_le, n_eq, n_lt0, n_ge0, n_gt0, n_le0, n_eq0, m_lt, m_le, m_gt, m_ge, m_eq, m_eq', m_lt0, m_ge0, m_gt0, m_le0, m_ltm, m_lem, n_in, m_in, n_cl, n_ti, n_div, n_rem', n_dec, n_l, nI_add, pk_mul, an0, an1, decide_eq_true_eq, if_true, if_false, ite_true, ite_false, and_true, true_and, and_false, false_and, not_true, not_false_iff, or_false, false_or, or_true, true_or, eq_self, va_some, Bool.false_eq_true, reduceIte, catS_n, catS_i, catS_r, catS_l, catS_d, Nat.zero_add, Nat.add_zero, decide_true, decide_false, Nat.reduceLeDiff, cat_r, cat_i, cat_l, nle_T, nle_F, nlt_T, nlt_F, neq_T, neq_F, k0, l0, r0, r2, m0, q0, c26 y1, hI0, hX1]
      rw [d115_36]
      simp (disch := first | assumption | omega) only [Nat.reduceAdd, X_go, go2_some, stp, ldI, ldA, ldL, stI, stA, stL, o1I, o2I, o2L, brI, brII, gl, s1, s2, k1, sl, go_sN, go_sR, go_CT, go_sT, go_no, go_if, pops, bk_v, bk_0, d115_0, d115_1, d115_2, d115_5, d115_8, d115_11, d115_12, d115_13, d115_16, d115_17, d115_18, d115_21, d115_22, d115_25, d115_26, d115_29, d115_30, d115_31, d115_34, d115_35, d115_37, d115_38, d115_41, d115_44, d115_45, d115_48, d115_51, d115_52, d115_53, d115_56, d115_57, d115_58, d115_59, d115_62, d115_65, d115_69, d115_72, d115_73, d115_76, d115_79, d115_80, d115_83, n_lt, n_le, n_eq, n_lt0, n_ge0, n_gt0, n_le0, n_eq0, m_lt, m_le, m_gt, m_ge, m_eq, m_eq', m_lt0, m_ge0, m_gt0, m_le0, m_ltm, m_lem, n_in, m_in, n_cl, n_ti, n_div, n_rem', n_dec, n_l, nI_add, pk_mul, an0, an1, decide_eq_true_eq, if_true, if_false, ite_true, ite_false, and_true, true_and, and_false, false_and, not_true, not_false_iff, or_false, false_or, or_true, true_or, eq_self, va_some, Bool.false_eq_true, reduceIte, catS_n, catS_i, catS_r, catS_l, catS_d, Nat.zero_add, Nat.add_zero, decide_true, decide_false, Nat.reduceLeDiff, cat_r, cat_i, cat_l, nle_T, nle_F, nlt_T, nlt_F, neq_T, neq_F, k0, l0, r0, r2, m0, q0, c26 y1, hI1, z2, hX2]
      rw [d115_36]
      simp (disch := first | assumption | omega) only [Nat.reduceAdd, X_go, go2_some, stp, ldI, ldA, ldL, stI, stA, stL, o1I, o2I, o2L, brI, brII, gl, s1, s2, k1, sl, go_sN, go_sR, go_CT, go_sT, go_no, go_if, pops, bk_v, bk_0, d115_0, d115_1, d115_2, d115_5, d115_8, d115_11, d115_12, d115_13, d115_16, d115_17, d115_18, d115_21, d115_22, d115_25, d115_26, d115_29, d115_30, d115_31, d115_34, d115_35, d115_37, d115_38, d115_41, d115_44, d115_45, d115_48, d115_51, d115_52, d115_53, d115_56, d115_57, d115_58, d115_59, d115_62, d115_65, d115_69, d115_72, d115_73, d115_76, d115_79, d115_80, d115_83, n_lt, n_le, n_eq, n_lt0, n_ge0, n_gt0, n_le0, n_eq0, m_lt, m_le, m_gt, m_ge, m_eq, m_eq', m_lt0, m_ge0, m_gt0, m_le0, m_ltm, m_lem, n_in, m_in, n_cl, n_ti, n_div, n_rem', n_dec, n_l, nI_add, pk_mul, an0, an1, decide_eq_true_eq, if_true, if_false, ite_true, ite_false, and_true, true_and, and_false, false_and, not_true, not_false_iff, or_false, false_or, or_true, true_or, eq_self, va_some, Bool.false_eq_true, reduceIte, catS_n, catS_i, catS_r, catS_l, catS_d, Nat.zero_add, Nat.add_zero, decide_true, decide_false, Nat.reduceLeDiff, cat_r, cat_i, cat_l, nle_T, nle_F, nlt_T, nlt_F, neq_T, neq_F, k0, l0, r0, r2, m0, q0, c26 y1, hI2, z2]
      simp only [← X_go]
      exact g115 hO hb b1 b3 b5.2.1 b5.2.2 hbD (by omega) b6
