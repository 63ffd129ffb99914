/-! THE MODEL: parts of the text -/
def fp (I I' : MI) : Prop := (∀ k j, k ≠ 150 → k ≠ 151 → I' k j = I k j) ∧ ∀ j, j < 22 → I' 150 j = I 150 j
theorem fp_mS {I : MI} {p v : Nat} : fp I (mS I p v) := ⟨fun k j h _ => mS_n (.inl h), fun j h => mS_n (.inr h)⟩
theorem fp_t {I I' I2 : MI} (h : fp I I') (h2 : fp I' I2) : fp I I2 := ⟨fun k j a b => by rw [h2.1 k j a b, h.1 k j a b], fun j a => by rw [h2.2 j a, h.2 j a]⟩
theorem TY_fp {I I' : MI} {len : Nat} {tx : Nat → Nat} (ht : TY I len tx) (h : fp I I') : TY I' len tx := ⟨⟨by rw [h.2 _ (by omega)]; exact ht.1.1, fun i hi => by rw [h.1 _ _ (by omega) (by omega)]; exact ht.1.2 i hi⟩, ht.2⟩
/-- a part read by the model -/
def MO (P : MP) (I : MI) (L : ML) (C : MC) (d mj p v len : Nat) (g : GS) (r : Nat ⊕ (Nat × GS)) : Prop := (∃ f w I', r = .inl f ∧ f < 1000 ∧ fp I I' ∧ ∀ Q, CT d mj [.ref 150] P (mS I p v) L C Q = Q (.inl (some (.int (nI 0)))) P (mS I' f w) L C) ∨ ∃ s w g' I', r = .inr (s, g') ∧ p < s ∧ s ≤ len ∧ NR I' g' ∧ TV g' ∧ (∀ k, 114 ≤ k → g' k = g k) ∧ fp I I' ∧ ∀ Q, CT d mj [.ref 150] P (mS I p v) L C Q = Q (.inl (some (.int (nI 1)))) P (mS I' s w) L C
theorem NR_mS {I : MI} {p v : Nat} {g : GS} (h : NR I g) : NR (mS I p v) g := NR_fr h fun j => mS_n (by omega)
theorem d218_0 : dec 218 0 = some (.aload_n 0, 1, []) := rfl
theorem d218_1 : dec 218 1 = some (.iconst 0, 1, [0]) := rfl
theorem d218_2 : dec 218 2 = some (.iconst 2, 1, [2]) := rfl
theorem d218_3 : dec 218 3 = some (.invokevirtual 230, 3, [2, 219, 2, 10, 0, 1344, 0, 0]) := rfl
theorem d218_6 : dec 218 6 = some (.ifCond .ne 5, 3, [11]) := rfl
theorem d218_9 : dec 218 9 = some (.iconst 0, 1, [0]) := rfl
theorem d218_10 : dec 218 10 = some (.ireturn, 1, [1]) := rfl
theorem d218_11 : dec 218 11 = some (.aload_n 0, 1, []) := rfl
theorem d218_12 : dec 218 12 = some (.getfield 227, 3, [1, 10, 23, 0, 0, 1017]) := rfl
theorem d218_15 : dec 218 15 = some (.istore_n 1, 1, []) := rfl
theorem d218_16 : dec 218 16 = some (.aload_n 0, 1, []) := rfl
theorem d218_17 : dec 218 17 = some (.iconst 1, 1, [1]) := rfl
theorem d218_18 : dec 218 18 = some (.iconst 2, 1, [2]) := rfl
theorem d218_19 : dec 218 19 = some (.invokevirtual 230, 3, [2, 219, 2, 10, 0, 1344, 0, 0]) := rfl
theorem d218_22 : dec 218 22 = some (.ifCond .ne 5, 3, [27]) := rfl
theorem d218_25 : dec 218 25 = some (.iconst 0, 1, [0]) := rfl
theorem d218_26 : dec 218 26 = some (.ireturn, 1, [1]) := rfl
theorem d218_27 : dec 218 27 = some (.aload_n 0, 1, []) := rfl
theorem d218_28 : dec 218 28 = some (.getfield 7, 3, [1, 10, 0, 2, 0, 994]) := rfl
theorem d218_31 : dec 218 31 = some (.iconst 0, 1, [0]) := rfl
theorem d218_32 : dec 218 32 = some (.iload_n 1, 1, []) := rfl
theorem d218_33 : dec 218 33 = some (.iadd, 1, []) := rfl
theorem d218_34 : dec 218 34 = some (.aload_n 0, 1, []) := rfl
theorem d218_35 : dec 218 35 = some (.getfield 227, 3, [1, 10, 23, 0, 0, 1017]) := rfl
theorem d218_38 : dec 218 38 = some (.iastore, 1, []) := rfl
theorem d218_39 : dec 218 39 = some (.aload_n 0, 1, []) := rfl
theorem d218_40 : dec 218 40 = some (.bipush 59, 2, [59]) := rfl
theorem d218_42 : dec 218 42 = some (.invokevirtual 233, 3, [2, 217, 2, 10, 0, 1336, 0]) := rfl
theorem d218_45 : dec 218 45 = some (.ireturn, 1, [1]) := rfl
theorem l218 : mL 218 = 2 := rfl
theorem c218 {d : Nat} {P : MP} {I : MI} {L : ML} {C : MC} {len p v : Nat} {g : GS} {tx : Nat → Nat} (hM : MB P) (ht : TY I len tx) (hn : NR I g) (hv : TV g) (hd : 6 ≤ d) (hp : p ≤ len) : MO P I L C d 218 p v len g (rDrw tx len p g) := by
  have hM' := hM
  obtain ⟨⟨k0, p0, p1, p2, p5, y1, y2, y3, y4⟩, _⟩ := hM'
  have hlen := ht.2.1
  have he : ∀ Q, CT d 218 [.ref 150] P (mS I p v) L C Q = X (d - 1) 218 0 [.ref 150, UN] [] P (mS I p v) L C Q := fun Q => CT_e (mj := 218) (e := [.ref 150, UN]) (by omega) rfl (Nat.le_of_ble_eq_true rfl)
  unfold MO rDrw
  by_cases a1 : isD tx len p 0 2 = false
  · rw [if_pos a1]
    refine .inl ⟨p, 0, I, rfl, by omega, ⟨fun _ _ _ _ => rfl, fun _ _ => rfl⟩, fun Q => ?_⟩
    rw [he]
    simp (disch := first | assumption | omega) only [Nat.reduceAdd, X_go, go2_some, stp, ldI, ldA, ldL, stI, stA, stL, o1I, o2I, o2L, brI, brII, gl, s1, s2, k1, sl, go_sN, go_sR, go_CT, go_sT, go_no, go_if, pops, bk_v, bk_0, d218_0, d218_1, d218_2, d218_3, d218_6, d218_9, d218_10, d218_11, d218_12, d218_15, d218_16, d218_17, d218_18, d218_19, d218_22, d218_25, d218_26, d218_27, d218_28, d218_31, d218_32, d218_33, d218_34, d218_35, d218_38, d218_39, d218_40, d218_42, d218_45, n_lt, n_le, n_eq, n_lt0, n_ge0, n_gt0, n_le0, n_eq0, m_lt, m_le, m_gt, m_ge, m_eq, m_eq', m_lt0, m_ge0, m_gt0, m_le0, m_ltm, m_lem, n_in, m_in, n_cl, n_ti, n_div, n_rem', n_dec, n_l, nI_add, pk_mul, an0, an1, decide_eq_true_eq, if_true, if_false, ite_true, ite_false, and_true, true_and, and_false, false_and, not_true, not_false_iff, or_false, false_or, or_true, true_or, eq_self, va_some, Bool.false_eq_true, reduceIte, catS_n, catS_i, catS_r, catS_l, catS_d, Nat.zero_add, Nat.add_zero, decide_true, decide_false, Nat.reduceLeDiff, cat_r, cat_i, cat_l, nle_T, nle_F, nlt_T, nlt_F, neq_T, neq_F, k0, c219n hM ht a1]
    done
  rw [if_neg a1]
  rw [Bool.not_eq_false] at a1
  have b1 := isD_b a1
  by_cases a2 : isD tx len (p + 1) 1 2 = false
  · rw [if_pos a2]
    refine .inl ⟨p + 1, 0, I, rfl, by omega, ⟨fun _ _ _ _ => rfl, fun _ _ => rfl⟩, fun Q => ?_⟩
    rw [he]
    simp (disch := first | assumption | omega) only [Nat.reduceAdd, X_go, go2_some, stp, ldI, ldA, ldL, stI, stA, stL, o1I, o2I, o2L, brI, brII, gl, s1, s2, k1, sl, go_sN, go_sR, go_CT, go_sT, go_no, go_if, pops, bk_v, bk_0, d218_0, d218_1, d218_2, d218_3, d218_6, d218_9, d218_10, d218_11, d218_12, d218_15, d218_16, d218_17, d218_18, d218_19, d218_22, d218_25, d218_26, d218_27, d218_28, d218_31, d218_32, d218_33, d218_34, d218_35, d218_38, d218_39, d218_40, d218_42, d218_45, n_lt, n_le, n_eq, n_lt0, n_ge0, n_gt0, n_le0, n_eq0, m_lt, m_le, m_gt, m_ge, m_eq, m_eq', m_lt0, m_ge0, m_gt0, m_le0, m_ltm, m_lem, n_in, m_in, n_cl, n_ti, n_div, n_rem', n_dec, n_l, nI_add, pk_mul, an0, an1, decide_eq_true_eq, if_true, if_false, ite_true, ite_false, and_true, true_and, and_false, false_and, not_true, not_false_iff, or_false, false_or, or_true, true_or, eq_self, va_some, Bool.false_eq_true, reduceIte, catS_n, catS_i, catS_r, catS_l, catS_d, Nat.zero_add, Nat.add_zero, decide_true, decide_false, Nat.reduceLeDiff, cat_r, cat_i, cat_l, nle_T, nle_F, nlt_T, nlt_F, neq_T, neq_F, k0, c219 hM ht a1, mS_3, c219n hM ht a2]
    done
  rw [if_neg a2]
  rw [Bool.not_eq_false] at a2
  have b2 := isD_b a2
  have mU : ∀ (I : MI) q w c (x : Int32), xu (mS I q w) 151 c x = mS (xu I 151 c x) q w := fun I q w c x => by
    funext a b
    unfold mS xu
    by_cases z : a = 151 ∧ b = c
    · rw [if_pos z, if_neg (by omega), if_neg (by omega), if_pos z]
    · rw [if_neg z]
      by_cases z1 : a = 150 ∧ b = 23
      · rw [if_pos z1, if_pos z1]
      · rw [if_neg z1, if_neg z1]
        by_cases z2 : a = 150 ∧ b = 22
        · rw [if_pos z2, if_pos z2]
        · rw [if_neg z2, if_neg z2, if_neg z]
  have hfp : fp I (xu I 151 (tx p - 48) (nI (tx (p + 1) - 48))) := ⟨fun k j _ h => xu_n _ _ (by omega), fun j h => xu_n _ _ (by omega)⟩
  have ht2 := TY_fp ht hfp
  by_cases a3 : ch tx len (p + 2) 59 = false
  · rw [if_pos a3]
    refine .inl ⟨p + 2, tx (p + 1) - 48, xu I 151 (tx p - 48) (nI (tx (p + 1) - 48)), rfl, by omega, hfp, fun Q => ?_⟩
    rw [he]
    simp (disch := first | assumption | omega) only [Nat.reduceAdd, X_go, go2_some, stp, ldI, ldA, ldL, stI, stA, stL, o1I, o2I, o2L, brI, brII, gl, s1, s2, k1, sl, go_sN, go_sR, go_CT, go_sT, go_no, go_if, pops, bk_v, bk_0, d218_0, d218_1, d218_2, d218_3, d218_6, d218_9, d218_10, d218_11, d218_12, d218_15, d218_16, d218_17, d218_18, d218_19, d218_22, d218_25, d218_26, d218_27, d218_28, d218_31, d218_32, d218_33, d218_34, d218_35, d218_38, d218_39, d218_40, d218_42, d218_45, n_lt, n_le, n_eq, n_lt0, n_ge0, n_gt0, n_le0, n_eq0, m_lt, m_le, m_gt, m_ge, m_eq, m_eq', m_lt0, m_ge0, m_gt0, m_le0, m_ltm, m_lem, n_in, m_in, n_cl, n_ti, n_div, n_rem', n_dec, n_l, nI_add, pk_mul, an0, an1, decide_eq_true_eq, if_true, if_false, ite_true, ite_false, and_true, true_and, and_false, false_and, not_true, not_false_iff, or_false, false_or, or_true, true_or, eq_self, va_some, Bool.false_eq_true, reduceIte, catS_n, catS_i, catS_r, catS_l, catS_d, Nat.zero_add, Nat.add_zero, decide_true, decide_false, Nat.reduceLeDiff, cat_r, cat_i, cat_l, nle_T, nle_F, nlt_T, nlt_F, neq_T, neq_F, k0, p0, y1, c219 hM ht a1, mS_3, c219 hM ht a2, mU, c217n hM ht2 a3]
    done
  rw [if_neg a3]
  rw [Bool.not_eq_false] at a3
  have b3 := ch_b a3
  refine .inr ⟨_, tx (p + 1) - 48, _, xu I 151 (tx p - 48) (nI (tx (p + 1) - 48)), rfl, by omega, by omega, NR_ud hn, TV_dr hv (by omega) (by omega) (by omega), fun k hk => ud_n (by omega), hfp, fun Q => ?_⟩
  rw [he]
  simp (disch := first | assumption | omega) only [Nat.reduceAdd, X_go, go2_some, stp, ldI, ldA, ldL, stI, stA, stL, o1I, o2I, o2L, brI, brII, gl, s1, s2, k1, sl, go_sN, go_sR, go_CT, go_sT, go_no, go_if, pops, bk_v, bk_0, d218_0, d218_1, d218_2, d218_3, d218_6, d218_9, d218_10, d218_11, d218_12, d218_15, d218_16, d218_17, d218_18, d218_19, d218_22, d218_25, d218_26, d218_27, d218_28, d218_31, d218_32, d218_33, d218_34, d218_35, d218_38, d218_39, d218_40, d218_42, d218_45, n_lt, n_le, n_eq, n_lt0, n_ge0, n_gt0, n_le0, n_eq0, m_lt, m_le, m_gt, m_ge, m_eq, m_eq', m_lt0, m_ge0, m_gt0, m_le0, m_ltm, m_lem, n_in, m_in, n_cl, n_ti, n_div, n_rem', n_dec, n_l, nI_add, pk_mul, an0, an1, decide_eq_true_eq, if_true, if_false, ite_true, ite_false, and_true, true_and, and_false, false_and, not_true, not_false_iff, or_false, false_or, or_true, true_or, eq_self, va_some, Bool.false_eq_true, reduceIte, catS_n, catS_i, catS_r, catS_l, catS_d, Nat.zero_add, Nat.add_zero, decide_true, decide_false, Nat.reduceLeDiff, cat_r, cat_i, cat_l, nle_T, nle_F, nlt_T, nlt_F, neq_T, neq_F, k0, p0, y1, c219 hM ht a1, mS_3, c219 hM ht a2, mU, c217 hM ht2 a3]
  done
theorem d221_0 : dec 221 0 = some (.aload_n 0, 1, []) := rfl
theorem d221_1 : dec 221 1 = some (.iconst 0, 1, [0]) := rfl
theorem d221_2 : dec 221 2 = some (.iconst 2, 1, [2]) := rfl
theorem d221_3 : dec 221 3 = some (.invokevirtual 224, 3, [2, 220, 2, 10, 0, 1348, 0, 0]) := rfl
theorem d221_6 : dec 221 6 = some (.ifCond .eq 27, 3, [33]) := rfl
theorem d221_9 : dec 221 9 = some (.aload_n 0, 1, []) := rfl
theorem d221_10 : dec 221 10 = some (.getfield 7, 3, [1, 10, 0, 2, 0, 994]) := rfl
theorem d221_13 : dec 221 13 = some (.iconst 3, 1, [3]) := rfl
theorem d221_14 : dec 221 14 = some (.aload_n 0, 1, []) := rfl
theorem d221_15 : dec 221 15 = some (.getfield 19, 3, [1, 10, 5, 2, 0, 999]) := rfl
theorem d221_18 : dec 221 18 = some (.aload_n 0, 1, []) := rfl
theorem d221_19 : dec 221 19 = some (.getfield 221, 3, [1, 10, 22, 0, 0, 1016]) := rfl
theorem d221_22 : dec 221 22 = some (.iaload, 1, []) := rfl
theorem d221_23 : dec 221 23 = some (.iadd, 1, []) := rfl
theorem d221_24 : dec 221 24 = some (.bipush 48, 2, [48]) := rfl
theorem d221_26 : dec 221 26 = some (.isub, 1, []) := rfl
theorem d221_27 : dec 221 27 = some (.iaload, 1, []) := rfl
theorem d221_28 : dec 221 28 = some (.bipush 6, 2, [6]) := rfl
theorem d221_30 : dec 221 30 = some (.if_icmp .ne 5, 3, [35]) := rfl
theorem d221_33 : dec 221 33 = some (.iconst 0, 1, [0]) := rfl
theorem d221_34 : dec 221 34 = some (.ireturn, 1, [1]) := rfl
theorem d221_35 : dec 221 35 = some (.aload_n 0, 1, []) := rfl
theorem d221_36 : dec 221 36 = some (.getfield 19, 3, [1, 10, 5, 2, 0, 999]) := rfl
theorem d221_39 : dec 221 39 = some (.aload_n 0, 1, []) := rfl
theorem d221_40 : dec 221 40 = some (.getfield 221, 3, [1, 10, 22, 0, 0, 1016]) := rfl
theorem d221_43 : dec 221 43 = some (.iaload, 1, []) := rfl
theorem d221_44 : dec 221 44 = some (.bipush 48, 2, [48]) := rfl
theorem d221_46 : dec 221 46 = some (.isub, 1, []) := rfl
theorem d221_47 : dec 221 47 = some (.istore_n 1, 1, []) := rfl
theorem d221_48 : dec 221 48 = some (.aload_n 0, 1, []) := rfl
theorem d221_49 : dec 221 49 = some (.dup, 1, []) := rfl
theorem d221_50 : dec 221 50 = some (.getfield 221, 3, [1, 10, 22, 0, 0, 1016]) := rfl
theorem d221_53 : dec 221 53 = some (.iconst 1, 1, [1]) := rfl
theorem d221_54 : dec 221 54 = some (.iadd, 1, []) := rfl
theorem d221_55 : dec 221 55 = some (.putfield 221, 3, [1, 10, 22, 0, 0, 1016]) := rfl
theorem d221_58 : dec 221 58 = some (.aload_n 0, 1, []) := rfl
theorem d221_59 : dec 221 59 = some (.getfield 221, 3, [1, 10, 22, 0, 0, 1016]) := rfl
theorem d221_62 : dec 221 62 = some (.iconst 1, 1, [1]) := rfl
theorem d221_63 : dec 221 63 = some (.iadd, 1, []) := rfl
theorem d221_64 : dec 221 64 = some (.istore_n 2, 1, []) := rfl
theorem d221_65 : dec 221 65 = some (.aload_n 0, 1, []) := rfl
theorem d221_66 : dec 221 66 = some (.bipush 44, 2, [44]) := rfl
theorem d221_68 : dec 221 68 = some (.invokevirtual 233, 3, [2, 217, 2, 10, 0, 1336, 0]) := rfl
theorem d221_71 : dec 221 71 = some (.ifCond .eq 14, 3, [85]) := rfl
theorem d221_74 : dec 221 74 = some (.aload_n 0, 1, []) := rfl
theorem d221_75 : dec 221 75 = some (.iconst 2, 1, [2]) := rfl
theorem d221_76 : dec 221 76 = some (.iconst 0, 1, [0]) := rfl
theorem d221_77 : dec 221 77 = some (.bipush 18, 2, [18]) := rfl
theorem d221_79 : dec 221 79 = some (.invokevirtual 236, 3, [2, 222, 2, 10, 0, 1356, 0, 0, 0]) := rfl
theorem d221_82 : dec 221 82 = some (.ifCond .ne 5, 3, [87]) := rfl
theorem d221_85 : dec 221 85 = some (.iconst 0, 1, [0]) := rfl
theorem d221_86 : dec 221 86 = some (.ireturn, 1, [1]) := rfl
theorem d221_87 : dec 221 87 = some (.aload_n 0, 1, []) := rfl
theorem d221_88 : dec 221 88 = some (.getfield 227, 3, [1, 10, 23, 0, 0, 1017]) := rfl
theorem d221_91 : dec 221 91 = some (.istore_n 3, 1, []) := rfl
theorem d221_92 : dec 221 92 = some (.iload_n 3, 1, []) := rfl
theorem d221_93 : dec 221 93 = some (.bipush 16, 2, [16]) := rfl
theorem d221_95 : dec 221 95 = some (.if_icmp .lt 18, 3, [113]) := rfl
theorem d221_98 : dec 221 98 = some (.iload_n 3, 1, []) := rfl
theorem d221_99 : dec 221 99 = some (.bipush 16, 2, [16]) := rfl
theorem d221_101 : dec 221 101 = some (.isub, 1, []) := rfl
theorem d221_102 : dec 221 102 = some (.iload_n 1, 1, []) := rfl
theorem d221_103 : dec 221 103 = some (.if_icmp .gt 10, 3, [113]) := rfl
theorem d221_106 : dec 221 106 = some (.aload_n 0, 1, []) := rfl
theorem d221_107 : dec 221 107 = some (.iload_n 2, 1, []) := rfl
theorem d221_108 : dec 221 108 = some (.putfield 221, 3, [1, 10, 22, 0, 0, 1016]) := rfl
theorem d221_111 : dec 221 111 = some (.iconst 0, 1, [0]) := rfl
theorem d221_112 : dec 221 112 = some (.ireturn, 1, [1]) := rfl
theorem d221_113 : dec 221 113 = some (.aload_n 0, 1, []) := rfl
theorem d221_114 : dec 221 114 = some (.bipush 44, 2, [44]) := rfl
theorem d221_116 : dec 221 116 = some (.invokevirtual 233, 3, [2, 217, 2, 10, 0, 1336, 0]) := rfl
theorem d221_119 : dec 221 119 = some (.ifCond .eq 15, 3, [134]) := rfl
theorem d221_122 : dec 221 122 = some (.aload_n 0, 1, []) := rfl
theorem d221_123 : dec 221 123 = some (.iconst 4, 1, [4]) := rfl
theorem d221_124 : dec 221 124 = some (.iconst 1, 1, [1]) := rfl
theorem d221_125 : dec 221 125 = some (.sipush 1000, 3, [1000]) := rfl
theorem d221_128 : dec 221 128 = some (.invokevirtual 236, 3, [2, 222, 2, 10, 0, 1356, 0, 0, 0]) := rfl
theorem d221_131 : dec 221 131 = some (.ifCond .ne 5, 3, [136]) := rfl
theorem d221_134 : dec 221 134 = some (.iconst 0, 1, [0]) := rfl
theorem d221_135 : dec 221 135 = some (.ireturn, 1, [1]) := rfl
theorem d221_136 : dec 221 136 = some (.aload_n 0, 1, []) := rfl
theorem d221_137 : dec 221 137 = some (.getfield 227, 3, [1, 10, 23, 0, 0, 1017]) := rfl
theorem d221_140 : dec 221 140 = some (.istore 4, 2, []) := rfl
theorem d221_142 : dec 221 142 = some (.aload_n 0, 1, []) := rfl
theorem d221_143 : dec 221 143 = some (.bipush 44, 2, [44]) := rfl
theorem d221_145 : dec 221 145 = some (.invokevirtual 233, 3, [2, 217, 2, 10, 0, 1336, 0]) := rfl
theorem d221_148 : dec 221 148 = some (.ifCond .eq 22, 3, [170]) := rfl
theorem d221_151 : dec 221 151 = some (.aload_n 0, 1, []) := rfl
theorem d221_152 : dec 221 152 = some (.iconst 0, 1, [0]) := rfl
theorem d221_153 : dec 221 153 = some (.iload_n 3, 1, []) := rfl
theorem d221_154 : dec 221 154 = some (.bipush 16, 2, [16]) := rfl
theorem d221_156 : dec 221 156 = some (.if_icmp .ge 7, 3, [163]) := rfl
theorem d221_159 : dec 221 159 = some (.iconst 3, 1, [3]) := rfl
theorem d221_160 : dec 221 160 = some (.goto 4, 3, [164]) := rfl
theorem d221_163 : dec 221 163 = some (.iconst 0, 1, [0]) := rfl
theorem d221_164 : dec 221 164 = some (.invokevirtual 230, 3, [2, 219, 2, 10, 0, 1344, 0, 0]) := rfl
theorem d221_167 : dec 221 167 = some (.ifCond .ne 5, 3, [172]) := rfl
theorem d221_170 : dec 221 170 = some (.iconst 0, 1, [0]) := rfl
theorem d221_171 : dec 221 171 = some (.ireturn, 1, [1]) := rfl
theorem d221_172 : dec 221 172 = some (.aload_n 0, 1, []) := rfl
theorem d221_173 : dec 221 173 = some (.getfield 227, 3, [1, 10, 23, 0, 0, 1017]) := rfl
theorem d221_176 : dec 221 176 = some (.istore 5, 2, []) := rfl
theorem d221_178 : dec 221 178 = some (.aload_n 0, 1, []) := rfl
theorem d221_179 : dec 221 179 = some (.iconst 0, 1, [0]) := rfl
theorem d221_180 : dec 221 180 = some (.iconst 3, 1, [3]) := rfl
theorem d221_181 : dec 221 181 = some (.invokevirtual 230, 3, [2, 219, 2, 10, 0, 1344, 0, 0]) := rfl
theorem d221_184 : dec 221 184 = some (.ifCond .ne 5, 3, [189]) := rfl
theorem d221_187 : dec 221 187 = some (.iconst 0, 1, [0]) := rfl
theorem d221_188 : dec 221 188 = some (.ireturn, 1, [1]) := rfl
theorem d221_189 : dec 221 189 = some (.aload_n 0, 1, []) := rfl
theorem d221_190 : dec 221 190 = some (.getfield 227, 3, [1, 10, 23, 0, 0, 1017]) := rfl
theorem d221_193 : dec 221 193 = some (.istore 6, 2, []) := rfl
theorem d221_195 : dec 221 195 = some (.aload_n 0, 1, []) := rfl
theorem d221_196 : dec 221 196 = some (.bipush 111, 2, [111]) := rfl
theorem d221_198 : dec 221 198 = some (.invokevirtual 233, 3, [2, 217, 2, 10, 0, 1336, 0]) := rfl
theorem d221_201 : dec 221 201 = some (.istore 7, 2, []) := rfl
theorem d221_203 : dec 221 203 = some (.aload_n 0, 1, []) := rfl
theorem d221_204 : dec 221 204 = some (.iload_n 1, 1, []) := rfl
theorem d221_205 : dec 221 205 = some (.iload_n 3, 1, []) := rfl
theorem d221_206 : dec 221 206 = some (.iload 4, 2, []) := rfl
theorem d221_208 : dec 221 208 = some (.iload 5, 2, []) := rfl
theorem d221_210 : dec 221 210 = some (.iload 6, 2, []) := rfl
theorem d221_212 : dec 221 212 = some (.iload 7, 2, []) := rfl
theorem d221_214 : dec 221 214 = some (.invokevirtual 99, 3, [2, 162, 2, 10, 0, 1112, 0, 0, 0, 0, 0, 0]) := rfl
theorem d221_217 : dec 221 217 = some (.istore 8, 2, []) := rfl
theorem d221_219 : dec 221 219 = some (.aload_n 0, 1, []) := rfl
theorem d221_220 : dec 221 220 = some (.bipush 59, 2, [59]) := rfl
theorem d221_222 : dec 221 222 = some (.invokevirtual 233, 3, [2, 217, 2, 10, 0, 1336, 0]) := rfl
theorem d221_225 : dec 221 225 = some (.ireturn, 1, [1]) := rfl
theorem l221 : mL 221 = 9 := rfl
theorem c221 {d : Nat} {P : MP} {I : MI} {L : ML} {C : MC} {len p v : Nat} {g : GS} {tx : Nat → Nat} (hM : MB P) (ht : TY I len tx) (hn : NR I g) (hv : TV g) (hd : 6 ≤ d) (hp : p ≤ len) : MO P I L C d 221 p v len g (rEnt tx len p g) := by
  have hM' := hM
  obtain ⟨⟨k0, p0, p1, p2, p5, y1, y2, y3, y4⟩, _⟩ := hM'
  have hlen := ht.2.1
  have he : ∀ Q, CT d 221 [.ref 150] P (mS I p v) L C Q = X (d - 1) 221 0 [.ref 150, UN, UN, UN, UN, UN, UN, UN, UN] [] P (mS I p v) L C Q := fun Q => CT_e (mj := 221) (e := [.ref 150, UN, UN, UN, UN, UN, UN, UN, UN]) (by omega) rfl (Nat.le_of_ble_eq_true rfl)
  have hself : fp I I := ⟨fun _ _ _ _ => rfl, fun _ _ => rfl⟩
  unfold MO rEnt
  by_cases a1 : isD tx len p 0 2 = true
  case neg =>
    rw [Bool.not_eq_true] at a1
    have e : taF tx len p g = p + 1 := by unfold taF; rw [a1]; rfl
    rw [e, if_pos (by omega)]
    refine .inl ⟨p, v, I, by rw [Nat.add_sub_cancel], by omega, hself, fun Q => ?_⟩
    rw [he]
    simp (disch := first | assumption | omega) only [Nat.reduceAdd, X_go, go2_some, stp, ldI, ldA, ldL, stI, stA, stL, o1I, o2I, o2L, brI, brII, gl, s1, s2, k1, sl, go_sN, go_sR, go_CT, go_sT, go_no, go_if, pops, bk_v, bk_0, d221_0, d221_1, d221_2, d221_3, d221_6, d221_9, d221_10, d221_13, d221_14, d221_15, d221_18, d221_19, d221_22, d221_23, d221_24, d221_26, d221_27, d221_28, d221_30, d221_33, d221_34, d221_35, d221_36, d221_39, d221_40, d221_43, d221_44, d221_46, d221_47, d221_48, d221_49, d221_50, d221_53, d221_54, d221_55, d221_58, d221_59, d221_62, d221_63, d221_64, d221_65, d221_66, d221_68, d221_71, d221_74, d221_75, d221_76, d221_77, d221_79, d221_82, d221_85, d221_86, d221_87, d221_88, d221_91, d221_92, d221_93, d221_95, d221_98, d221_99, d221_101, d221_102, d221_103, d221_106, d221_107, d221_108, d221_111, d221_112, d221_113, d221_114, d221_116, d221_119, d221_122, d221_123, d221_124, d221_125, d221_128, d221_131, d221_134, d221_135, d221_136, d221_137, d221_140, d221_142, d221_143, d221_145, d221_148, d221_151, d221_152, d221_153, d221_154, d221_156, d221_159, d221_160, d221_163, d221_164, d221_167, d221_170, d221_171, d221_172, d221_173, d221_176, d221_178, d221_179, d221_180, d221_181, d221_184, d221_187, d221_188, d221_189, d221_190, d221_193, d221_195, d221_196, d221_198, d221_201, d221_203, d221_204, d221_205, d221_206, d221_208, d221_210, d221_212, d221_214, d221_217, d221_219, d221_220, d221_222, d221_225, n_lt, n_le, n_eq, n_lt0, n_ge0, n_gt0, n_le0, n_eq0, m_lt, m_le, m_gt, m_ge, m_eq, m_eq', m_lt0, m_ge0, m_gt0, m_le0, m_ltm, m_lem, n_in, m_in, n_cl, n_ti, n_div, n_rem', n_dec, n_l, nI_add, pk_mul, an0, an1, decide_eq_true_eq, if_true, if_false, ite_true, ite_false, and_true, true_and, and_false, false_and, not_true, not_false_iff, or_false, false_or, or_true, true_or, eq_self, va_some, Bool.false_eq_true, reduceIte, catS_n, catS_i, catS_r, catS_l, catS_d, Nat.zero_add, Nat.add_zero, decide_true, decide_false, Nat.reduceLeDiff, cat_r, cat_i, cat_l, nle_T, nle_F, nlt_T, nlt_F, neq_T, neq_F, k0, c220 hM ht, a1]
    done
  case pos =>
  have b1 := isD_b a1
  have b127 := ht.2.2 p b1.1
  have hN := NR_mS (p := p) (v := v) hn
  have hcn := hN (3 + (tx p - 48)) (by omega)
  have e48 : 3 + tx p - 48 = 3 + (tx p - 48) := by omega
  have hty : mS I p v 154 p = nI (tx p) := by rw [mS_n (by omega)]; exact ht.1.2 p b1.1
  have h6 := hv.2.1 (tx p - 48) (by omega)
  by_cases a2 : g (3 + (tx p - 48)) < 6
  case neg =>
    have e : taF tx len p g = p + 1 := by unfold taF; rw [if_pos a1, if_neg a2]
    have h66 : g (3 + (tx p - 48)) = 6 := by omega
    rw [e, if_pos (by omega)]
    refine .inl ⟨p, v, I, by rw [Nat.add_sub_cancel], by omega, hself, fun Q => ?_⟩
    rw [he]
    simp (disch := first | assumption | omega) only [Nat.reduceAdd, X_go, go2_some, stp, ldI, ldA, ldL, stI, stA, stL, o1I, o2I, o2L, brI, brII, gl, s1, s2, k1, sl, go_sN, go_sR, go_CT, go_sT, go_no, go_if, pops, bk_v, bk_0, d221_0, d221_1, d221_2, d221_3, d221_6, d221_9, d221_10, d221_13, d221_14, d221_15, d221_18, d221_19, d221_22, d221_23, d221_24, d221_26, d221_27, d221_28, d221_30, d221_33, d221_34, d221_35, d221_36, d221_39, d221_40, d221_43, d221_44, d221_46, d221_47, d221_48, d221_49, d221_50, d221_53, d221_54, d221_55, d221_58, d221_59, d221_62, d221_63, d221_64, d221_65, d221_66, d221_68, d221_71, d221_74, d221_75, d221_76, d221_77, d221_79, d221_82, d221_85, d221_86, d221_87, d221_88, d221_91, d221_92, d221_93, d221_95, d221_98, d221_99, d221_101, d221_102, d221_103, d221_106, d221_107, d221_108, d221_111, d221_112, d221_113, d221_114, d221_116, d221_119, d221_122, d221_123, d221_124, d221_125, d221_128, d221_131, d221_134, d221_135, d221_136, d221_137, d221_140, d221_142, d221_143, d221_145, d221_148, d221_151, d221_152, d221_153, d221_154, d221_156, d221_159, d221_160, d221_163, d221_164, d221_167, d221_170, d221_171, d221_172, d221_173, d221_176, d221_178, d221_179, d221_180, d221_181, d221_184, d221_187, d221_188, d221_189, d221_190, d221_193, d221_195, d221_196, d221_198, d221_201, d221_203, d221_204, d221_205, d221_206, d221_208, d221_210, d221_212, d221_214, d221_217, d221_219, d221_220, d221_222, d221_225, n_lt, n_le, n_eq, n_lt0, n_ge0, n_gt0, n_le0, n_eq0, m_lt, m_le, m_gt, m_ge, m_eq, m_eq', m_lt0, m_ge0, m_gt0, m_le0, m_ltm, m_lem, n_in, m_in, n_cl, n_ti, n_div, n_rem', n_dec, n_l, nI_add, pk_mul, an0, an1, decide_eq_true_eq, if_true, if_false, ite_true, ite_false, and_true, true_and, and_false, false_and, not_true, not_false_iff, or_false, false_or, or_true, true_or, eq_self, va_some, Bool.false_eq_true, reduceIte, catS_n, catS_i, catS_r, catS_l, catS_d, Nat.zero_add, Nat.add_zero, decide_true, decide_false, Nat.reduceLeDiff, cat_r, cat_i, cat_l, nle_T, nle_F, nlt_T, nlt_F, neq_T, neq_F, k0, p0, p5, y1, y4, c220 hM ht, a1, mS_2, hty, n_sub, e48, hcn, h66]
    done
  case pos =>
  have e1 : taF tx len p g = 0 := by unfold taF; rw [if_pos a1, if_pos a2]
  rw [e1, if_neg (by omega)]
  have e2p : mS I (p + 1) v 150 22 = nI (p + 1) := mS_2
  by_cases a3 : ch tx len (p + 1) 44 = false
  · rw [if_pos a3]
    refine .inl ⟨p + 1, v, I, rfl, by omega, hself, fun Q => ?_⟩
    rw [he]
    simp (disch := first | assumption | omega) only [Nat.reduceAdd, X_go, go2_some, stp, ldI, ldA, ldL, stI, stA, stL, o1I, o2I, o2L, brI, brII, gl, s1, s2, k1, sl, go_sN, go_sR, go_CT, go_sT, go_no, go_if, pops, bk_v, bk_0, d221_0, d221_1, d221_2, d221_3, d221_6, d221_9, d221_10, d221_13, d221_14, d221_15, d221_18, d221_19, d221_22, d221_23, d221_24, d221_26, d221_27, d221_28, d221_30, d221_33, d221_34, d221_35, d221_36, d221_39, d221_40, d221_43, d221_44, d221_46, d221_47, d221_48, d221_49, d221_50, d221_53, d221_54, d221_55, d221_58, d221_59, d221_62, d221_63, d221_64, d221_65, d221_66, d221_68, d221_71, d221_74, d221_75, d221_76, d221_77, d221_79, d221_82, d221_85, d221_86, d221_87, d221_88, d221_91, d221_92, d221_93, d221_95, d221_98, d221_99, d221_101, d221_102, d221_103, d221_106, d221_107, d221_108, d221_111, d221_112, d221_113, d221_114, d221_116, d221_119, d221_122, d221_123, d221_124, d221_125, d221_128, d221_131, d221_134, d221_135, d221_136, d221_137, d221_140, d221_142, d221_143, d221_145, d221_148, d221_151, d221_152, d221_153, d221_154, d221_156, d221_159, d221_160, d221_163, d221_164, d221_167, d221_170, d221_171, d221_172, d221_173, d221_176, d221_178, d221_179, d221_180, d221_181, d221_184, d221_187, d221_188, d221_189, d221_190, d221_193, d221_195, d221_196, d221_198, d221_201, d221_203, d221_204, d221_205, d221_206, d221_208, d221_210, d221_212, d221_214, d221_217, d221_219, d221_220, d221_222, d221_225, n_lt, n_le, n_eq, n_lt0, n_ge0, n_gt0, n_le0, n_eq0, m_lt, m_le, m_gt, m_ge, m_eq, m_eq', m_lt0, m_ge0, m_gt0, m_le0, m_ltm, m_lem, n_in, m_in, n_cl, n_ti, n_div, n_rem', n_dec, n_l, nI_add, pk_mul, an0, an1, decide_eq_true_eq, if_true, if_false, ite_true, ite_false, and_true, true_and, and_false, false_and, not_true, not_false_iff, or_false, false_or, or_true, true_or, eq_self, va_some, Bool.false_eq_true, reduceIte, catS_n, catS_i, catS_r, catS_l, catS_d, Nat.zero_add, Nat.add_zero, decide_true, decide_false, Nat.reduceLeDiff, cat_r, cat_i, cat_l, nle_T, nle_F, nlt_T, nlt_F, neq_T, neq_F, k0, p0, p5, y1, y4, c220 hM ht, a1, mS_2, hty, n_sub, e48, hcn, a2, mS_p, c217n hM ht a3]
    done
  rw [if_neg a3]
  rw [Bool.not_eq_false] at a3
  have b3 := ch_b a3
  have hw100 := nuV_2 (tx := tx) (len := len) (p := p + 2)
  have hq := nuP_b (tx := tx) (len := len) 2 (p + 2)
  by_cases a4 : waF tx len (tx p - 48) (p + 2) ≠ 0
  · rw [if_pos a4]
    have hwb := waF_b (tx := tx) (len := len) (t := tx p - 48) (p := p + 2)
    by_cases n0 : nuF tx len 2 0 18 (p + 2) = 0
    · have nb := nuF_0 n0
      have wl : 16 ≤ nuV tx len 2 (p + 2) 0 ∧ nuV tx len 2 (p + 2) 0 ≤ (tx p - 48) + 16 := by
        unfold waF at a4
        rw [if_pos n0] at a4
        by_cases q : 16 ≤ nuV tx len 2 (p + 2) 0 ∧ nuV tx len 2 (p + 2) 0 ≤ (tx p - 48) + 16
        · exact q
        · rw [if_neg q] at a4; exact absurd rfl a4
      have e4 : waF tx len (tx p - 48) (p + 2) = p + 3 := by unfold waF; rw [if_pos n0, if_pos wl]
      have w1 : nuV tx len 2 (p + 2) 0 - 16 ≤ tx p - 48 := by omega
      have w2 : ¬ nuV tx len 2 (p + 2) 0 < 16 := by omega
      refine .inl ⟨p + 2, nuV tx len 2 (p + 2) 0, I, by rw [e4]; rfl, by omega, hself, fun Q => ?_⟩
      rw [he]
      simp (disch := first | assumption | omega) only [Nat.reduceAdd, X_go, go2_some, stp, ldI, ldA, ldL, stI, stA, stL, o1I, o2I, o2L, brI, brII, gl, s1, s2, k1, sl, go_sN, go_sR, go_CT, go_sT, go_no, go_if, pops, bk_v, bk_0, d221_0, d221_1, d221_2, d221_3, d221_6, d221_9, d221_10, d221_13, d221_14, d221_15, d221_18, d221_19, d221_22, d221_23, d221_24, d221_26, d221_27, d221_28, d221_30, d221_33, d221_34, d221_35, d221_36, d221_39, d221_40, d221_43, d221_44, d221_46, d221_47, d221_48, d221_49, d221_50, d221_53, d221_54, d221_55, d221_58, d221_59, d221_62, d221_63, d221_64, d221_65, d221_66, d221_68, d221_71, d221_74, d221_75, d221_76, d221_77, d221_79, d221_82, d221_85, d221_86, d221_87, d221_88, d221_91, d221_92, d221_93, d221_95, d221_98, d221_99, d221_101, d221_102, d221_103, d221_106, d221_107, d221_108, d221_111, d221_112, d221_113, d221_114, d221_116, d221_119, d221_122, d221_123, d221_124, d221_125, d221_128, d221_131, d221_134, d221_135, d221_136, d221_137, d221_140, d221_142, d221_143, d221_145, d221_148, d221_151, d221_152, d221_153, d221_154, d221_156, d221_159, d221_160, d221_163, d221_164, d221_167, d221_170, d221_171, d221_172, d221_173, d221_176, d221_178, d221_179, d221_180, d221_181, d221_184, d221_187, d221_188, d221_189, d221_190, d221_193, d221_195, d221_196, d221_198, d221_201, d221_203, d221_204, d221_205, d221_206, d221_208, d221_210, d221_212, d221_214, d221_217, d221_219, d221_220, d221_222, d221_225, n_lt, n_le, n_eq, n_lt0, n_ge0, n_gt0, n_le0, n_eq0, m_lt, m_le, m_gt, m_ge, m_eq, m_eq', m_lt0, m_ge0, m_gt0, m_le0, m_ltm, m_lem, n_in, m_in, n_cl, n_ti, n_div, n_rem', n_dec, n_l, nI_add, pk_mul, an0, an1, decide_eq_true_eq, if_true, if_false, ite_true, ite_false, and_true, true_and, and_false, false_and, not_true, not_false_iff, or_false, false_or, or_true, true_or, eq_self, va_some, Bool.false_eq_true, reduceIte, catS_n, catS_i, catS_r, catS_l, catS_d, Nat.zero_add, Nat.add_zero, decide_true, decide_false, Nat.reduceLeDiff, cat_r, cat_i, cat_l, nle_T, nle_F, nlt_T, nlt_F, neq_T, neq_F, k0, p0, p5, y1, y4, c220 hM ht, a1, mS_2, hty, n_sub, e48, hcn, a2, mS_p, c217 hM ht a3, c222 hM ht n0, mS_3, w1, w2]
      done
    · have e4 : waF tx len (tx p - 48) (p + 2) = nuF tx len 2 0 18 (p + 2) := by unfold waF; rw [if_neg n0]
      rw [e4]
      obtain ⟨w, hwq⟩ : ∃ w, ∀ Q, CT (d - 1) 222 [.ref 150, .int (nI 2), .int (nI 0), .int (nI 18)] P (mS I (p + 2) v) L C Q = Q (.inl (some (.int (nI 0)))) P (mS I (nuF tx len 2 0 18 (p + 2) - 1) w) L C := c222n hM ht n0 (by omega) (by omega) (by omega) (by omega) (by omega)
      refine .inl ⟨nuF tx len 2 0 18 (p + 2) - 1, w, I, rfl, by omega, hself, fun Q => ?_⟩
      rw [he]
      simp (disch := first | assumption | omega) only [Nat.reduceAdd, X_go, go2_some, stp, ldI, ldA, ldL, stI, stA, stL, o1I, o2I, o2L, brI, brII, gl, s1, s2, k1, sl, go_sN, go_sR, go_CT, go_sT, go_no, go_if, pops, bk_v, bk_0, d221_0, d221_1, d221_2, d221_3, d221_6, d221_9, d221_10, d221_13, d221_14, d221_15, d221_18, d221_19, d221_22, d221_23, d221_24, d221_26, d221_27, d221_28, d221_30, d221_33, d221_34, d221_35, d221_36, d221_39, d221_40, d221_43, d221_44, d221_46, d221_47, d221_48, d221_49, d221_50, d221_53, d221_54, d221_55, d221_58, d221_59, d221_62, d221_63, d221_64, d221_65, d221_66, d221_68, d221_71, d221_74, d221_75, d221_76, d221_77, d221_79, d221_82, d221_85, d221_86, d221_87, d221_88, d221_91, d221_92, d221_93, d221_95, d221_98, d221_99, d221_101, d221_102, d221_103, d221_106, d221_107, d221_108, d221_111, d221_112, d221_113, d221_114, d221_116, d221_119, d221_122, d221_123, d221_124, d221_125, d221_128, d221_131, d221_134, d221_135, d221_136, d221_137, d221_140, d221_142, d221_143, d221_145, d221_148, d221_151, d221_152, d221_153, d221_154, d221_156, d221_159, d221_160, d221_163, d221_164, d221_167, d221_170, d221_171, d221_172, d221_173, d221_176, d221_178, d221_179, d221_180, d221_181, d221_184, d221_187, d221_188, d221_189, d221_190, d221_193, d221_195, d221_196, d221_198, d221_201, d221_203, d221_204, d221_205, d221_206, d221_208, d221_210, d221_212, d221_214, d221_217, d221_219, d221_220, d221_222, d221_225, n_lt, n_le, n_eq, n_lt0, n_ge0, n_gt0, n_le0, n_eq0, m_lt, m_le, m_gt, m_ge, m_eq, m_eq', m_lt0, m_ge0, m_gt0, m_le0, m_ltm, m_lem, n_in, m_in, n_cl, n_ti, n_div, n_rem', n_dec, n_l, nI_add, pk_mul, an0, an1, decide_eq_true_eq, if_true, if_false, ite_true, ite_false, and_true, true_and, and_false, false_and, not_true, not_false_iff, or_false, false_or, or_true, true_or, eq_self, va_some, Bool.false_eq_true, reduceIte, catS_n, catS_i, catS_r, catS_l, catS_d, Nat.zero_add, Nat.add_zero, decide_true, decide_false, Nat.reduceLeDiff, cat_r, cat_i, cat_l, nle_T, nle_F, nlt_T, nlt_F, neq_T, neq_F, k0, p0, p5, y1, y4, c220 hM ht, a1, mS_2, hty, n_sub, e48, hcn, a2, mS_p, c217 hM ht a3, hwq]
      done
  rw [if_neg a4]
  have a4 : waF tx len (tx p - 48) (p + 2) = 0 := by omega
  have n0 : nuF tx len 2 0 18 (p + 2) = 0 := by
    unfold waF at a4
    split at a4
    · assumption
    · omega
  have wl : ¬ (16 ≤ nuV tx len 2 (p + 2) 0 ∧ nuV tx len 2 (p + 2) 0 ≤ (tx p - 48) + 16) := by
    unfold waF at a4
    rw [if_pos n0] at a4
    intro q
    rw [if_pos q] at a4
    omega
  have b5 := nuF_0 n0
  generalize hw : nuV tx len 2 (p + 2) 0 = w at hw100 wl b5 ⊢
  generalize hqq : nuP tx len 2 (p + 2) = q at hq b5 ⊢
  have link : w < 16 ∨ (¬ w < 16 ∧ ¬ w - 16 ≤ tx p - 48) := by omega
  -- up to the weight's sign
  have stg : ∀ Q, CT d 221 [.ref 150] P (mS I p v) L C Q = X (d - 1) 221 113 [.ref 150, .int (nI (tx p - 48)), .int (nI (p + 1 + 1)), .int (nI w), UN, UN, UN, UN, UN] [] P (mS I q w) L C Q := fun Q => by
    rw [he]
    rcases link with l | ⟨l1, l2⟩
    · simp (disch := first | assumption | omega) only [Nat.reduceAdd, X_go, go2_some, stp, ldI, ldA, ldL, stI, stA, stL, o1I, o2I, o2L, brI, brII, gl, s1, s2, k1, sl, go_sN, go_sR, go_CT, go_sT, go_no, go_if, pops, bk_v, bk_0, d221_0, d221_1, d221_2, d221_3, d221_6, d221_9, d221_10, d221_13, d221_14, d221_15, d221_18, d221_19, d221_22, d221_23, d221_24, d221_26, d221_27, d221_28, d221_30, d221_33, d221_34, d221_35, d221_36, d221_39, d221_40, d221_43, d221_44, d221_46, d221_47, d221_48, d221_49, d221_50, d221_53, d221_54, d221_55, d221_58, d221_59, d221_62, d221_63, d221_64, d221_65, d221_66, d221_68, d221_71, d221_74, d221_75, d221_76, d221_77, d221_79, d221_82, d221_85, d221_86, d221_87, d221_88, d221_91, d221_92, d221_93, d221_95, d221_98, d221_99, d221_101, d221_102, d221_103, d221_106, d221_107, d221_108, d221_111, d221_112, d221_114, d221_116, d221_119, d221_122, d221_123, d221_124, d221_125, d221_128, d221_131, d221_134, d221_135, d221_136, d221_137, d221_140, d221_142, d221_143, d221_145, d221_148, d221_151, d221_152, d221_153, d221_154, d221_156, d221_159, d221_160, d221_163, d221_164, d221_167, d221_170, d221_171, d221_172, d221_173, d221_176, d221_178, d221_179, d221_180, d221_181, d221_184, d221_187, d221_188, d221_189, d221_190, d221_193, d221_195, d221_196, d221_198, d221_201, d221_203, d221_204, d221_205, d221_206, d221_208, d221_210, d221_212, d221_214, d221_217, d221_219, d221_220, d221_222, d221_225, n_lt, n_le, n_eq, n_lt0, n_ge0, n_gt0, n_le0, n_eq0, m_lt, m_le, m_gt, m_ge, m_eq, m_eq', m_lt0, m_ge0, m_gt0, m_le0, m_ltm, m_lem, n_in, m_in, n_cl, n_ti, n_div, n_rem', n_dec, n_l, nI_add, pk_mul, an0, an1, decide_eq_true_eq, if_true, if_false, ite_true, ite_false, and_true, true_and, and_false, false_and, not_true, not_false_iff, or_false, false_or, or_true, true_or, eq_self, va_some, Bool.false_eq_true, reduceIte, catS_n, catS_i, catS_r, catS_l, catS_d, Nat.zero_add, Nat.add_zero, decide_true, decide_false, Nat.reduceLeDiff, cat_r, cat_i, cat_l, nle_T, nle_F, nlt_T, nlt_F, neq_T, neq_F, k0, p0, p5, y1, y4, c220 hM ht, a1, mS_2, hty, n_sub, e48, hcn, a2, mS_p, c217 hM ht a3, c222 hM ht n0, hw, hqq, mS_3, l]
      done
    · simp (disch := first | assumption | omega) only [Nat.reduceAdd, X_go, go2_some, stp, ldI, ldA, ldL, stI, stA, stL, o1I, o2I, o2L, brI, brII, gl, s1, s2, k1, sl, go_sN, go_sR, go_CT, go_sT, go_no, go_if, pops, bk_v, bk_0, d221_0, d221_1, d221_2, d221_3, d221_6, d221_9, d221_10, d221_13, d221_14, d221_15, d221_18, d221_19, d221_22, d221_23, d221_24, d221_26, d221_27, d221_28, d221_30, d221_33, d221_34, d221_35, d221_36, d221_39, d221_40, d221_43, d221_44, d221_46, d221_47, d221_48, d221_49, d221_50, d221_53, d221_54, d221_55, d221_58, d221_59, d221_62, d221_63, d221_64, d221_65, d221_66, d221_68, d221_71, d221_74, d221_75, d221_76, d221_77, d221_79, d221_82, d221_85, d221_86, d221_87, d221_88, d221_91, d221_92, d221_93, d221_95, d221_98, d221_99, d221_101, d221_102, d221_103, d221_106, d221_107, d221_108, d221_111, d221_112, d221_114, d221_116, d221_119, d221_122, d221_123, d221_124, d221_125, d221_128, d221_131, d221_134, d221_135, d221_136, d221_137, d221_140, d221_142, d221_143, d221_145, d221_148, d221_151, d221_152, d221_153, d221_154, d221_156, d221_159, d221_160, d221_163, d221_164, d221_167, d221_170, d221_171, d221_172, d221_173, d221_176, d221_178, d221_179, d221_180, d221_181, d221_184, d221_187, d221_188, d221_189, d221_190, d221_193, d221_195, d221_196, d221_198, d221_201, d221_203, d221_204, d221_205, d221_206, d221_208, d221_210, d221_212, d221_214, d221_217, d221_219, d221_220, d221_222, d221_225, n_lt, n_le, n_eq, n_lt0, n_ge0, n_gt0, n_le0, n_eq0, m_lt, m_le, m_gt, m_ge, m_eq, m_eq', m_lt0, m_ge0, m_gt0, m_le0, m_ltm, m_lem, n_in, m_in, n_cl, n_ti, n_div, n_rem', n_dec, n_l, nI_add, pk_mul, an0, an1, decide_eq_true_eq, if_true, if_false, ite_true, ite_false, and_true, true_and, and_false, false_and, not_true, not_false_iff, or_false, false_or, or_true, true_or, eq_self, va_some, Bool.false_eq_true, reduceIte, catS_n, catS_i, catS_r, catS_l, catS_d, Nat.zero_add, Nat.add_zero, decide_true, decide_false, Nat.reduceLeDiff, cat_r, cat_i, cat_l, nle_T, nle_F, nlt_T, nlt_F, neq_T, neq_F, k0, p0, p5, y1, y4, c220 hM ht, a1, mS_2, hty, n_sub, e48, hcn, a2, mS_p, c217 hM ht a3, c222 hM ht n0, hw, hqq, mS_3, l1, l2]
      done
  by_cases a5 : ch tx len q 44 = false
  · rw [if_pos a5]
    refine .inl ⟨q, w, I, rfl, by omega, hself, fun Q => ?_⟩
    rw [stg, X_go, d221_113]
    simp (disch := first | assumption | omega) only [Nat.reduceAdd, X_go, go2_some, stp, ldI, ldA, ldL, stI, stA, stL, o1I, o2I, o2L, brI, brII, gl, s1, s2, k1, sl, go_sN, go_sR, go_CT, go_sT, go_no, go_if, pops, bk_v, bk_0, d221_0, d221_1, d221_2, d221_3, d221_6, d221_9, d221_10, d221_13, d221_14, d221_15, d221_18, d221_19, d221_22, d221_23, d221_24, d221_26, d221_27, d221_28, d221_30, d221_33, d221_34, d221_35, d221_36, d221_39, d221_40, d221_43, d221_44, d221_46, d221_47, d221_48, d221_49, d221_50, d221_53, d221_54, d221_55, d221_58, d221_59, d221_62, d221_63, d221_64, d221_65, d221_66, d221_68, d221_71, d221_74, d221_75, d221_76, d221_77, d221_79, d221_82, d221_85, d221_86, d221_87, d221_88, d221_91, d221_92, d221_93, d221_95, d221_98, d221_99, d221_101, d221_102, d221_103, d221_106, d221_107, d221_108, d221_111, d221_112, d221_114, d221_116, d221_119, d221_122, d221_123, d221_124, d221_125, d221_128, d221_131, d221_134, d221_135, d221_136, d221_137, d221_140, d221_142, d221_143, d221_145, d221_148, d221_151, d221_152, d221_153, d221_154, d221_156, d221_159, d221_160, d221_163, d221_164, d221_167, d221_170, d221_171, d221_172, d221_173, d221_176, d221_178, d221_179, d221_180, d221_181, d221_184, d221_187, d221_188, d221_189, d221_190, d221_193, d221_195, d221_196, d221_198, d221_201, d221_203, d221_204, d221_205, d221_206, d221_208, d221_210, d221_212, d221_214, d221_217, d221_219, d221_220, d221_222, d221_225, n_lt, n_le, n_eq, n_lt0, n_ge0, n_gt0, n_le0, n_eq0, m_lt, m_le, m_gt, m_ge, m_eq, m_eq', m_lt0, m_ge0, m_gt0, m_le0, m_ltm, m_lem, n_in, m_in, n_cl, n_ti, n_div, n_rem', n_dec, n_l, nI_add, pk_mul, an0, an1, decide_eq_true_eq, if_true, if_false, ite_true, ite_false, and_true, true_and, and_false, false_and, not_true, not_false_iff, or_false, false_or, or_true, true_or, eq_self, va_some, Bool.false_eq_true, reduceIte, catS_n, catS_i, catS_r, catS_l, catS_d, Nat.zero_add, Nat.add_zero, decide_true, decide_false, Nat.reduceLeDiff, cat_r, cat_i, cat_l, nle_T, nle_F, nlt_T, nlt_F, neq_T, neq_F, k0, c217n hM ht a5]
    done
  rw [if_neg a5]
  rw [Bool.not_eq_false] at a5
  have b6 := ch_b a5
  have hr := nuP_b (tx := tx) (len := len) 4 (q + 1)
  by_cases a6 : nuF tx len 4 1 1000 (q + 1) ≠ 0
  · rw [if_pos a6]
    have hwb := nuF_b (tx := tx) (len := len) (k := 4) (lo := 1) (hi := 1000) (p := q + 1)
    obtain ⟨w', hwq⟩ : ∃ w', ∀ Q, CT (d - 1) 222 [.ref 150, .int (nI 4), .int (nI 1), .int (nI 1000)] P (mS I (q + 1) w) L C Q = Q (.inl (some (.int (nI 0)))) P (mS I (nuF tx len 4 1 1000 (q + 1) - 1) w') L C := c222n hM ht a6 (by omega) (by omega) (by omega) (by omega) (by omega)
    refine .inl ⟨nuF tx len 4 1 1000 (q + 1) - 1, w', I, rfl, by omega, hself, fun Q => ?_⟩
    rw [stg, X_go, d221_113]
    simp (disch := first | assumption | omega) only [Nat.reduceAdd, X_go, go2_some, stp, ldI, ldA, ldL, stI, stA, stL, o1I, o2I, o2L, brI, brII, gl, s1, s2, k1, sl, go_sN, go_sR, go_CT, go_sT, go_no, go_if, pops, bk_v, bk_0, d221_0, d221_1, d221_2, d221_3, d221_6, d221_9, d221_10, d221_13, d221_14, d221_15, d221_18, d221_19, d221_22, d221_23, d221_24, d221_26, d221_27, d221_28, d221_30, d221_33, d221_34, d221_35, d221_36, d221_39, d221_40, d221_43, d221_44, d221_46, d221_47, d221_48, d221_49, d221_50, d221_53, d221_54, d221_55, d221_58, d221_59, d221_62, d221_63, d221_64, d221_65, d221_66, d221_68, d221_71, d221_74, d221_75, d221_76, d221_77, d221_79, d221_82, d221_85, d221_86, d221_87, d221_88, d221_91, d221_92, d221_93, d221_95, d221_98, d221_99, d221_101, d221_102, d221_103, d221_106, d221_107, d221_108, d221_111, d221_112, d221_114, d221_116, d221_119, d221_122, d221_123, d221_124, d221_125, d221_128, d221_131, d221_134, d221_135, d221_136, d221_137, d221_140, d221_142, d221_143, d221_145, d221_148, d221_151, d221_152, d221_153, d221_154, d221_156, d221_159, d221_160, d221_163, d221_164, d221_167, d221_170, d221_171, d221_172, d221_173, d221_176, d221_178, d221_179, d221_180, d221_181, d221_184, d221_187, d221_188, d221_189, d221_190, d221_193, d221_195, d221_196, d221_198, d221_201, d221_203, d221_204, d221_205, d221_206, d221_208, d221_210, d221_212, d221_214, d221_217, d221_219, d221_220, d221_222, d221_225, n_lt, n_le, n_eq, n_lt0, n_ge0, n_gt0, n_le0, n_eq0, m_lt, m_le, m_gt, m_ge, m_eq, m_eq', m_lt0, m_ge0, m_gt0, m_le0, m_ltm, m_lem, n_in, m_in, n_cl, n_ti, n_div, n_rem', n_dec, n_l, nI_add, pk_mul, an0, an1, decide_eq_true_eq, if_true, if_false, ite_true, ite_false, and_true, true_and, and_false, false_and, not_true, not_false_iff, or_false, false_or, or_true, true_or, eq_self, va_some, Bool.false_eq_true, reduceIte, catS_n, catS_i, catS_r, catS_l, catS_d, Nat.zero_add, Nat.add_zero, decide_true, decide_false, Nat.reduceLeDiff, cat_r, cat_i, cat_l, nle_T, nle_F, nlt_T, nlt_F, neq_T, neq_F, k0, c217 hM ht a5, hwq]
    done
  rw [if_neg a6]
  have a6 : nuF tx len 4 1 1000 (q + 1) = 0 := by omega
  have b7 := nuF_0 a6
  generalize hwe : nuV tx len 4 (q + 1) 0 = we at b7 ⊢
  generalize hrr : nuP tx len 4 (q + 1) = r at hr b7 ⊢
  by_cases a7 : ch tx len r 44 = false
  · rw [if_pos a7]
    refine .inl ⟨r, we, I, rfl, by omega, hself, fun Q => ?_⟩
    rw [stg, X_go, d221_113]
    simp (disch := first | assumption | omega) only [Nat.reduceAdd, X_go, go2_some, stp, ldI, ldA, ldL, stI, stA, stL, o1I, o2I, o2L, brI, brII, gl, s1, s2, k1, sl, go_sN, go_sR, go_CT, go_sT, go_no, go_if, pops, bk_v, bk_0, d221_0, d221_1, d221_2, d221_3, d221_6, d221_9, d221_10, d221_13, d221_14, d221_15, d221_18, d221_19, d221_22, d221_23, d221_24, d221_26, d221_27, d221_28, d221_30, d221_33, d221_34, d221_35, d221_36, d221_39, d221_40, d221_43, d221_44, d221_46, d221_47, d221_48, d221_49, d221_50, d221_53, d221_54, d221_55, d221_58, d221_59, d221_62, d221_63, d221_64, d221_65, d221_66, d221_68, d221_71, d221_74, d221_75, d221_76, d221_77, d221_79, d221_82, d221_85, d221_86, d221_87, d221_88, d221_91, d221_92, d221_93, d221_95, d221_98, d221_99, d221_101, d221_102, d221_103, d221_106, d221_107, d221_108, d221_111, d221_112, d221_114, d221_116, d221_119, d221_122, d221_123, d221_124, d221_125, d221_128, d221_131, d221_134, d221_135, d221_136, d221_137, d221_140, d221_142, d221_143, d221_145, d221_148, d221_151, d221_152, d221_153, d221_154, d221_156, d221_159, d221_160, d221_163, d221_164, d221_167, d221_170, d221_171, d221_172, d221_173, d221_176, d221_178, d221_179, d221_180, d221_181, d221_184, d221_187, d221_188, d221_189, d221_190, d221_193, d221_195, d221_196, d221_198, d221_201, d221_203, d221_204, d221_205, d221_206, d221_208, d221_210, d221_212, d221_214, d221_217, d221_219, d221_220, d221_222, d221_225, n_lt, n_le, n_eq, n_lt0, n_ge0, n_gt0, n_le0, n_eq0, m_lt, m_le, m_gt, m_ge, m_eq, m_eq', m_lt0, m_ge0, m_gt0, m_le0, m_ltm, m_lem, n_in, m_in, n_cl, n_ti, n_div, n_rem', n_dec, n_l, nI_add, pk_mul, an0, an1, decide_eq_true_eq, if_true, if_false, ite_true, ite_false, and_true, true_and, and_false, false_and, not_true, not_false_iff, or_false, false_or, or_true, true_or, eq_self, va_some, Bool.false_eq_true, reduceIte, catS_n, catS_i, catS_r, catS_l, catS_d, Nat.zero_add, Nat.add_zero, decide_true, decide_false, Nat.reduceLeDiff, cat_r, cat_i, cat_l, nle_T, nle_F, nlt_T, nlt_F, neq_T, neq_F, k0, c217 hM ht a5, c222 hM ht a6, hwe, hrr, mS_3, c217n hM ht a7]
    done
  rw [if_neg a7]
  rw [Bool.not_eq_false] at a7
  have b8 := ch_b a7
  have hm : (if w < 16 then 3 else 0) < 4 := by split <;> omega
  have hmI : (if 16 ≤ w then nI 0 else nI 3) = nI (if w < 16 then 3 else 0) := by
    by_cases l : w < 16
    · rw [if_pos l, if_neg (by omega)]
    · rw [if_neg l, if_pos (by omega)]
  generalize hmm : (if w < 16 then 3 else 0) = mr at hm hmI ⊢
  have stg2 : ∀ Q, CT d 221 [.ref 150] P (mS I p v) L C Q = CT (d - 1) 219 [.ref 150, .int (nI 0), .int (nI mr)] P (mS I (r + 1) we) L C (bk (d - 1) 221 164 [.ref 150, .int (nI (tx p - 48)), .int (nI (p + 1 + 1)), .int (nI w), .int (nI we), UN, UN, UN, UN] [] Q) := fun Q => by
    rw [stg, X_go, d221_113]
    by_cases l : w < 16
    · have l3 : mr = 3 := by rw [← hmm, if_pos l]
      subst l3
      simp (disch := first | assumption | omega) only [Nat.reduceAdd, X_go, go2_some, stp, ldI, ldA, ldL, stI, stA, stL, o1I, o2I, o2L, brI, brII, gl, s1, s2, k1, sl, go_sN, go_sR, go_CT, go_sT, go_no, go_if, pops, bk_v, bk_0, d221_0, d221_1, d221_2, d221_3, d221_6, d221_9, d221_10, d221_13, d221_14, d221_15, d221_18, d221_19, d221_22, d221_23, d221_24, d221_26, d221_27, d221_28, d221_30, d221_33, d221_34, d221_35, d221_36, d221_39, d221_40, d221_43, d221_44, d221_46, d221_47, d221_48, d221_49, d221_50, d221_53, d221_54, d221_55, d221_58, d221_59, d221_62, d221_63, d221_64, d221_65, d221_66, d221_68, d221_71, d221_74, d221_75, d221_76, d221_77, d221_79, d221_82, d221_85, d221_86, d221_87, d221_88, d221_91, d221_92, d221_93, d221_95, d221_98, d221_99, d221_101, d221_102, d221_103, d221_106, d221_107, d221_108, d221_111, d221_112, d221_114, d221_116, d221_119, d221_122, d221_123, d221_124, d221_125, d221_128, d221_131, d221_134, d221_135, d221_136, d221_137, d221_140, d221_142, d221_143, d221_145, d221_148, d221_151, d221_152, d221_153, d221_154, d221_156, d221_159, d221_160, d221_163, d221_164, d221_167, d221_170, d221_171, d221_172, d221_173, d221_176, d221_178, d221_179, d221_180, d221_181, d221_184, d221_187, d221_188, d221_189, d221_190, d221_193, d221_195, d221_196, d221_198, d221_201, d221_203, d221_204, d221_205, d221_206, d221_208, d221_210, d221_212, d221_214, d221_217, d221_219, d221_220, d221_222, d221_225, n_lt, n_le, n_eq, n_lt0, n_ge0, n_gt0, n_le0, n_eq0, m_lt, m_le, m_gt, m_ge, m_eq, m_eq', m_lt0, m_ge0, m_gt0, m_le0, m_ltm, m_lem, n_in, m_in, n_cl, n_ti, n_div, n_rem', n_dec, n_l, nI_add, pk_mul, an0, an1, decide_eq_true_eq, if_true, if_false, ite_true, ite_false, and_true, true_and, and_false, false_and, not_true, not_false_iff, or_false, false_or, or_true, true_or, eq_self, va_some, Bool.false_eq_true, reduceIte, catS_n, catS_i, catS_r, catS_l, catS_d, Nat.zero_add, Nat.add_zero, decide_true, decide_false, Nat.reduceLeDiff, cat_r, cat_i, cat_l, nle_T, nle_F, nlt_T, nlt_F, neq_T, neq_F, k0, c217 hM ht a5, c222 hM ht a6, hwe, hrr, mS_3, c217 hM ht a7, l]
      done
    · have l3 : mr = 0 := by rw [← hmm, if_neg l]
      subst l3
      simp (disch := first | assumption | omega) only [Nat.reduceAdd, X_go, go2_some, stp, ldI, ldA, ldL, stI, stA, stL, o1I, o2I, o2L, brI, brII, gl, s1, s2, k1, sl, go_sN, go_sR, go_CT, go_sT, go_no, go_if, pops, bk_v, bk_0, d221_0, d221_1, d221_2, d221_3, d221_6, d221_9, d221_10, d221_13, d221_14, d221_15, d221_18, d221_19, d221_22, d221_23, d221_24, d221_26, d221_27, d221_28, d221_30, d221_33, d221_34, d221_35, d221_36, d221_39, d221_40, d221_43, d221_44, d221_46, d221_47, d221_48, d221_49, d221_50, d221_53, d221_54, d221_55, d221_58, d221_59, d221_62, d221_63, d221_64, d221_65, d221_66, d221_68, d221_71, d221_74, d221_75, d221_76, d221_77, d221_79, d221_82, d221_85, d221_86, d221_87, d221_88, d221_91, d221_92, d221_93, d221_95, d221_98, d221_99, d221_101, d221_102, d221_103, d221_106, d221_107, d221_108, d221_111, d221_112, d221_114, d221_116, d221_119, d221_122, d221_123, d221_124, d221_125, d221_128, d221_131, d221_134, d221_135, d221_136, d221_137, d221_140, d221_142, d221_143, d221_145, d221_148, d221_151, d221_152, d221_153, d221_154, d221_156, d221_159, d221_160, d221_163, d221_164, d221_167, d221_170, d221_171, d221_172, d221_173, d221_176, d221_178, d221_179, d221_180, d221_181, d221_184, d221_187, d221_188, d221_189, d221_190, d221_193, d221_195, d221_196, d221_198, d221_201, d221_203, d221_204, d221_205, d221_206, d221_208, d221_210, d221_212, d221_214, d221_217, d221_219, d221_220, d221_222, d221_225, n_lt, n_le, n_eq, n_lt0, n_ge0, n_gt0, n_le0, n_eq0, m_lt, m_le, m_gt, m_ge, m_eq, m_eq', m_lt0, m_ge0, m_gt0, m_le0, m_ltm, m_lem, n_in, m_in, n_cl, n_ti, n_div, n_rem', n_dec, n_l, nI_add, pk_mul, an0, an1, decide_eq_true_eq, if_true, if_false, ite_true, ite_false, and_true, true_and, and_false, false_and, not_true, not_false_iff, or_false, false_or, or_true, true_or, eq_self, va_some, Bool.false_eq_true, reduceIte, catS_n, catS_i, catS_r, catS_l, catS_d, Nat.zero_add, Nat.add_zero, decide_true, decide_false, Nat.reduceLeDiff, cat_r, cat_i, cat_l, nle_T, nle_F, nlt_T, nlt_F, neq_T, neq_F, k0, c217 hM ht a5, c222 hM ht a6, hwe, hrr, mS_3, c217 hM ht a7, l]
      done
  by_cases a8 : isD tx len (r + 1) 0 mr = false
  · rw [if_pos a8]
    refine .inl ⟨r + 1, 0, I, rfl, by omega, hself, fun Q => ?_⟩
    rw [stg2, c219n hM ht a8 (by omega) (by omega) (by omega) (by omega)]
    simp (disch := first | assumption | omega) only [Nat.reduceAdd, X_go, go2_some, stp, ldI, ldA, ldL, stI, stA, stL, o1I, o2I, o2L, brI, brII, gl, s1, s2, k1, sl, go_sN, go_sR, go_CT, go_sT, go_no, go_if, pops, bk_v, bk_0, d221_0, d221_1, d221_2, d221_3, d221_6, d221_9, d221_10, d221_13, d221_14, d221_15, d221_18, d221_19, d221_22, d221_23, d221_24, d221_26, d221_27, d221_28, d221_30, d221_33, d221_34, d221_35, d221_36, d221_39, d221_40, d221_43, d221_44, d221_46, d221_47, d221_48, d221_49, d221_50, d221_53, d221_54, d221_55, d221_58, d221_59, d221_62, d221_63, d221_64, d221_65, d221_66, d221_68, d221_71, d221_74, d221_75, d221_76, d221_77, d221_79, d221_82, d221_85, d221_86, d221_87, d221_88, d221_91, d221_92, d221_93, d221_95, d221_98, d221_99, d221_101, d221_102, d221_103, d221_106, d221_107, d221_108, d221_111, d221_112, d221_114, d221_116, d221_119, d221_122, d221_123, d221_124, d221_125, d221_128, d221_131, d221_134, d221_135, d221_136, d221_137, d221_140, d221_142, d221_143, d221_145, d221_148, d221_151, d221_152, d221_153, d221_154, d221_156, d221_159, d221_160, d221_163, d221_164, d221_167, d221_170, d221_171, d221_172, d221_173, d221_176, d221_178, d221_179, d221_180, d221_181, d221_184, d221_187, d221_188, d221_189, d221_190, d221_193, d221_195, d221_196, d221_198, d221_201, d221_203, d221_204, d221_205, d221_206, d221_208, d221_210, d221_212, d221_214, d221_217, d221_219, d221_220, d221_222, d221_225, n_lt, n_le, n_eq, n_lt0, n_ge0, n_gt0, n_le0, n_eq0, m_lt, m_le, m_gt, m_ge, m_eq, m_eq', m_lt0, m_ge0, m_gt0, m_le0, m_ltm, m_lem, n_in, m_in, n_cl, n_ti, n_div, n_rem', n_dec, n_l, nI_add, pk_mul, an0, an1, decide_eq_true_eq, if_true, if_false, ite_true, ite_false, and_true, true_and, and_false, false_and, not_true, not_false_iff, or_false, false_or, or_true, true_or, eq_self, va_some, Bool.false_eq_true, reduceIte, catS_n, catS_i, catS_r, catS_l, catS_d, Nat.zero_add, Nat.add_zero, decide_true, decide_false, Nat.reduceLeDiff, cat_r, cat_i, cat_l, nle_T, nle_F, nlt_T, nlt_F, neq_T, neq_F, k0]
    done
  rw [if_neg a8]
  rw [Bool.not_eq_false] at a8
  have b9 := isD_b a8
  by_cases a9 : isD tx len (r + 2) 0 3 = false
  · rw [if_pos a9]
    refine .inl ⟨r + 2, 0, I, rfl, by omega, hself, fun Q => ?_⟩
    rw [stg2, c219 hM ht a8 (by omega) (by omega) (by omega) (by omega)]
    simp (disch := first | assumption | omega) only [Nat.reduceAdd, X_go, go2_some, stp, ldI, ldA, ldL, stI, stA, stL, o1I, o2I, o2L, brI, brII, gl, s1, s2, k1, sl, go_sN, go_sR, go_CT, go_sT, go_no, go_if, pops, bk_v, bk_0, d221_0, d221_1, d221_2, d221_3, d221_6, d221_9, d221_10, d221_13, d221_14, d221_15, d221_18, d221_19, d221_22, d221_23, d221_24, d221_26, d221_27, d221_28, d221_30, d221_33, d221_34, d221_35, d221_36, d221_39, d221_40, d221_43, d221_44, d221_46, d221_47, d221_48, d221_49, d221_50, d221_53, d221_54, d221_55, d221_58, d221_59, d221_62, d221_63, d221_64, d221_65, d221_66, d221_68, d221_71, d221_74, d221_75, d221_76, d221_77, d221_79, d221_82, d221_85, d221_86, d221_87, d221_88, d221_91, d221_92, d221_93, d221_95, d221_98, d221_99, d221_101, d221_102, d221_103, d221_106, d221_107, d221_108, d221_111, d221_112, d221_114, d221_116, d221_119, d221_122, d221_123, d221_124, d221_125, d221_128, d221_131, d221_134, d221_135, d221_136, d221_137, d221_140, d221_142, d221_143, d221_145, d221_148, d221_151, d221_152, d221_153, d221_154, d221_156, d221_159, d221_160, d221_163, d221_164, d221_167, d221_170, d221_171, d221_172, d221_173, d221_176, d221_178, d221_179, d221_180, d221_181, d221_184, d221_187, d221_188, d221_189, d221_190, d221_193, d221_195, d221_196, d221_198, d221_201, d221_203, d221_204, d221_205, d221_206, d221_208, d221_210, d221_212, d221_214, d221_217, d221_219, d221_220, d221_222, d221_225, n_lt, n_le, n_eq, n_lt0, n_ge0, n_gt0, n_le0, n_eq0, m_lt, m_le, m_gt, m_ge, m_eq, m_eq', m_lt0, m_ge0, m_gt0, m_le0, m_ltm, m_lem, n_in, m_in, n_cl, n_ti, n_div, n_rem', n_dec, n_l, nI_add, pk_mul, an0, an1, decide_eq_true_eq, if_true, if_false, ite_true, ite_false, and_true, true_and, and_false, false_and, not_true, not_false_iff, or_false, false_or, or_true, true_or, eq_self, va_some, Bool.false_eq_true, reduceIte, catS_n, catS_i, catS_r, catS_l, catS_d, Nat.zero_add, Nat.add_zero, decide_true, decide_false, Nat.reduceLeDiff, cat_r, cat_i, cat_l, nle_T, nle_F, nlt_T, nlt_F, neq_T, neq_F, k0, mS_3, c219n hM ht a9]
    done
  rw [if_neg a9]
  rw [Bool.not_eq_false] at a9
  have b10 := isD_b a9
  have htt : tx p - 48 < 3 := by omega
  have hra : mr ≤ 3 := by omega
  have hra2 : 16 ≤ w → mr = 0 := fun h => by rw [← hmm]; exact if_neg (by omega)
  have tail : ∀ (s on : Nat), on ≤ 1 → s ≤ len → p < s → (∀ Q, CT d 221 [.ref 150] P (mS I p v) L C Q = CT (d - 1) 162 [.ref 150, .int (nI (tx p - 48)), .int (nI w), .int (nI we), .int (nI (tx (r + 1) - 48)), .int (nI (tx (r + 2) - 48)), .int (nI on)] P (mS I s (tx (r + 2) - 48)) L C (bk (d - 1) 221 214 [.ref 150, .int (nI (tx p - 48)), .int (nI (p + 1 + 1)), .int (nI w), .int (nI we), .int (nI (tx (r + 1) - 48)), .int (nI (tx (r + 2) - 48)), .int (nI on), UN] [] Q)) → (∃ f w' I', (if ch tx len s 59 = false then (.inl s : Nat ⊕ (Nat × GS)) else .inr (s + 1, addG g (tx p - 48) w we (tx (r + 1) - 48) (tx (r + 2) - 48) on)) = .inl f ∧ f < 1000 ∧ fp I I' ∧ ∀ Q, CT d 221 [.ref 150] P (mS I p v) L C Q = Q (.inl (some (.int (nI 0)))) P (mS I' f w') L C) ∨ ∃ s' w' g' I', (if ch tx len s 59 = false then (.inl s : Nat ⊕ (Nat × GS)) else .inr (s + 1, addG g (tx p - 48) w we (tx (r + 1) - 48) (tx (r + 2) - 48) on)) = .inr (s', g') ∧ p < s' ∧ s' ≤ len ∧ NR I' g' ∧ TV g' ∧ (∀ k, 114 ≤ k → g' k = g k) ∧ fp I I' ∧ ∀ Q, CT d 221 [.ref 150] P (mS I p v) L C Q = Q (.inl (some (.int (nI 1)))) P (mS I' s' w') L C := by
    intro s on hon hs hps hst
    obtain ⟨J, i1, i2, i3⟩ := c162 (d := d - 1) (I := mS I s (tx (r + 2) - 48)) (L := L) (C := C) (w := w) (we := we) (ra := tx (r + 1) - 48) (gr := tx (r + 2) - 48) hM (NR_mS hn) (by omega) htt a2 hon
    have hJ : mS J s (tx (r + 2) - 48) = J := mS_id (by rw [i2 _ _ (by omega), mS_2]) (by rw [i2 _ _ (by omega), mS_3])
    have hfp : fp I J := ⟨fun k j h h' => by rw [i2 _ _ h', mS_n (.inl h)], fun j h => by rw [i2 _ _ (by omega), mS_n (.inr h)]⟩
    have htJ := TY_fp ht hfp
    by_cases a11 : ch tx len s 59 = false
    · rw [if_pos a11]
      refine .inl ⟨s, tx (r + 2) - 48, J, rfl, by omega, hfp, fun Q => ?_⟩
      have h217 := fun Q => c217n (d := d - 1) (P := P) (L := L) (C := C) (Q := Q) (v := tx (r + 2) - 48) hM htJ a11 (by omega) (by omega) (by omega)
      rw [hJ] at h217 ⊢
      rw [hst, i3]
      simp (disch := first | assumption | omega) only [Nat.reduceAdd, X_go, go2_some, stp, ldI, ldA, ldL, stI, stA, stL, o1I, o2I, o2L, brI, brII, gl, s1, s2, k1, sl, go_sN, go_sR, go_CT, go_sT, go_no, go_if, pops, bk_v, bk_0, d221_0, d221_1, d221_2, d221_3, d221_6, d221_9, d221_10, d221_13, d221_14, d221_15, d221_18, d221_19, d221_22, d221_23, d221_24, d221_26, d221_27, d221_28, d221_30, d221_33, d221_34, d221_35, d221_36, d221_39, d221_40, d221_43, d221_44, d221_46, d221_47, d221_48, d221_49, d221_50, d221_53, d221_54, d221_55, d221_58, d221_59, d221_62, d221_63, d221_64, d221_65, d221_66, d221_68, d221_71, d221_74, d221_75, d221_76, d221_77, d221_79, d221_82, d221_85, d221_86, d221_87, d221_88, d221_91, d221_92, d221_93, d221_95, d221_98, d221_99, d221_101, d221_102, d221_103, d221_106, d221_107, d221_108, d221_111, d221_112, d221_114, d221_116, d221_119, d221_122, d221_123, d221_124, d221_125, d221_128, d221_131, d221_134, d221_135, d221_136, d221_137, d221_140, d221_142, d221_143, d221_145, d221_148, d221_151, d221_152, d221_153, d221_154, d221_156, d221_159, d221_160, d221_163, d221_164, d221_167, d221_170, d221_171, d221_172, d221_173, d221_176, d221_178, d221_179, d221_180, d221_181, d221_184, d221_187, d221_188, d221_189, d221_190, d221_193, d221_195, d221_196, d221_198, d221_201, d221_203, d221_204, d221_205, d221_206, d221_208, d221_210, d221_212, d221_214, d221_217, d221_219, d221_220, d221_222, d221_225, n_lt, n_le, n_eq, n_lt0, n_ge0, n_gt0, n_le0, n_eq0, m_lt, m_le, m_gt, m_ge, m_eq, m_eq', m_lt0, m_ge0, m_gt0, m_le0, m_ltm, m_lem, n_in, m_in, n_cl, n_ti, n_div, n_rem', n_dec, n_l, nI_add, pk_mul, an0, an1, decide_eq_true_eq, if_true, if_false, ite_true, ite_false, and_true, true_and, and_false, false_and, not_true, not_false_iff, or_false, false_or, or_true, true_or, eq_self, va_some, Bool.false_eq_true, reduceIte, catS_n, catS_i, catS_r, catS_l, catS_d, Nat.zero_add, Nat.add_zero, decide_true, decide_false, Nat.reduceLeDiff, cat_r, cat_i, cat_l, nle_T, nle_F, nlt_T, nlt_F, neq_T, neq_F, k0, h217]
      done
    · rw [if_neg a11]
      rw [Bool.not_eq_false] at a11
      have b12 := ch_b a11
      refine .inr ⟨s + 1, tx (r + 2) - 48, _, J, rfl, by omega, by omega, i1, TV_add hv htt a2 (by omega) (fun _ => by omega) (fun h => ⟨by omega, by have := hra2 h; omega⟩) b7.2.2.1 b7.2.2.2 (by omega) hon, fun k hk => addG_o htt a2 (.inr hk), hfp, fun Q => ?_⟩
      have h217 := fun Q => c217 (d := d - 1) (P := P) (L := L) (C := C) (Q := Q) (v := tx (r + 2) - 48) hM htJ a11 (by omega) (by omega) (by omega)
      rw [hJ] at h217
      rw [hst, i3]
      simp (disch := first | assumption | omega) only [Nat.reduceAdd, X_go, go2_some, stp, ldI, ldA, ldL, stI, stA, stL, o1I, o2I, o2L, brI, brII, gl, s1, s2, k1, sl, go_sN, go_sR, go_CT, go_sT, go_no, go_if, pops, bk_v, bk_0, d221_0, d221_1, d221_2, d221_3, d221_6, d221_9, d221_10, d221_13, d221_14, d221_15, d221_18, d221_19, d221_22, d221_23, d221_24, d221_26, d221_27, d221_28, d221_30, d221_33, d221_34, d221_35, d221_36, d221_39, d221_40, d221_43, d221_44, d221_46, d221_47, d221_48, d221_49, d221_50, d221_53, d221_54, d221_55, d221_58, d221_59, d221_62, d221_63, d221_64, d221_65, d221_66, d221_68, d221_71, d221_74, d221_75, d221_76, d221_77, d221_79, d221_82, d221_85, d221_86, d221_87, d221_88, d221_91, d221_92, d221_93, d221_95, d221_98, d221_99, d221_101, d221_102, d221_103, d221_106, d221_107, d221_108, d221_111, d221_112, d221_114, d221_116, d221_119, d221_122, d221_123, d221_124, d221_125, d221_128, d221_131, d221_134, d221_135, d221_136, d221_137, d221_140, d221_142, d221_143, d221_145, d221_148, d221_151, d221_152, d221_153, d221_154, d221_156, d221_159, d221_160, d221_163, d221_164, d221_167, d221_170, d221_171, d221_172, d221_173, d221_176, d221_178, d221_179, d221_180, d221_181, d221_184, d221_187, d221_188, d221_189, d221_190, d221_193, d221_195, d221_196, d221_198, d221_201, d221_203, d221_204, d221_205, d221_206, d221_208, d221_210, d221_212, d221_214, d221_217, d221_219, d221_220, d221_222, d221_225, n_lt, n_le, n_eq, n_lt0, n_ge0, n_gt0, n_le0, n_eq0, m_lt, m_le, m_gt, m_ge, m_eq, m_eq', m_lt0, m_ge0, m_gt0, m_le0, m_ltm, m_lem, n_in, m_in, n_cl, n_ti, n_div, n_rem', n_dec, n_l, nI_add, pk_mul, an0, an1, decide_eq_true_eq, if_true, if_false, ite_true, ite_false, and_true, true_and, and_false, false_and, not_true, not_false_iff, or_false, false_or, or_true, true_or, eq_self, va_some, Bool.false_eq_true, reduceIte, catS_n, catS_i, catS_r, catS_l, catS_d, Nat.zero_add, Nat.add_zero, decide_true, decide_false, Nat.reduceLeDiff, cat_r, cat_i, cat_l, nle_T, nle_F, nlt_T, nlt_F, neq_T, neq_F, k0, h217]
      done
  by_cases a10 : ch tx len (r + 3) 111 = true
  · have b11 := ch_b a10
    rw [if_pos a10, if_pos a10]
    refine tail (r + 4) 1 (by omega) (by omega) (by omega) fun Q => ?_
    rw [stg2, c219 hM ht a8 (by omega) (by omega) (by omega) (by omega)]
    simp (disch := first | assumption | omega) only [Nat.reduceAdd, X_go, go2_some, stp, ldI, ldA, ldL, stI, stA, stL, o1I, o2I, o2L, brI, brII, gl, s1, s2, k1, sl, go_sN, go_sR, go_CT, go_sT, go_no, go_if, pops, bk_v, bk_0, d221_0, d221_1, d221_2, d221_3, d221_6, d221_9, d221_10, d221_13, d221_14, d221_15, d221_18, d221_19, d221_22, d221_23, d221_24, d221_26, d221_27, d221_28, d221_30, d221_33, d221_34, d221_35, d221_36, d221_39, d221_40, d221_43, d221_44, d221_46, d221_47, d221_48, d221_49, d221_50, d221_53, d221_54, d221_55, d221_58, d221_59, d221_62, d221_63, d221_64, d221_65, d221_66, d221_68, d221_71, d221_74, d221_75, d221_76, d221_77, d221_79, d221_82, d221_85, d221_86, d221_87, d221_88, d221_91, d221_92, d221_93, d221_95, d221_98, d221_99, d221_101, d221_102, d221_103, d221_106, d221_107, d221_108, d221_111, d221_112, d221_114, d221_116, d221_119, d221_122, d221_123, d221_124, d221_125, d221_128, d221_131, d221_134, d221_135, d221_136, d221_137, d221_140, d221_142, d221_143, d221_145, d221_148, d221_151, d221_152, d221_153, d221_154, d221_156, d221_159, d221_160, d221_163, d221_164, d221_167, d221_170, d221_171, d221_172, d221_173, d221_176, d221_178, d221_179, d221_180, d221_181, d221_184, d221_187, d221_188, d221_189, d221_190, d221_193, d221_195, d221_196, d221_198, d221_201, d221_203, d221_204, d221_205, d221_206, d221_208, d221_210, d221_212, d221_214, d221_217, d221_219, d221_220, d221_222, d221_225, n_lt, n_le, n_eq, n_lt0, n_ge0, n_gt0, n_le0, n_eq0, m_lt, m_le, m_gt, m_ge, m_eq, m_eq', m_lt0, m_ge0, m_gt0, m_le0, m_ltm, m_lem, n_in, m_in, n_cl, n_ti, n_div, n_rem', n_dec, n_l, nI_add, pk_mul, an0, an1, decide_eq_true_eq, if_true, if_false, ite_true, ite_false, and_true, true_and, and_false, false_and, not_true, not_false_iff, or_false, false_or, or_true, true_or, eq_self, va_some, Bool.false_eq_true, reduceIte, catS_n, catS_i, catS_r, catS_l, catS_d, Nat.zero_add, Nat.add_zero, decide_true, decide_false, Nat.reduceLeDiff, cat_r, cat_i, cat_l, nle_T, nle_F, nlt_T, nlt_F, neq_T, neq_F, k0, mS_3, c219 hM ht a9, c217 hM ht a10]
    done
  · rw [Bool.not_eq_true] at a10
    rw [a10, if_neg (show ¬ (false = true) by decide), if_neg (show ¬ (false = true) by decide)]
    refine tail (r + 3) 0 (by omega) (by omega) (by omega) fun Q => ?_
    rw [stg2, c219 hM ht a8 (by omega) (by omega) (by omega) (by omega)]
    simp (disch := first | assumption | omega) only [Nat.reduceAdd, X_go, go2_some, stp, ldI, ldA, ldL, stI, stA, stL, o1I, o2I, o2L, brI, brII, gl, s1, s2, k1, sl, go_sN, go_sR, go_CT, go_sT, go_no, go_if, pops, bk_v, bk_0, d221_0, d221_1, d221_2, d221_3, d221_6, d221_9, d221_10, d221_13, d221_14, d221_15, d221_18, d221_19, d221_22, d221_23, d221_24, d221_26, d221_27, d221_28, d221_30, d221_33, d221_34, d221_35, d221_36, d221_39, d221_40, d221_43, d221_44, d221_46, d221_47, d221_48, d221_49, d221_50, d221_53, d221_54, d221_55, d221_58, d221_59, d221_62, d221_63, d221_64, d221_65, d221_66, d221_68, d221_71, d221_74, d221_75, d221_76, d221_77, d221_79, d221_82, d221_85, d221_86, d221_87, d221_88, d221_91, d221_92, d221_93, d221_95, d221_98, d221_99, d221_101, d221_102, d221_103, d221_106, d221_107, d221_108, d221_111, d221_112, d221_114, d221_116, d221_119, d221_122, d221_123, d221_124, d221_125, d221_128, d221_131, d221_134, d221_135, d221_136, d221_137, d221_140, d221_142, d221_143, d221_145, d221_148, d221_151, d221_152, d221_153, d221_154, d221_156, d221_159, d221_160, d221_163, d221_164, d221_167, d221_170, d221_171, d221_172, d221_173, d221_176, d221_178, d221_179, d221_180, d221_181, d221_184, d221_187, d221_188, d221_189, d221_190, d221_193, d221_195, d221_196, d221_198, d221_201, d221_203, d221_204, d221_205, d221_206, d221_208, d221_210, d221_212, d221_214, d221_217, d221_219, d221_220, d221_222, d221_225, n_lt, n_le, n_eq, n_lt0, n_ge0, n_gt0, n_le0, n_eq0, m_lt, m_le, m_gt, m_ge, m_eq, m_eq', m_lt0, m_ge0, m_gt0, m_le0, m_ltm, m_lem, n_in, m_in, n_cl, n_ti, n_div, n_rem', n_dec, n_l, nI_add, pk_mul, an0, an1, decide_eq_true_eq, if_true, if_false, ite_true, ite_false, and_true, true_and, and_false, false_and, not_true, not_false_iff, or_false, false_or, or_true, true_or, eq_self, va_some, Bool.false_eq_true, reduceIte, catS_n, catS_i, catS_r, catS_l, catS_d, Nat.zero_add, Nat.add_zero, decide_true, decide_false, Nat.reduceLeDiff, cat_r, cat_i, cat_l, nle_T, nle_F, nlt_T, nlt_F, neq_T, neq_F, k0, mS_3, c219 hM ht a9, c217n hM ht a10]
    done
