/-! COPIES of states, the ring of saved states -/
def cpR (I : MI) (b a n : Nat) : MI := xr I b (va_cpy (I a) (I b) 0 0 n)
theorem cpR_s {I : MI} {b a n j : Nat} (h : j < n) : cpR I b a n b j = I a j := by
  unfold cpR
  rw [xr_s, pk_cpy_in (Nat.zero_le j) (by omega), Nat.zero_add]; rfl
theorem cpR_n {I : MI} {b a n k j : Nat} (h : k ≠ b) : cpR I b a n k j = I k j := by
  unfold cpR
  rw [xr_n _ _ h]
def copT (I : MI) (T S : Nat) : MI := cpR (cpR (cpR (cpR (cpR (cpR (cpR (cpR I (T + 1) (S + 1) 3) (T + 2) (S + 2) 3) (T + 3) (S + 3) 18) (T + 4) (S + 4) 18) (T + 5) (S + 5) 18) (T + 6) (S + 6) 18) (T + 7) (S + 7) 18) (T + 8) (S + 8) 18
def copL (I : MI) (K S : Nat) : MI := xu (xu (cpR (cpR I (K + 1) (S + 1) 4) (K + 2) (S + 2) 4) K 2 (I S 2)) K 3 (I S 3)
def copF (I : MI) (F S : Nat) : MI := xu (xu (cpR (cpR (cpR (cpR I (F + 1) (S + 1) 16) (F + 2) (S + 2) 20) (F + 3) (S + 3) 20) (F + 4) (S + 4) 20) F 4 (I S 4)) F 5 (I S 5)
def copS (I : MI) (b a : Nat) : MI := copF (copL (copT I (b + 1) (a + 1)) (b + 10) (a + 10)) (b + 13) (a + 13)
theorem copT_n {I : MI} {T S k j : Nat} (h : k ≤ T ∨ T + 8 < k) : copT I T S k j = I k j := by
  unfold copT; simp (disch := omega) only [cpR_n]
theorem copL_n {I : MI} {K S k j : Nat} (h : k < K ∨ K + 2 < k) : copL I K S k j = I k j := by
  unfold copL; simp (disch := omega) only [cpR_n, xu_n]
theorem copF_n {I : MI} {F S k j : Nat} (h : k < F ∨ F + 4 < k) : copF I F S k j = I k j := by
  unfold copF; simp (disch := omega) only [cpR_n, xu_n]
theorem copS_n {I : MI} {b a k j : Nat} (h : k < b ∨ b + 17 < k) : copS I b a k j = I k j := by
  unfold copS
  rw [copF_n (by omega), copL_n (by omega), copT_n (by omega)]
theorem TR_cop {I : MI} {T S : Nat} {g : GS} (hg : TR I S g) (hv : TV g) (h : T + 8 < S ∨ S + 8 < T) : TR (copT I T S) T g := by
  refine ⟨fun t ht => ?_, fun t ht => ?_, fun t e ht he => ?_⟩
  · unfold copT; simp (disch := omega) only [cpR_n, cpR_s]; exact hg.1 t ht
  · unfold copT; simp (disch := omega) only [cpR_n, cpR_s]; exact hg.2.1 t ht
  · have := hv.2.1 t ht
    unfold copT; simp (disch := omega) only [cpR_n, cpR_s]; exact hg.2.2 t e ht he
theorem LR_cop {I : MI} {K S : Nat} {g : GS} (hg : LR I S g) (h : K + 2 < S ∨ S + 2 < K) : LR (copL I K S) K g := by
  refine ⟨fun r h1 h2 => ?_, ?_, ?_⟩
  · unfold copL; simp (disch := omega) only [cpR_n, cpR_s, xu_n]; exact hg.1 r h1 h2
  · unfold copL; simp (disch := omega) only [xu_s, xu_n]; exact hg.2.1
  · unfold copL; simp (disch := omega) only [xu_s]; exact hg.2.2
theorem FR_cop {I : MI} {F S : Nat} {g : GS} (hg : FR' I S g) (h : F + 4 < S ∨ S + 4 < F) : FR' (copF I F S) F g := by
  refine ⟨fun i hi => ?_, ?_, ?_, fun i hi => ?_⟩
  · unfold copF; simp (disch := omega) only [cpR_n, cpR_s, xu_n]; exact hg.1 i hi
  · unfold copF; simp (disch := omega) only [xu_s, xu_n]; exact hg.2.1
  · unfold copF; simp (disch := omega) only [xu_s]; exact hg.2.2.1
  · have := Nat.mod_lt (g 123 - 1 - i) (by omega : 20 > 0)
    unfold copF; simp (disch := omega) only [cpR_n, cpR_s, xu_n]; exact hg.2.2.2 i hi
theorem RC_cop {I : MI} {b a : Nat} {g : GS} (hg : RC I a g) (hv : TV g) (h : b + 17 < a ∨ a + 17 < b) : RC (copS I b a) b g := by
  obtain ⟨h1, h2, h3⟩ := hg
  have q1 : TR (copT I (b + 1) (a + 1)) (b + 1) g := TR_cop h1 hv (by omega)
  have q2 : LR (copL (copT I (b + 1) (a + 1)) (b + 10) (a + 10)) (b + 10) g := LR_cop (LR_fr h2 fun k j _ _ => copT_n (by omega)) (by omega)
  have q3 : FR' (copS I b a) (b + 13) g := FR_cop (FR_fr h3 fun k j _ _ => (copL_n (by omega)).trans (copT_n (by omega))) (by omega)
  refine ⟨TR_fr q1 fun k j _ _ => ?_, LR_fr q2 fun k j _ _ => ?_, q3⟩
  · unfold copS; rw [copF_n (by omega), copL_n (by omega)]
  · unfold copS; rw [copF_n (by omega)]
theorem d16_0 : dec 16 0 = some (.aload_n 1, 1, []) := rfl
theorem d16_1 : dec 16 1 = some (.getfield 9, 3, [1, 7, 0, 2, 0, 41]) := rfl
theorem d16_4 : dec 16 4 = some (.aload_n 0, 1, []) := rfl
theorem d16_5 : dec 16 5 = some (.getfield 9, 3, [1, 7, 0, 2, 0, 41]) := rfl
theorem d16_8 : dec 16 8 = some (.invokestatic 42, 3, [2, 17, 0, 9, 1, 397, 2, 2]) := rfl
theorem d16_11 : dec 16 11 = some (.aload_n 1, 1, []) := rfl
theorem d16_12 : dec 16 12 = some (.getfield 15, 3, [1, 7, 1, 2, 0, 45]) := rfl
theorem d16_15 : dec 16 15 = some (.aload_n 0, 1, []) := rfl
theorem d16_16 : dec 16 16 = some (.getfield 15, 3, [1, 7, 1, 2, 0, 45]) := rfl
theorem d16_19 : dec 16 19 = some (.invokestatic 42, 3, [2, 17, 0, 9, 1, 397, 2, 2]) := rfl
theorem d16_22 : dec 16 22 = some (.aload_n 1, 1, []) := rfl
theorem d16_23 : dec 16 23 = some (.getfield 18, 3, [1, 7, 2, 2, 0, 46]) := rfl
theorem d16_26 : dec 16 26 = some (.aload_n 0, 1, []) := rfl
theorem d16_27 : dec 16 27 = some (.getfield 18, 3, [1, 7, 2, 2, 0, 46]) := rfl
theorem d16_30 : dec 16 30 = some (.invokestatic 42, 3, [2, 17, 0, 9, 1, 397, 2, 2]) := rfl
theorem d16_33 : dec 16 33 = some (.aload_n 1, 1, []) := rfl
theorem d16_34 : dec 16 34 = some (.getfield 21, 3, [1, 7, 3, 2, 0, 51]) := rfl
theorem d16_37 : dec 16 37 = some (.aload_n 0, 1, []) := rfl
theorem d16_38 : dec 16 38 = some (.getfield 21, 3, [1, 7, 3, 2, 0, 51]) := rfl
theorem d16_41 : dec 16 41 = some (.invokestatic 42, 3, [2, 17, 0, 9, 1, 397, 2, 2]) := rfl
theorem d16_44 : dec 16 44 = some (.aload_n 1, 1, []) := rfl
theorem d16_45 : dec 16 45 = some (.getfield 24, 3, [1, 7, 4, 2, 0, 54]) := rfl
theorem d16_48 : dec 16 48 = some (.aload_n 0, 1, []) := rfl
theorem d16_49 : dec 16 49 = some (.getfield 24, 3, [1, 7, 4, 2, 0, 54]) := rfl
theorem d16_52 : dec 16 52 = some (.invokestatic 42, 3, [2, 17, 0, 9, 1, 397, 2, 2]) := rfl
theorem d16_55 : dec 16 55 = some (.aload_n 1, 1, []) := rfl
theorem d16_56 : dec 16 56 = some (.getfield 27, 3, [1, 7, 5, 2, 0, 60]) := rfl
theorem d16_59 : dec 16 59 = some (.aload_n 0, 1, []) := rfl
theorem d16_60 : dec 16 60 = some (.getfield 27, 3, [1, 7, 5, 2, 0, 60]) := rfl
theorem d16_63 : dec 16 63 = some (.invokestatic 42, 3, [2, 17, 0, 9, 1, 397, 2, 2]) := rfl
theorem d16_66 : dec 16 66 = some (.aload_n 1, 1, []) := rfl
theorem d16_67 : dec 16 67 = some (.getfield 30, 3, [1, 7, 6, 2, 0, 62]) := rfl
theorem d16_70 : dec 16 70 = some (.aload_n 0, 1, []) := rfl
theorem d16_71 : dec 16 71 = some (.getfield 30, 3, [1, 7, 6, 2, 0, 62]) := rfl
theorem d16_74 : dec 16 74 = some (.invokestatic 42, 3, [2, 17, 0, 9, 1, 397, 2, 2]) := rfl
theorem d16_77 : dec 16 77 = some (.aload_n 1, 1, []) := rfl
theorem d16_78 : dec 16 78 = some (.getfield 33, 3, [1, 7, 7, 2, 0, 64]) := rfl
theorem d16_81 : dec 16 81 = some (.aload_n 0, 1, []) := rfl
theorem d16_82 : dec 16 82 = some (.getfield 33, 3, [1, 7, 7, 2, 0, 64]) := rfl
theorem d16_85 : dec 16 85 = some (.invokestatic 42, 3, [2, 17, 0, 9, 1, 397, 2, 2]) := rfl
theorem d16_88 : dec 16 88 = some (.return_, 1, []) := rfl
theorem l16 : mL 16 = 2 := rfl
theorem c16 {d : Nat} {P : MP} {I : MI} {L : ML} {C : MC} {Q : QT} {T S : Nat} (hT : TB P T) (hS : TB P S) (hd : 2 ≤ d) : CT d 16 [.ref T, .ref S] P I L C Q = Q (.inl none) P (copT I T S) L C := by
  obtain ⟨⟨k0, p0, p1, p2, p3, p4, p5, p6, p7⟩, y1, y2, y3, y4, y5, y6, y7, y8⟩ := hT
  obtain ⟨⟨l0, r0, r1, r2, r3, r4, r5, r6, r7⟩, z1, z2, z3, z4, z5, z6, z7, z8⟩ := hS
  rw [CT_e (mj := 16) (e := [.ref T, .ref S]) (by omega) rfl (Nat.le_of_ble_eq_true rfl)]
  simp (disch := first | assumption | omega) only [Nat.reduceAdd, X_go, go2_some, stp, ldI, ldA, ldL, stI, stA, stL, o1I, o2I, o2L, brI, brII, gl, s1, s2, k1, sl, go_sN, go_sR, go_CT, go_sT, go_no, go_if, pops, bk_v, bk_0, d16_0, d16_1, d16_4, d16_5, d16_8, d16_11, d16_12, d16_15, d16_16, d16_19, d16_22, d16_23, d16_26, d16_27, d16_30, d16_33, d16_34, d16_37, d16_38, d16_41, d16_44, d16_45, d16_48, d16_49, d16_52, d16_55, d16_56, d16_59, d16_60, d16_63, d16_66, d16_67, d16_70, d16_71, d16_74, d16_77, d16_78, d16_81, d16_82, d16_85, d16_88, n_lt, n_le, n_eq, n_lt0, n_ge0, n_gt0, n_le0, n_eq0, m_lt, m_le, m_gt, m_ge, m_eq, m_eq', m_lt0, m_ge0, m_gt0, m_le0, m_ltm, m_lem, n_in, m_in, n_cl, n_ti, n_div, n_rem', n_dec, n_l, nI_add, pk_mul, an0, an1, decide_eq_true_eq, if_true, if_false, ite_true, ite_false, and_true, true_and, and_false, false_and, not_true, not_false_iff, or_false, false_or, or_true, true_or, eq_self, va_some, Bool.false_eq_true, reduceIte, catS_n, catS_i, catS_r, catS_l, catS_d, Nat.zero_add, Nat.add_zero, decide_true, decide_false, Nat.reduceLeDiff, cat_r, cat_i, cat_l, nle_T, nle_F, nlt_T, nlt_F, neq_T, neq_F, k0, p0, p1, p2, p3, p4, p5, p6, p7, l0, r0, r1, r2, r3, r4, r5, r6, r7, c17 z1 y1, c17 z2 y2, c17 z3 y3, c17 z4 y4, c17 z5 y5, c17 z6 y6, c17 z7 y7, c17 z8 y8]
  rfl
theorem d19_0 : dec 19 0 = some (.aload_n 1, 1, []) := rfl
theorem d19_1 : dec 19 1 = some (.getfield 9, 3, [1, 3, 0, 2, 0, 90]) := rfl
theorem d19_4 : dec 19 4 = some (.aload_n 0, 1, []) := rfl
theorem d19_5 : dec 19 5 = some (.getfield 9, 3, [1, 3, 0, 2, 0, 90]) := rfl
theorem d19_8 : dec 19 8 = some (.invokestatic 22, 3, [2, 17, 0, 9, 1, 410, 2, 2]) := rfl
theorem d19_11 : dec 19 11 = some (.aload_n 1, 1, []) := rfl
theorem d19_12 : dec 19 12 = some (.getfield 15, 3, [1, 3, 1, 2, 0, 92]) := rfl
theorem d19_15 : dec 19 15 = some (.aload_n 0, 1, []) := rfl
theorem d19_16 : dec 19 16 = some (.getfield 15, 3, [1, 3, 1, 2, 0, 92]) := rfl
theorem d19_19 : dec 19 19 = some (.invokestatic 22, 3, [2, 17, 0, 9, 1, 410, 2, 2]) := rfl
theorem d19_22 : dec 19 22 = some (.aload_n 0, 1, []) := rfl
theorem d19_23 : dec 19 23 = some (.aload_n 1, 1, []) := rfl
theorem d19_24 : dec 19 24 = some (.getfield 26, 3, [1, 3, 2, 0, 0, 94]) := rfl
theorem d19_27 : dec 19 27 = some (.putfield 26, 3, [1, 3, 2, 0, 0, 94]) := rfl
theorem d19_30 : dec 19 30 = some (.aload_n 0, 1, []) := rfl
theorem d19_31 : dec 19 31 = some (.aload_n 1, 1, []) := rfl
theorem d19_32 : dec 19 32 = some (.getfield 18, 3, [1, 3, 3, 0, 0, 96]) := rfl
theorem d19_35 : dec 19 35 = some (.putfield 18, 3, [1, 3, 3, 0, 0, 96]) := rfl
theorem d19_38 : dec 19 38 = some (.return_, 1, []) := rfl
theorem l19 : mL 19 = 2 := rfl
theorem c19 {d : Nat} {P : MP} {I : MI} {L : ML} {C : MC} {Q : QT} {K S : Nat} (hT : LB P K) (hS : LB P S) (hd : 2 ≤ d) (h : K + 2 < S ∨ S + 2 < K) : CT d 19 [.ref K, .ref S] P I L C Q = Q (.inl none) P (copL I K S) L C := by
  obtain ⟨k0, p0, p1, y1, y2⟩ := hT
  obtain ⟨l0, r0, r1, z1, z2⟩ := hS
  rw [CT_e (mj := 19) (e := [.ref K, .ref S]) (by omega) rfl (Nat.le_of_ble_eq_true rfl)]
  unfold copL cpR
  simp (disch := first | assumption | omega) only [Nat.reduceAdd, X_go, go2_some, stp, ldI, ldA, ldL, stI, stA, stL, o1I, o2I, o2L, brI, brII, gl, s1, s2, k1, sl, go_sN, go_sR, go_CT, go_sT, go_no, go_if, pops, bk_v, bk_0, d19_0, d19_1, d19_4, d19_5, d19_8, d19_11, d19_12, d19_15, d19_16, d19_19, d19_22, d19_23, d19_24, d19_27, d19_30, d19_31, d19_32, d19_35, d19_38, n_lt, n_le, n_eq, n_lt0, n_ge0, n_gt0, n_le0, n_eq0, m_lt, m_le, m_gt, m_ge, m_eq, m_eq', m_lt0, m_ge0, m_gt0, m_le0, m_ltm, m_lem, n_in, m_in, n_cl, n_ti, n_div, n_rem', n_dec, n_l, nI_add, pk_mul, an0, an1, decide_eq_true_eq, if_true, if_false, ite_true, ite_false, and_true, true_and, and_false, false_and, not_true, not_false_iff, or_false, false_or, or_true, true_or, eq_self, va_some, Bool.false_eq_true, reduceIte, catS_n, catS_i, catS_r, catS_l, catS_d, Nat.zero_add, Nat.add_zero, decide_true, decide_false, Nat.reduceLeDiff, cat_r, cat_i, cat_l, nle_T, nle_F, nlt_T, nlt_F, neq_T, neq_F, k0, p0, p1, l0, r0, r1, c17 z1 y1, c17 z2 y2, xr_n, xu_n]
  done
theorem d20_0 : dec 20 0 = some (.aload_n 1, 1, []) := rfl
theorem d20_1 : dec 20 1 = some (.getfield 9, 3, [1, 2, 0, 2, 0, 113]) := rfl
theorem d20_4 : dec 20 4 = some (.aload_n 0, 1, []) := rfl
theorem d20_5 : dec 20 5 = some (.getfield 9, 3, [1, 2, 0, 2, 0, 113]) := rfl
theorem d20_8 : dec 20 8 = some (.invokestatic 24, 3, [2, 17, 0, 9, 1, 415, 2, 2]) := rfl
theorem d20_11 : dec 20 11 = some (.aload_n 1, 1, []) := rfl
theorem d20_12 : dec 20 12 = some (.getfield 15, 3, [1, 2, 1, 2, 0, 115]) := rfl
theorem d20_15 : dec 20 15 = some (.aload_n 0, 1, []) := rfl
theorem d20_16 : dec 20 16 = some (.getfield 15, 3, [1, 2, 1, 2, 0, 115]) := rfl
theorem d20_19 : dec 20 19 = some (.invokestatic 24, 3, [2, 17, 0, 9, 1, 415, 2, 2]) := rfl
theorem d20_22 : dec 20 22 = some (.aload_n 1, 1, []) := rfl
theorem d20_23 : dec 20 23 = some (.getfield 18, 3, [1, 2, 2, 2, 0, 116]) := rfl
theorem d20_26 : dec 20 26 = some (.aload_n 0, 1, []) := rfl
theorem d20_27 : dec 20 27 = some (.getfield 18, 3, [1, 2, 2, 2, 0, 116]) := rfl
theorem d20_30 : dec 20 30 = some (.invokestatic 24, 3, [2, 17, 0, 9, 1, 415, 2, 2]) := rfl
theorem d20_33 : dec 20 33 = some (.aload_n 1, 1, []) := rfl
theorem d20_34 : dec 20 34 = some (.getfield 21, 3, [1, 2, 3, 2, 0, 117]) := rfl
theorem d20_37 : dec 20 37 = some (.aload_n 0, 1, []) := rfl
theorem d20_38 : dec 20 38 = some (.getfield 21, 3, [1, 2, 3, 2, 0, 117]) := rfl
theorem d20_41 : dec 20 41 = some (.invokestatic 24, 3, [2, 17, 0, 9, 1, 415, 2, 2]) := rfl
theorem d20_44 : dec 20 44 = some (.aload_n 0, 1, []) := rfl
theorem d20_45 : dec 20 45 = some (.aload_n 1, 1, []) := rfl
theorem d20_46 : dec 20 46 = some (.getfield 28, 3, [1, 2, 4, 0, 0, 119]) := rfl
theorem d20_49 : dec 20 49 = some (.putfield 28, 3, [1, 2, 4, 0, 0, 119]) := rfl
theorem d20_52 : dec 20 52 = some (.aload_n 0, 1, []) := rfl
theorem d20_53 : dec 20 53 = some (.aload_n 1, 1, []) := rfl
theorem d20_54 : dec 20 54 = some (.getfield 32, 3, [1, 2, 5, 0, 0, 121]) := rfl
theorem d20_57 : dec 20 57 = some (.putfield 32, 3, [1, 2, 5, 0, 0, 121]) := rfl
theorem d20_60 : dec 20 60 = some (.return_, 1, []) := rfl
theorem l20 : mL 20 = 2 := rfl
theorem c20 {d : Nat} {P : MP} {I : MI} {L : ML} {C : MC} {Q : QT} {F S : Nat} (hT : FB P F) (hS : FB P S) (hd : 2 ≤ d) (h : F + 4 < S ∨ S + 4 < F) : CT d 20 [.ref F, .ref S] P I L C Q = Q (.inl none) P (copF I F S) L C := by
  obtain ⟨k0, p0, p1, p2, p3, y1, y2, y3, y4⟩ := hT
  obtain ⟨l0, r0, r1, r2, r3, z1, z2, z3, z4⟩ := hS
  rw [CT_e (mj := 20) (e := [.ref F, .ref S]) (by omega) rfl (Nat.le_of_ble_eq_true rfl)]
  unfold copF cpR
  simp (disch := first | assumption | omega) only [Nat.reduceAdd, X_go, go2_some, stp, ldI, ldA, ldL, stI, stA, stL, o1I, o2I, o2L, brI, brII, gl, s1, s2, k1, sl, go_sN, go_sR, go_CT, go_sT, go_no, go_if, pops, bk_v, bk_0, d20_0, d20_1, d20_4, d20_5, d20_8, d20_11, d20_12, d20_15, d20_16, d20_19, d20_22, d20_23, d20_26, d20_27, d20_30, d20_33, d20_34, d20_37, d20_38, d20_41, d20_44, d20_45, d20_46, d20_49, d20_52, d20_53, d20_54, d20_57, d20_60, n_lt, n_le, n_eq, n_lt0, n_ge0, n_gt0, n_le0, n_eq0, m_lt, m_le, m_gt, m_ge, m_eq, m_eq', m_lt0, m_ge0, m_gt0, m_le0, m_ltm, m_lem, n_in, m_in, n_cl, n_ti, n_div, n_rem', n_dec, n_l, nI_add, pk_mul, an0, an1, decide_eq_true_eq, if_true, if_false, ite_true, ite_false, and_true, true_and, and_false, false_and, not_true, not_false_iff, or_false, false_or, or_true, true_or, eq_self, va_some, Bool.false_eq_true, reduceIte, catS_n, catS_i, catS_r, catS_l, catS_d, Nat.zero_add, Nat.add_zero, decide_true, decide_false, Nat.reduceLeDiff, cat_r, cat_i, cat_l, nle_T, nle_F, nlt_T, nlt_F, neq_T, neq_F, k0, p0, p1, p2, p3, l0, r0, r1, r2, r3, c17 z1 y1, c17 z2 y2, c17 z3 y3, c17 z4 y4, xr_n, xu_n]
  done
theorem d15_0 : dec 15 0 = some (.aload_n 0, 1, []) := rfl
theorem d15_1 : dec 15 1 = some (.getfield 12, 3, [1, 6, 0, 2, 0, 136]) := rfl
theorem d15_4 : dec 15 4 = some (.aload_n 1, 1, []) := rfl
theorem d15_5 : dec 15 5 = some (.getfield 12, 3, [1, 6, 0, 2, 0, 136]) := rfl
theorem d15_8 : dec 15 8 = some (.invokevirtual 32, 3, [2, 16, 2, 7, 0, 393, 2]) := rfl
theorem d15_11 : dec 15 11 = some (.aload_n 0, 1, []) := rfl
theorem d15_12 : dec 15 12 = some (.getfield 21, 3, [1, 6, 1, 2, 0, 141]) := rfl
theorem d15_15 : dec 15 15 = some (.aload_n 1, 1, []) := rfl
theorem d15_16 : dec 15 16 = some (.getfield 21, 3, [1, 6, 1, 2, 0, 141]) := rfl
theorem d15_19 : dec 15 19 = some (.invokevirtual 36, 3, [2, 19, 2, 3, 0, 406, 2]) := rfl
theorem d15_22 : dec 15 22 = some (.aload_n 0, 1, []) := rfl
theorem d15_23 : dec 15 23 = some (.getfield 28, 3, [1, 6, 2, 2, 0, 145]) := rfl
theorem d15_26 : dec 15 26 = some (.aload_n 1, 1, []) := rfl
theorem d15_27 : dec 15 27 = some (.getfield 28, 3, [1, 6, 2, 2, 0, 145]) := rfl
theorem d15_30 : dec 15 30 = some (.invokevirtual 39, 3, [2, 20, 2, 2, 0, 411, 2]) := rfl
theorem d15_33 : dec 15 33 = some (.return_, 1, []) := rfl
theorem l15 : mL 15 = 2 := rfl
theorem c15 {d : Nat} {P : MP} {I : MI} {L : ML} {C : MC} {Q : QT} {b a : Nat} (hb : SB P b) (ha : SB P a) (hd : 3 ≤ d) (h : b + 17 < a ∨ a + 17 < b) : CT d 15 [.ref b, .ref a] P I L C Q = Q (.inl none) P (copS I b a) L C := by
  obtain ⟨k0, p0, p1, p2, hT, hK, hF⟩ := hb
  obtain ⟨l0, r0, r1, r2, hT', hK', hF'⟩ := ha
  rw [CT_e (mj := 15) (e := [.ref b, .ref a]) (by omega) rfl (Nat.le_of_ble_eq_true rfl)]
  unfold copS
  simp (disch := first | assumption | omega) only [Nat.reduceAdd, X_go, go2_some, stp, ldI, ldA, ldL, stI, stA, stL, o1I, o2I, o2L, brI, brII, gl, s1, s2, k1, sl, go_sN, go_sR, go_CT, go_sT, go_no, go_if, pops, bk_v, bk_0, d15_0, d15_1, d15_4, d15_5, d15_8, d15_11, d15_12, d15_15, d15_16, d15_19, d15_22, d15_23, d15_26, d15_27, d15_30, d15_33, n_lt, n_le, n_eq, n_lt0, n_ge0, n_gt0, n_le0, n_eq0, m_lt, m_le, m_gt, m_ge, m_eq, m_eq', m_lt0, m_ge0, m_gt0, m_le0, m_ltm, m_lem, n_in, m_in, n_cl, n_ti, n_div, n_rem', n_dec, n_l, nI_add, pk_mul, an0, an1, decide_eq_true_eq, if_true, if_false, ite_true, ite_false, and_true, true_and, and_false, false_and, not_true, not_false_iff, or_false, false_or, or_true, true_or, eq_self, va_some, Bool.false_eq_true, reduceIte, catS_n, catS_i, catS_r, catS_l, catS_d, Nat.zero_add, Nat.add_zero, decide_true, decide_false, Nat.reduceLeDiff, cat_r, cat_i, cat_l, nle_T, nle_F, nlt_T, nlt_F, neq_T, neq_F, k0, p0, p1, p2, l0, r0, r1, r2, c16 hT hT', c19 hK hK', c20 hF hF', hT.1.1, hK.1, hF.1]
  done
theorem d14_0 : dec 14 0 = some (.iload_n 0, 1, []) := rfl
theorem d14_1 : dec 14 1 = some (.iload_n 1, 1, []) := rfl
theorem d14_2 : dec 14 2 = some (.irem, 1, []) := rfl
theorem d14_3 : dec 14 3 = some (.istore_n 2, 1, []) := rfl
theorem d14_4 : dec 14 4 = some (.iload_n 0, 1, []) := rfl
theorem d14_5 : dec 14 5 = some (.iload_n 1, 1, []) := rfl
theorem d14_6 : dec 14 6 = some (.ixor, 1, []) := rfl
theorem d14_7 : dec 14 7 = some (.ifCond .ge 11, 3, [18]) := rfl
theorem d14_10 : dec 14 10 = some (.iload_n 2, 1, []) := rfl
theorem d14_11 : dec 14 11 = some (.ifCond .eq 7, 3, [18]) := rfl
theorem d14_14 : dec 14 14 = some (.iload_n 2, 1, []) := rfl
theorem d14_15 : dec 14 15 = some (.iload_n 1, 1, []) := rfl
theorem d14_16 : dec 14 16 = some (.iadd, 1, []) := rfl
theorem d14_17 : dec 14 17 = some (.ireturn, 1, [0]) := rfl
theorem d14_18 : dec 14 18 = some (.iload_n 2, 1, []) := rfl
theorem d14_19 : dec 14 19 = some (.ireturn, 1, [0]) := rfl
theorem l14 : mL 14 = 3 := rfl
theorem c14 {d : Nat} {P : MP} {I : MI} {L : ML} {C : MC} {Q : QT} {x n : Nat} (hd : 1 ≤ d) (hx : x < 2147483648) (h0 : 0 < n) (hn : n < 2147483648) : CT d 14 [.int (nI x), .int (nI n)] P I L C Q = Q (.inl (some (.int (nI (x % n))))) P I L C := by
  have hX : 0 ≤ nI x ^^^ nI n := by
    have e : nI x ^^^ nI n = nI (x ^^^ n) := by
      apply Int32.toBitVec_inj.1
      show BitVec.ofNat 32 x ^^^ BitVec.ofNat 32 n = BitVec.ofNat 32 (x ^^^ n)
      apply BitVec.eq_of_getLsbD_eq
      intro i hi
      simp [hi]
    rw [e]
    exact nI_pos' (Nat.xor_lt_two_pow (n := 31) hx hn)
  rw [CT_e (mj := 14) (e := [.int (nI x), .int (nI n), UN]) (by omega) rfl (Nat.le_of_ble_eq_true rfl)]
  simp (disch := first | assumption | omega) only [Nat.reduceAdd, X_go, go2_some, stp, ldI, ldA, ldL, stI, stA, stL, o1I, o2I, o2L, brI, brII, gl, s1, s2, k1, sl, go_sN, go_sR, go_CT, go_sT, go_no, go_if, pops, bk_v, bk_0, d14_0, d14_1, d14_2, d14_3, d14_4, d14_5, d14_6, d14_7, d14_10, d14_11, d14_14, d14_15, d14_16, d14_17, d14_18, d14_19, n_lt, n_le, n_eq, n_lt0, n_ge0, n_gt0, n_le0, n_eq0, m_lt, m_le, m_gt, m_ge, m_eq, m_eq', m_lt0, m_ge0, m_gt0, m_le0, m_ltm, m_lem, n_in, m_in, n_cl, n_ti, n_div, n_rem', n_dec, n_l, nI_add, pk_mul, an0, an1, decide_eq_true_eq, if_true, if_false, ite_true, ite_false, and_true, true_and, and_false, false_and, not_true, not_false_iff, or_false, false_or, or_true, true_or, eq_self, va_some, Bool.false_eq_true, reduceIte, catS_n, catS_i, catS_r, catS_l, catS_d, Nat.zero_add, Nat.add_zero, decide_true, decide_false, Nat.reduceLeDiff, cat_r, cat_i, cat_l, nle_T, nle_F, nlt_T, nlt_F, neq_T, neq_F, hX]
  done
/-- the four saved states -/
def vb (i : Nat) : Nat := 40 + 18 * i
def VB (P : MP) : Prop := P.1 38 = (6, 0) ∧ P.2.1 38 0 = some 39 ∧ P.1 39 = (23, 4) ∧ (∀ i, i < 4 → P.2.1 39 i = some (vb i)) ∧ ∀ i, i < 4 → SB P (vb i)
theorem d13_0 : dec 13 0 = some (.aload_n 0, 1, []) := rfl
theorem d13_1 : dec 13 1 = some (.getfield 30, 3, [1, 5, 1, 0, 0, 165]) := rfl
theorem d13_4 : dec 13 4 = some (.iload_n 1, 1, []) := rfl
theorem d13_5 : dec 13 5 = some (.iadd, 1, []) := rfl
theorem d13_6 : dec 13 6 = some (.iconst 4, 1, [4]) := rfl
theorem d13_7 : dec 13 7 = some (.invokestatic 33, 3, [2, 14, 0, 12, 0, 386, 0, 0]) := rfl
theorem d13_10 : dec 13 10 = some (.istore_n 2, 1, []) := rfl
theorem d13_11 : dec 13 11 = some (.iload_n 2, 1, []) := rfl
theorem d13_12 : dec 13 12 = some (.ifCond .lt 21, 3, [33]) := rfl
theorem d13_15 : dec 13 15 = some (.iload_n 2, 1, []) := rfl
theorem d13_16 : dec 13 16 = some (.aload_n 0, 1, []) := rfl
theorem d13_17 : dec 13 17 = some (.getfield 11, 3, [1, 5, 0, 2, 0, 164]) := rfl
theorem d13_20 : dec 13 20 = some (.arraylength, 1, []) := rfl
theorem d13_21 : dec 13 21 = some (.if_icmp .ge 12, 3, [33]) := rfl
theorem d13_24 : dec 13 24 = some (.aload_n 0, 1, []) := rfl
theorem d13_25 : dec 13 25 = some (.getfield 11, 3, [1, 5, 0, 2, 0, 164]) := rfl
theorem d13_28 : dec 13 28 = some (.iload_n 2, 1, []) := rfl
theorem d13_29 : dec 13 29 = some (.aaload, 1, []) := rfl
theorem d13_30 : dec 13 30 = some (.goto 4, 3, [34]) := rfl
theorem d13_33 : dec 13 33 = some (.aconst_null, 1, []) := rfl
theorem d13_34 : dec 13 34 = some (.areturn, 1, []) := rfl
theorem l13 : mL 13 = 3 := rfl
theorem c13 {d : Nat} {P : MP} {I : MI} {L : ML} {C : MC} {Q : QT} {o n : Nat} (hV : VB P) (h1 : I 38 1 = nI o) (hd : 2 ≤ d) (ho : o < 4) (hn : n ≤ 4) : CT d 13 [.ref 38, .int (nI n)] P I L C Q = Q (.inl (some (.ref (vb ((o + n) % 4))))) P I L C := by
  obtain ⟨k0, p0, y0, q, _⟩ := hV
  have hm := Nat.mod_lt (o + n) (by omega : 4 > 0)
  have q := q _ hm
  rw [CT_e (mj := 13) (e := [.ref 38, .int (nI n), UN]) (by omega) rfl (Nat.le_of_ble_eq_true rfl)]
  simp (disch := first | assumption | omega) only [Nat.reduceAdd, X_go, go2_some, stp, ldI, ldA, ldL, stI, stA, stL, o1I, o2I, o2L, brI, brII, gl, s1, s2, k1, sl, go_sN, go_sR, go_CT, go_sT, go_no, go_if, pops, bk_v, bk_0, d13_0, d13_1, d13_4, d13_5, d13_6, d13_7, d13_10, d13_11, d13_12, d13_15, d13_16, d13_17, d13_20, d13_21, d13_24, d13_25, d13_28, d13_29, d13_30, d13_33, d13_34, n_lt, n_le, n_eq, n_lt0, n_ge0, n_gt0, n_le0, n_eq0, m_lt, m_le, m_gt, m_ge, m_eq, m_eq', m_lt0, m_ge0, m_gt0, m_le0, m_ltm, m_lem, n_in, m_in, n_cl, n_ti, n_div, n_rem', n_dec, n_l, nI_add, pk_mul, an0, an1, decide_eq_true_eq, if_true, if_false, ite_true, ite_false, and_true, true_and, and_false, false_and, not_true, not_false_iff, or_false, false_or, or_true, true_or, eq_self, va_some, Bool.false_eq_true, reduceIte, catS_n, catS_i, catS_r, catS_l, catS_d, Nat.zero_add, Nat.add_zero, decide_true, decide_false, Nat.reduceLeDiff, cat_r, cat_i, cat_l, nle_T, nle_F, nlt_T, nlt_F, neq_T, neq_F, k0, p0, y0, q, h1, c14]
  done
