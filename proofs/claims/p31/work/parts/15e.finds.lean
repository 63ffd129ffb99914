/-! FINDS: the ring of the class *-/
def recG (g : GS) (it ra : Nat) : GS := fun k => if k = 124 + it then g k + 1 else if k = 123 then g 123 + 1 else if k = 140 then min 20 (g 123 + 1) else if k = 141 then it else if k = 142 then ra else if k = 143 then g 122 else if 144 ≤ k ∧ k < 201 then g (k - 3) else g k
def recI (I : MI) (F : Nat) (g : GS) (it ra : Nat) : MI := xu (xu (xu (xu (xu I (F + 2) (g 123 % 20) (nI it)) (F + 3) (g 123 % 20) (nI ra)) (F + 4) (g 123 % 20) (nI (g 122))) (F + 1) it (nI (g (124 + it) + 1))) F 5 (nI (g 123 + 1))
theorem recI_n {I : MI} {F : Nat} {g : GS} {it ra k j : Nat} (h : k < F ∨ F + 4 < k) : recI I F g it ra k j = I k j := by
  unfold recI
  simp (disch := omega) only [xu_n]
theorem recG_o {g : GS} {it ra k : Nat} (hi : it < 16) (h : k < 123) : recG g it ra k = g k := by
  unfold recG
  rw [if_neg (by omega), if_neg (by omega), if_neg (by omega), if_neg (by omega), if_neg (by omega), if_neg (by omega), if_neg (by omega)]
theorem FR_rec {I : MI} {F : Nat} {g : GS} {it ra B : Nat} (hg : FR' I F g) (hv : FV B g) (hi : it < 16) : FR' (recI I F g it ra) F (recG g it ra) := by
  have h140 : recG g it ra 140 = min 20 (g 123 + 1) := by
    unfold recG
    rw [if_neg (by omega), if_neg (by omega), if_pos rfl]
  have h123 : recG g it ra 123 = g 123 + 1 := by
    unfold recG
    rw [if_neg (by omega), if_pos rfl]
  obtain ⟨v1, v2, v3, v4, v5⟩ := hv
  refine ⟨fun i h => ?_, ?_, ?_, fun i h => ?_⟩
  · unfold recI
    by_cases z : i = it
    · subst z
      simp (disch := omega) only [xu_n, xu_s]
      unfold recG
      rw [if_pos rfl]
    · simp (disch := omega) only [xu_n]
      unfold recG
      rw [if_neg (by omega), if_neg (by omega), if_neg (by omega), if_neg (by omega), if_neg (by omega), if_neg (by omega), if_neg (by omega)]
      exact hg.1 i h
  · rw [recG_o hi (by omega)]
    unfold recI
    simp (disch := omega) only [xu_n]
    exact hg.2.1
  · rw [h123]
    exact xu_s _ _ _ _
  · rw [h140] at h
    rw [h123]
    by_cases z : i = 0
    · subst z
      rw [show g 123 + 1 - 1 - 0 = g 123 by omega]
      unfold recI
      simp (disch := omega) only [xu_n, xu_s]
      refine ⟨?_, ?_, ?_⟩
      · unfold recG
        rw [if_neg (by omega), if_neg (by omega), if_neg (by omega), if_pos (by omega)]
      · unfold recG
        rw [if_neg (by omega), if_neg (by omega), if_neg (by omega), if_neg (by omega), if_pos (by omega)]
      · unfold recG
        rw [if_neg (by omega), if_neg (by omega), if_neg (by omega), if_neg (by omega), if_neg (by omega), if_pos (by omega)]
    · have hs : (g 123 + 1 - 1 - i) % 20 ≠ g 123 % 20 := by omega
      have hq : (g 123 + 1 - 1 - i) % 20 = (g 123 - 1 - (i - 1)) % 20 := by congr 1; omega
      have ho := hg.2.2.2 (i - 1) (by omega)
      have e : ∀ f, f < 3 → recG g it ra (141 + 3 * i + f) = g (141 + 3 * (i - 1) + f) := by
        intro f hf
        unfold recG
        rw [if_neg (by omega), if_neg (by omega), if_neg (by omega), if_neg (by omega), if_neg (by omega), if_neg (by omega), if_pos (by omega)]
        congr 1; omega
      have e0 := e 0 (by omega)
      rw [Nat.add_zero, Nat.add_zero] at e0
      unfold recI
      simp (disch := omega) only [xu_n]
      rw [e0, e 1 (by omega), e 2 (by omega), hq]
      exact ho
theorem FV_rec {g : GS} {it ra B : Nat} (hv : FV B g) (hi : it < 16) (hr : ra ≤ 3) (hb : g 123 + 1 ≤ 2 * B) : FV B (recG g it ra) := by
  have h140 : recG g it ra 140 = min 20 (g 123 + 1) := by
    unfold recG
    rw [if_neg (by omega), if_neg (by omega), if_pos rfl]
  have h123 : recG g it ra 123 = g 123 + 1 := by
    unfold recG
    rw [if_neg (by omega), if_pos rfl]
  obtain ⟨v1, v2, v3, v4, v5⟩ := hv
  refine ⟨by rw [recG_o hi (by omega)]; exact v1, by rw [h123]; exact hb, by rw [h140, h123], fun i h => ?_, fun i h => ?_⟩
  · rw [h123]
    have := v4 i h
    unfold recG
    by_cases z : i = it
    · rw [if_pos (by omega)]; omega
    · rw [if_neg (by omega), if_neg (by omega), if_neg (by omega), if_neg (by omega), if_neg (by omega), if_neg (by omega), if_neg (by omega)]; omega
  · rw [h140] at h
    rw [recG_o hi (by omega : 122 < 123)]
    by_cases z : i = 0
    · subst z
      unfold recG
      refine ⟨?_, ?_, ?_⟩
      · rw [if_neg (by omega), if_neg (by omega), if_neg (by omega), if_pos (by omega)]; exact hi
      · rw [if_neg (by omega), if_neg (by omega), if_neg (by omega), if_neg (by omega), if_pos (by omega)]; exact hr
      · rw [if_neg (by omega), if_neg (by omega), if_neg (by omega), if_neg (by omega), if_neg (by omega), if_pos (by omega)]; omega
    · have e : ∀ f, f < 3 → recG g it ra (141 + 3 * i + f) = g (141 + 3 * (i - 1) + f) := by
        intro f hf
        unfold recG
        rw [if_neg (by omega), if_neg (by omega), if_neg (by omega), if_neg (by omega), if_neg (by omega), if_neg (by omega), if_pos (by omega)]
        congr 1; omega
      have e0 := e 0 (by omega)
      rw [Nat.add_zero, Nat.add_zero] at e0
      rw [e0, e 1 (by omega), e 2 (by omega)]
      exact v5 (i - 1) (by omega)
theorem d121_0 : dec 121 0 = some (.aload_n 0, 1, []) := rfl
theorem d121_1 : dec 121 1 = some (.getfield 32, 3, [1, 2, 5, 0, 0, 121]) := rfl
theorem d121_4 : dec 121 4 = some (.bipush 20, 2, [20]) := rfl
theorem d121_6 : dec 121 6 = some (.invokestatic 35, 3, [2, 14, 0, 12, 0, 630, 0, 0]) := rfl
theorem d121_9 : dec 121 9 = some (.istore_n 3, 1, []) := rfl
theorem d121_10 : dec 121 10 = some (.aload_n 0, 1, []) := rfl
theorem d121_11 : dec 121 11 = some (.getfield 15, 3, [1, 2, 1, 2, 0, 115]) := rfl
theorem d121_14 : dec 121 14 = some (.iload_n 3, 1, []) := rfl
theorem d121_15 : dec 121 15 = some (.iload_n 1, 1, []) := rfl
theorem d121_16 : dec 121 16 = some (.invokestatic 41, 3, [2, 44, 0, 9, 1, 772, 0, 0, 2]) := rfl
theorem d121_19 : dec 121 19 = some (.aload_n 0, 1, []) := rfl
theorem d121_20 : dec 121 20 = some (.getfield 18, 3, [1, 2, 2, 2, 0, 116]) := rfl
theorem d121_23 : dec 121 23 = some (.iload_n 3, 1, []) := rfl
theorem d121_24 : dec 121 24 = some (.iload_n 2, 1, []) := rfl
theorem d121_25 : dec 121 25 = some (.invokestatic 41, 3, [2, 44, 0, 9, 1, 772, 0, 0, 2]) := rfl
theorem d121_28 : dec 121 28 = some (.aload_n 0, 1, []) := rfl
theorem d121_29 : dec 121 29 = some (.getfield 21, 3, [1, 2, 3, 2, 0, 117]) := rfl
theorem d121_32 : dec 121 32 = some (.iload_n 3, 1, []) := rfl
theorem d121_33 : dec 121 33 = some (.aload_n 0, 1, []) := rfl
theorem d121_34 : dec 121 34 = some (.getfield 28, 3, [1, 2, 4, 0, 0, 119]) := rfl
theorem d121_37 : dec 121 37 = some (.invokestatic 41, 3, [2, 44, 0, 9, 1, 772, 0, 0, 2]) := rfl
theorem d121_40 : dec 121 40 = some (.aload_n 0, 1, []) := rfl
theorem d121_41 : dec 121 41 = some (.getfield 9, 3, [1, 2, 0, 2, 0, 113]) := rfl
theorem d121_44 : dec 121 44 = some (.iload_n 1, 1, []) := rfl
theorem d121_45 : dec 121 45 = some (.aload_n 0, 1, []) := rfl
theorem d121_46 : dec 121 46 = some (.getfield 9, 3, [1, 2, 0, 2, 0, 113]) := rfl
theorem d121_49 : dec 121 49 = some (.iload_n 1, 1, []) := rfl
theorem d121_50 : dec 121 50 = some (.invokestatic 45, 3, [2, 26, 0, 9, 1, 497, 0, 2]) := rfl
theorem d121_53 : dec 121 53 = some (.iconst 1, 1, [1]) := rfl
theorem d121_54 : dec 121 54 = some (.iadd, 1, []) := rfl
theorem d121_55 : dec 121 55 = some (.invokestatic 41, 3, [2, 44, 0, 9, 1, 772, 0, 0, 2]) := rfl
theorem d121_58 : dec 121 58 = some (.aload_n 0, 1, []) := rfl
theorem d121_59 : dec 121 59 = some (.dup, 1, []) := rfl
theorem d121_60 : dec 121 60 = some (.getfield 32, 3, [1, 2, 5, 0, 0, 121]) := rfl
theorem d121_63 : dec 121 63 = some (.iconst 1, 1, [1]) := rfl
theorem d121_64 : dec 121 64 = some (.iadd, 1, []) := rfl
theorem d121_65 : dec 121 65 = some (.putfield 32, 3, [1, 2, 5, 0, 0, 121]) := rfl
theorem d121_68 : dec 121 68 = some (.return_, 1, []) := rfl
theorem l121 : mL 121 = 4 := rfl
theorem c121 {d : Nat} {P : MP} {I : MI} {L : ML} {C : MC} {Q : QT} {F it ra B : Nat} {g : GS} (hF : FB P F) (hg : FR' I F g) (hv : FV B g) (hB : B ≤ 1000000) (hd : 2 ≤ d) (hi : it < 16) (hr : ra ≤ 3) : CT d 121 [.ref F, .int (nI it), .int (nI ra)] P I L C Q = Q (.inl none) P (recI I F g it ra) L C := by
  obtain ⟨k0, p0, p1, p2, p3, y1, y2, y3, y4⟩ := hF
  obtain ⟨v1, v2, v3, v4, v5⟩ := hv
  have v4 := v4 it hi
  obtain ⟨g1, g2, g3, g4⟩ := hg
  have g1 := g1 it hi
  have hm := Nat.mod_lt (g 123) (by omega : 20 > 0)
  rw [CT_e (mj := 121) (e := [.ref F, .int (nI it), .int (nI ra), UN]) (by omega) rfl (Nat.le_of_ble_eq_true rfl)]
  unfold recI
  simp (disch := first | assumption | omega) only [Nat.reduceAdd, X_go, go2_some, stp, ldI, ldA, ldL, stI, stA, stL, o1I, o2I, o2L, brI, brII, gl, s1, s2, k1, sl, go_sN, go_sR, go_CT, go_sT, go_no, go_if, pops, bk_v, bk_0, d121_0, d121_1, d121_4, d121_6, d121_9, d121_10, d121_11, d121_14, d121_15, d121_16, d121_19, d121_20, d121_23, d121_24, d121_25, d121_28, d121_29, d121_32, d121_33, d121_34, d121_37, d121_40, d121_41, d121_44, d121_45, d121_46, d121_49, d121_50, d121_53, d121_54, d121_55, d121_58, d121_59, d121_60, d121_63, d121_64, d121_65, d121_68, n_lt, n_le, n_eq, n_lt0, n_ge0, n_gt0, n_le0, n_eq0, m_lt, m_le, m_gt, m_ge, m_eq, m_eq', m_lt0, m_ge0, m_gt0, m_le0, m_ltm, m_lem, n_in, m_in, n_cl, n_ti, n_div, n_rem', n_dec, n_l, nI_add, pk_mul, an0, an1, decide_eq_true_eq, if_true, if_false, ite_true, ite_false, and_true, true_and, and_false, false_and, not_true, not_false_iff, or_false, false_or, or_true, true_or, eq_self, va_some, Bool.false_eq_true, reduceIte, catS_n, catS_i, catS_r, catS_l, catS_d, Nat.zero_add, Nat.add_zero, decide_true, decide_false, Nat.reduceLeDiff, cat_r, cat_i, cat_l, nle_T, nle_F, nlt_T, nlt_F, neq_T, neq_F, k0, p0, p1, p2, p3, g1, g2, g3, c14, c44 y1, c44 y2, c44 y3, c44 y4, c26 y1, xu_n]
  done
theorem d33_0 : dec 33 0 = some (.bipush 20, 2, [20]) := rfl
theorem d33_2 : dec 33 2 = some (.aload_n 0, 1, []) := rfl
theorem d33_3 : dec 33 3 = some (.getfield 32, 3, [1, 2, 5, 0, 0, 121]) := rfl
theorem d33_6 : dec 33 6 = some (.invokestatic 49, 3, [10, 461]) := rfl
theorem d33_9 : dec 33 9 = some (.ireturn, 1, [0]) := rfl
theorem l33 : mL 33 = 1 := rfl
theorem c33 {d : Nat} {P : MP} {I : MI} {L : ML} {C : MC} {Q : QT} {F B : Nat} {g : GS} (hF : FB P F) (hg : FR' I F g) (hv : FV B g) (hB : B ≤ 1000000) (hd : 1 ≤ d) : CT d 33 [.ref F] P I L C Q = Q (.inl (some (.int (nI (g 140))))) P I L C := by
  obtain ⟨k0, p0, p1, p2, p3, y1, y2, y3, y4⟩ := hF
  obtain ⟨v1, v2, v3, v4, v5⟩ := hv
  have g3 := hg.2.2.1
  rw [CT_e (mj := 33) (e := [.ref F]) (by omega) rfl (Nat.le_of_ble_eq_true rfl)]
  simp (disch := first | assumption | omega) only [Nat.reduceAdd, X_go, go2_some, stp, ldI, ldA, ldL, stI, stA, stL, o1I, o2I, o2L, brI, brII, gl, s1, s2, k1, sl, go_sN, go_sR, go_CT, go_sT, go_no, go_if, pops, bk_v, bk_0, d33_0, d33_2, d33_3, d33_6, d33_9, n_lt, n_le, n_eq, n_lt0, n_ge0, n_gt0, n_le0, n_eq0, m_lt, m_le, m_gt, m_ge, m_eq, m_eq', m_lt0, m_ge0, m_gt0, m_le0, m_ltm, m_lem, n_in, m_in, n_cl, n_ti, n_div, n_rem', n_dec, n_l, nI_add, pk_mul, an0, an1, decide_eq_true_eq, if_true, if_false, ite_true, ite_false, and_true, true_and, and_false, false_and, not_true, not_false_iff, or_false, false_or, or_true, true_or, eq_self, va_some, Bool.false_eq_true, reduceIte, catS_n, catS_i, catS_r, catS_l, catS_d, Nat.zero_add, Nat.add_zero, decide_true, decide_false, Nat.reduceLeDiff, cat_r, cat_i, cat_l, nle_T, nle_F, nlt_T, nlt_F, neq_T, neq_F, k0, g3]
  rw [v3]
  by_cases z : g 123 < 20
  · rw [if_pos z, Nat.min_eq_right (by omega)]
  · rw [if_neg z, Nat.min_eq_left (by omega)]
