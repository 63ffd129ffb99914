/-! OPENINGS: one draw -/
def OB (P : MP) : Prop := P.1 123 = (5, 0) ∧ P.2.1 123 0 = some 124 ∧ DB P 124
/-- the state under way: what is spent, groups, the best, how many -/
def OR (I : MI) (g : GS) (sp gr : SP) (fd n : Nat) : Prop := CB g (I 123 1) sp gr ∧ I 123 2 = fI fd ∧ I 123 3 = nI n
def takI (I : MI) (b : Nat) (g : GS) (it ra fd n : Nat) : MI := xu (xu (recI I (b + 13) g it ra) 123 2 (fI (max fd (ra + 1)))) 123 3 (nI (n + 1))
theorem d120_0 : dec 120 0 = some (.aload_n 1, 1, []) := rfl
theorem d120_1 : dec 120 1 = some (.getfield 40, 3, [1, 6, 2, 2, 1, 146]) := rfl
theorem d120_4 : dec 120 4 = some (.iload_n 2, 1, []) := rfl
theorem d120_5 : dec 120 5 = some (.iload_n 3, 1, []) := rfl
theorem d120_6 : dec 120 6 = some (.invokevirtual 116, 3, [2, 121, 2, 2, 0, 768, 0, 0]) := rfl
theorem d120_9 : dec 120 9 = some (.aload_n 0, 1, []) := rfl
theorem d120_10 : dec 120 10 = some (.aload_n 0, 1, []) := rfl
theorem d120_11 : dec 120 11 = some (.getfield 34, 3, [1, 4, 2, 0, 0, 222]) := rfl
theorem d120_14 : dec 120 14 = some (.iload_n 3, 1, []) := rfl
theorem d120_15 : dec 120 15 = some (.invokestatic 120, 3, [11, 773]) := rfl
theorem d120_18 : dec 120 18 = some (.putfield 34, 3, [1, 4, 2, 0, 0, 222]) := rfl
theorem d120_21 : dec 120 21 = some (.aload_n 0, 1, []) := rfl
theorem d120_22 : dec 120 22 = some (.dup, 1, []) := rfl
theorem d120_23 : dec 120 23 = some (.getfield 37, 3, [1, 4, 3, 0, 0, 223]) := rfl
theorem d120_26 : dec 120 26 = some (.iconst 1, 1, [1]) := rfl
theorem d120_27 : dec 120 27 = some (.iadd, 1, []) := rfl
theorem d120_28 : dec 120 28 = some (.putfield 37, 3, [1, 4, 3, 0, 0, 223]) := rfl
theorem d120_31 : dec 120 31 = some (.return_, 1, []) := rfl
theorem l120 : mL 120 = 4 := rfl
theorem c120 {d : Nat} {P : MP} {I : MI} {L : ML} {C : MC} {Q : QT} {b it ra fd n B : Nat} {g : GS} (hO : OB P) (hb : SB P b) (hg : FR' I (b + 13) g) (hv : FV B g) (hB : B ≤ 1000000) (h2 : I 123 2 = fI fd) (h3 : I 123 3 = nI n) (hbD : b + 17 < 123) (hd : 3 ≤ d) (hi : it < 16) (hr : ra ≤ 3) (hf : fd ≤ 4) (hn : n < 1000) : CT d 120 [.ref 123, .ref b, .int (nI it), .int (nI ra)] P I L C Q = Q (.inl none) P (takI I b g it ra fd n) L C := by
  obtain ⟨k0, p0, hD⟩ := hO
  obtain ⟨l0, r0, r1, r2, hT, hK, hF⟩ := hb
  have hF0 := hF.1
  have e2 : recI I (b + 13) g it ra 123 2 = fI fd := by rw [recI_n (by omega)]; exact h2
  have e3 : recI I (b + 13) g it ra 123 3 = nI n := by rw [recI_n (by omega)]; exact h3
  have hm : (if fI fd < nI ra then nI ra else fI fd) = fI (max fd (ra + 1)) := by
    have q : (fI fd < nI ra) = (fd ≤ ra) := fI_lt (by omega) (by omega)
    by_cases z : fd ≤ ra
    · rw [if_pos (q.mpr z), Nat.max_eq_right (by omega), fI_s]
    · rw [if_neg (fun w => z (q.mp w)), Nat.max_eq_left (by omega)]
  unfold takI
  rw [CT_e (mj := 120) (e := [.ref 123, .ref b, .int (nI it), .int (nI ra)]) (by omega) rfl (Nat.le_of_ble_eq_true rfl)]
  simp (disch := first | assumption | omega) only [Nat.reduceAdd, X_go, go2_some, stp, ldI, ldA, ldL, stI, stA, stL, o1I, o2I, o2L, brI, brII, gl, s1, s2, k1, sl, go_sN, go_sR, go_CT, go_sT, go_no, go_if, pops, bk_v, bk_0, d120_0, d120_1, d120_4, d120_5, d120_6, d120_9, d120_10, d120_11, d120_14, d120_15, d120_18, d120_21, d120_22, d120_23, d120_26, d120_27, d120_28, d120_31, n_lt, n_le, n_eq, n_lt0, n_ge0, n_gt0, n_le0, n_eq0, m_lt, m_le, m_gt, m_ge, m_eq, m_eq', m_lt0, m_ge0, m_gt0, m_le0, m_ltm, m_lem, n_in, m_in, n_cl, n_ti, n_div, n_rem', n_dec, n_l, nI_add, pk_mul, an0, an1, decide_eq_true_eq, if_true, if_false, ite_true, ite_false, and_true, true_and, and_false, false_and, not_true, not_false_iff, or_false, false_or, or_true, true_or, eq_self, va_some, Bool.false_eq_true, reduceIte, catS_n, catS_i, catS_r, catS_l, catS_d, Nat.zero_add, Nat.add_zero, decide_true, decide_false, Nat.reduceLeDiff, cat_r, cat_i, cat_l, nle_T, nle_F, nlt_T, nlt_F, neq_T, neq_F, k0, l0, r2, hF0, c121 hF hg hv hB, e2, e3, hm, xu_n]
  done
