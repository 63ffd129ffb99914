/-! THE START: the constructors -/
def g0 : GS := fun k => if k < 3 ∨ k = 121 then 1 else 0
theorem g0_0 {k : Nat} (h : ¬ (k < 3 ∨ k = 121)) : g0 k = 0 := if_neg h
theorem g0_1 {k : Nat} (h : k < 3 ∨ k = 121) : g0 k = 1 := if_pos h
theorem z_nI : (0 : Int32) = nI 0 := rfl
theorem xr_e {α : Type} {f : Nat → α} {k j : Nat} {r : α} (h : j = k) : xr f k r j = r := if_pos h
theorem xr_m {α : Type} {f : Nat → α} {k j : Nat} {r : α} (h : j ≠ k) : xr f k r j = f j := if_neg h
theorem xu_e {α : Type} {f : Nat → Nat → α} {k j a b : Nat} {v : α} (h : a = k ∧ b = j) : xu f k j v a b = v := if_pos h
theorem xu_m {α : Type} {f : Nat → Nat → α} {k j a b : Nat} {v : α} (h : a ≠ k ∨ b ≠ j) : xu f k j v a b = f a b := xu_n f v h
theorem le1 {b : Nat} : (1 ≤ b + 1) = True := eq_true (by omega)
def NW (b c x : Nat) (P P' : MP) (I I' : MI) (L L' : ML) (C C' : MC) : Prop := P'.2.2 = b + c ∧ (∀ k, k ≤ b → P'.1 k = P.1 k) ∧ (∀ k j, k < b → P'.2.1 k j = P.2.1 k j ∧ I' k j = I k j ∧ L' k j = L k j) ∧ C'.1 ≤ C.1 + c ∧ C'.2 ≤ C.2 + x

theorem d8_0 : dec 8 0 = some (.aload_n 0, 1, []) := rfl
theorem d8_1 : dec 8 1 = some (.invokespecial 3, 3, [4, 207]) := rfl
theorem d8_4 : dec 8 4 = some (.aload_n 0, 1, []) := rfl
theorem d8_5 : dec 8 5 = some (.bipush 18, 2, [18]) := rfl
theorem d8_7 : dec 8 7 = some (.newarray .int, 2, []) := rfl
theorem d8_9 : dec 8 9 = some (.putfield 9, 3, [1, 1, 0, 2, 0, 208]) := rfl
theorem d8_12 : dec 8 12 = some (.aload_n 0, 1, []) := rfl
theorem d8_13 : dec 8 13 = some (.iconst 3, 1, [3]) := rfl
theorem d8_14 : dec 8 14 = some (.newarray .int, 2, []) := rfl
theorem d8_16 : dec 8 16 = some (.putfield 15, 3, [1, 1, 1, 2, 0, 210]) := rfl
theorem d8_19 : dec 8 19 = some (.return_, 1, []) := rfl
theorem l8 : mL 8 = 1 := rfl
theorem x8 : (mG 8).2.2.2.2 = [] := rfl
theorem n8a {d b : Nat} {P : MP} {I : MI} {L : ML} {C : MC} {Q : QT} (hb : P.2.2 = b) (hk : P.1 b = (2, 0)) (hd : 1 ≤ d) : CT d 8 [.ref b] P I L C Q = Q (.inl none) (xr (xr (P.1) (b + 1) (20, 18)) (b + 1 + 1) (20, 3), xu (xr (xu (xr (P.2.1) (b + 1) (fun _ => none)) b 0 (some (b + 1))) (b + 1 + 1) (fun _ => none)) b 1 (some (b + 1 + 1)), b + 1 + 1) (xr (xr (I) (b + 1) (fun _ => 0)) (b + 1 + 1) (fun _ => 0)) (xr (xr (L) (b + 1) (fun _ => 0)) (b + 1 + 1) (fun _ => 0)) (C.1 + 1 + 1, C.2 + 18 + 3) := by
  rw [CT_e (mj := 8) (e := [.ref b]) (by omega) rfl (Nat.le_of_ble_eq_true rfl)]
  simp (disch := first | assumption | omega) only [Nat.reduceAdd, X_go, go2_some, stp, ldI, ldA, ldL, stI, stA, stL, o1I, o2I, o2L, brI, brII, gl, s1, s2, k1, sl, go_sN, go_sR, go_CT, go_sT, go_no, go_if, pops, bk_v, bk_0, d8_0, d8_1, d8_4, d8_5, d8_7, d8_9, d8_12, d8_13, d8_14, d8_16, d8_19, n_lt, n_le, n_eq, n_lt0, n_ge0, n_gt0, n_le0, n_eq0, m_lt, m_le, m_gt, m_ge, m_eq, m_eq', m_lt0, m_ge0, m_gt0, m_le0, m_ltm, m_lem, n_in, m_in, n_cl, n_ti, n_div, n_rem', n_dec, n_l, nI_add, pk_mul, an0, an1, decide_eq_true_eq, if_true, if_false, ite_true, ite_false, and_true, true_and, and_false, false_and, not_true, not_false_iff, or_false, false_or, or_true, true_or, eq_self, va_some, Bool.false_eq_true, reduceIte, catS_n, catS_i, catS_r, catS_l, catS_d, Nat.zero_add, Nat.add_zero, decide_true, decide_false, Nat.reduceLeDiff, cat_r, cat_i, cat_l, nle_T, nle_F, nlt_T, nlt_F, neq_T, neq_F, mk, mkP, hb, hk, xr_e, xr_m, le1]
  done
theorem n8 {d b : Nat} {P : MP} {I : MI} {L : ML} {C : MC} (hb : P.2.2 = b) (hk : P.1 b = (2, 0)) (hd : 1 ≤ d) : ∃ P' I' L' C', NW b 2 30 P P' I I' L L' C C' ∧ DB P' b ∧ ∀ Q, CT d 8 [.ref b] P I L C Q = Q (.inl none) P' I' L' C' := by
  refine ⟨_, _, _, _, ⟨by first | rfl | (dsimp only; omega), fun k h => ?_, fun k j h => ⟨?_, ?_, ?_⟩, by dsimp only; omega, by dsimp only; omega⟩, ?_, fun Q => n8a hb hk hd⟩
  · simp (disch := omega) only [xr_m]
  · simp (disch := omega) only [xr_m, xu_m]
  · simp (disch := omega) only [xr_m, xu_m]
  · simp (disch := omega) only [xr_m, xu_m]
  · simp (disch := omega) only [DB, xr_e, xr_m, xu_e, xu_m, hk, and_self]
theorem d6_0 : dec 6 0 = some (.aload_n 0, 1, []) := rfl
theorem d6_1 : dec 6 1 = some (.invokespecial 3, 3, [4, 180]) := rfl
theorem d6_4 : dec 6 4 = some (.aload_n 0, 1, []) := rfl
theorem d6_5 : dec 6 5 = some (.sipush 160, 3, [160]) := rfl
theorem d6_8 : dec 6 8 = some (.newarray .byte, 2, []) := rfl
theorem d6_10 : dec 6 10 = some (.putfield 9, 3, [1, 8, 0, 2, 0, 181]) := rfl
theorem d6_13 : dec 6 13 = some (.return_, 1, []) := rfl
theorem l6 : mL 6 = 1 := rfl
theorem x6 : (mG 6).2.2.2.2 = [] := rfl
theorem n6a {d b : Nat} {P : MP} {I : MI} {L : ML} {C : MC} {Q : QT} (hb : P.2.2 = b) (hk : P.1 b = (9, 0)) (hd : 1 ≤ d) : CT d 6 [.ref b] P I L C Q = Q (.inl none) (xr (P.1) (b + 1) (22, 160), xu (xr (P.2.1) (b + 1) (fun _ => none)) b 0 (some (b + 1)), b + 1) (xr (I) (b + 1) (fun _ => 0)) (xr (L) (b + 1) (fun _ => 0)) (C.1 + 1, C.2 + 160) := by
  rw [CT_e (mj := 6) (e := [.ref b]) (by omega) rfl (Nat.le_of_ble_eq_true rfl)]
  simp (disch := first | assumption | omega) only [Nat.reduceAdd, X_go, go2_some, stp, ldI, ldA, ldL, stI, stA, stL, o1I, o2I, o2L, brI, brII, gl, s1, s2, k1, sl, go_sN, go_sR, go_CT, go_sT, go_no, go_if, pops, bk_v, bk_0, d6_0, d6_1, d6_4, d6_5, d6_8, d6_10, d6_13, n_lt, n_le, n_eq, n_lt0, n_ge0, n_gt0, n_le0, n_eq0, m_lt, m_le, m_gt, m_ge, m_eq, m_eq', m_lt0, m_ge0, m_gt0, m_le0, m_ltm, m_lem, n_in, m_in, n_cl, n_ti, n_div, n_rem', n_dec, n_l, nI_add, pk_mul, an0, an1, decide_eq_true_eq, if_true, if_false, ite_true, ite_false, and_true, true_and, and_false, false_and, not_true, not_false_iff, or_false, false_or, or_true, true_or, eq_self, va_some, Bool.false_eq_true, reduceIte, catS_n, catS_i, catS_r, catS_l, catS_d, Nat.zero_add, Nat.add_zero, decide_true, decide_false, Nat.reduceLeDiff, cat_r, cat_i, cat_l, nle_T, nle_F, nlt_T, nlt_F, neq_T, neq_F, mk, mkP, hb, hk, xr_e, xr_m, le1]
  done
theorem n6 {d b : Nat} {P : MP} {I : MI} {L : ML} {C : MC} (hb : P.2.2 = b) (hk : P.1 b = (9, 0)) (hd : 1 ≤ d) : ∃ P' I' L' C', NW b 1 200 P P' I I' L L' C C' ∧ (P'.2.1 b 0 = some (b + 1) ∧ P'.1 (b + 1) = (22, 160)) ∧ (∀ j, I' b j = I b j) ∧ ∀ Q, CT d 6 [.ref b] P I L C Q = Q (.inl none) P' I' L' C' := by
  refine ⟨_, _, _, _, ⟨by first | rfl | (dsimp only; omega), fun k h => ?_, fun k j h => ⟨?_, ?_, ?_⟩, by dsimp only; omega, by dsimp only; omega⟩, ?_, ?_, fun Q => n6a hb hk hd⟩
  · simp (disch := omega) only [xr_m]
  · simp (disch := omega) only [xr_m, xu_m]
  · simp (disch := omega) only [xr_m, xu_m]
  · simp (disch := omega) only [xr_m, xu_m]
  · simp (disch := omega) only [xr_e, xr_m, xu_e, xu_m, and_self]
  · intro j
    simp (disch := omega) only [xr_m]
theorem d4_0 : dec 4 0 = some (.aload_n 0, 1, []) := rfl
theorem d4_1 : dec 4 1 = some (.invokespecial 3, 3, [4, 112]) := rfl
theorem d4_4 : dec 4 4 = some (.aload_n 0, 1, []) := rfl
theorem d4_5 : dec 4 5 = some (.bipush 16, 2, [16]) := rfl
theorem d4_7 : dec 4 7 = some (.newarray .int, 2, []) := rfl
theorem d4_9 : dec 4 9 = some (.putfield 9, 3, [1, 2, 0, 2, 0, 113]) := rfl
theorem d4_12 : dec 4 12 = some (.aload_n 0, 1, []) := rfl
theorem d4_13 : dec 4 13 = some (.bipush 20, 2, [20]) := rfl
theorem d4_15 : dec 4 15 = some (.newarray .int, 2, []) := rfl
theorem d4_17 : dec 4 17 = some (.putfield 15, 3, [1, 2, 1, 2, 0, 115]) := rfl
theorem d4_20 : dec 4 20 = some (.aload_n 0, 1, []) := rfl
theorem d4_21 : dec 4 21 = some (.bipush 20, 2, [20]) := rfl
theorem d4_23 : dec 4 23 = some (.newarray .int, 2, []) := rfl
theorem d4_25 : dec 4 25 = some (.putfield 18, 3, [1, 2, 2, 2, 0, 116]) := rfl
theorem d4_28 : dec 4 28 = some (.aload_n 0, 1, []) := rfl
theorem d4_29 : dec 4 29 = some (.bipush 20, 2, [20]) := rfl
theorem d4_31 : dec 4 31 = some (.newarray .int, 2, []) := rfl
theorem d4_33 : dec 4 33 = some (.putfield 21, 3, [1, 2, 3, 2, 0, 117]) := rfl
theorem d4_36 : dec 4 36 = some (.return_, 1, []) := rfl
theorem l4 : mL 4 = 1 := rfl
theorem x4 : (mG 4).2.2.2.2 = [] := rfl
theorem n4a {d b : Nat} {P : MP} {I : MI} {L : ML} {C : MC} {Q : QT} (hb : P.2.2 = b) (hk : P.1 b = (3, 0)) (hd : 1 ≤ d) : CT d 4 [.ref b] P I L C Q = Q (.inl none) (xr (xr (xr (xr (P.1) (b + 1) (20, 16)) (b + 1 + 1) (20, 20)) (b + 1 + 1 + 1) (20, 20)) (b + 1 + 1 + 1 + 1) (20, 20), xu (xr (xu (xr (xu (xr (xu (xr (P.2.1) (b + 1) (fun _ => none)) b 0 (some (b + 1))) (b + 1 + 1) (fun _ => none)) b 1 (some (b + 1 + 1))) (b + 1 + 1 + 1) (fun _ => none)) b 2 (some (b + 1 + 1 + 1))) (b + 1 + 1 + 1 + 1) (fun _ => none)) b 3 (some (b + 1 + 1 + 1 + 1)), b + 1 + 1 + 1 + 1) (xr (xr (xr (xr (I) (b + 1) (fun _ => 0)) (b + 1 + 1) (fun _ => 0)) (b + 1 + 1 + 1) (fun _ => 0)) (b + 1 + 1 + 1 + 1) (fun _ => 0)) (xr (xr (xr (xr (L) (b + 1) (fun _ => 0)) (b + 1 + 1) (fun _ => 0)) (b + 1 + 1 + 1) (fun _ => 0)) (b + 1 + 1 + 1 + 1) (fun _ => 0)) (C.1 + 1 + 1 + 1 + 1, C.2 + 16 + 20 + 20 + 20) := by
  rw [CT_e (mj := 4) (e := [.ref b]) (by omega) rfl (Nat.le_of_ble_eq_true rfl)]
  simp (disch := first | assumption | omega) only [Nat.reduceAdd, X_go, go2_some, stp, ldI, ldA, ldL, stI, stA, stL, o1I, o2I, o2L, brI, brII, gl, s1, s2, k1, sl, go_sN, go_sR, go_CT, go_sT, go_no, go_if, pops, bk_v, bk_0, d4_0, d4_1, d4_4, d4_5, d4_7, d4_9, d4_12, d4_13, d4_15, d4_17, d4_20, d4_21, d4_23, d4_25, d4_28, d4_29, d4_31, d4_33, d4_36, n_lt, n_le, n_eq, n_lt0, n_ge0, n_gt0, n_le0, n_eq0, m_lt, m_le, m_gt, m_ge, m_eq, m_eq', m_lt0, m_ge0, m_gt0, m_le0, m_ltm, m_lem, n_in, m_in, n_cl, n_ti, n_div, n_rem', n_dec, n_l, nI_add, pk_mul, an0, an1, decide_eq_true_eq, if_true, if_false, ite_true, ite_false, and_true, true_and, and_false, false_and, not_true, not_false_iff, or_false, false_or, or_true, true_or, eq_self, va_some, Bool.false_eq_true, reduceIte, catS_n, catS_i, catS_r, catS_l, catS_d, Nat.zero_add, Nat.add_zero, decide_true, decide_false, Nat.reduceLeDiff, cat_r, cat_i, cat_l, nle_T, nle_F, nlt_T, nlt_F, neq_T, neq_F, mk, mkP, hb, hk, xr_e, xr_m, le1]
  done
theorem n4 {d b : Nat} {P : MP} {I : MI} {L : ML} {C : MC} (hb : P.2.2 = b) (hk : P.1 b = (3, 0)) (hz : ∀ j, I b j = 0) (hd : 1 ≤ d) : ∃ P' I' L' C', NW b 4 100 P P' I I' L L' C C' ∧ FB P' b ∧ FR' I' b g0 ∧ ∀ Q, CT d 4 [.ref b] P I L C Q = Q (.inl none) P' I' L' C' := by
  refine ⟨_, _, _, _, ⟨by first | rfl | (dsimp only; omega), fun k h => ?_, fun k j h => ⟨?_, ?_, ?_⟩, by dsimp only; omega, by dsimp only; omega⟩, ?_, ?_, fun Q => n4a hb hk hd⟩
  · simp (disch := omega) only [xr_m]
  · simp (disch := omega) only [xr_m, xu_m]
  · simp (disch := omega) only [xr_m, xu_m]
  · simp (disch := omega) only [xr_m, xu_m]
  · simp (disch := omega) only [FB, xr_e, xr_m, xu_e, xu_m, hk, and_self]
  · refine ⟨fun i hi => ?_, ?_, ?_, fun i hi => ?_⟩
    · simp (disch := omega) only [xr_e, xr_m, g0_0, z_nI]
    · simp (disch := omega) only [xr_e, xr_m, g0_0, hz, z_nI]
    · simp (disch := omega) only [xr_e, xr_m, g0_0, hz, z_nI]
    · rw [g0_0 (by omega)] at hi
      omega
theorem d3_0 : dec 3 0 = some (.aload_n 0, 1, []) := rfl
theorem d3_1 : dec 3 1 = some (.invokespecial 3, 3, [4, 89]) := rfl
theorem d3_4 : dec 3 4 = some (.aload_n 0, 1, []) := rfl
theorem d3_5 : dec 3 5 = some (.iconst 4, 1, [4]) := rfl
theorem d3_6 : dec 3 6 = some (.newarray .int, 2, []) := rfl
theorem d3_8 : dec 3 8 = some (.putfield 9, 3, [1, 3, 0, 2, 0, 90]) := rfl
theorem d3_11 : dec 3 11 = some (.aload_n 0, 1, []) := rfl
theorem d3_12 : dec 3 12 = some (.iconst 4, 1, [4]) := rfl
theorem d3_13 : dec 3 13 = some (.newarray .int, 2, []) := rfl
theorem d3_15 : dec 3 15 = some (.putfield 15, 3, [1, 3, 1, 2, 0, 92]) := rfl
theorem d3_18 : dec 3 18 = some (.aload_n 0, 1, []) := rfl
theorem d3_19 : dec 3 19 = some (.iconst 1, 1, [1]) := rfl
theorem d3_20 : dec 3 20 = some (.putfield 18, 3, [1, 3, 3, 0, 0, 96]) := rfl
theorem d3_23 : dec 3 23 = some (.return_, 1, []) := rfl
theorem l3 : mL 3 = 1 := rfl
theorem x3 : (mG 3).2.2.2.2 = [] := rfl
theorem n3a {d b : Nat} {P : MP} {I : MI} {L : ML} {C : MC} {Q : QT} (hb : P.2.2 = b) (hk : P.1 b = (4, 0)) (hd : 1 ≤ d) : CT d 3 [.ref b] P I L C Q = Q (.inl none) (xr (xr (P.1) (b + 1) (20, 4)) (b + 1 + 1) (20, 4), xu (xr (xu (xr (P.2.1) (b + 1) (fun _ => none)) b 0 (some (b + 1))) (b + 1 + 1) (fun _ => none)) b 1 (some (b + 1 + 1)), b + 1 + 1) (xu (xr (xr (I) (b + 1) (fun _ => 0)) (b + 1 + 1) (fun _ => 0)) (b) 3 (nI 1)) (xr (xr (L) (b + 1) (fun _ => 0)) (b + 1 + 1) (fun _ => 0)) (C.1 + 1 + 1, C.2 + 4 + 4) := by
  rw [CT_e (mj := 3) (e := [.ref b]) (by omega) rfl (Nat.le_of_ble_eq_true rfl)]
  simp (disch := first | assumption | omega) only [Nat.reduceAdd, X_go, go2_some, stp, ldI, ldA, ldL, stI, stA, stL, o1I, o2I, o2L, brI, brII, gl, s1, s2, k1, sl, go_sN, go_sR, go_CT, go_sT, go_no, go_if, pops, bk_v, bk_0, d3_0, d3_1, d3_4, d3_5, d3_6, d3_8, d3_11, d3_12, d3_13, d3_15, d3_18, d3_19, d3_20, d3_23, n_lt, n_le, n_eq, n_lt0, n_ge0, n_gt0, n_le0, n_eq0, m_lt, m_le, m_gt, m_ge, m_eq, m_eq', m_lt0, m_ge0, m_gt0, m_le0, m_ltm, m_lem, n_in, m_in, n_cl, n_ti, n_div, n_rem', n_dec, n_l, nI_add, pk_mul, an0, an1, decide_eq_true_eq, if_true, if_false, ite_true, ite_false, and_true, true_and, and_false, false_and, not_true, not_false_iff, or_false, false_or, or_true, true_or, eq_self, va_some, Bool.false_eq_true, reduceIte, catS_n, catS_i, catS_r, catS_l, catS_d, Nat.zero_add, Nat.add_zero, decide_true, decide_false, Nat.reduceLeDiff, cat_r, cat_i, cat_l, nle_T, nle_F, nlt_T, nlt_F, neq_T, neq_F, mk, mkP, hb, hk, xr_e, xr_m, le1]
  done
theorem n3 {d b : Nat} {P : MP} {I : MI} {L : ML} {C : MC} (hb : P.2.2 = b) (hk : P.1 b = (4, 0)) (hz : ∀ j, I b j = 0) (hd : 1 ≤ d) : ∃ P' I' L' C', NW b 2 20 P P' I I' L L' C C' ∧ LB P' b ∧ LR I' b g0 ∧ ∀ Q, CT d 3 [.ref b] P I L C Q = Q (.inl none) P' I' L' C' := by
  refine ⟨_, _, _, _, ⟨by first | rfl | (dsimp only; omega), fun k h => ?_, fun k j h => ⟨?_, ?_, ?_⟩, by dsimp only; omega, by dsimp only; omega⟩, ?_, ?_, fun Q => n3a hb hk hd⟩
  · simp (disch := omega) only [xr_m]
  · simp (disch := omega) only [xr_m, xu_m]
  · simp (disch := omega) only [xr_m, xu_m]
  · simp (disch := omega) only [xr_m, xu_m]
  · simp (disch := omega) only [LB, xr_e, xr_m, xu_e, xu_m, hk, and_self]
  · refine ⟨fun r h1 h3 => ⟨?_, ?_⟩, ?_, ?_⟩
    · simp (disch := omega) only [xr_e, xr_m, xu_m, g0_0, z_nI]
    · simp (disch := omega) only [xr_e, xr_m, xu_m, g0_0, z_nI]
    · simp (disch := omega) only [xr_e, xr_m, xu_m, g0_0, hz, z_nI]
    · simp (disch := omega) only [xu_e, g0_1]
theorem d2_0 : dec 2 0 = some (.aload_n 0, 1, []) := rfl
theorem d2_1 : dec 2 1 = some (.invokespecial 3, 3, [4, 40]) := rfl
theorem d2_4 : dec 2 4 = some (.aload_n 0, 1, []) := rfl
theorem d2_5 : dec 2 5 = some (.iconst 3, 1, [3]) := rfl
theorem d2_6 : dec 2 6 = some (.newarray .int, 2, []) := rfl
theorem d2_8 : dec 2 8 = some (.dup, 1, []) := rfl
theorem d2_9 : dec 2 9 = some (.iconst 0, 1, [0]) := rfl
theorem d2_10 : dec 2 10 = some (.iconst 1, 1, [1]) := rfl
theorem d2_11 : dec 2 11 = some (.iastore, 1, []) := rfl
theorem d2_12 : dec 2 12 = some (.dup, 1, []) := rfl
theorem d2_13 : dec 2 13 = some (.iconst 1, 1, [1]) := rfl
theorem d2_14 : dec 2 14 = some (.iconst 1, 1, [1]) := rfl
theorem d2_15 : dec 2 15 = some (.iastore, 1, []) := rfl
theorem d2_16 : dec 2 16 = some (.dup, 1, []) := rfl
theorem d2_17 : dec 2 17 = some (.iconst 2, 1, [2]) := rfl
theorem d2_18 : dec 2 18 = some (.iconst 1, 1, [1]) := rfl
theorem d2_19 : dec 2 19 = some (.iastore, 1, []) := rfl
theorem d2_20 : dec 2 20 = some (.putfield 9, 3, [1, 7, 0, 2, 0, 41]) := rfl
theorem d2_23 : dec 2 23 = some (.aload_n 0, 1, []) := rfl
theorem d2_24 : dec 2 24 = some (.iconst 3, 1, [3]) := rfl
theorem d2_25 : dec 2 25 = some (.newarray .int, 2, []) := rfl
theorem d2_27 : dec 2 27 = some (.putfield 15, 3, [1, 7, 1, 2, 0, 45]) := rfl
theorem d2_30 : dec 2 30 = some (.aload_n 0, 1, []) := rfl
theorem d2_31 : dec 2 31 = some (.bipush 18, 2, [18]) := rfl
theorem d2_33 : dec 2 33 = some (.newarray .int, 2, []) := rfl
theorem d2_35 : dec 2 35 = some (.putfield 18, 3, [1, 7, 2, 2, 0, 46]) := rfl
theorem d2_38 : dec 2 38 = some (.aload_n 0, 1, []) := rfl
theorem d2_39 : dec 2 39 = some (.bipush 18, 2, [18]) := rfl
theorem d2_41 : dec 2 41 = some (.newarray .int, 2, []) := rfl
theorem d2_43 : dec 2 43 = some (.putfield 21, 3, [1, 7, 3, 2, 0, 51]) := rfl
theorem d2_46 : dec 2 46 = some (.aload_n 0, 1, []) := rfl
theorem d2_47 : dec 2 47 = some (.bipush 18, 2, [18]) := rfl
theorem d2_49 : dec 2 49 = some (.newarray .int, 2, []) := rfl
theorem d2_51 : dec 2 51 = some (.putfield 24, 3, [1, 7, 4, 2, 0, 54]) := rfl
theorem d2_54 : dec 2 54 = some (.aload_n 0, 1, []) := rfl
theorem d2_55 : dec 2 55 = some (.bipush 18, 2, [18]) := rfl
theorem d2_57 : dec 2 57 = some (.newarray .int, 2, []) := rfl
theorem d2_59 : dec 2 59 = some (.putfield 27, 3, [1, 7, 5, 2, 0, 60]) := rfl
theorem d2_62 : dec 2 62 = some (.aload_n 0, 1, []) := rfl
theorem d2_63 : dec 2 63 = some (.bipush 18, 2, [18]) := rfl
theorem d2_65 : dec 2 65 = some (.newarray .int, 2, []) := rfl
theorem d2_67 : dec 2 67 = some (.putfield 30, 3, [1, 7, 6, 2, 0, 62]) := rfl
theorem d2_70 : dec 2 70 = some (.aload_n 0, 1, []) := rfl
theorem d2_71 : dec 2 71 = some (.bipush 18, 2, [18]) := rfl
theorem d2_73 : dec 2 73 = some (.newarray .int, 2, []) := rfl
theorem d2_75 : dec 2 75 = some (.putfield 33, 3, [1, 7, 7, 2, 0, 64]) := rfl
theorem d2_78 : dec 2 78 = some (.return_, 1, []) := rfl
theorem l2 : mL 2 = 1 := rfl
theorem x2 : (mG 2).2.2.2.2 = [] := rfl
theorem n2a {d b : Nat} {P : MP} {I : MI} {L : ML} {C : MC} {Q : QT} (hb : P.2.2 = b) (hk : P.1 b = (8, 0)) (hd : 1 ≤ d) : CT d 2 [.ref b] P I L C Q = Q (.inl none) (xr (xr (xr (xr (xr (xr (xr (xr (P.1) (b + 1) (20, 3)) (b + 1 + 1) (20, 3)) (b + 1 + 1 + 1) (20, 18)) (b + 1 + 1 + 1 + 1) (20, 18)) (b + 1 + 1 + 1 + 1 + 1) (20, 18)) (b + 1 + 1 + 1 + 1 + 1 + 1) (20, 18)) (b + 1 + 1 + 1 + 1 + 1 + 1 + 1) (20, 18)) (b + 1 + 1 + 1 + 1 + 1 + 1 + 1 + 1) (20, 18), xu (xr (xu (xr (xu (xr (xu (xr (xu (xr (xu (xr (xu (xr (xu (xr (P.2.1) (b + 1) (fun _ => none)) b 0 (some (b + 1))) (b + 1 + 1) (fun _ => none)) b 1 (some (b + 1 + 1))) (b + 1 + 1 + 1) (fun _ => none)) b 2 (some (b + 1 + 1 + 1))) (b + 1 + 1 + 1 + 1) (fun _ => none)) b 3 (some (b + 1 + 1 + 1 + 1))) (b + 1 + 1 + 1 + 1 + 1) (fun _ => none)) b 4 (some (b + 1 + 1 + 1 + 1 + 1))) (b + 1 + 1 + 1 + 1 + 1 + 1) (fun _ => none)) b 5 (some (b + 1 + 1 + 1 + 1 + 1 + 1))) (b + 1 + 1 + 1 + 1 + 1 + 1 + 1) (fun _ => none)) b 6 (some (b + 1 + 1 + 1 + 1 + 1 + 1 + 1))) (b + 1 + 1 + 1 + 1 + 1 + 1 + 1 + 1) (fun _ => none)) b 7 (some (b + 1 + 1 + 1 + 1 + 1 + 1 + 1 + 1)), b + 1 + 1 + 1 + 1 + 1 + 1 + 1 + 1) (xr (xr (xr (xr (xr (xr (xr (xu (xu (xu (xr (I) (b + 1) (fun _ => 0)) (b + 1) 0 (nI 1)) (b + 1) 1 (nI 1)) (b + 1) 2 (nI 1)) (b + 1 + 1) (fun _ => 0)) (b + 1 + 1 + 1) (fun _ => 0)) (b + 1 + 1 + 1 + 1) (fun _ => 0)) (b + 1 + 1 + 1 + 1 + 1) (fun _ => 0)) (b + 1 + 1 + 1 + 1 + 1 + 1) (fun _ => 0)) (b + 1 + 1 + 1 + 1 + 1 + 1 + 1) (fun _ => 0)) (b + 1 + 1 + 1 + 1 + 1 + 1 + 1 + 1) (fun _ => 0)) (xr (xr (xr (xr (xr (xr (xr (xr (L) (b + 1) (fun _ => 0)) (b + 1 + 1) (fun _ => 0)) (b + 1 + 1 + 1) (fun _ => 0)) (b + 1 + 1 + 1 + 1) (fun _ => 0)) (b + 1 + 1 + 1 + 1 + 1) (fun _ => 0)) (b + 1 + 1 + 1 + 1 + 1 + 1) (fun _ => 0)) (b + 1 + 1 + 1 + 1 + 1 + 1 + 1) (fun _ => 0)) (b + 1 + 1 + 1 + 1 + 1 + 1 + 1 + 1) (fun _ => 0)) (C.1 + 1 + 1 + 1 + 1 + 1 + 1 + 1 + 1, C.2 + 3 + 3 + 18 + 18 + 18 + 18 + 18 + 18) := by
  rw [CT_e (mj := 2) (e := [.ref b]) (by omega) rfl (Nat.le_of_ble_eq_true rfl)]
  simp (disch := first | assumption | omega) only [Nat.reduceAdd, X_go, go2_some, stp, ldI, ldA, ldL, stI, stA, stL, o1I, o2I, o2L, brI, brII, gl, s1, s2, k1, sl, go_sN, go_sR, go_CT, go_sT, go_no, go_if, pops, bk_v, bk_0, d2_0, d2_1, d2_4, d2_5, d2_6, d2_8, d2_9, d2_10, d2_11, d2_12, d2_13, d2_14, d2_15, d2_16, d2_17, d2_18, d2_19, d2_20, d2_23, d2_24, d2_25, d2_27, d2_30, d2_31, d2_33, d2_35, d2_38, d2_39, d2_41, d2_43, d2_46, d2_47, d2_49, d2_51, d2_54, d2_55, d2_57, d2_59, d2_62, d2_63, d2_65, d2_67, d2_70, d2_71, d2_73, d2_75, d2_78, n_lt, n_le, n_eq, n_lt0, n_ge0, n_gt0, n_le0, n_eq0, m_lt, m_le, m_gt, m_ge, m_eq, m_eq', m_lt0, m_ge0, m_gt0, m_le0, m_ltm, m_lem, n_in, m_in, n_cl, n_ti, n_div, n_rem', n_dec, n_l, nI_add, pk_mul, an0, an1, decide_eq_true_eq, if_true, if_false, ite_true, ite_false, and_true, true_and, and_false, false_and, not_true, not_false_iff, or_false, false_or, or_true, true_or, eq_self, va_some, Bool.false_eq_true, reduceIte, catS_n, catS_i, catS_r, catS_l, catS_d, Nat.zero_add, Nat.add_zero, decide_true, decide_false, Nat.reduceLeDiff, cat_r, cat_i, cat_l, nle_T, nle_F, nlt_T, nlt_F, neq_T, neq_F, mk, mkP, hb, hk, xr_e, xr_m, le1]
  done
theorem n2 {d b : Nat} {P : MP} {I : MI} {L : ML} {C : MC} (hb : P.2.2 = b) (hk : P.1 b = (8, 0)) (hd : 1 ≤ d) : ∃ P' I' L' C', NW b 8 150 P P' I I' L L' C C' ∧ TB P' b ∧ TR I' b g0 ∧ ∀ Q, CT d 2 [.ref b] P I L C Q = Q (.inl none) P' I' L' C' := by
  refine ⟨_, _, _, _, ⟨by first | rfl | (dsimp only; omega), fun k h => ?_, fun k j h => ⟨?_, ?_, ?_⟩, by dsimp only; omega, by dsimp only; omega⟩, ?_, ?_, fun Q => n2a hb hk hd⟩
  · simp (disch := omega) only [xr_m]
  · simp (disch := omega) only [xr_m, xu_m]
  · simp (disch := omega) only [xr_m, xu_m]
  · simp (disch := omega) only [xr_m, xu_m]
  · simp (disch := omega) only [TB, xr_e, xr_m, xu_e, xu_m, hk, and_self]
  · refine ⟨fun t ht => ?_, fun t ht => ?_, fun t e ht he => ?_⟩
    · rw [g0_1 (by omega)]
      rcases (by omega : t = 0 ∨ t = 1 ∨ t = 2) with rfl | rfl | rfl <;> simp (disch := omega) only [xr_e, xr_m, xu_e, xu_m]
    · simp (disch := omega) only [xr_e, xr_m, xu_m, g0_0, z_nI]
    · rw [g0_0 (by omega)] at he
      omega
