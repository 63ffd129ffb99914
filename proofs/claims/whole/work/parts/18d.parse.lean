/-! TEXT: draws, parts, the whole; parse -/
theorem TR_dr {I : MI} {T t v : Nat} {g : GS} (hg : TR I T g) (ht : t < 3) : TR (xu I (T + 1) t (nI v)) T (ud g t v) := by
  refine ⟨fun t' h => ?_, fun t' h => ?_, fun t' e h he => ?_⟩
  · by_cases z : t' = t
    · subst z; rw [ud_s, xu_s]
    · rw [ud_n z, xu_n _ _ (by omega)]; exact hg.1 t' h
  · rw [ud_n (by omega), xu_n _ _ (by omega)]; exact hg.2.1 t' h
  · rw [ud_n (by omega)] at he
    have := hg.2.2 t' e h he
    unfold cl at *
    simp (disch := omega) only [ud_n, xu_n]
    exact this
theorem TV_dr {t v : Nat} {g : GS} (h : TV g) (ht : t < 3) (h1 : 1 ≤ v) (h2 : v ≤ 2) : TV (ud g t v) := by
  refine ⟨fun t' h' => ?_, fun t' h' => ?_, fun t' e h' he => ?_⟩
  · by_cases z : t' = t
    · subst z; rw [ud_s]; exact ⟨h1, h2⟩
    · rw [ud_n z]; exact h.1 t' h'
  · rw [ud_n (by omega)]; exact h.2.1 t' h'
  · rw [ud_n (by omega)] at he
    exact EV_g (fun f hf => ud_n (by unfold cl; omega)) (h.2.2 t' e h' he)
/-- how often a table is drawn, in the text behind its sign -/
def rDrw (tx : Nat → Nat) (len p : Nat) (g : GS) : Nat ⊕ (Nat × GS) :=
  if isD tx len p 0 2 = false then .inl p else if isD tx len (p + 1) 1 2 = false then .inl (p + 1) else if ch tx len (p + 2) 59 = false then .inl (p + 2) else .inr (p + 3, ud g (tx p - 48) (tx (p + 1) - 48))
theorem d41_0 : dec 41 0 = some (.aload_n 0, 1, []) := rfl
theorem d41_1 : dec 41 1 = some (.iconst 0, 1, [0]) := rfl
theorem d41_2 : dec 41 2 = some (.iconst 2, 1, [2]) := rfl
theorem d41_3 : dec 41 3 = some (.invokevirtual 44, 3, [2, 42, 2, 8, 0, 430, 0, 0]) := rfl
theorem d41_6 : dec 41 6 = some (.istore_n 2, 1, []) := rfl
theorem d41_7 : dec 41 7 = some (.aload_n 0, 1, []) := rfl
theorem d41_8 : dec 41 8 = some (.iconst 1, 1, [1]) := rfl
theorem d41_9 : dec 41 9 = some (.iconst 2, 1, [2]) := rfl
theorem d41_10 : dec 41 10 = some (.invokevirtual 44, 3, [2, 42, 2, 8, 0, 430, 0, 0]) := rfl
theorem d41_13 : dec 41 13 = some (.istore_n 3, 1, []) := rfl
theorem d41_14 : dec 41 14 = some (.aload_n 0, 1, []) := rfl
theorem d41_15 : dec 41 15 = some (.bipush 59, 2, [59]) := rfl
theorem d41_17 : dec 41 17 = some (.invokevirtual 48, 3, [2, 43, 2, 8, 0, 434, 0]) := rfl
theorem d41_20 : dec 41 20 = some (.aload_n 0, 1, []) := rfl
theorem d41_21 : dec 41 21 = some (.getfield 27, 3, [1, 8, 3, 0, 0, 187]) := rfl
theorem d41_24 : dec 41 24 = some (.iconst (-1), 1, [4294967295]) := rfl
theorem d41_25 : dec 41 25 = some (.if_icmp .ne 12, 3, [37]) := rfl
theorem d41_28 : dec 41 28 = some (.aload_n 1, 1, []) := rfl
theorem d41_29 : dec 41 29 = some (.getfield 52, 3, [1, 7, 0, 2, 1, 45]) := rfl
theorem d41_32 : dec 41 32 = some (.iload_n 2, 1, []) := rfl
theorem d41_33 : dec 41 33 = some (.iload_n 3, 1, []) := rfl
theorem d41_34 : dec 41 34 = some (.invokestatic 56, 3, [2, 44, 0, 9, 1, 438, 0, 0, 2]) := rfl
theorem d41_37 : dec 41 37 = some (.return_, 1, []) := rfl
theorem l41 : mL 41 = 4 := rfl
theorem c41 {d : Nat} {P : MP} {I : MI} {L : ML} {C : MC} {len p : Nat} {g : GS} {tx : Nat → Nat} (hX : XB P) (ht : TX I len tx) (hg : TR I 114 g) (hv : TV g) (hd : 6 ≤ d) (hp : p ≤ len) : RO P I L C d 41 p len g (rDrw tx len p g) := by
  have x0 := hX.2.2.2.2.2.1.1
  have hT := hX.2.2.2.2.2.2.1
  have hT' := hT
  obtain ⟨⟨m0, q0, _⟩, z1, _⟩ := hT'
  have hlen := ht.2.1
  have he : ∀ Q, CT d 41 [.ref 112, .ref 114] P (tS I p (nI 4294967295)) L C Q = X (d - 1) 41 0 [.ref 112, .ref 114, UN, UN] [] P (tS I p (nI 4294967295)) L C Q := fun Q => CT_e (mj := 41) (e := [.ref 112, .ref 114, UN, UN]) (by omega) rfl (Nat.le_of_ble_eq_true rfl)
  unfold RO rDrw
  by_cases a1 : isD tx len p 0 2 = false
  · rw [if_pos a1]
    refine .inl ⟨p, p, rfl, by omega, fun Q => ?_⟩
    rw [he]
    simp (disch := first | assumption | omega) only [Nat.reduceAdd, X_go, go2_some, stp, ldI, ldA, ldL, stI, stA, stL, o1I, o2I, o2L, brI, brII, gl, s1, s2, k1, sl, go_sN, go_sR, go_CT, go_sT, go_no, go_if, pops, bk_v, bk_0, d41_0, d41_1, d41_2, d41_3, d41_6, d41_7, d41_8, d41_9, d41_10, d41_13, d41_14, d41_15, d41_17, d41_20, d41_21, d41_24, d41_25, d41_28, d41_29, d41_32, d41_33, d41_34, d41_37, n_lt, n_le, n_eq, n_lt0, n_ge0, n_gt0, n_le0, n_eq0, m_lt, m_le, m_gt, m_ge, m_eq, m_eq', m_lt0, m_ge0, m_gt0, m_le0, m_ltm, m_lem, n_in, m_in, n_cl, n_ti, n_div, n_rem', n_dec, n_l, nI_add, pk_mul, an0, an1, decide_eq_true_eq, if_true, if_false, ite_true, ite_false, and_true, true_and, and_false, false_and, not_true, not_false_iff, or_false, false_or, or_true, true_or, eq_self, va_some, Bool.false_eq_true, reduceIte, catS_n, catS_i, catS_r, catS_l, catS_d, Nat.zero_add, Nat.add_zero, decide_true, decide_false, Nat.reduceLeDiff, cat_r, cat_i, cat_l, nle_T, nle_F, nlt_T, nlt_F, neq_T, neq_F, x0, tS_3, c42n hX ht a1, c43f hX, c42f hX]
    done
  rw [if_neg a1]
  rw [Bool.not_eq_false] at a1
  have b1 := isD_b a1
  by_cases a2 : isD tx len (p + 1) 1 2 = false
  · rw [if_pos a2]
    refine .inl ⟨p + 1, p + 1, rfl, by omega, fun Q => ?_⟩
    rw [he]
    simp (disch := first | assumption | omega) only [Nat.reduceAdd, X_go, go2_some, stp, ldI, ldA, ldL, stI, stA, stL, o1I, o2I, o2L, brI, brII, gl, s1, s2, k1, sl, go_sN, go_sR, go_CT, go_sT, go_no, go_if, pops, bk_v, bk_0, d41_0, d41_1, d41_2, d41_3, d41_6, d41_7, d41_8, d41_9, d41_10, d41_13, d41_14, d41_15, d41_17, d41_20, d41_21, d41_24, d41_25, d41_28, d41_29, d41_32, d41_33, d41_34, d41_37, n_lt, n_le, n_eq, n_lt0, n_ge0, n_gt0, n_le0, n_eq0, m_lt, m_le, m_gt, m_ge, m_eq, m_eq', m_lt0, m_ge0, m_gt0, m_le0, m_ltm, m_lem, n_in, m_in, n_cl, n_ti, n_div, n_rem', n_dec, n_l, nI_add, pk_mul, an0, an1, decide_eq_true_eq, if_true, if_false, ite_true, ite_false, and_true, true_and, and_false, false_and, not_true, not_false_iff, or_false, false_or, or_true, true_or, eq_self, va_some, Bool.false_eq_true, reduceIte, catS_n, catS_i, catS_r, catS_l, catS_d, Nat.zero_add, Nat.add_zero, decide_true, decide_false, Nat.reduceLeDiff, cat_r, cat_i, cat_l, nle_T, nle_F, nlt_T, nlt_F, neq_T, neq_F, x0, tS_3, c42 hX ht a1, c42n hX ht a2, c43f hX]
    done
  rw [if_neg a2]
  rw [Bool.not_eq_false] at a2
  have b2 := isD_b a2
  by_cases a3 : ch tx len (p + 2) 59 = false
  · rw [if_pos a3]
    refine .inl ⟨p + 2, p + 2, rfl, by omega, fun Q => ?_⟩
    rw [he]
    simp (disch := first | assumption | omega) only [Nat.reduceAdd, X_go, go2_some, stp, ldI, ldA, ldL, stI, stA, stL, o1I, o2I, o2L, brI, brII, gl, s1, s2, k1, sl, go_sN, go_sR, go_CT, go_sT, go_no, go_if, pops, bk_v, bk_0, d41_0, d41_1, d41_2, d41_3, d41_6, d41_7, d41_8, d41_9, d41_10, d41_13, d41_14, d41_15, d41_17, d41_20, d41_21, d41_24, d41_25, d41_28, d41_29, d41_32, d41_33, d41_34, d41_37, n_lt, n_le, n_eq, n_lt0, n_ge0, n_gt0, n_le0, n_eq0, m_lt, m_le, m_gt, m_ge, m_eq, m_eq', m_lt0, m_ge0, m_gt0, m_le0, m_ltm, m_lem, n_in, m_in, n_cl, n_ti, n_div, n_rem', n_dec, n_l, nI_add, pk_mul, an0, an1, decide_eq_true_eq, if_true, if_false, ite_true, ite_false, and_true, true_and, and_false, false_and, not_true, not_false_iff, or_false, false_or, or_true, true_or, eq_self, va_some, Bool.false_eq_true, reduceIte, catS_n, catS_i, catS_r, catS_l, catS_d, Nat.zero_add, Nat.add_zero, decide_true, decide_false, Nat.reduceLeDiff, cat_r, cat_i, cat_l, nle_T, nle_F, nlt_T, nlt_F, neq_T, neq_F, x0, tS_3, c42 hX ht a1, c42 hX ht a2, c43n hX ht a3]
    done
  rw [if_neg a3]
  rw [Bool.not_eq_false] at a3
  have b3 := ch_b a3
  refine .inr ⟨_, _, _, rfl, by omega, by omega, TR_dr hg (by omega), TV_dr hv (by omega) (by omega) (by omega), fun k hk => ud_n (by omega), fun k j h => xu_n _ _ (by omega), fun Q => ?_⟩
  rw [he]
  simp (disch := first | assumption | omega) only [Nat.reduceAdd, X_go, go2_some, stp, ldI, ldA, ldL, stI, stA, stL, o1I, o2I, o2L, brI, brII, gl, s1, s2, k1, sl, go_sN, go_sR, go_CT, go_sT, go_no, go_if, pops, bk_v, bk_0, d41_0, d41_1, d41_2, d41_3, d41_6, d41_7, d41_8, d41_9, d41_10, d41_13, d41_14, d41_15, d41_17, d41_20, d41_21, d41_24, d41_25, d41_28, d41_29, d41_32, d41_33, d41_34, d41_37, n_lt, n_le, n_eq, n_lt0, n_ge0, n_gt0, n_le0, n_eq0, m_lt, m_le, m_gt, m_ge, m_eq, m_eq', m_lt0, m_ge0, m_gt0, m_le0, m_ltm, m_lem, n_in, m_in, n_cl, n_ti, n_div, n_rem', n_dec, n_l, nI_add, pk_mul, an0, an1, decide_eq_true_eq, if_true, if_false, ite_true, ite_false, and_true, true_and, and_false, false_and, not_true, not_false_iff, or_false, false_or, or_true, true_or, eq_self, va_some, Bool.false_eq_true, reduceIte, catS_n, catS_i, catS_r, catS_l, catS_d, Nat.zero_add, Nat.add_zero, decide_true, decide_false, Nat.reduceLeDiff, cat_r, cat_i, cat_l, nle_T, nle_F, nlt_T, nlt_F, neq_T, neq_F, x0, m0, q0, tS_3, c42 hX ht a1, c42 hX ht a2, c43 hX ht a3, c44 z1, tS_u]
  done
def rPart (tx : Nat → Nat) (len p : Nat) (g : GS) : Nat ⊕ (Nat × GS) := if ch tx len p 100 = true then rDrw tx len (p + 1) g else if ch tx len p 101 = true then rEnt tx len (p + 1) g else .inl p
theorem d39_0 : dec 39 0 = some (.aload_n 0, 1, []) := rfl
theorem d39_1 : dec 39 1 = some (.invokevirtual 34, 3, [2, 40, 2, 8, 0, 422]) := rfl
theorem d39_4 : dec 39 4 = some (.istore_n 2, 1, []) := rfl
theorem d39_5 : dec 39 5 = some (.iload_n 2, 1, []) := rfl
theorem d39_6 : dec 39 6 = some (.bipush 100, 2, [100]) := rfl
theorem d39_8 : dec 39 8 = some (.if_icmp .ne 21, 3, [29]) := rfl
theorem d39_11 : dec 39 11 = some (.aload_n 0, 1, []) := rfl
theorem d39_12 : dec 39 12 = some (.dup, 1, []) := rfl
theorem d39_13 : dec 39 13 = some (.getfield 24, 3, [1, 8, 2, 0, 0, 186]) := rfl
theorem d39_16 : dec 39 16 = some (.iconst 1, 1, [1]) := rfl
theorem d39_17 : dec 39 17 = some (.iadd, 1, []) := rfl
theorem d39_18 : dec 39 18 = some (.putfield 24, 3, [1, 8, 2, 0, 0, 186]) := rfl
theorem d39_21 : dec 39 21 = some (.aload_n 0, 1, []) := rfl
theorem d39_22 : dec 39 22 = some (.aload_n 1, 1, []) := rfl
theorem d39_23 : dec 39 23 = some (.invokevirtual 38, 3, [2, 41, 2, 8, 0, 426, 2]) := rfl
theorem d39_26 : dec 39 26 = some (.goto 35, 3, [61]) := rfl
theorem d39_29 : dec 39 29 = some (.iload_n 2, 1, []) := rfl
theorem d39_30 : dec 39 30 = some (.bipush 101, 2, [101]) := rfl
theorem d39_32 : dec 39 32 = some (.if_icmp .ne 21, 3, [53]) := rfl
theorem d39_35 : dec 39 35 = some (.aload_n 0, 1, []) := rfl
theorem d39_36 : dec 39 36 = some (.dup, 1, []) := rfl
theorem d39_37 : dec 39 37 = some (.getfield 24, 3, [1, 8, 2, 0, 0, 186]) := rfl
theorem d39_40 : dec 39 40 = some (.iconst 1, 1, [1]) := rfl
theorem d39_41 : dec 39 41 = some (.iadd, 1, []) := rfl
theorem d39_42 : dec 39 42 = some (.putfield 24, 3, [1, 8, 2, 0, 0, 186]) := rfl
theorem d39_45 : dec 39 45 = some (.aload_n 0, 1, []) := rfl
theorem d39_46 : dec 39 46 = some (.aload_n 1, 1, []) := rfl
theorem d39_47 : dec 39 47 = some (.invokevirtual 41, 3, [2, 45, 2, 8, 0, 441, 2]) := rfl
theorem d39_50 : dec 39 50 = some (.goto 11, 3, [61]) := rfl
theorem d39_53 : dec 39 53 = some (.aload_n 0, 1, []) := rfl
theorem d39_54 : dec 39 54 = some (.aload_n 0, 1, []) := rfl
theorem d39_55 : dec 39 55 = some (.getfield 24, 3, [1, 8, 2, 0, 0, 186]) := rfl
theorem d39_58 : dec 39 58 = some (.putfield 27, 3, [1, 8, 3, 0, 0, 187]) := rfl
theorem d39_61 : dec 39 61 = some (.return_, 1, []) := rfl
theorem l39 : mL 39 = 3 := rfl
theorem c39 {d : Nat} {P : MP} {I : MI} {L : ML} {C : MC} {len p : Nat} {g : GS} {tx : Nat → Nat} (hX : XB P) (ht : TX I len tx) (hg : TR I 114 g) (hv : TV g) (hd : 8 ≤ d) (hp : p < len) : RO P I L C d 39 p len g (rPart tx len p g) := by
  have x0 := hX.2.2.2.2.2.1.1
  have hlen := ht.2.1
  have q1 := pk_ch (p := p) (c := 100) ht.2.2 (by omega)
  have q2 := pk_ch (p := p) (c := 101) ht.2.2 (by omega)
  have he : ∀ Q, CT d 39 [.ref 112, .ref 114] P (tS I p (nI 4294967295)) L C Q = X (d - 1) 39 0 [.ref 112, .ref 114, UN] [] P (tS I p (nI 4294967295)) L C Q := fun Q => CT_e (mj := 39) (e := [.ref 112, .ref 114, UN]) (by omega) rfl (Nat.le_of_ble_eq_true rfl)
  unfold rPart
  by_cases a1 : ch tx len p 100 = true
  · rw [if_pos a1]
    rcases c41 (d := d - 1) (L := L) (C := C) hX ht hg hv (by omega) (show p + 1 ≤ len by omega) with ⟨f, p', e1, e2, e3⟩ | ⟨s, g', I', e1, e2, e3, e4, e5, e6, e7, e8⟩
    · refine .inl ⟨f, p', e1, e2, fun Q => ?_⟩
      rw [he]
      simp (disch := first | assumption | omega) only [Nat.reduceAdd, X_go, go2_some, stp, ldI, ldA, ldL, stI, stA, stL, o1I, o2I, o2L, brI, brII, gl, s1, s2, k1, sl, go_sN, go_sR, go_CT, go_sT, go_no, go_if, pops, bk_v, bk_0, d39_0, d39_1, d39_4, d39_5, d39_6, d39_8, d39_11, d39_12, d39_13, d39_16, d39_17, d39_18, d39_21, d39_22, d39_23, d39_26, d39_29, d39_30, d39_32, d39_35, d39_36, d39_37, d39_40, d39_41, d39_42, d39_45, d39_46, d39_47, d39_50, d39_53, d39_54, d39_55, d39_58, d39_61, n_lt, n_le, n_eq, n_lt0, n_ge0, n_gt0, n_le0, n_eq0, m_lt, m_le, m_gt, m_ge, m_eq, m_eq', m_lt0, m_ge0, m_gt0, m_le0, m_ltm, m_lem, n_in, m_in, n_cl, n_ti, n_div, n_rem', n_dec, n_l, nI_add, pk_mul, an0, an1, decide_eq_true_eq, if_true, if_false, ite_true, ite_false, and_true, true_and, and_false, false_and, not_true, not_false_iff, or_false, false_or, or_true, true_or, eq_self, va_some, Bool.false_eq_true, reduceIte, catS_n, catS_i, catS_r, catS_l, catS_d, Nat.zero_add, Nat.add_zero, decide_true, decide_false, Nat.reduceLeDiff, cat_r, cat_i, cat_l, nle_T, nle_F, nlt_T, nlt_F, neq_T, neq_F, x0, c40 hX ht, q1, a1, tS_2, tS_p, e3]
      done
    · refine .inr ⟨s, g', I', e1, by omega, e3, e4, e5, e6, e7, fun Q => ?_⟩
      rw [he]
      simp (disch := first | assumption | omega) only [Nat.reduceAdd, X_go, go2_some, stp, ldI, ldA, ldL, stI, stA, stL, o1I, o2I, o2L, brI, brII, gl, s1, s2, k1, sl, go_sN, go_sR, go_CT, go_sT, go_no, go_if, pops, bk_v, bk_0, d39_0, d39_1, d39_4, d39_5, d39_6, d39_8, d39_11, d39_12, d39_13, d39_16, d39_17, d39_18, d39_21, d39_22, d39_23, d39_26, d39_29, d39_30, d39_32, d39_35, d39_36, d39_37, d39_40, d39_41, d39_42, d39_45, d39_46, d39_47, d39_50, d39_53, d39_54, d39_55, d39_58, d39_61, n_lt, n_le, n_eq, n_lt0, n_ge0, n_gt0, n_le0, n_eq0, m_lt, m_le, m_gt, m_ge, m_eq, m_eq', m_lt0, m_ge0, m_gt0, m_le0, m_ltm, m_lem, n_in, m_in, n_cl, n_ti, n_div, n_rem', n_dec, n_l, nI_add, pk_mul, an0, an1, decide_eq_true_eq, if_true, if_false, ite_true, ite_false, and_true, true_and, and_false, false_and, not_true, not_false_iff, or_false, false_or, or_true, true_or, eq_self, va_some, Bool.false_eq_true, reduceIte, catS_n, catS_i, catS_r, catS_l, catS_d, Nat.zero_add, Nat.add_zero, decide_true, decide_false, Nat.reduceLeDiff, cat_r, cat_i, cat_l, nle_T, nle_F, nlt_T, nlt_F, neq_T, neq_F, x0, c40 hX ht, q1, a1, tS_2, tS_p, e8]
      done
  rw [if_neg a1]
  by_cases a2 : ch tx len p 101 = true
  · rw [if_pos a2]
    rcases c45 (d := d - 1) (L := L) (C := C) hX ht hg hv (by omega) (show p + 1 ≤ len by omega) with ⟨f, p', e1, e2, e3⟩ | ⟨s, g', I', e1, e2, e3, e4, e5, e6, e7, e8⟩
    · refine .inl ⟨f, p', e1, e2, fun Q => ?_⟩
      rw [he]
      simp (disch := first | assumption | omega) only [Nat.reduceAdd, X_go, go2_some, stp, ldI, ldA, ldL, stI, stA, stL, o1I, o2I, o2L, brI, brII, gl, s1, s2, k1, sl, go_sN, go_sR, go_CT, go_sT, go_no, go_if, pops, bk_v, bk_0, d39_0, d39_1, d39_4, d39_5, d39_6, d39_8, d39_11, d39_12, d39_13, d39_16, d39_17, d39_18, d39_21, d39_22, d39_23, d39_26, d39_29, d39_30, d39_32, d39_35, d39_36, d39_37, d39_40, d39_41, d39_42, d39_45, d39_46, d39_47, d39_50, d39_53, d39_54, d39_55, d39_58, d39_61, n_lt, n_le, n_eq, n_lt0, n_ge0, n_gt0, n_le0, n_eq0, m_lt, m_le, m_gt, m_ge, m_eq, m_eq', m_lt0, m_ge0, m_gt0, m_le0, m_ltm, m_lem, n_in, m_in, n_cl, n_ti, n_div, n_rem', n_dec, n_l, nI_add, pk_mul, an0, an1, decide_eq_true_eq, if_true, if_false, ite_true, ite_false, and_true, true_and, and_false, false_and, not_true, not_false_iff, or_false, false_or, or_true, true_or, eq_self, va_some, Bool.false_eq_true, reduceIte, catS_n, catS_i, catS_r, catS_l, catS_d, Nat.zero_add, Nat.add_zero, decide_true, decide_false, Nat.reduceLeDiff, cat_r, cat_i, cat_l, nle_T, nle_F, nlt_T, nlt_F, neq_T, neq_F, x0, c40 hX ht, q1, q2, a1, a2, tS_2, tS_p, e3]
      done
    · refine .inr ⟨s, g', I', e1, by omega, e3, e4, e5, e6, e7, fun Q => ?_⟩
      rw [he]
      simp (disch := first | assumption | omega) only [Nat.reduceAdd, X_go, go2_some, stp, ldI, ldA, ldL, stI, stA, stL, o1I, o2I, o2L, brI, brII, gl, s1, s2, k1, sl, go_sN, go_sR, go_CT, go_sT, go_no, go_if, pops, bk_v, bk_0, d39_0, d39_1, d39_4, d39_5, d39_6, d39_8, d39_11, d39_12, d39_13, d39_16, d39_17, d39_18, d39_21, d39_22, d39_23, d39_26, d39_29, d39_30, d39_32, d39_35, d39_36, d39_37, d39_40, d39_41, d39_42, d39_45, d39_46, d39_47, d39_50, d39_53, d39_54, d39_55, d39_58, d39_61, n_lt, n_le, n_eq, n_lt0, n_ge0, n_gt0, n_le0, n_eq0, m_lt, m_le, m_gt, m_ge, m_eq, m_eq', m_lt0, m_ge0, m_gt0, m_le0, m_ltm, m_lem, n_in, m_in, n_cl, n_ti, n_div, n_rem', n_dec, n_l, nI_add, pk_mul, an0, an1, decide_eq_true_eq, if_true, if_false, ite_true, ite_false, and_true, true_and, and_false, false_and, not_true, not_false_iff, or_false, false_or, or_true, true_or, eq_self, va_some, Bool.false_eq_true, reduceIte, catS_n, catS_i, catS_r, catS_l, catS_d, Nat.zero_add, Nat.add_zero, decide_true, decide_false, Nat.reduceLeDiff, cat_r, cat_i, cat_l, nle_T, nle_F, nlt_T, nlt_F, neq_T, neq_F, x0, c40 hX ht, q1, q2, a1, a2, tS_2, tS_p, e8]
      done
  rw [if_neg a2]
  refine .inl ⟨p, p, rfl, by omega, fun Q => ?_⟩
  rw [he]
  simp (disch := first | assumption | omega) only [Nat.reduceAdd, X_go, go2_some, stp, ldI, ldA, ldL, stI, stA, stL, o1I, o2I, o2L, brI, brII, gl, s1, s2, k1, sl, go_sN, go_sR, go_CT, go_sT, go_no, go_if, pops, bk_v, bk_0, d39_0, d39_1, d39_4, d39_5, d39_6, d39_8, d39_11, d39_12, d39_13, d39_16, d39_17, d39_18, d39_21, d39_22, d39_23, d39_26, d39_29, d39_30, d39_32, d39_35, d39_36, d39_37, d39_40, d39_41, d39_42, d39_45, d39_46, d39_47, d39_50, d39_53, d39_54, d39_55, d39_58, d39_61, n_lt, n_le, n_eq, n_lt0, n_ge0, n_gt0, n_le0, n_eq0, m_lt, m_le, m_gt, m_ge, m_eq, m_eq', m_lt0, m_ge0, m_gt0, m_le0, m_ltm, m_lem, n_in, m_in, n_cl, n_ti, n_div, n_rem', n_dec, n_l, nI_add, pk_mul, an0, an1, decide_eq_true_eq, if_true, if_false, ite_true, ite_false, and_true, true_and, and_false, false_and, not_true, not_false_iff, or_false, false_or, or_true, true_or, eq_self, va_some, Bool.false_eq_true, reduceIte, catS_n, catS_i, catS_r, catS_l, catS_d, Nat.zero_add, Nat.add_zero, decide_true, decide_false, Nat.reduceLeDiff, cat_r, cat_i, cat_l, nle_T, nle_F, nlt_T, nlt_F, neq_T, neq_F, x0, c40 hX ht, q1, q2, a1, a2, tS_2, tS_f]
  done
/-- the text, part by part -/
def rAll (tx : Nat → Nat) (len : Nat) : Nat → Nat → GS → Nat ⊕ GS
  | 0, _, g => .inr g
  | m + 1, p, g => if p < len then (match rPart tx len p g with
    | .inl f => .inl f
    | .inr (s, g') => rAll tx len m s g') else .inr g
theorem TX_fr {I I' : MI} {len : Nat} {tx : Nat → Nat} (ht : TX I len tx) (h : ∀ k j, k < 114 ∨ 122 < k → I' k j = I k j) : TX I' len tx := ⟨⟨by rw [h _ _ (by omega)]; exact ht.1.1, fun i hi => by rw [h _ _ (by omega)]; exact ht.1.2 i hi⟩, ht.2⟩
theorem d37_0 : dec 37 0 = some (.aload_n 1, 1, []) := rfl
theorem d37_1 : dec 37 1 = some (.invokevirtual 19, 3, [2, 38, 2, 7, 0, 414]) := rfl
theorem d37_4 : dec 37 4 = some (.aload_n 0, 1, []) := rfl
theorem d37_5 : dec 37 5 = some (.iconst 0, 1, [0]) := rfl
theorem d37_6 : dec 37 6 = some (.putfield 24, 3, [1, 8, 2, 0, 0, 186]) := rfl
theorem d37_9 : dec 37 9 = some (.aload_n 0, 1, []) := rfl
theorem d37_10 : dec 37 10 = some (.iconst (-1), 1, [4294967295]) := rfl
theorem d37_11 : dec 37 11 = some (.putfield 27, 3, [1, 8, 3, 0, 0, 187]) := rfl
theorem d37_14 : dec 37 14 = some (.iconst 0, 1, [0]) := rfl
theorem d37_15 : dec 37 15 = some (.istore_n 2, 1, []) := rfl
theorem d37_16 : dec 37 16 = some (.iload_n 2, 1, []) := rfl
theorem d37_17 : dec 37 17 = some (.sipush 160, 3, [160]) := rfl
theorem d37_20 : dec 37 20 = some (.if_icmp .ge 33, 3, [53]) := rfl
theorem d37_23 : dec 37 23 = some (.aload_n 0, 1, []) := rfl
theorem d37_24 : dec 37 24 = some (.getfield 24, 3, [1, 8, 2, 0, 0, 186]) := rfl
theorem d37_27 : dec 37 27 = some (.aload_n 0, 1, []) := rfl
theorem d37_28 : dec 37 28 = some (.getfield 15, 3, [1, 8, 1, 0, 0, 184]) := rfl
theorem d37_31 : dec 37 31 = some (.if_icmp .ge 22, 3, [53]) := rfl
theorem d37_34 : dec 37 34 = some (.aload_n 0, 1, []) := rfl
theorem d37_35 : dec 37 35 = some (.getfield 27, 3, [1, 8, 3, 0, 0, 187]) := rfl
theorem d37_38 : dec 37 38 = some (.iconst (-1), 1, [4294967295]) := rfl
theorem d37_39 : dec 37 39 = some (.if_icmp .ne 14, 3, [53]) := rfl
theorem d37_42 : dec 37 42 = some (.aload_n 0, 1, []) := rfl
theorem d37_43 : dec 37 43 = some (.aload_n 1, 1, []) := rfl
theorem d37_44 : dec 37 44 = some (.invokevirtual 30, 3, [2, 39, 2, 8, 0, 418, 2]) := rfl
theorem d37_47 : dec 37 47 = some (.iinc 2 1, 3, [1]) := rfl
theorem d37_50 : dec 37 50 = some (.goto (-34), 3, [16]) := rfl
theorem d37_53 : dec 37 53 = some (.aload_n 0, 1, []) := rfl
theorem d37_54 : dec 37 54 = some (.getfield 27, 3, [1, 8, 3, 0, 0, 187]) := rfl
theorem d37_57 : dec 37 57 = some (.ireturn, 1, [0]) := rfl
theorem l37 : mL 37 = 3 := rfl
theorem f37 {d : Nat} {P : MP} {L : ML} {C : MC} {len : Nat} {tx : Nat → Nat} (hX : XB P) (hd : 8 ≤ d) : ∀ m i p (g : GS) (I : MI), i + m = 160 → p ≤ len → TX I len tx → TR I 114 g → TV g → (∃ f p' I', rAll tx len m p g = .inl f ∧ f < 1000 ∧ (∀ k j, k < 114 ∨ 122 < k → I' k j = I k j) ∧ ∀ Q, X d 37 16 [.ref 112, .ref 114, .int (nI i)] [] P (tS I p (nI 4294967295)) L C Q = Q (.inl (some (.int (nI f)))) P (tS I' p' (nI f)) L C) ∨ (∃ p' g' I', rAll tx len m p g = .inr g' ∧ TR I' 114 g' ∧ TV g' ∧ (∀ k, 114 ≤ k → g' k = g k) ∧ (∀ k j, k < 114 ∨ 122 < k → I' k j = I k j) ∧ ∀ Q, X d 37 16 [.ref 112, .ref 114, .int (nI i)] [] P (tS I p (nI 4294967295)) L C Q = Q (.inl (some (.int (nI 4294967295)))) P (tS I' p' (nI 4294967295)) L C) := by
  have x0 := hX.2.2.2.2.2.1.1
  intro m
  induction m with
  | zero =>
    intro i p g I hi hp ht hg hv
    have : i = 160 := by omega
    subst this
    refine .inr ⟨p, g, I, rfl, hg, hv, fun _ _ => rfl, fun _ _ _ => rfl, fun Q => ?_⟩
    rw [X_go, d37_16]
    simp (disch := first | assumption | omega) only [Nat.reduceAdd, X_go, go2_some, stp, ldI, ldA, ldL, stI, stA, stL, o1I, o2I, o2L, brI, brII, gl, s1, s2, k1, sl, go_sN, go_sR, go_CT, go_sT, go_no, go_if, pops, bk_v, bk_0, d37_0, d37_1, d37_4, d37_5, d37_6, d37_9, d37_10, d37_11, d37_14, d37_15, d37_17, d37_20, d37_23, d37_24, d37_27, d37_28, d37_31, d37_34, d37_35, d37_38, d37_39, d37_42, d37_43, d37_44, d37_47, d37_50, d37_53, d37_54, d37_57, n_lt, n_le, n_eq, n_lt0, n_ge0, n_gt0, n_le0, n_eq0, m_lt, m_le, m_gt, m_ge, m_eq, m_eq', m_lt0, m_ge0, m_gt0, m_le0, m_ltm, m_lem, n_in, m_in, n_cl, n_ti, n_div, n_rem', n_dec, n_l, nI_add, pk_mul, an0, an1, decide_eq_true_eq, if_true, if_false, ite_true, ite_false, and_true, true_and, and_false, false_and, not_true, not_false_iff, or_false, false_or, or_true, true_or, eq_self, va_some, Bool.false_eq_true, reduceIte, catS_n, catS_i, catS_r, catS_l, catS_d, Nat.zero_add, Nat.add_zero, decide_true, decide_false, Nat.reduceLeDiff, cat_r, cat_i, cat_l, nle_T, nle_F, nlt_T, nlt_F, neq_T, neq_F, x0, tS_3]
  | succ m ih =>
    intro i p g I hi hp ht hg hv
    have hlen := ht.2.1
    have t1 : ∀ p f, tS I p f 112 1 = nI len := fun p f => by rw [tS_n (by omega)]; exact ht.1.1
    by_cases hpl : p < len
    · have e0 : rAll tx len (m + 1) p g = match rPart tx len p g with
        | .inl f => .inl f
        | .inr (s, g') => rAll tx len m s g' := if_pos hpl
      rw [e0]
      rcases c39 (d := d) (L := L) (C := C) hX ht hg hv hd hpl with ⟨f, p', e1, e2, e3⟩ | ⟨s, g', I', e1, e2, e3, e4, e5, e6, e7, e8⟩
      · rw [e1]
        refine .inl ⟨f, p', I, rfl, e2, fun _ _ _ => rfl, fun Q => ?_⟩
        rw [X_go, d37_16]
        simp (disch := first | assumption | omega) only [Nat.reduceAdd, X_go, go2_some, stp, ldI, ldA, ldL, stI, stA, stL, o1I, o2I, o2L, brI, brII, gl, s1, s2, k1, sl, go_sN, go_sR, go_CT, go_sT, go_no, go_if, pops, bk_v, bk_0, d37_0, d37_1, d37_4, d37_5, d37_6, d37_9, d37_10, d37_11, d37_14, d37_15, d37_17, d37_20, d37_23, d37_24, d37_27, d37_28, d37_31, d37_34, d37_35, d37_38, d37_39, d37_42, d37_43, d37_44, d37_47, d37_50, d37_53, d37_54, d37_57, n_lt, n_le, n_eq, n_lt0, n_ge0, n_gt0, n_le0, n_eq0, m_lt, m_le, m_gt, m_ge, m_eq, m_eq', m_lt0, m_ge0, m_gt0, m_le0, m_ltm, m_lem, n_in, m_in, n_cl, n_ti, n_div, n_rem', n_dec, n_l, nI_add, pk_mul, an0, an1, decide_eq_true_eq, if_true, if_false, ite_true, ite_false, and_true, true_and, and_false, false_and, not_true, not_false_iff, or_false, false_or, or_true, true_or, eq_self, va_some, Bool.false_eq_true, reduceIte, catS_n, catS_i, catS_r, catS_l, catS_d, Nat.zero_add, Nat.add_zero, decide_true, decide_false, Nat.reduceLeDiff, cat_r, cat_i, cat_l, nle_T, nle_F, nlt_T, nlt_F, neq_T, neq_F, x0, tS_2, tS_3, t1, hpl, e3]
        rw [d37_16]
        simp (disch := first | assumption | omega) only [Nat.reduceAdd, X_go, go2_some, stp, ldI, ldA, ldL, stI, stA, stL, o1I, o2I, o2L, brI, brII, gl, s1, s2, k1, sl, go_sN, go_sR, go_CT, go_sT, go_no, go_if, pops, bk_v, bk_0, d37_0, d37_1, d37_4, d37_5, d37_6, d37_9, d37_10, d37_11, d37_14, d37_15, d37_17, d37_20, d37_23, d37_24, d37_27, d37_28, d37_31, d37_34, d37_35, d37_38, d37_39, d37_42, d37_43, d37_44, d37_47, d37_50, d37_53, d37_54, d37_57, n_lt, n_le, n_eq, n_lt0, n_ge0, n_gt0, n_le0, n_eq0, m_lt, m_le, m_gt, m_ge, m_eq, m_eq', m_lt0, m_ge0, m_gt0, m_le0, m_ltm, m_lem, n_in, m_in, n_cl, n_ti, n_div, n_rem', n_dec, n_l, nI_add, pk_mul, an0, an1, decide_eq_true_eq, if_true, if_false, ite_true, ite_false, and_true, true_and, and_false, false_and, not_true, not_false_iff, or_false, false_or, or_true, true_or, eq_self, va_some, Bool.false_eq_true, reduceIte, catS_n, catS_i, catS_r, catS_l, catS_d, Nat.zero_add, Nat.add_zero, decide_true, decide_false, Nat.reduceLeDiff, cat_r, cat_i, cat_l, nle_T, nle_F, nlt_T, nlt_F, neq_T, neq_F, x0, tS_2, tS_3]
        split
        · rfl
        · split <;> rfl
      · rw [e1]
        have ht' := TX_fr ht e7
        rcases ih (i + 1) s g' I' (by omega) e3 ht' e4 e5 with ⟨f, p', I2, a1, a2, a3, a4⟩ | ⟨p', g2, I2, a1, a2, a3, a4, a5, a6⟩
        · refine .inl ⟨f, p', I2, a1, a2, fun k j h => by rw [a3 k j h, e7 k j h], fun Q => ?_⟩
          have a4 := a4 Q
          rw [← a4, X_go, d37_16]
          simp (disch := first | assumption | omega) only [Nat.reduceAdd, X_go, go2_some, stp, ldI, ldA, ldL, stI, stA, stL, o1I, o2I, o2L, brI, brII, gl, s1, s2, k1, sl, go_sN, go_sR, go_CT, go_sT, go_no, go_if, pops, bk_v, bk_0, d37_0, d37_1, d37_4, d37_5, d37_6, d37_9, d37_10, d37_11, d37_14, d37_15, d37_17, d37_20, d37_23, d37_24, d37_27, d37_28, d37_31, d37_34, d37_35, d37_38, d37_39, d37_42, d37_43, d37_44, d37_47, d37_50, d37_53, d37_54, d37_57, n_lt, n_le, n_eq, n_lt0, n_ge0, n_gt0, n_le0, n_eq0, m_lt, m_le, m_gt, m_ge, m_eq, m_eq', m_lt0, m_ge0, m_gt0, m_le0, m_ltm, m_lem, n_in, m_in, n_cl, n_ti, n_div, n_rem', n_dec, n_l, nI_add, pk_mul, an0, an1, decide_eq_true_eq, if_true, if_false, ite_true, ite_false, and_true, true_and, and_false, false_and, not_true, not_false_iff, or_false, false_or, or_true, true_or, eq_self, va_some, Bool.false_eq_true, reduceIte, catS_n, catS_i, catS_r, catS_l, catS_d, Nat.zero_add, Nat.add_zero, decide_true, decide_false, Nat.reduceLeDiff, cat_r, cat_i, cat_l, nle_T, nle_F, nlt_T, nlt_F, neq_T, neq_F, x0, tS_2, tS_3, t1, hpl, e8]
          done
        · refine .inr ⟨p', g2, I2, a1, a2, a3, fun k hk => by rw [a4 k hk, e6 k hk], fun k j h => by rw [a5 k j h, e7 k j h], fun Q => ?_⟩
          have a6 := a6 Q
          rw [← a6, X_go, d37_16]
          simp (disch := first | assumption | omega) only [Nat.reduceAdd, X_go, go2_some, stp, ldI, ldA, ldL, stI, stA, stL, o1I, o2I, o2L, brI, brII, gl, s1, s2, k1, sl, go_sN, go_sR, go_CT, go_sT, go_no, go_if, pops, bk_v, bk_0, d37_0, d37_1, d37_4, d37_5, d37_6, d37_9, d37_10, d37_11, d37_14, d37_15, d37_17, d37_20, d37_23, d37_24, d37_27, d37_28, d37_31, d37_34, d37_35, d37_38, d37_39, d37_42, d37_43, d37_44, d37_47, d37_50, d37_53, d37_54, d37_57, n_lt, n_le, n_eq, n_lt0, n_ge0, n_gt0, n_le0, n_eq0, m_lt, m_le, m_gt, m_ge, m_eq, m_eq', m_lt0, m_ge0, m_gt0, m_le0, m_ltm, m_lem, n_in, m_in, n_cl, n_ti, n_div, n_rem', n_dec, n_l, nI_add, pk_mul, an0, an1, decide_eq_true_eq, if_true, if_false, ite_true, ite_false, and_true, true_and, and_false, false_and, not_true, not_false_iff, or_false, false_or, or_true, true_or, eq_self, va_some, Bool.false_eq_true, reduceIte, catS_n, catS_i, catS_r, catS_l, catS_d, Nat.zero_add, Nat.add_zero, decide_true, decide_false, Nat.reduceLeDiff, cat_r, cat_i, cat_l, nle_T, nle_F, nlt_T, nlt_F, neq_T, neq_F, x0, tS_2, tS_3, t1, hpl, e8]
          done
    · have e0 : rAll tx len (m + 1) p g = .inr g := if_neg hpl
      rw [e0]
      refine .inr ⟨p, g, I, rfl, hg, hv, fun _ _ => rfl, fun _ _ _ => rfl, fun Q => ?_⟩
      rw [X_go, d37_16]
      simp (disch := first | assumption | omega) only [Nat.reduceAdd, X_go, go2_some, stp, ldI, ldA, ldL, stI, stA, stL, o1I, o2I, o2L, brI, brII, gl, s1, s2, k1, sl, go_sN, go_sR, go_CT, go_sT, go_no, go_if, pops, bk_v, bk_0, d37_0, d37_1, d37_4, d37_5, d37_6, d37_9, d37_10, d37_11, d37_14, d37_15, d37_17, d37_20, d37_23, d37_24, d37_27, d37_28, d37_31, d37_34, d37_35, d37_38, d37_39, d37_42, d37_43, d37_44, d37_47, d37_50, d37_53, d37_54, d37_57, n_lt, n_le, n_eq, n_lt0, n_ge0, n_gt0, n_le0, n_eq0, m_lt, m_le, m_gt, m_ge, m_eq, m_eq', m_lt0, m_ge0, m_gt0, m_le0, m_ltm, m_lem, n_in, m_in, n_cl, n_ti, n_div, n_rem', n_dec, n_l, nI_add, pk_mul, an0, an1, decide_eq_true_eq, if_true, if_false, ite_true, ite_false, and_true, true_and, and_false, false_and, not_true, not_false_iff, or_false, false_or, or_true, true_or, eq_self, va_some, Bool.false_eq_true, reduceIte, catS_n, catS_i, catS_r, catS_l, catS_d, Nat.zero_add, Nat.add_zero, decide_true, decide_false, Nat.reduceLeDiff, cat_r, cat_i, cat_l, nle_T, nle_F, nlt_T, nlt_F, neq_T, neq_F, x0, tS_2, tS_3, t1, hpl]
      done
/-- no draws told, no entries -/
def empG (g : GS) : GS := fun k => if k < 3 then 1 else if k < 6 then 0 else g k
theorem empG_o {g : GS} {k : Nat} (h : 6 ≤ k) : empG g k = g k := by
  unfold empG
  rw [if_neg (by omega), if_neg (by omega)]
theorem TV_emp {g : GS} : TV (empG g) := by
  have h3 : ∀ t, t < 3 → empG g (3 + t) = 0 := fun t ht => by unfold empG; rw [if_neg (by omega), if_pos (by omega)]
  refine ⟨fun t ht => ?_, fun t ht => by rw [h3 t ht]; omega, fun t e ht he => by rw [h3 t ht] at he; omega⟩
  unfold empG
  rw [if_pos ht]
  omega
theorem TR_emp {I : MI} {T : Nat} {g : GS} : TR (xr (xr I (T + 1) (fun j => if j < 3 then nI 1 else I (T + 1) j)) (T + 2) (fun j => if j < 3 then nI 0 else I (T + 2) j)) T (empG g) := by
  have h3 : ∀ t, t < 3 → empG g (3 + t) = 0 := fun t ht => by unfold empG; rw [if_neg (by omega), if_pos (by omega)]
  refine ⟨fun t ht => ?_, fun t ht => ?_, fun t e ht he => by rw [h3 t ht] at he; omega⟩
  · rw [xr_n _ _ (by omega), xr_s, if_pos ht]
    unfold empG
    rw [if_pos ht]
  · rw [xr_s, if_pos ht, h3 t ht]
theorem d36_0 : dec 36 0 = some (.aload_n 0, 1, []) := rfl
theorem d36_1 : dec 36 1 = some (.getfield 29, 3, [1, 9, 3, 2, 0, 274]) := rfl
theorem d36_4 : dec 36 4 = some (.aload_n 0, 1, []) := rfl
theorem d36_5 : dec 36 5 = some (.getfield 36, 3, [1, 9, 4, 2, 0, 275]) := rfl
theorem d36_8 : dec 36 8 = some (.invokevirtual 248, 3, [2, 37, 2, 8, 0, 410, 2]) := rfl
theorem d36_11 : dec 36 11 = some (.istore_n 1, 1, []) := rfl
theorem d36_12 : dec 36 12 = some (.iload_n 1, 1, []) := rfl
theorem d36_13 : dec 36 13 = some (.iconst (-1), 1, [4294967295]) := rfl
theorem d36_14 : dec 36 14 = some (.if_icmp .eq 8, 3, [22]) := rfl
theorem d36_17 : dec 36 17 = some (.bipush (-10), 2, [4294967286]) := rfl
theorem d36_19 : dec 36 19 = some (.iload_n 1, 1, []) := rfl
theorem d36_20 : dec 36 20 = some (.isub, 1, []) := rfl
theorem d36_21 : dec 36 21 = some (.ireturn, 1, [0]) := rfl
theorem d36_22 : dec 36 22 = some (.aload_n 0, 1, []) := rfl
theorem d36_23 : dec 36 23 = some (.invokevirtual 72, 3, [2, 11, 2, 9, 0, 303]) := rfl
theorem d36_26 : dec 36 26 = some (.aload_n 0, 1, []) := rfl
theorem d36_27 : dec 36 27 = some (.getfield 12, 3, [1, 9, 0, 2, 0, 271]) := rfl
theorem d36_30 : dec 36 30 = some (.getfield 75, 3, [1, 6, 0, 2, 1, 140]) := rfl
theorem d36_33 : dec 36 33 = some (.aload_n 0, 1, []) := rfl
theorem d36_34 : dec 36 34 = some (.getfield 36, 3, [1, 9, 4, 2, 0, 275]) := rfl
theorem d36_37 : dec 36 37 = some (.invokevirtual 252, 3, [2, 16, 2, 7, 0, 482, 2]) := rfl
theorem d36_40 : dec 36 40 = some (.aload_n 0, 1, []) := rfl
theorem d36_41 : dec 36 41 = some (.getfield 12, 3, [1, 9, 0, 2, 0, 271]) := rfl
theorem d36_44 : dec 36 44 = some (.getfield 75, 3, [1, 6, 0, 2, 1, 140]) := rfl
theorem d36_47 : dec 36 47 = some (.invokevirtual 255, 3, [2, 56, 2, 7, 0, 483]) := rfl
theorem d36_50 : dec 36 50 = some (.ireturn, 1, [0]) := rfl
theorem l36 : mL 36 = 2 := rfl
theorem c36 {d : Nat} {P : MP} {I : MI} {L : ML} {C : MC} {B n len : Nat} {g : GS} {ps : Nat → GS} {tx : Nat → Nat} (hX : XB P) (hR : XR I L g n ps len tx) (hA : AV B g n ps len tx) (hd : 12 ≤ d) : (∃ f I', rAll tx len 160 0 (empG g) = .inl f ∧ f < 1000 ∧ XR I' L g n ps len tx ∧ fo I I' ∧ ∀ Q, CT d 36 [.ref 1] P I L C Q = Q (.inl (some (.int (nI 4294967286 - nI f)))) P I' L C) ∨ (∃ g' I', rAll tx len 160 0 (empG g) = .inr g' ∧ TV g' ∧ (∀ k, 114 ≤ k → g' k = g k) ∧ XR I' L g' (puN n) (puS n ps g) len tx ∧ fo I I' ∧ ∀ Q, CT d 36 [.ref 1] P I L C Q = Q (.inl (some (.int (nI (g' 3 + g' 4 + g' 5))))) P I' L C) := by
  have hX' := hX
  obtain ⟨k0, ⟨p0, p1, p2, p3, p4, p5, p6, p7, p8⟩, hS, hS2, hV, ⟨x0, x1, x2⟩, hT2, hO, hD, hH, hH2⟩ := hX'
  have hS' := hS
  obtain ⟨l0, r0, r1, r2, hT, hK, hF⟩ := hS'
  have hT' := hT
  have hK' := hK
  have hF' := hF
  have hR' := hR
  have hA' := hA
  obtain ⟨⟨m0, q0, q1, q2, q3, q4, q5, q6, q7⟩, z1, z2, z3, z4, z5, z6, z7, z8⟩ := hT'
  obtain ⟨w0, w1, w2, w3, w4⟩ := hK'
  obtain ⟨f0, f1, f2, f3, f4, f5, f6, f7, f8⟩ := hF'
  obtain ⟨hg, hVR, hXT, hCC⟩ := hR'
  obtain ⟨hGV, hps, hn4, hlen, htx⟩ := hA'
  have h140 := GV_140 hGV
  have hv := hGV.1
  have hl := hGV.2.1
  have hFv := hGV.2.2
  have hT20 := hT2.1.1
  obtain ⟨I0, hI0⟩ : ∃ I0, I0 = xr (xr I 115 (fun j => if j < 3 then nI 1 else I 115 j)) 116 (fun j => if j < 3 then nI 0 else I 116 j) := ⟨_, rfl⟩
  have hI0n : ∀ k j, k ≠ 115 → k ≠ 116 → I0 k j = I k j := fun k j h h' => by rw [hI0, xr_n _ _ (by omega), xr_n _ _ (by omega)]
  have hTX0 : TX I0 len tx := ⟨⟨by rw [hI0n _ _ (by omega) (by omega)]; exact hXT.1, fun i hi => by rw [hI0n _ _ (by omega) (by omega)]; exact hXT.2 i hi⟩, hlen, htx⟩
  have hTR0 : TR I0 114 (empG g) := by rw [hI0]; exact TR_emp
  have hst : xu (xu I0 112 2 (nI 0)) 112 3 (nI 4294967295) = tS I0 0 (nI 4294967295) := rfl
  have hxr : ∀ (I' : MI) p' f, (∀ k j, k < 114 ∨ 122 < k → I' k j = I0 k j) → XR (tS I' p' f) L g n ps len tx := by
    intro I' p' f h
    have hn : ∀ k j, k < 112 ∨ 122 < k ∨ k = 113 → tS I' p' f k j = I k j := fun k j q => by rw [tS_n (by omega), h _ _ (by omega), hI0n _ _ (by omega) (by omega)]
    refine ⟨RC_fr hg fun k j _ _ => hn k j (by omega), VR_fr hVR fun k j _ _ => hn k j (by omega), ⟨by rw [tS_n (by omega), h _ _ (by omega), hI0n _ _ (by omega) (by omega)]; exact hXT.1, fun i hi => by rw [hn _ _ (by omega)]; exact hXT.2 i hi⟩, CC_fr hCC (hn _ _ (by omega)) fun _ _ _ _ => rfl⟩
  rcases f37 (d := d - 2) (L := L) (C := C) hX (by omega) 160 0 0 (empG g) I0 (by omega) (by omega) hTX0 hTR0 TV_emp with ⟨f, p', I', a1, a2, a3, a4⟩ | ⟨p', g', I', a1, a2, a3, a4, a5, a6⟩
  · refine .inl ⟨f, tS I' p' (nI f), a1, a2, hxr I' p' _ a3, fun k j h => by rw [tS_n (by omega), a3 _ _ (by omega), hI0n _ _ (by omega) (by omega)], fun Q => ?_⟩
    have h37 : ∀ Q, CT (d - 1) 37 [.ref 112, .ref 114] P I L C Q = Q (.inl (some (.int (nI f)))) P (tS I' p' (nI f)) L C := fun Q => by
      rw [CT_e (mj := 37) (e := [.ref 112, .ref 114, UN]) (by omega) rfl (Nat.le_of_ble_eq_true rfl)]
      have a4 := a4 Q
      simp (disch := first | assumption | omega) only [Nat.reduceAdd, X_go, go2_some, stp, ldI, ldA, ldL, stI, stA, stL, o1I, o2I, o2L, brI, brII, gl, s1, s2, k1, sl, go_sN, go_sR, go_CT, go_sT, go_no, go_if, pops, bk_v, bk_0, d37_0, d37_1, d37_4, d37_5, d37_6, d37_9, d37_10, d37_11, d37_14, d37_15, d37_17, d37_20, d37_23, d37_24, d37_27, d37_28, d37_31, d37_34, d37_35, d37_38, d37_39, d37_42, d37_43, d37_44, d37_47, d37_50, d37_53, d37_54, d37_57, n_lt, n_le, n_eq, n_lt0, n_ge0, n_gt0, n_le0, n_eq0, m_lt, m_le, m_gt, m_ge, m_eq, m_eq', m_lt0, m_ge0, m_gt0, m_le0, m_ltm, m_lem, n_in, m_in, n_cl, n_ti, n_div, n_rem', n_dec, n_l, nI_add, pk_mul, an0, an1, decide_eq_true_eq, if_true, if_false, ite_true, ite_false, and_true, true_and, and_false, false_and, not_true, not_false_iff, or_false, false_or, or_true, true_or, eq_self, va_some, Bool.false_eq_true, reduceIte, catS_n, catS_i, catS_r, catS_l, catS_d, Nat.zero_add, Nat.add_zero, decide_true, decide_false, Nat.reduceLeDiff, cat_r, cat_i, cat_l, nle_T, nle_F, nlt_T, nlt_F, neq_T, neq_F, x0, hT20, c38 hT2]
      rw [← hI0, hst]
      simp only [← X_go]
      exact a4
    rw [CT_e (mj := 36) (e := [.ref 1, UN]) (by omega) rfl (Nat.le_of_ble_eq_true rfl)]
    simp (disch := first | assumption | omega) only [Nat.reduceAdd, X_go, go2_some, stp, ldI, ldA, ldL, stI, stA, stL, o1I, o2I, o2L, brI, brII, gl, s1, s2, k1, sl, go_sN, go_sR, go_CT, go_sT, go_no, go_if, pops, bk_v, bk_0, d36_0, d36_1, d36_4, d36_5, d36_8, d36_11, d36_12, d36_13, d36_14, d36_17, d36_19, d36_20, d36_21, d36_22, d36_23, d36_26, d36_27, d36_30, d36_33, d36_34, d36_37, d36_40, d36_41, d36_44, d36_47, d36_50, n_lt, n_le, n_eq, n_lt0, n_ge0, n_gt0, n_le0, n_eq0, m_lt, m_le, m_gt, m_ge, m_eq, m_eq', m_lt0, m_ge0, m_gt0, m_le0, m_ltm, m_lem, n_in, m_in, n_cl, n_ti, n_div, n_rem', n_dec, n_l, nI_add, pk_mul, an0, an1, decide_eq_true_eq, if_true, if_false, ite_true, ite_false, and_true, true_and, and_false, false_and, not_true, not_false_iff, or_false, false_or, or_true, true_or, eq_self, va_some, Bool.false_eq_true, reduceIte, catS_n, catS_i, catS_r, catS_l, catS_d, Nat.zero_add, Nat.add_zero, decide_true, decide_false, Nat.reduceLeDiff, cat_r, cat_i, cat_l, nle_T, nle_F, nlt_T, nlt_F, neq_T, neq_F, k0, p0, p1, p2, p3, p4, p5, p6, p7, p8, x0, x1, x2, l0, r0, r1, r2, m0, q0, q1, q2, q3, q4, q5, q6, q7, w0, w1, w2, f0, f1, f2, f3, f4, h37]
    done
  · have hR1 := hxr I' p' (nI 4294967295) a5
    obtain ⟨J, j1, j2, j3, j4, j5⟩ := c11 (d := d - 1) (C := C) hX hR1 hv (by omega)
    have hJT : TR J 114 g' := TR_fr a2 fun k j h h' => by rw [j4 _ _ (by omega) (by omega), tS_n (by omega)]
    have hge : ∀ k, 114 ≤ k → g' k = g k := fun k hk => by rw [a4 k hk, empG_o (by omega)]
    refine .inr ⟨g', copT J 3 114, a1, a3, hge, ⟨RC_tr j1 (TR_cop hJT a3 (by omega)) (fun k j h h' => copT_n (by omega)) hge h140, VR_fr j2 fun k j h h' => copT_n (by omega), XT_fr hR1.2.2.1 fun k j h => by rw [copT_n (by omega), j4 _ _ (by omega) (by omega)], CC_no (by rw [copT_n (by omega)]; exact j3)⟩, fun k j h => by rw [copT_n (by omega), j4 _ _ (by omega) (by omega), tS_n (by omega), a5 _ _ (by omega), hI0n _ _ (by omega) (by omega)], fun Q => ?_⟩
    have h37 : ∀ Q, CT (d - 1) 37 [.ref 112, .ref 114] P I L C Q = Q (.inl (some (.int (nI 4294967295)))) P (tS I' p' (nI 4294967295)) L C := fun Q => by
      rw [CT_e (mj := 37) (e := [.ref 112, .ref 114, UN]) (by omega) rfl (Nat.le_of_ble_eq_true rfl)]
      have a6 := a6 Q
      simp (disch := first | assumption | omega) only [Nat.reduceAdd, X_go, go2_some, stp, ldI, ldA, ldL, stI, stA, stL, o1I, o2I, o2L, brI, brII, gl, s1, s2, k1, sl, go_sN, go_sR, go_CT, go_sT, go_no, go_if, pops, bk_v, bk_0, d37_0, d37_1, d37_4, d37_5, d37_6, d37_9, d37_10, d37_11, d37_14, d37_15, d37_17, d37_20, d37_23, d37_24, d37_27, d37_28, d37_31, d37_34, d37_35, d37_38, d37_39, d37_42, d37_43, d37_44, d37_47, d37_50, d37_53, d37_54, d37_57, n_lt, n_le, n_eq, n_lt0, n_ge0, n_gt0, n_le0, n_eq0, m_lt, m_le, m_gt, m_ge, m_eq, m_eq', m_lt0, m_ge0, m_gt0, m_le0, m_ltm, m_lem, n_in, m_in, n_cl, n_ti, n_div, n_rem', n_dec, n_l, nI_add, pk_mul, an0, an1, decide_eq_true_eq, if_true, if_false, ite_true, ite_false, and_true, true_and, and_false, false_and, not_true, not_false_iff, or_false, false_or, or_true, true_or, eq_self, va_some, Bool.false_eq_true, reduceIte, catS_n, catS_i, catS_r, catS_l, catS_d, Nat.zero_add, Nat.add_zero, decide_true, decide_false, Nat.reduceLeDiff, cat_r, cat_i, cat_l, nle_T, nle_F, nlt_T, nlt_F, neq_T, neq_F, x0, hT20, c38 hT2]
      rw [← hI0, hst]
      simp only [← X_go]
      exact a6
    rw [CT_e (mj := 36) (e := [.ref 1, UN]) (by omega) rfl (Nat.le_of_ble_eq_true rfl)]
    simp (disch := first | assumption | omega) only [Nat.reduceAdd, X_go, go2_some, stp, ldI, ldA, ldL, stI, stA, stL, o1I, o2I, o2L, brI, brII, gl, s1, s2, k1, sl, go_sN, go_sR, go_CT, go_sT, go_no, go_if, pops, bk_v, bk_0, d36_0, d36_1, d36_4, d36_5, d36_8, d36_11, d36_12, d36_13, d36_14, d36_17, d36_19, d36_20, d36_21, d36_22, d36_23, d36_26, d36_27, d36_30, d36_33, d36_34, d36_37, d36_40, d36_41, d36_44, d36_47, d36_50, n_lt, n_le, n_eq, n_lt0, n_ge0, n_gt0, n_le0, n_eq0, m_lt, m_le, m_gt, m_ge, m_eq, m_eq', m_lt0, m_ge0, m_gt0, m_le0, m_ltm, m_lem, n_in, m_in, n_cl, n_ti, n_div, n_rem', n_dec, n_l, nI_add, pk_mul, an0, an1, decide_eq_true_eq, if_true, if_false, ite_true, ite_false, and_true, true_and, and_false, false_and, not_true, not_false_iff, or_false, false_or, or_true, true_or, eq_self, va_some, Bool.false_eq_true, reduceIte, catS_n, catS_i, catS_r, catS_l, catS_d, Nat.zero_add, Nat.add_zero, decide_true, decide_false, Nat.reduceLeDiff, cat_r, cat_i, cat_l, nle_T, nle_F, nlt_T, nlt_F, neq_T, neq_F, k0, p0, p1, p2, p3, p4, p5, p6, p7, p8, x0, x1, x2, l0, r0, r1, r2, m0, q0, q1, q2, q3, q4, q5, q6, q7, w0, w1, w2, f0, f1, f2, f3, f4, h37, j5, c16 hT hT2, c56 hT (TR_cop hJT a3 (by omega))]
    done
