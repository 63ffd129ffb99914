/-! CHANCES: reckoned, kept, told -/
theorem d76_0 : dec 76 0 = some (.iconst 0, 1, [0]) := rfl
theorem d76_1 : dec 76 1 = some (.istore_n 3, 1, []) := rfl
theorem d76_2 : dec 76 2 = some (.aload_n 0, 1, []) := rfl
theorem d76_3 : dec 76 3 = some (.arraylength, 1, []) := rfl
theorem d76_4 : dec 76 4 = some (.istore 4, 2, []) := rfl
theorem d76_6 : dec 76 6 = some (.iload_n 3, 1, []) := rfl
theorem d76_7 : dec 76 7 = some (.iload 4, 2, []) := rfl
theorem d76_9 : dec 76 9 = some (.if_icmp .ge 13, 3, [22]) := rfl
theorem d76_12 : dec 76 12 = some (.aload_n 0, 1, []) := rfl
theorem d76_13 : dec 76 13 = some (.iload_n 3, 1, []) := rfl
theorem d76_14 : dec 76 14 = some (.lload_n 1, 1, []) := rfl
theorem d76_15 : dec 76 15 = some (.lastore, 1, []) := rfl
theorem d76_16 : dec 76 16 = some (.iinc 3 1, 3, [1]) := rfl
theorem d76_19 : dec 76 19 = some (.goto (-13), 3, [6]) := rfl
theorem d76_22 : dec 76 22 = some (.return_, 1, []) := rfl
theorem l76 : mL 76 = 5 := rfl
theorem f76 {d : Nat} {P : MP} {I : MI} {C : MC} {Q : QT} {k n : Nat} {v : Int64} (h1 : P.1 k = (21, n)) (hn : n < 1000) : ∀ m i (L : ML), i + m = n → X d 76 6 [.ref k, .long v, UN, .int (nI i), .int (nI n)] [] P I L C Q = Q (.inl none) P I (xr L k (fun j => if i ≤ j ∧ j < n then v else L k j)) C := by
  intro m
  induction m with
  | zero =>
    intro i L hi
    have hi : i = n := by omega
    subst hi
    rw [xr_self L (funext fun j => by rw [if_neg (by omega)]), X_go, d76_6]
    simp (disch := first | assumption | omega) only [Nat.reduceAdd, X_go, go2_some, stp, ldI, ldA, ldL, stI, stA, stL, o1I, o2I, o2L, brI, brII, gl, s1, s2, k1, sl, go_sN, go_sR, go_CT, go_sT, go_no, go_if, pops, bk_v, bk_0, d76_0, d76_1, d76_2, d76_3, d76_4, d76_7, d76_9, d76_12, d76_13, d76_14, d76_15, d76_16, d76_19, d76_22, n_lt, n_le, n_eq, n_lt0, n_ge0, n_gt0, n_le0, n_eq0, m_lt, m_le, m_gt, m_ge, m_eq, m_eq', m_lt0, m_ge0, m_gt0, m_le0, m_ltm, m_lem, n_in, m_in, n_cl, n_ti, n_div, n_rem', n_dec, n_l, nI_add, pk_mul, an0, an1, decide_eq_true_eq, if_true, if_false, ite_true, ite_false, and_true, true_and, and_false, false_and, not_true, not_false_iff, or_false, false_or, or_true, true_or, eq_self, va_some, Bool.false_eq_true, reduceIte, catS_n, catS_i, catS_r, catS_l, catS_d, Nat.zero_add, Nat.add_zero, decide_true, decide_false, Nat.reduceLeDiff, cat_r, cat_i, cat_l, nle_T, nle_F, nlt_T, nlt_F, neq_T, neq_F]
  | succ m ih =>
    intro i L hi
    have ih := ih (i + 1) (xu L k i v) (by omega)
    rw [X_go, d76_6]
    simp (disch := first | assumption | omega) only [Nat.reduceAdd, X_go, go2_some, stp, ldI, ldA, ldL, stI, stA, stL, o1I, o2I, o2L, brI, brII, gl, s1, s2, k1, sl, go_sN, go_sR, go_CT, go_sT, go_no, go_if, pops, bk_v, bk_0, d76_0, d76_1, d76_2, d76_3, d76_4, d76_7, d76_9, d76_12, d76_13, d76_14, d76_15, d76_16, d76_19, d76_22, n_lt, n_le, n_eq, n_lt0, n_ge0, n_gt0, n_le0, n_eq0, m_lt, m_le, m_gt, m_ge, m_eq, m_eq', m_lt0, m_ge0, m_gt0, m_le0, m_ltm, m_lem, n_in, m_in, n_cl, n_ti, n_div, n_rem', n_dec, n_l, nI_add, pk_mul, an0, an1, decide_eq_true_eq, if_true, if_false, ite_true, ite_false, and_true, true_and, and_false, false_and, not_true, not_false_iff, or_false, false_or, or_true, true_or, eq_self, va_some, Bool.false_eq_true, reduceIte, catS_n, catS_i, catS_r, catS_l, catS_d, Nat.zero_add, Nat.add_zero, decide_true, decide_false, Nat.reduceLeDiff, cat_r, cat_i, cat_l, nle_T, nle_F, nlt_T, nlt_F, neq_T, neq_F, h1]
    simp only [← X_go]
    rw [ih, xr_xu]
    congr 1
    refine xr_c L (funext fun j => ?_)
    by_cases z : j = i
    · subst z
      rw [if_neg (by omega), xu_s, if_pos (by omega)]
    · rw [xu_n _ _ (by omega)]
      by_cases y : i + 1 ≤ j ∧ j < n
      · rw [if_pos y, if_pos (by omega)]
      · rw [if_neg y, if_neg (by omega)]
theorem c76 {d : Nat} {P : MP} {I : MI} {L : ML} {C : MC} {Q : QT} {k n : Nat} {v : Int64} (h1 : P.1 k = (21, n)) (hd : 1 ≤ d) (hn : n < 1000) : CT d 76 [.ref k, .long v] P I L C Q = Q (.inl none) P I (xr L k (fun j => if j < n then v else L k j)) C := by
  rw [CT_e (mj := 76) (e := [.ref k, .long v, UN, UN, UN]) (by omega) rfl (Nat.le_of_ble_eq_true rfl)]
  have h := f76 (d := d - 1) (I := I) (C := C) (Q := Q) (v := v) h1 hn n 0 L (by omega)
  simp (disch := first | assumption | omega) only [Nat.reduceAdd, X_go, go2_some, stp, ldI, ldA, ldL, stI, stA, stL, o1I, o2I, o2L, brI, brII, gl, s1, s2, k1, sl, go_sN, go_sR, go_CT, go_sT, go_no, go_if, pops, bk_v, bk_0, d76_0, d76_1, d76_2, d76_3, d76_4, d76_7, d76_9, d76_12, d76_13, d76_14, d76_15, d76_16, d76_19, d76_22, n_lt, n_le, n_eq, n_lt0, n_ge0, n_gt0, n_le0, n_eq0, m_lt, m_le, m_gt, m_ge, m_eq, m_eq', m_lt0, m_ge0, m_gt0, m_le0, m_ltm, m_lem, n_in, m_in, n_cl, n_ti, n_div, n_rem', n_dec, n_l, nI_add, pk_mul, an0, an1, decide_eq_true_eq, if_true, if_false, ite_true, ite_false, and_true, true_and, and_false, false_and, not_true, not_false_iff, or_false, false_or, or_true, true_or, eq_self, va_some, Bool.false_eq_true, reduceIte, catS_n, catS_i, catS_r, catS_l, catS_d, Nat.zero_add, Nat.add_zero, decide_true, decide_false, Nat.reduceLeDiff, cat_r, cat_i, cat_l, nle_T, nle_F, nlt_T, nlt_F, neq_T, neq_F, h1]
  simp only [← X_go]
  rw [h]
  congr 1
  refine xr_c L (funext fun j => ?_)
  by_cases y : j < n
  · rw [if_pos y, if_pos ⟨Nat.zero_le j, y⟩]
  · rw [if_neg y, if_neg (fun q => y q.2)]
theorem d21_0 : dec 21 0 = some (.aload_n 0, 1, []) := rfl
theorem d21_1 : dec 21 1 = some (.iconst (-1), 1, [4294967295]) := rfl
theorem d21_2 : dec 21 2 = some (.putfield 32, 3, [1, 0, 6, 0, 0, 250]) := rfl
theorem d21_5 : dec 21 5 = some (.return_, 1, []) := rfl
theorem l21 : mL 21 = 1 := rfl
theorem c21 {d : Nat} {P : MP} {I : MI} {L : ML} {C : MC} {Q : QT} {H : Nat} (h1 : P.1 H = (1, 0)) (hd : 1 ≤ d) : CT d 21 [.ref H] P I L C Q = Q (.inl none) P (xu I H 6 (nI 4294967295)) L C := by
  rw [CT_e (mj := 21) (e := [.ref H]) (by omega) rfl (Nat.le_of_ble_eq_true rfl)]
  simp (disch := first | assumption | omega) only [Nat.reduceAdd, X_go, go2_some, stp, ldI, ldA, ldL, stI, stA, stL, o1I, o2I, o2L, brI, brII, gl, s1, s2, k1, sl, go_sN, go_sR, go_CT, go_sT, go_no, go_if, pops, bk_v, bk_0, d21_0, d21_1, d21_2, d21_5, n_lt, n_le, n_eq, n_lt0, n_ge0, n_gt0, n_le0, n_eq0, m_lt, m_le, m_gt, m_ge, m_eq, m_eq', m_lt0, m_ge0, m_gt0, m_le0, m_ltm, m_lem, n_in, m_in, n_cl, n_ti, n_div, n_rem', n_dec, n_l, nI_add, pk_mul, an0, an1, decide_eq_true_eq, if_true, if_false, ite_true, ite_false, and_true, true_and, and_false, false_and, not_true, not_false_iff, or_false, false_or, or_true, true_or, eq_self, va_some, Bool.false_eq_true, reduceIte, catS_n, catS_i, catS_r, catS_l, catS_d, Nat.zero_add, Nat.add_zero, decide_true, decide_false, Nat.reduceLeDiff, cat_r, cat_i, cat_l, nle_T, nle_F, nlt_T, nlt_F, neq_T, neq_F, h1]
  done
def CL (L : ML) (H : Nat) (V : CV) : Prop := (∀ i, i < 16 → L (H + 8) i = V i) ∧ (∀ r, r < 4 → L (H + 9) r = V (16 + r)) ∧ L H 5 = V 20
/-- what is kept is of this state -/
def CC (I : MI) (L : ML) (H : Nat) (g : GS) : Prop := ∃ tp, tp ≤ 3 ∧ I H 6 = fI tp ∧ (1 ≤ tp → CL L H (chV g (tp - 1)))
theorem CL_add {L : ML} {H : Nat} {V : CV} (h : CL L H cv0) : CL (addL H V L) H V := by
  obtain ⟨h1, h2, h3⟩ := h
  refine ⟨fun i hi => ?_, fun r hr => ?_, ?_⟩
  · unfold addL
    rw [if_pos ⟨rfl, hi⟩, h1 i hi]
    exact Int64.zero_add _
  · unfold addL
    rw [if_neg (by omega), if_pos ⟨rfl, hr⟩, h2 r hr]
    exact Int64.zero_add _
  · unfold addL
    rw [if_neg (by omega), if_neg (by omega), if_pos ⟨rfl, rfl⟩, h3]
    exact Int64.zero_add _
theorem d75_0 : dec 75 0 = some (.aload_n 0, 1, []) := rfl
theorem d75_1 : dec 75 1 = some (.getfield 32, 3, [1, 0, 6, 0, 0, 250]) := rfl
theorem d75_4 : dec 75 4 = some (.iload_n 2, 1, []) := rfl
theorem d75_5 : dec 75 5 = some (.if_icmp .ne 4, 3, [9]) := rfl
theorem d75_8 : dec 75 8 = some (.return_, 1, []) := rfl
theorem d75_9 : dec 75 9 = some (.aload_n 0, 1, []) := rfl
theorem d75_10 : dec 75 10 = some (.iload_n 2, 1, []) := rfl
theorem d75_11 : dec 75 11 = some (.putfield 32, 3, [1, 0, 6, 0, 0, 250]) := rfl
theorem d75_14 : dec 75 14 = some (.aload_n 0, 1, []) := rfl
theorem d75_15 : dec 75 15 = some (.lconst 0, 1, [0]) := rfl
theorem d75_16 : dec 75 16 = some (.putfield 36, 3, [1, 0, 5, 1, 0, 248]) := rfl
theorem d75_19 : dec 75 19 = some (.aload_n 0, 1, []) := rfl
theorem d75_20 : dec 75 20 = some (.getfield 25, 3, [1, 0, 3, 2, 0, 246]) := rfl
theorem d75_23 : dec 75 23 = some (.lconst 0, 1, [0]) := rfl
theorem d75_24 : dec 75 24 = some (.invokestatic 40, 3, [2, 76, 0, 13, 0, 823, 1, 2]) := rfl
theorem d75_27 : dec 75 27 = some (.aload_n 0, 1, []) := rfl
theorem d75_28 : dec 75 28 = some (.getfield 29, 3, [1, 0, 4, 2, 0, 247]) := rfl
theorem d75_31 : dec 75 31 = some (.lconst 0, 1, [0]) := rfl
theorem d75_32 : dec 75 32 = some (.invokestatic 40, 3, [2, 76, 0, 13, 0, 823, 1, 2]) := rfl
theorem d75_35 : dec 75 35 = some (.aload_n 0, 1, []) := rfl
theorem d75_36 : dec 75 36 = some (.aload_n 1, 1, []) := rfl
theorem d75_37 : dec 75 37 = some (.iconst 0, 1, [0]) := rfl
theorem d75_38 : dec 75 38 = some (.aload_n 1, 1, []) := rfl
theorem d75_39 : dec 75 39 = some (.getfield 46, 3, [1, 6, 0, 2, 1, 140]) := rfl
theorem d75_42 : dec 75 42 = some (.invokevirtual 52, 3, [2, 24, 2, 7, 0, 826]) := rfl
theorem d75_45 : dec 75 45 = some (.iconst (-1), 1, [4294967295]) := rfl
theorem d75_46 : dec 75 46 = some (.ldc2_w 58, 3, [9, 1000000000, 827]) := rfl
theorem d75_49 : dec 75 49 = some (.invokevirtual 60, 3, [2, 77, 2, 0, 0, 828, 1, 0, 0, 0, 2]) := rfl
theorem d75_52 : dec 75 52 = some (.return_, 1, []) := rfl
theorem l75 : mL 75 = 3 := rfl
theorem c75 {d : Nat} {P : MP} {I : MI} {L : ML} {C : MC} {H b top : Nat} {g : GS} (hH : HB P H) (hb : SB P b) (hg : RC I b g) (hv : TV g) (hl : LV g) (hcc : CC I L H g) (hbH : b + 17 < H) (ht : top < 3) (hd : 20 ≤ d) : ∃ I' L', I' H 6 = nI top ∧ CL L' H (chV g top) ∧ (∀ k j, k < H ∨ H + 9 < k → I' k j = I k j) ∧ (∀ k j, k < H ∨ H + 9 < k → L' k j = L k j) ∧ ∀ Q, CT d 75 [.ref H, .ref b, .int (nI top)] P I L C Q = Q (.inl none) P I' L' C := by
  have hH' := hH
  have hb' := hb
  obtain ⟨k0, p0, p1, p2, p3, p4, hD1, hD4, y7, y8, y9⟩ := hH'
  obtain ⟨l0, r0, r1, r2, hT, hKK, hF⟩ := hb'
  have hT' := hT
  obtain ⟨⟨m0, q0, q1, q2, q3, q4, q5, q6, q7⟩, z1, z2, z3, z4, z5, z6, z7, z8⟩ := hT'
  obtain ⟨tp, htp, h6, hcl⟩ := hcc
  by_cases z : tp = top + 1
  · subst z
    have h6' : I H 6 = nI top := by rw [h6, fI_s]
    refine ⟨I, L, h6', hcl (by omega), fun _ _ _ => rfl, fun _ _ _ => rfl, fun Q => ?_⟩
    rw [CT_e (mj := 75) (e := [.ref H, .ref b, .int (nI top)]) (by omega) rfl (Nat.le_of_ble_eq_true rfl)]
    simp (disch := first | assumption | omega) only [Nat.reduceAdd, X_go, go2_some, stp, ldI, ldA, ldL, stI, stA, stL, o1I, o2I, o2L, brI, brII, gl, s1, s2, k1, sl, go_sN, go_sR, go_CT, go_sT, go_no, go_if, pops, bk_v, bk_0, d75_0, d75_1, d75_4, d75_5, d75_8, d75_9, d75_10, d75_11, d75_14, d75_15, d75_16, d75_19, d75_20, d75_23, d75_24, d75_27, d75_28, d75_31, d75_32, d75_35, d75_36, d75_37, d75_38, d75_39, d75_42, d75_45, d75_46, d75_49, d75_52, n_lt, n_le, n_eq, n_lt0, n_ge0, n_gt0, n_le0, n_eq0, m_lt, m_le, m_gt, m_ge, m_eq, m_eq', m_lt0, m_ge0, m_gt0, m_le0, m_ltm, m_lem, n_in, m_in, n_cl, n_ti, n_div, n_rem', n_dec, n_l, nI_add, pk_mul, an0, an1, decide_eq_true_eq, if_true, if_false, ite_true, ite_false, and_true, true_and, and_false, false_and, not_true, not_false_iff, or_false, false_or, or_true, true_or, eq_self, va_some, Bool.false_eq_true, reduceIte, catS_n, catS_i, catS_r, catS_l, catS_d, Nat.zero_add, Nat.add_zero, decide_true, decide_false, Nat.reduceLeDiff, cat_r, cat_i, cat_l, nle_T, nle_F, nlt_T, nlt_F, neq_T, neq_F, k0, h6']
    done
  · have hne : (fI tp = nI top) = False := by
      rcases tp with _ | a
      · rw [fI_0, m_eq' (by omega)]
      · rw [fI_s, n_eq (by omega) (by omega)]; exact eq_false (by omega)
    have hdr := hv.1 top ht
    obtain ⟨L0, hL0⟩ : ∃ L0, L0 = xr (xr (xu L H 5 (lN 0)) (H + 8) (fun j => if j < 16 then lN 0 else L (H + 8) j)) (H + 9) (fun j => if j < 4 then lN 0 else L (H + 9) j) := ⟨_, rfl⟩
    have hcl0 : CL L0 H cv0 := by
      rw [hL0]
      refine ⟨fun i hi => ?_, fun r hr => ?_, ?_⟩
      · rw [xr_n _ _ (by omega), xr_s, if_pos hi]; rfl
      · rw [xr_s, if_pos hr]; rfl
      · rw [xr_n _ _ (by omega), xr_n _ _ (by omega), xu_s]; rfl
    have hLn : ∀ k j, k < H ∨ H + 9 < k → L0 k j = L k j := fun k j h => by rw [hL0, xr_n _ _ (by omega), xr_n _ _ (by omega), xu_n _ _ (by omega)]
    obtain ⟨I', hI', hQ⟩ := c77 (C := C) hH hb hbH hv hl ht (g top) 0 (d - 1) (by omega) (by omega) (xu I H 6 (nI top)) L0 (sbits g) (spG g) noG 0 0 0 1000000000 (RC_fr hg fun k j h h' => xu_n _ _ (by omega)) (xu_s _ _ _ _) (CB_sb hv) (fun q => by omega) (fun q => by omega) (by omega) (by omega) (by omega) (by omega)
    refine ⟨I', addL H (chV g top) L0, ?_, CL_add hcl0, fun k j h => ?_, fun k j h => ?_, fun Q => ?_⟩
    · rw [hI' _ _ (.inl (by omega)), xu_s]
    · rw [hI' _ _ (by unfold gof; omega), xu_n _ _ (by omega)]
    · unfold addL
      rw [if_neg (by omega), if_neg (by omega), if_neg (by omega)]
      exact hLn k j h
    · rw [fI_0] at hQ
      rw [CT_e (mj := 75) (e := [.ref H, .ref b, .int (nI top)]) (by omega) rfl (Nat.le_of_ble_eq_true rfl)]
      simp (disch := first | assumption | omega) only [Nat.reduceAdd, X_go, go2_some, stp, ldI, ldA, ldL, stI, stA, stL, o1I, o2I, o2L, brI, brII, gl, s1, s2, k1, sl, go_sN, go_sR, go_CT, go_sT, go_no, go_if, pops, bk_v, bk_0, d75_0, d75_1, d75_4, d75_5, d75_8, d75_9, d75_10, d75_11, d75_14, d75_15, d75_16, d75_19, d75_20, d75_23, d75_24, d75_27, d75_28, d75_31, d75_32, d75_35, d75_36, d75_37, d75_38, d75_39, d75_42, d75_45, d75_46, d75_49, d75_52, n_lt, n_le, n_eq, n_lt0, n_ge0, n_gt0, n_le0, n_eq0, m_lt, m_le, m_gt, m_ge, m_eq, m_eq', m_lt0, m_ge0, m_gt0, m_le0, m_ltm, m_lem, n_in, m_in, n_cl, n_ti, n_div, n_rem', n_dec, n_l, nI_add, pk_mul, an0, an1, decide_eq_true_eq, if_true, if_false, ite_true, ite_false, and_true, true_and, and_false, false_and, not_true, not_false_iff, or_false, false_or, or_true, true_or, eq_self, va_some, Bool.false_eq_true, reduceIte, catS_n, catS_i, catS_r, catS_l, catS_d, Nat.zero_add, Nat.add_zero, decide_true, decide_false, Nat.reduceLeDiff, cat_r, cat_i, cat_l, nle_T, nle_F, nlt_T, nlt_F, neq_T, neq_F, k0, h6, hne, p3, p4, l0, r0, m0, c76 y8, c76 y9, c24 hT (TR_fr hg.1 fun k j (_ : b + 1 + 1 ≤ k) (_ : k ≤ b + 1 + 8) => (xu_n I (nI top) (by omega) : xu I H 6 (nI top) k j = I k j)) hv]
      simp (disch := omega) only [xr_n, xu_row]
      rw [← hL0, hQ]
      simp (disch := first | assumption | omega) only [Nat.reduceAdd, X_go, go2_some, stp, ldI, ldA, ldL, stI, stA, stL, o1I, o2I, o2L, brI, brII, gl, s1, s2, k1, sl, go_sN, go_sR, go_CT, go_sT, go_no, go_if, pops, bk_v, bk_0, d75_0, d75_1, d75_4, d75_5, d75_8, d75_9, d75_10, d75_11, d75_14, d75_15, d75_16, d75_19, d75_20, d75_23, d75_24, d75_27, d75_28, d75_31, d75_32, d75_35, d75_36, d75_37, d75_38, d75_39, d75_42, d75_45, d75_46, d75_49, d75_52]
      rfl
theorem d135_0 : dec 135 0 = some (.aload_n 0, 1, []) := rfl
theorem d135_1 : dec 135 1 = some (.getfield 25, 3, [1, 0, 3, 2, 0, 246]) := rfl
theorem d135_4 : dec 135 4 = some (.iload_n 1, 1, []) := rfl
theorem d135_5 : dec 135 5 = some (.invokestatic 64, 3, [2, 83, 0, 9, 1, 855, 0, 2]) := rfl
theorem d135_8 : dec 135 8 = some (.lreturn, 1, []) := rfl
theorem l135 : mL 135 = 2 := rfl
theorem c135 {d : Nat} {P : MP} {I : MI} {L : ML} {C : MC} {Q : QT} {H i : Nat} (hH : HB P H) (hd : 2 ≤ d) (hi : i < 16) : CT d 135 [.ref H, .int (nI i)] P I L C Q = Q (.inl (some (.long (L (H + 8) i)))) P I L C := by
  obtain ⟨k0, p0, p1, p2, p3, p4, hD1, hD4, y7, y8, y9⟩ := hH
  rw [CT_e (mj := 135) (e := [.ref H, .int (nI i)]) (by omega) rfl (Nat.le_of_ble_eq_true rfl)]
  simp (disch := first | assumption | omega) only [Nat.reduceAdd, X_go, go2_some, stp, ldI, ldA, ldL, stI, stA, stL, o1I, o2I, o2L, brI, brII, gl, s1, s2, k1, sl, go_sN, go_sR, go_CT, go_sT, go_no, go_if, pops, bk_v, bk_0, d135_0, d135_1, d135_4, d135_5, d135_8, n_lt, n_le, n_eq, n_lt0, n_ge0, n_gt0, n_le0, n_eq0, m_lt, m_le, m_gt, m_ge, m_eq, m_eq', m_lt0, m_ge0, m_gt0, m_le0, m_ltm, m_lem, n_in, m_in, n_cl, n_ti, n_div, n_rem', n_dec, n_l, nI_add, pk_mul, an0, an1, decide_eq_true_eq, if_true, if_false, ite_true, ite_false, and_true, true_and, and_false, false_and, not_true, not_false_iff, or_false, false_or, or_true, true_or, eq_self, va_some, Bool.false_eq_true, reduceIte, catS_n, catS_i, catS_r, catS_l, catS_d, Nat.zero_add, Nat.add_zero, decide_true, decide_false, Nat.reduceLeDiff, cat_r, cat_i, cat_l, nle_T, nle_F, nlt_T, nlt_F, neq_T, neq_F, k0, p3, c83 y8]
  done
/-- from a rarity on -/
def raV (V : CV) (r : Nat) : Int64 := sL (4 - r) (fun i => V (16 + r + i))
theorem d82_0 : dec 82 0 = some (.lconst 0, 1, [0]) := rfl
theorem d82_1 : dec 82 1 = some (.lstore_n 2, 1, []) := rfl
theorem d82_2 : dec 82 2 = some (.iload_n 1, 1, []) := rfl
theorem d82_3 : dec 82 3 = some (.istore 4, 2, []) := rfl
theorem d82_5 : dec 82 5 = some (.iload 4, 2, []) := rfl
theorem d82_7 : dec 82 7 = some (.iconst 3, 1, [3]) := rfl
theorem d82_8 : dec 82 8 = some (.if_icmp .gt 21, 3, [29]) := rfl
theorem d82_11 : dec 82 11 = some (.lload_n 2, 1, []) := rfl
theorem d82_12 : dec 82 12 = some (.aload_n 0, 1, []) := rfl
theorem d82_13 : dec 82 13 = some (.getfield 29, 3, [1, 0, 4, 2, 0, 247]) := rfl
theorem d82_16 : dec 82 16 = some (.iload 4, 2, []) := rfl
theorem d82_18 : dec 82 18 = some (.invokestatic 64, 3, [2, 83, 0, 9, 1, 855, 0, 2]) := rfl
theorem d82_21 : dec 82 21 = some (.ladd, 1, []) := rfl
theorem d82_22 : dec 82 22 = some (.lstore_n 2, 1, []) := rfl
theorem d82_23 : dec 82 23 = some (.iinc 4 1, 3, [1]) := rfl
theorem d82_26 : dec 82 26 = some (.goto (-21), 3, [5]) := rfl
theorem d82_29 : dec 82 29 = some (.lload_n 2, 1, []) := rfl
theorem d82_30 : dec 82 30 = some (.lreturn, 1, []) := rfl
theorem l82 : mL 82 = 5 := rfl
theorem c82 {d : Nat} {P : MP} {I : MI} {L : ML} {C : MC} {Q : QT} {H r : Nat} {V : CV} (hH : HB P H) (hcl : CL L H V) (hd : 2 ≤ d) (hr : r ≤ 3) : CT d 82 [.ref H, .int (nI r)] P I L C Q = Q (.inl (some (.long (raV V r)))) P I L C := by
  obtain ⟨k0, p0, p1, p2, p3, p4, hD1, hD4, y7, y8, y9⟩ := hH
  have h0 := hcl.2.1 0 (by omega)
  have h1 := hcl.2.1 1 (by omega)
  have h2 := hcl.2.1 2 (by omega)
  have h3 := hcl.2.1 3 (by omega)
  have e0 : r = 0 ∨ r = 1 ∨ r = 2 ∨ r = 3 := by omega
  rw [CT_e (mj := 82) (e := [.ref H, .int (nI r), UN, UN, UN]) (by omega) rfl (Nat.le_of_ble_eq_true rfl)]
  rcases e0 with rfl | rfl | rfl | rfl
  · simp (disch := first | assumption | omega) only [Nat.reduceAdd, X_go, go2_some, stp, ldI, ldA, ldL, stI, stA, stL, o1I, o2I, o2L, brI, brII, gl, s1, s2, k1, sl, go_sN, go_sR, go_CT, go_sT, go_no, go_if, pops, bk_v, bk_0, d82_0, d82_1, d82_2, d82_3, d82_5, d82_7, d82_8, d82_11, d82_12, d82_13, d82_16, d82_18, d82_21, d82_22, d82_23, d82_26, d82_29, d82_30, n_lt, n_le, n_eq, n_lt0, n_ge0, n_gt0, n_le0, n_eq0, m_lt, m_le, m_gt, m_ge, m_eq, m_eq', m_lt0, m_ge0, m_gt0, m_le0, m_ltm, m_lem, n_in, m_in, n_cl, n_ti, n_div, n_rem', n_dec, n_l, nI_add, pk_mul, an0, an1, decide_eq_true_eq, if_true, if_false, ite_true, ite_false, and_true, true_and, and_false, false_and, not_true, not_false_iff, or_false, false_or, or_true, true_or, eq_self, va_some, Bool.false_eq_true, reduceIte, catS_n, catS_i, catS_r, catS_l, catS_d, Nat.zero_add, Nat.add_zero, decide_true, decide_false, Nat.reduceLeDiff, cat_r, cat_i, cat_l, nle_T, nle_F, nlt_T, nlt_F, neq_T, neq_F, k0, p4, c83 y9, h0, h1, h2, h3]
    rfl
  · simp (disch := first | assumption | omega) only [Nat.reduceAdd, X_go, go2_some, stp, ldI, ldA, ldL, stI, stA, stL, o1I, o2I, o2L, brI, brII, gl, s1, s2, k1, sl, go_sN, go_sR, go_CT, go_sT, go_no, go_if, pops, bk_v, bk_0, d82_0, d82_1, d82_2, d82_3, d82_5, d82_7, d82_8, d82_11, d82_12, d82_13, d82_16, d82_18, d82_21, d82_22, d82_23, d82_26, d82_29, d82_30, n_lt, n_le, n_eq, n_lt0, n_ge0, n_gt0, n_le0, n_eq0, m_lt, m_le, m_gt, m_ge, m_eq, m_eq', m_lt0, m_ge0, m_gt0, m_le0, m_ltm, m_lem, n_in, m_in, n_cl, n_ti, n_div, n_rem', n_dec, n_l, nI_add, pk_mul, an0, an1, decide_eq_true_eq, if_true, if_false, ite_true, ite_false, and_true, true_and, and_false, false_and, not_true, not_false_iff, or_false, false_or, or_true, true_or, eq_self, va_some, Bool.false_eq_true, reduceIte, catS_n, catS_i, catS_r, catS_l, catS_d, Nat.zero_add, Nat.add_zero, decide_true, decide_false, Nat.reduceLeDiff, cat_r, cat_i, cat_l, nle_T, nle_F, nlt_T, nlt_F, neq_T, neq_F, k0, p4, c83 y9, h0, h1, h2, h3]
    rfl
  · simp (disch := first | assumption | omega) only [Nat.reduceAdd, X_go, go2_some, stp, ldI, ldA, ldL, stI, stA, stL, o1I, o2I, o2L, brI, brII, gl, s1, s2, k1, sl, go_sN, go_sR, go_CT, go_sT, go_no, go_if, pops, bk_v, bk_0, d82_0, d82_1, d82_2, d82_3, d82_5, d82_7, d82_8, d82_11, d82_12, d82_13, d82_16, d82_18, d82_21, d82_22, d82_23, d82_26, d82_29, d82_30, n_lt, n_le, n_eq, n_lt0, n_ge0, n_gt0, n_le0, n_eq0, m_lt, m_le, m_gt, m_ge, m_eq, m_eq', m_lt0, m_ge0, m_gt0, m_le0, m_ltm, m_lem, n_in, m_in, n_cl, n_ti, n_div, n_rem', n_dec, n_l, nI_add, pk_mul, an0, an1, decide_eq_true_eq, if_true, if_false, ite_true, ite_false, and_true, true_and, and_false, false_and, not_true, not_false_iff, or_false, false_or, or_true, true_or, eq_self, va_some, Bool.false_eq_true, reduceIte, catS_n, catS_i, catS_r, catS_l, catS_d, Nat.zero_add, Nat.add_zero, decide_true, decide_false, Nat.reduceLeDiff, cat_r, cat_i, cat_l, nle_T, nle_F, nlt_T, nlt_F, neq_T, neq_F, k0, p4, c83 y9, h0, h1, h2, h3]
    rfl
  · simp (disch := first | assumption | omega) only [Nat.reduceAdd, X_go, go2_some, stp, ldI, ldA, ldL, stI, stA, stL, o1I, o2I, o2L, brI, brII, gl, s1, s2, k1, sl, go_sN, go_sR, go_CT, go_sT, go_no, go_if, pops, bk_v, bk_0, d82_0, d82_1, d82_2, d82_3, d82_5, d82_7, d82_8, d82_11, d82_12, d82_13, d82_16, d82_18, d82_21, d82_22, d82_23, d82_26, d82_29, d82_30, n_lt, n_le, n_eq, n_lt0, n_ge0, n_gt0, n_le0, n_eq0, m_lt, m_le, m_gt, m_ge, m_eq, m_eq', m_lt0, m_ge0, m_gt0, m_le0, m_ltm, m_lem, n_in, m_in, n_cl, n_ti, n_div, n_rem', n_dec, n_l, nI_add, pk_mul, an0, an1, decide_eq_true_eq, if_true, if_false, ite_true, ite_false, and_true, true_and, and_false, false_and, not_true, not_false_iff, or_false, false_or, or_true, true_or, eq_self, va_some, Bool.false_eq_true, reduceIte, catS_n, catS_i, catS_r, catS_l, catS_d, Nat.zero_add, Nat.add_zero, decide_true, decide_false, Nat.reduceLeDiff, cat_r, cat_i, cat_l, nle_T, nle_F, nlt_T, nlt_F, neq_T, neq_F, k0, p4, c83 y9, h0, h1, h2, h3]
    rfl
