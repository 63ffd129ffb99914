/-! THE MODEL: draws, finds -/
theorem NR_c {I : MI} {g g' : GS} (h : NR I g) (hg : ∀ k, k < 201 → g' k = g k) : NR I g' := fun k hk => by rw [hg k hk]; exact h k hk
theorem d193_0 : dec 193 0 = some (.aload_n 0, 1, []) := rfl
theorem d193_1 : dec 193 1 = some (.getfield 7, 3, [1, 10, 0, 2, 0, 994]) := rfl
theorem d193_4 : dec 193 4 = some (.bipush 121, 2, [121]) := rfl
theorem d193_6 : dec 193 6 = some (.ldc2_w 157, 3, [9, 1103515245, 1238]) := rfl
theorem d193_9 : dec 193 9 = some (.aload_n 0, 1, []) := rfl
theorem d193_10 : dec 193 10 = some (.getfield 7, 3, [1, 10, 0, 2, 0, 994]) := rfl
theorem d193_13 : dec 193 13 = some (.bipush 121, 2, [121]) := rfl
theorem d193_15 : dec 193 15 = some (.iaload, 1, []) := rfl
theorem d193_16 : dec 193 16 = some (.i2l, 1, []) := rfl
theorem d193_17 : dec 193 17 = some (.lmul, 1, []) := rfl
theorem d193_18 : dec 193 18 = some (.ldc2_w 159, 3, [9, 12345, 1239]) := rfl
theorem d193_21 : dec 193 21 = some (.ladd, 1, []) := rfl
theorem d193_22 : dec 193 22 = some (.ldc2_w 161, 3, [9, 2147483648, 1240]) := rfl
theorem d193_25 : dec 193 25 = some (.lrem, 1, []) := rfl
theorem d193_26 : dec 193 26 = some (.l2i, 1, []) := rfl
theorem d193_27 : dec 193 27 = some (.iastore, 1, []) := rfl
theorem d193_28 : dec 193 28 = some (.aload_n 0, 1, []) := rfl
theorem d193_29 : dec 193 29 = some (.getfield 7, 3, [1, 10, 0, 2, 0, 994]) := rfl
theorem d193_32 : dec 193 32 = some (.bipush 121, 2, [121]) := rfl
theorem d193_34 : dec 193 34 = some (.iaload, 1, []) := rfl
theorem d193_35 : dec 193 35 = some (.ldc 163, 2, [8, 65536, 1241]) := rfl
theorem d193_37 : dec 193 37 = some (.idiv, 1, []) := rfl
theorem d193_38 : dec 193 38 = some (.iload_n 1, 1, []) := rfl
theorem d193_39 : dec 193 39 = some (.irem, 1, []) := rfl
theorem d193_40 : dec 193 40 = some (.ireturn, 1, [0]) := rfl
theorem l193 : mL 193 = 2 := rfl
theorem c193 {d : Nat} {P : MP} {I : MI} {L : ML} {C : MC} {Q : QT} {n : Nat} {g : GS} (hM : MB P) (hn : NR I g) (hl : LV g) (hd : 1 ≤ d) (h0 : 0 < n) (hn2 : n < 2147483648) : CT d 193 [.ref 150, .int (nI n)] P I L C Q = Q (.inl (some (.int (nI (sd (g 121) / 65536 % n))))) P (xu I 151 121 (nI (sd (g 121)))) L C := by
  obtain ⟨⟨k0, p0, p1, p2, p5, y1, _⟩, _⟩ := hM
  have h3 := hn 121 (by omega)
  have hs := hl.2.2
  have hq := sd_lt (g 121)
  rw [CT_e (mj := 193) (e := [.ref 150, .int (nI n)]) (by omega) rfl (Nat.le_of_ble_eq_true rfl)]
  simp (disch := first | assumption | omega) only [Nat.reduceAdd, X_go, go2_some, stp, ldI, ldA, ldL, stI, stA, stL, o1I, o2I, o2L, brI, brII, gl, s1, s2, k1, sl, go_sN, go_sR, go_CT, go_sT, go_no, go_if, pops, bk_v, bk_0, d193_0, d193_1, d193_4, d193_6, d193_9, d193_10, d193_13, d193_15, d193_16, d193_17, d193_18, d193_21, d193_22, d193_25, d193_26, d193_27, d193_28, d193_29, d193_32, d193_34, d193_35, d193_37, d193_38, d193_39, d193_40, n_lt, n_le, n_eq, n_lt0, n_ge0, n_gt0, n_le0, n_eq0, m_lt, m_le, m_gt, m_ge, m_eq, m_eq', m_lt0, m_ge0, m_gt0, m_le0, m_ltm, m_lem, n_in, m_in, n_cl, n_ti, n_div, n_rem', n_dec, n_l, nI_add, pk_mul, an0, an1, decide_eq_true_eq, if_true, if_false, ite_true, ite_false, and_true, true_and, and_false, false_and, not_true, not_false_iff, or_false, false_or, or_true, true_or, eq_self, va_some, Bool.false_eq_true, reduceIte, catS_n, catS_i, catS_r, catS_l, catS_d, Nat.zero_add, Nat.add_zero, decide_true, decide_false, Nat.reduceLeDiff, cat_r, cat_i, cat_l, nle_T, nle_F, nlt_T, nlt_F, neq_T, neq_F, k0, p0, y1, h3, l31, sd_l, lN_i, xu_s]
  done
theorem d192_0 : dec 192 0 = some (.aload_n 0, 1, []) := rfl
theorem d192_1 : dec 192 1 = some (.aload_n 0, 1, []) := rfl
theorem d192_2 : dec 192 2 = some (.iload_n 1, 1, []) := rfl
theorem d192_3 : dec 192 3 = some (.iload_n 2, 1, []) := rfl
theorem d192_4 : dec 192 4 = some (.invokevirtual 138, 3, [2, 180, 2, 10, 0, 1182, 0, 0]) := rfl
theorem d192_7 : dec 192 7 = some (.invokevirtual 164, 3, [2, 193, 2, 10, 0, 1234, 0]) := rfl
theorem d192_10 : dec 192 10 = some (.istore_n 3, 1, []) := rfl
theorem d192_11 : dec 192 11 = some (.iconst 0, 1, [0]) := rfl
theorem d192_12 : dec 192 12 = some (.istore 4, 2, []) := rfl
theorem d192_14 : dec 192 14 = some (.iload_n 2, 1, []) := rfl
theorem d192_15 : dec 192 15 = some (.bipush 6, 2, [6]) := rfl
theorem d192_17 : dec 192 17 = some (.iload_n 1, 1, []) := rfl
theorem d192_18 : dec 192 18 = some (.imul, 1, []) := rfl
theorem d192_19 : dec 192 19 = some (.iload 4, 2, []) := rfl
theorem d192_21 : dec 192 21 = some (.iadd, 1, []) := rfl
theorem d192_22 : dec 192 22 = some (.ishr, 1, []) := rfl
theorem d192_23 : dec 192 23 = some (.iconst 1, 1, [1]) := rfl
theorem d192_24 : dec 192 24 = some (.iand, 1, []) := rfl
theorem d192_25 : dec 192 25 = some (.ifCond .eq 14, 3, [39]) := rfl
theorem d192_28 : dec 192 28 = some (.iload_n 3, 1, []) := rfl
theorem d192_29 : dec 192 29 = some (.aload_n 0, 1, []) := rfl
theorem d192_30 : dec 192 30 = some (.iload_n 1, 1, []) := rfl
theorem d192_31 : dec 192 31 = some (.iload 4, 2, []) := rfl
theorem d192_33 : dec 192 33 = some (.invokevirtual 121, 3, [2, 172, 2, 10, 0, 1151, 0, 0]) := rfl
theorem d192_36 : dec 192 36 = some (.if_icmp .lt 37, 3, [73]) := rfl
theorem d192_39 : dec 192 39 = some (.iload_n 3, 1, []) := rfl
theorem d192_40 : dec 192 40 = some (.iload_n 2, 1, []) := rfl
theorem d192_41 : dec 192 41 = some (.bipush 6, 2, [6]) := rfl
theorem d192_43 : dec 192 43 = some (.iload_n 1, 1, []) := rfl
theorem d192_44 : dec 192 44 = some (.imul, 1, []) := rfl
theorem d192_45 : dec 192 45 = some (.iload 4, 2, []) := rfl
theorem d192_47 : dec 192 47 = some (.iadd, 1, []) := rfl
theorem d192_48 : dec 192 48 = some (.ishr, 1, []) := rfl
theorem d192_49 : dec 192 49 = some (.iconst 1, 1, [1]) := rfl
theorem d192_50 : dec 192 50 = some (.iand, 1, []) := rfl
theorem d192_51 : dec 192 51 = some (.ifCond .ne 7, 3, [58]) := rfl
theorem d192_54 : dec 192 54 = some (.iconst 0, 1, [0]) := rfl
theorem d192_55 : dec 192 55 = some (.goto 10, 3, [65]) := rfl
theorem d192_58 : dec 192 58 = some (.aload_n 0, 1, []) := rfl
theorem d192_59 : dec 192 59 = some (.iload_n 1, 1, []) := rfl
theorem d192_60 : dec 192 60 = some (.iload 4, 2, []) := rfl
theorem d192_62 : dec 192 62 = some (.invokevirtual 121, 3, [2, 172, 2, 10, 0, 1151, 0, 0]) := rfl
theorem d192_65 : dec 192 65 = some (.isub, 1, []) := rfl
theorem d192_66 : dec 192 66 = some (.istore_n 3, 1, []) := rfl
theorem d192_67 : dec 192 67 = some (.iinc 4 1, 3, [1]) := rfl
theorem d192_70 : dec 192 70 = some (.goto (-56), 3, [14]) := rfl
theorem d192_73 : dec 192 73 = some (.iload 4, 2, []) := rfl
theorem d192_75 : dec 192 75 = some (.ireturn, 1, [0]) := rfl
theorem l192 : mL 192 = 5 := rfl
theorem f192 {d : Nat} {P : MP} {I : MI} {L : ML} {C : MC} {Q : QT} {t : Nat} {x : Int32} {c : Nat → Nat → Bool} {g : GS} (hM : MB P) (hn : NR I g) (hv : TV g) (hl : LV g) (ht : t < 3) (hx : ∀ e, e < g (3 + t) → bt x (6 * t + e) = c t e) (hd : 4 ≤ d) : ∀ m e l, e + m = g (3 + t) → sm e (wS g c t) + l < sm (g (3 + t)) (wS g c t) → X d 192 14 [.ref 150, .int (nI t), .int x, .int (nI l), .int (nI e)] [] P I L C Q = Q (.inl (some (.int (nI (pe (wS g c t) m e l))))) P I L C := by
  have k0 := hM.1.1
  have hc := hv.2.1 t ht
  have hs := smS_b (c := c) hv hl ht (Nat.le_refl _)
  intro m
  induction m with
  | zero =>
    intro e l h hlt
    have : e = g (3 + t) := by omega
    subst this
    omega
  | succ m ih =>
    intro e l h hlt
    have he : e < g (3 + t) := by omega
    have ht1 := b_tst (x := x) (n := 6 * t + e) (by omega)
    rw [hx e he] at ht1
    have e1 : sm (e + 1) (wS g c t) = sm e (wS g c t) + wS g c t e := rfl
    have hp := pw_b hv hl ht he
    have e2 : pe (wS g c t) (m + 1) e l = if l < wS g c t e then e else pe (wS g c t) m (e + 1) (l - wS g c t e) := rfl
    rw [e2, X_go, d192_14]
    by_cases z : c t e = true
    · have ew : wS g c t e = pw g t e := if_pos z
      rw [if_pos z] at ht1
      rw [ew] at e1 ⊢
      by_cases y : l < pw g t e
      · simp (disch := first | assumption | omega) only [Nat.reduceAdd, X_go, go2_some, stp, ldI, ldA, ldL, stI, stA, stL, o1I, o2I, o2L, brI, brII, gl, s1, s2, k1, sl, go_sN, go_sR, go_CT, go_sT, go_no, go_if, pops, bk_v, bk_0, d192_0, d192_1, d192_2, d192_3, d192_4, d192_7, d192_10, d192_11, d192_12, d192_15, d192_17, d192_18, d192_19, d192_21, d192_22, d192_23, d192_24, d192_25, d192_28, d192_29, d192_30, d192_31, d192_33, d192_36, d192_39, d192_40, d192_41, d192_43, d192_44, d192_45, d192_47, d192_48, d192_49, d192_50, d192_51, d192_54, d192_55, d192_58, d192_59, d192_60, d192_62, d192_65, d192_66, d192_67, d192_70, d192_73, d192_75, n_lt, n_le, n_eq, n_lt0, n_ge0, n_gt0, n_le0, n_eq0, m_lt, m_le, m_gt, m_ge, m_eq, m_eq', m_lt0, m_ge0, m_gt0, m_le0, m_ltm, m_lem, n_in, m_in, n_cl, n_ti, n_div, n_rem', n_dec, n_l, nI_add, pk_mul, an0, an1, decide_eq_true_eq, if_true, if_false, ite_true, ite_false, and_true, true_and, and_false, false_and, not_true, not_false_iff, or_false, false_or, or_true, true_or, eq_self, va_some, Bool.false_eq_true, reduceIte, catS_n, catS_i, catS_r, catS_l, catS_d, Nat.zero_add, Nat.add_zero, decide_true, decide_false, Nat.reduceLeDiff, cat_r, cat_i, cat_l, nle_T, nle_F, nlt_T, nlt_F, neq_T, neq_F, k0, ht1, c172 hM hn hv hl, y]
        done
      · have ih := ih (e + 1) (l - pw g t e) (by omega) (by omega)
        simp (disch := first | assumption | omega) only [Nat.reduceAdd, X_go, go2_some, stp, ldI, ldA, ldL, stI, stA, stL, o1I, o2I, o2L, brI, brII, gl, s1, s2, k1, sl, go_sN, go_sR, go_CT, go_sT, go_no, go_if, pops, bk_v, bk_0, d192_0, d192_1, d192_2, d192_3, d192_4, d192_7, d192_10, d192_11, d192_12, d192_15, d192_17, d192_18, d192_19, d192_21, d192_22, d192_23, d192_24, d192_25, d192_28, d192_29, d192_30, d192_31, d192_33, d192_36, d192_39, d192_40, d192_41, d192_43, d192_44, d192_45, d192_47, d192_48, d192_49, d192_50, d192_51, d192_54, d192_55, d192_58, d192_59, d192_60, d192_62, d192_65, d192_66, d192_67, d192_70, d192_73, d192_75, n_lt, n_le, n_eq, n_lt0, n_ge0, n_gt0, n_le0, n_eq0, m_lt, m_le, m_gt, m_ge, m_eq, m_eq', m_lt0, m_ge0, m_gt0, m_le0, m_ltm, m_lem, n_in, m_in, n_cl, n_ti, n_div, n_rem', n_dec, n_l, nI_add, pk_mul, an0, an1, decide_eq_true_eq, if_true, if_false, ite_true, ite_false, and_true, true_and, and_false, false_and, not_true, not_false_iff, or_false, false_or, or_true, true_or, eq_self, va_some, Bool.false_eq_true, reduceIte, catS_n, catS_i, catS_r, catS_l, catS_d, Nat.zero_add, Nat.add_zero, decide_true, decide_false, Nat.reduceLeDiff, cat_r, cat_i, cat_l, nle_T, nle_F, nlt_T, nlt_F, neq_T, neq_F, k0, ht1, c172 hM hn hv hl, y, n_sub]
        simp only [← X_go]
        exact ih
    · have ew : wS g c t e = 0 := if_neg z
      rw [if_neg z] at ht1
      rw [ew] at e1 ⊢
      have ih := ih (e + 1) l (by omega) (by omega)
      simp (disch := first | assumption | omega) only [Nat.reduceAdd, X_go, go2_some, stp, ldI, ldA, ldL, stI, stA, stL, o1I, o2I, o2L, brI, brII, gl, s1, s2, k1, sl, go_sN, go_sR, go_CT, go_sT, go_no, go_if, pops, bk_v, bk_0, d192_0, d192_1, d192_2, d192_3, d192_4, d192_7, d192_10, d192_11, d192_12, d192_15, d192_17, d192_18, d192_19, d192_21, d192_22, d192_23, d192_24, d192_25, d192_28, d192_29, d192_30, d192_31, d192_33, d192_36, d192_39, d192_40, d192_41, d192_43, d192_44, d192_45, d192_47, d192_48, d192_49, d192_50, d192_51, d192_54, d192_55, d192_58, d192_59, d192_60, d192_62, d192_65, d192_66, d192_67, d192_70, d192_73, d192_75, n_lt, n_le, n_eq, n_lt0, n_ge0, n_gt0, n_le0, n_eq0, m_lt, m_le, m_gt, m_ge, m_eq, m_eq', m_lt0, m_ge0, m_gt0, m_le0, m_ltm, m_lem, n_in, m_in, n_cl, n_ti, n_div, n_rem', n_dec, n_l, nI_add, pk_mul, an0, an1, decide_eq_true_eq, if_true, if_false, ite_true, ite_false, and_true, true_and, and_false, false_and, not_true, not_false_iff, or_false, false_or, or_true, true_or, eq_self, va_some, Bool.false_eq_true, reduceIte, catS_n, catS_i, catS_r, catS_l, catS_d, Nat.zero_add, Nat.add_zero, decide_true, decide_false, Nat.reduceLeDiff, cat_r, cat_i, cat_l, nle_T, nle_F, nlt_T, nlt_F, neq_T, neq_F, k0, ht1, n_sub, Nat.sub_zero, Nat.not_lt_zero]
      simp only [← X_go]
      exact ih
theorem pw_ud {g : GS} {v t e : Nat} (ht : t < 3) (he : e < 6) (hr : g (cl t e 2) ≤ 3) : pw (ud g 121 v) t e = pw g t e := by
  have h1 := cl_lt (f := 1) ht he (by omega)
  have h2 := cl_lt (f := 2) ht he (by omega)
  unfold pw
  rw [ud_n (by omega), ud_n (by omega), ud_n (by omega), ud_n (by omega)]
theorem pe_c {w w' : Nat → Nat} : ∀ m e l, (∀ i, e ≤ i → i < e + m → w i = w' i) → pe w m e l = pe w' m e l := by
  intro m
  induction m with
  | zero => intro e l _; rfl
  | succ m ih =>
    intro e l h
    unfold pe
    rw [h e (Nat.le_refl e) (by omega), ih (e + 1) _ (fun i h1 h2 => h i (by omega) (by omega))]
theorem EV_r {g : GS} {t e : Nat} (h : EV g t e) : g (cl t e 2) ≤ 3 := by
  obtain ⟨E0, E1, E2, _⟩ := h
  rcases Nat.lt_or_ge (g (cl t e 0)) 16 with z | z
  · exact E1 z
  · have := (E2 z).2; omega
theorem c192 {d : Nat} {P : MP} {I : MI} {L : ML} {C : MC} {Q : QT} {t : Nat} {x : Int32} {c : Nat → Nat → Bool} {g : GS} (hM : MB P) (hn : NR I g) (hv : TV g) (hl : LV g) (hx : x = aset g c) (hd : 6 ≤ d) (ht : t < 3) (hp : 0 < sm (g (3 + t)) (wS g c t)) : CT d 192 [.ref 150, .int (nI t), .int x] P I L C Q = Q (.inl (some (.int (nI (pe (wS g c t) (g (3 + t)) 0 (sd (g 121) / 65536 % sm (g (3 + t)) (wS g c t))))))) P (xu I 151 121 (nI (sd (g 121)))) L C := by
  have k0 := hM.1.1
  have hc := hv.2.1 t ht
  have hs := smS_b (c := c) hv hl ht (Nat.le_refl _)
  have hmod := Nat.mod_lt (sd (g 121) / 65536) hp
  have hq := sd_lt (g 121)
  have hn1 := NR_ud (c := 121) (v := sd (g 121)) hn
  have hv1 : TV (ud g 121 (sd (g 121))) := TV_g (fun k hk => ud_n (by omega)) hv
  have hl1 : LV (ud g 121 (sd (g 121))) := ⟨fun r h1 h3 => by rw [ud_n (by omega), ud_n (by omega)]; exact hl.1 r h1 h3, by rw [ud_n (by omega)]; exact hl.2.1, by rw [ud_s]; exact hq⟩
  have hcc : ud g 121 (sd (g 121)) (3 + t) = g (3 + t) := ud_n (by omega)
  have hww : ∀ i, i < g (3 + t) → wS (ud g 121 (sd (g 121))) c t i = wS g c t i := fun i hi => by
    unfold wS
    rw [pw_ud ht (by omega) (EV_r (hv.2.2 t i ht hi))]
  have hsm : sm (g (3 + t)) (wS (ud g 121 (sd (g 121))) c t) = sm (g (3 + t)) (wS g c t) := sm_c hww
  have h := f192 (d := d - 1) (L := L) (C := C) (Q := Q) (x := x) (c := c) hM hn1 hv1 hl1 ht (fun e he => by
    rw [hcc] at he
    rw [hx, as_b ht (by omega), decide_eq_true he, Bool.true_and]) (by omega) (g (3 + t)) 0 (sd (g 121) / 65536 % sm (g (3 + t)) (wS g c t)) (by rw [hcc]; omega) (by rw [hcc, hsm]; show 0 + _ < _; omega)
  rw [pe_c (w' := wS g c t) _ _ _ (fun i _ h2 => hww i (by omega))] at h
  subst hx
  rw [CT_e (mj := 192) (e := [.ref 150, .int (nI t), .int (aset g c), UN, UN]) (by omega) rfl (Nat.le_of_ble_eq_true rfl)]
  simp (disch := first | assumption | omega) only [Nat.reduceAdd, X_go, go2_some, stp, ldI, ldA, ldL, stI, stA, stL, o1I, o2I, o2L, brI, brII, gl, s1, s2, k1, sl, go_sN, go_sR, go_CT, go_sT, go_no, go_if, pops, bk_v, bk_0, d192_0, d192_1, d192_2, d192_3, d192_4, d192_7, d192_10, d192_11, d192_12, d192_15, d192_17, d192_18, d192_19, d192_21, d192_22, d192_23, d192_24, d192_25, d192_28, d192_29, d192_30, d192_31, d192_33, d192_36, d192_39, d192_40, d192_41, d192_43, d192_44, d192_45, d192_47, d192_48, d192_49, d192_50, d192_51, d192_54, d192_55, d192_58, d192_59, d192_60, d192_62, d192_65, d192_66, d192_67, d192_70, d192_73, d192_75, n_lt, n_le, n_eq, n_lt0, n_ge0, n_gt0, n_le0, n_eq0, m_lt, m_le, m_gt, m_ge, m_eq, m_eq', m_lt0, m_ge0, m_gt0, m_le0, m_ltm, m_lem, n_in, m_in, n_cl, n_ti, n_div, n_rem', n_dec, n_l, nI_add, pk_mul, an0, an1, decide_eq_true_eq, if_true, if_false, ite_true, ite_false, and_true, true_and, and_false, false_and, not_true, not_false_iff, or_false, false_or, or_true, true_or, eq_self, va_some, Bool.false_eq_true, reduceIte, catS_n, catS_i, catS_r, catS_l, catS_d, Nat.zero_add, Nat.add_zero, decide_true, decide_false, Nat.reduceLeDiff, cat_r, cat_i, cat_l, nle_T, nle_F, nlt_T, nlt_F, neq_T, neq_F, k0, c180 hM hn hv hl, c193 hM hn hl]
  simp only [← X_go]
  exact h
def shG (m : Nat) (g : GS) : GS := fun k => if 144 ≤ k ∧ k ≤ 143 + m then g (k - 3) else g k
theorem shG_s {m : Nat} {g : GS} : shG m (ud g (144 + m) (g (141 + m))) = shG (m + 1) g := by
  funext k
  unfold shG ud
  by_cases h : 144 ≤ k ∧ k ≤ 143 + m
  · rw [if_pos h, if_neg (by omega), if_pos (by omega)]
  · rw [if_neg h]
    by_cases z : k = 144 + m
    · subst z
      rw [if_pos rfl, if_pos (by omega), show 144 + m - 3 = 141 + m by omega]
    · rw [if_neg z, if_neg (by omega)]
theorem d195_0 : dec 195 0 = some (.bipush 59, 2, [59]) := rfl
theorem d195_2 : dec 195 2 = some (.istore_n 3, 1, []) := rfl
theorem d195_3 : dec 195 3 = some (.iload_n 3, 1, []) := rfl
theorem d195_4 : dec 195 4 = some (.iconst 2, 1, [2]) := rfl
theorem d195_5 : dec 195 5 = some (.if_icmp .le 31, 3, [36]) := rfl
theorem d195_8 : dec 195 8 = some (.aload_n 0, 1, []) := rfl
theorem d195_9 : dec 195 9 = some (.getfield 7, 3, [1, 10, 0, 2, 0, 994]) := rfl
theorem d195_12 : dec 195 12 = some (.sipush 141, 3, [141]) := rfl
theorem d195_15 : dec 195 15 = some (.iload_n 3, 1, []) := rfl
theorem d195_16 : dec 195 16 = some (.iadd, 1, []) := rfl
theorem d195_17 : dec 195 17 = some (.aload_n 0, 1, []) := rfl
theorem d195_18 : dec 195 18 = some (.getfield 7, 3, [1, 10, 0, 2, 0, 994]) := rfl
theorem d195_21 : dec 195 21 = some (.sipush 141, 3, [141]) := rfl
theorem d195_24 : dec 195 24 = some (.iload_n 3, 1, []) := rfl
theorem d195_25 : dec 195 25 = some (.iadd, 1, []) := rfl
theorem d195_26 : dec 195 26 = some (.iconst 3, 1, [3]) := rfl
theorem d195_27 : dec 195 27 = some (.isub, 1, []) := rfl
theorem d195_28 : dec 195 28 = some (.iaload, 1, []) := rfl
theorem d195_29 : dec 195 29 = some (.iastore, 1, []) := rfl
theorem d195_30 : dec 195 30 = some (.iinc 3 (-1), 3, [4294967295]) := rfl
theorem d195_33 : dec 195 33 = some (.goto (-30), 3, [3]) := rfl
theorem d195_36 : dec 195 36 = some (.aload_n 0, 1, []) := rfl
theorem d195_37 : dec 195 37 = some (.getfield 7, 3, [1, 10, 0, 2, 0, 994]) := rfl
theorem d195_40 : dec 195 40 = some (.sipush 141, 3, [141]) := rfl
theorem d195_43 : dec 195 43 = some (.iload_n 1, 1, []) := rfl
theorem d195_44 : dec 195 44 = some (.iastore, 1, []) := rfl
theorem d195_45 : dec 195 45 = some (.aload_n 0, 1, []) := rfl
theorem d195_46 : dec 195 46 = some (.getfield 7, 3, [1, 10, 0, 2, 0, 994]) := rfl
theorem d195_49 : dec 195 49 = some (.sipush 142, 3, [142]) := rfl
theorem d195_52 : dec 195 52 = some (.iload_n 2, 1, []) := rfl
theorem d195_53 : dec 195 53 = some (.iastore, 1, []) := rfl
theorem d195_54 : dec 195 54 = some (.aload_n 0, 1, []) := rfl
theorem d195_55 : dec 195 55 = some (.getfield 7, 3, [1, 10, 0, 2, 0, 994]) := rfl
theorem d195_58 : dec 195 58 = some (.sipush 143, 3, [143]) := rfl
theorem d195_61 : dec 195 61 = some (.aload_n 0, 1, []) := rfl
theorem d195_62 : dec 195 62 = some (.getfield 7, 3, [1, 10, 0, 2, 0, 994]) := rfl
theorem d195_65 : dec 195 65 = some (.bipush 122, 2, [122]) := rfl
theorem d195_67 : dec 195 67 = some (.iaload, 1, []) := rfl
theorem d195_68 : dec 195 68 = some (.iastore, 1, []) := rfl
theorem d195_69 : dec 195 69 = some (.aload_n 0, 1, []) := rfl
theorem d195_70 : dec 195 70 = some (.getfield 7, 3, [1, 10, 0, 2, 0, 994]) := rfl
theorem d195_73 : dec 195 73 = some (.sipush 140, 3, [140]) := rfl
theorem d195_76 : dec 195 76 = some (.dup2, 1, []) := rfl
theorem d195_77 : dec 195 77 = some (.iaload, 1, []) := rfl
theorem d195_78 : dec 195 78 = some (.aload_n 0, 1, []) := rfl
theorem d195_79 : dec 195 79 = some (.getfield 7, 3, [1, 10, 0, 2, 0, 994]) := rfl
theorem d195_82 : dec 195 82 = some (.sipush 140, 3, [140]) := rfl
theorem d195_85 : dec 195 85 = some (.iaload, 1, []) := rfl
theorem d195_86 : dec 195 86 = some (.bipush 20, 2, [20]) := rfl
theorem d195_88 : dec 195 88 = some (.if_icmp .ge 7, 3, [95]) := rfl
theorem d195_91 : dec 195 91 = some (.iconst 1, 1, [1]) := rfl
theorem d195_92 : dec 195 92 = some (.goto 4, 3, [96]) := rfl
theorem d195_95 : dec 195 95 = some (.iconst 0, 1, [0]) := rfl
theorem d195_96 : dec 195 96 = some (.iadd, 1, []) := rfl
theorem d195_97 : dec 195 97 = some (.iastore, 1, []) := rfl
theorem d195_98 : dec 195 98 = some (.aload_n 0, 1, []) := rfl
theorem d195_99 : dec 195 99 = some (.getfield 7, 3, [1, 10, 0, 2, 0, 994]) := rfl
theorem d195_102 : dec 195 102 = some (.bipush 123, 2, [123]) := rfl
theorem d195_104 : dec 195 104 = some (.dup2, 1, []) := rfl
theorem d195_105 : dec 195 105 = some (.iaload, 1, []) := rfl
theorem d195_106 : dec 195 106 = some (.iconst 1, 1, [1]) := rfl
theorem d195_107 : dec 195 107 = some (.iadd, 1, []) := rfl
theorem d195_108 : dec 195 108 = some (.iastore, 1, []) := rfl
theorem d195_109 : dec 195 109 = some (.aload_n 0, 1, []) := rfl
theorem d195_110 : dec 195 110 = some (.getfield 7, 3, [1, 10, 0, 2, 0, 994]) := rfl
theorem d195_113 : dec 195 113 = some (.bipush 124, 2, [124]) := rfl
theorem d195_115 : dec 195 115 = some (.iload_n 1, 1, []) := rfl
theorem d195_116 : dec 195 116 = some (.iadd, 1, []) := rfl
theorem d195_117 : dec 195 117 = some (.dup2, 1, []) := rfl
theorem d195_118 : dec 195 118 = some (.iaload, 1, []) := rfl
theorem d195_119 : dec 195 119 = some (.iconst 1, 1, [1]) := rfl
theorem d195_120 : dec 195 120 = some (.iadd, 1, []) := rfl
theorem d195_121 : dec 195 121 = some (.iastore, 1, []) := rfl
theorem d195_122 : dec 195 122 = some (.return_, 1, []) := rfl
theorem l195 : mL 195 = 4 := rfl
theorem f195 {d : Nat} {P : MP} {L : ML} {C : MC} {it ra : Int32} (hM : MB P) (hd : 1 ≤ d) : ∀ m (I : MI) (g : GS), m ≤ 57 → NR I g → ∃ I', NR I' (shG m g) ∧ (∀ k j, k ≠ 151 → I' k j = I k j) ∧ ∀ Q, X d 195 3 [.ref 150, .int it, .int ra, .int (nI (m + 2))] [] P I L C Q = X d 195 36 [.ref 150, .int it, .int ra, .int (nI 2)] [] P I' L C Q := by
  obtain ⟨⟨k0, p0, p1, p2, p5, y1, _⟩, _⟩ := hM
  intro m
  induction m with
  | zero =>
    intro I g hm hn
    refine ⟨I, NR_c hn fun k hk => by unfold shG; rw [if_neg (by omega)], fun _ _ _ => rfl, fun Q => ?_⟩
    rw [X_go, d195_3]
    simp (disch := first | assumption | omega) only [Nat.reduceAdd, X_go, go2_some, stp, ldI, ldA, ldL, stI, stA, stL, o1I, o2I, o2L, brI, brII, gl, s1, s2, k1, sl, go_sN, go_sR, go_CT, go_sT, go_no, go_if, pops, bk_v, bk_0, d195_0, d195_2, d195_4, d195_5, d195_8, d195_9, d195_12, d195_15, d195_16, d195_17, d195_18, d195_21, d195_24, d195_25, d195_26, d195_27, d195_28, d195_29, d195_30, d195_33, d195_37, d195_40, d195_43, d195_44, d195_45, d195_46, d195_49, d195_52, d195_53, d195_54, d195_55, d195_58, d195_61, d195_62, d195_65, d195_67, d195_68, d195_69, d195_70, d195_73, d195_76, d195_77, d195_78, d195_79, d195_82, d195_85, d195_86, d195_88, d195_91, d195_92, d195_95, d195_96, d195_97, d195_98, d195_99, d195_102, d195_104, d195_105, d195_106, d195_107, d195_108, d195_109, d195_110, d195_113, d195_115, d195_116, d195_117, d195_118, d195_119, d195_120, d195_121, d195_122, n_lt, n_le, n_eq, n_lt0, n_ge0, n_gt0, n_le0, n_eq0, m_lt, m_le, m_gt, m_ge, m_eq, m_eq', m_lt0, m_ge0, m_gt0, m_le0, m_ltm, m_lem, n_in, m_in, n_cl, n_ti, n_div, n_rem', n_dec, n_l, nI_add, pk_mul, an0, an1, decide_eq_true_eq, if_true, if_false, ite_true, ite_false, and_true, true_and, and_false, false_and, not_true, not_false_iff, or_false, false_or, or_true, true_or, eq_self, va_some, Bool.false_eq_true, reduceIte, catS_n, catS_i, catS_r, catS_l, catS_d, Nat.zero_add, Nat.add_zero, decide_true, decide_false, Nat.reduceLeDiff, cat_r, cat_i, cat_l, nle_T, nle_F, nlt_T, nlt_F, neq_T, neq_F]
  | succ m ih =>
    intro I g hm hn
    have h1 := hn (141 + m) (by omega)
    obtain ⟨I', a1, a2, a3⟩ := ih (xu I 151 (144 + m) (nI (g (141 + m)))) (ud g (144 + m) (g (141 + m))) (by omega) (NR_ud hn)
    rw [shG_s] at a1
    refine ⟨I', a1, fun k j h => by rw [a2 k j h, xu_n _ _ (by omega)], fun Q => ?_⟩
    rw [← a3, X_go, d195_3]
    have e1 : 141 + (m + 1 + 2) = 144 + m := by omega
    have e2 : 144 + m - 3 = 141 + m := by omega
    have e3 : m + 1 + 2 - 1 = m + 2 := by omega
    simp (disch := first | assumption | omega) only [Nat.reduceAdd, X_go, go2_some, stp, ldI, ldA, ldL, stI, stA, stL, o1I, o2I, o2L, brI, brII, gl, s1, s2, k1, sl, go_sN, go_sR, go_CT, go_sT, go_no, go_if, pops, bk_v, bk_0, d195_0, d195_2, d195_4, d195_5, d195_8, d195_9, d195_12, d195_15, d195_16, d195_17, d195_18, d195_21, d195_24, d195_25, d195_26, d195_27, d195_28, d195_29, d195_30, d195_33, d195_37, d195_40, d195_43, d195_44, d195_45, d195_46, d195_49, d195_52, d195_53, d195_54, d195_55, d195_58, d195_61, d195_62, d195_65, d195_67, d195_68, d195_69, d195_70, d195_73, d195_76, d195_77, d195_78, d195_79, d195_82, d195_85, d195_86, d195_88, d195_91, d195_92, d195_95, d195_96, d195_97, d195_98, d195_99, d195_102, d195_104, d195_105, d195_106, d195_107, d195_108, d195_109, d195_110, d195_113, d195_115, d195_116, d195_117, d195_118, d195_119, d195_120, d195_121, d195_122, n_lt, n_le, n_eq, n_lt0, n_ge0, n_gt0, n_le0, n_eq0, m_lt, m_le, m_gt, m_ge, m_eq, m_eq', m_lt0, m_ge0, m_gt0, m_le0, m_ltm, m_lem, n_in, m_in, n_cl, n_ti, n_div, n_rem', n_dec, n_l, nI_add, pk_mul, an0, an1, decide_eq_true_eq, if_true, if_false, ite_true, ite_false, and_true, true_and, and_false, false_and, not_true, not_false_iff, or_false, false_or, or_true, true_or, eq_self, va_some, Bool.false_eq_true, reduceIte, catS_n, catS_i, catS_r, catS_l, catS_d, Nat.zero_add, Nat.add_zero, decide_true, decide_false, Nat.reduceLeDiff, cat_r, cat_i, cat_l, nle_T, nle_F, nlt_T, nlt_F, neq_T, neq_F, k0, p0, y1, e1, e2, e3, n_sub, h1]
    done
theorem c195 {d : Nat} {P : MP} {I : MI} {L : ML} {C : MC} {it ra : Nat} {g : GS} (hM : MB P) (hn : NR I g) (h140 : g 140 = min 20 (g 123)) (hd : 2 ≤ d) (hi : it < 16) : ∃ I', NR I' (recG g it ra) ∧ (∀ k j, k ≠ 151 → I' k j = I k j) ∧ ∀ Q, CT d 195 [.ref 150, .int (nI it), .int (nI ra)] P I L C Q = Q (.inl none) P I' L C := by
  have hM' := hM
  obtain ⟨⟨k0, p0, p1, p2, p5, y1, _⟩, _⟩ := hM'
  obtain ⟨J, a1, a2, a3⟩ := f195 (d := d - 1) (L := L) (C := C) (it := nI it) (ra := nI ra) hM (by omega) 57 I g (by omega) hn
  have hsh : ∀ k, k < 144 → shG 57 g k = g k := fun k hk => if_neg (by omega)
  have h122 : J 151 122 = nI (g 122) := by rw [a1 122 (by omega), hsh _ (by omega)]
  have h140' : J 151 140 = nI (g 140) := by rw [a1 140 (by omega), hsh _ (by omega)]
  have h123 : J 151 123 = nI (g 123) := by rw [a1 123 (by omega), hsh _ (by omega)]
  have hit : J 151 (124 + it) = nI (g (124 + it)) := by rw [a1 _ (by omega), hsh _ (by omega)]
  have hN := NR_ud (c := 124 + it) (v := g (124 + it) + 1) (NR_ud (c := 123) (v := g 123 + 1) (NR_ud (c := 140) (v := min 20 (g 123 + 1)) (NR_ud (c := 143) (v := g 122) (NR_ud (c := 142) (v := ra) (NR_ud (c := 141) (v := it) a1)))))
  refine ⟨_, NR_c hN fun k hk => ?_, fun k j h => ?_, fun Q => ?_⟩
  · unfold recG ud
    by_cases b1 : k = 124 + it
    · rw [if_pos b1, if_pos b1, b1]
    · rw [if_neg b1, if_neg b1]
      by_cases b2 : k = 123
      · rw [if_pos b2, if_pos b2]
      · rw [if_neg b2, if_neg b2]
        by_cases b3 : k = 140
        · rw [if_pos b3, if_pos b3]
        · rw [if_neg b3, if_neg b3]
          by_cases b4 : k = 141
          · rw [if_pos b4, if_neg (by omega), if_neg (by omega), if_pos b4]
          · rw [if_neg b4]
            by_cases b5 : k = 142
            · rw [if_pos b5, if_neg (by omega), if_pos b5]
            · rw [if_neg b5]
              by_cases b6 : k = 143
              · rw [if_pos b6, if_pos b6]
              · rw [if_neg b6, if_neg b6, if_neg b5, if_neg b4]
                unfold shG
                by_cases b7 : 144 ≤ k ∧ k < 201
                · rw [if_pos b7, if_pos (by omega)]
                · rw [if_neg b7, if_neg (by omega)]
  · simp (disch := omega) only [xu_n]
    exact a2 k j h
  · have e1 : ∀ Q, X (d - 1) 195 36 [.ref 150, .int (nI it), .int (nI ra), .int (nI 2)] [] P J L C Q = Q (.inl none) P (xu (xu (xu (xu (xu (xu J 151 141 (nI it)) 151 142 (nI ra)) 151 143 (nI (g 122))) 151 140 (nI (min 20 (g 123 + 1)))) 151 123 (nI (g 123 + 1))) 151 (124 + it) (nI (g (124 + it) + 1))) L C := fun Q => by
      rw [X_go, d195_36]
      by_cases z : 20 ≤ g 140
      · have hz : min 20 (g 123 + 1) = g 140 := by omega
        rw [hz]
        simp (disch := first | assumption | omega) only [Nat.reduceAdd, X_go, go2_some, stp, ldI, ldA, ldL, stI, stA, stL, o1I, o2I, o2L, brI, brII, gl, s1, s2, k1, sl, go_sN, go_sR, go_CT, go_sT, go_no, go_if, pops, bk_v, bk_0, d195_0, d195_2, d195_4, d195_5, d195_8, d195_9, d195_12, d195_15, d195_16, d195_17, d195_18, d195_21, d195_24, d195_25, d195_26, d195_27, d195_28, d195_29, d195_30, d195_33, d195_37, d195_40, d195_43, d195_44, d195_45, d195_46, d195_49, d195_52, d195_53, d195_54, d195_55, d195_58, d195_61, d195_62, d195_65, d195_67, d195_68, d195_69, d195_70, d195_73, d195_76, d195_77, d195_78, d195_79, d195_82, d195_85, d195_86, d195_88, d195_91, d195_92, d195_95, d195_96, d195_97, d195_98, d195_99, d195_102, d195_104, d195_105, d195_106, d195_107, d195_108, d195_109, d195_110, d195_113, d195_115, d195_116, d195_117, d195_118, d195_119, d195_120, d195_121, d195_122, n_lt, n_le, n_eq, n_lt0, n_ge0, n_gt0, n_le0, n_eq0, m_lt, m_le, m_gt, m_ge, m_eq, m_eq', m_lt0, m_ge0, m_gt0, m_le0, m_ltm, m_lem, n_in, m_in, n_cl, n_ti, n_div, n_rem', n_dec, n_l, nI_add, pk_mul, an0, an1, decide_eq_true_eq, if_true, if_false, ite_true, ite_false, and_true, true_and, and_false, false_and, not_true, not_false_iff, or_false, false_or, or_true, true_or, eq_self, va_some, Bool.false_eq_true, reduceIte, catS_n, catS_i, catS_r, catS_l, catS_d, Nat.zero_add, Nat.add_zero, decide_true, decide_false, Nat.reduceLeDiff, cat_r, cat_i, cat_l, nle_T, nle_F, nlt_T, nlt_F, neq_T, neq_F, k0, p0, y1, h122, h140', h123, hit, xu_n, z]
        done
      · have hz : min 20 (g 123 + 1) = g 140 + 1 := by omega
        rw [hz]
        simp (disch := first | assumption | omega) only [Nat.reduceAdd, X_go, go2_some, stp, ldI, ldA, ldL, stI, stA, stL, o1I, o2I, o2L, brI, brII, gl, s1, s2, k1, sl, go_sN, go_sR, go_CT, go_sT, go_no, go_if, pops, bk_v, bk_0, d195_0, d195_2, d195_4, d195_5, d195_8, d195_9, d195_12, d195_15, d195_16, d195_17, d195_18, d195_21, d195_24, d195_25, d195_26, d195_27, d195_28, d195_29, d195_30, d195_33, d195_37, d195_40, d195_43, d195_44, d195_45, d195_46, d195_49, d195_52, d195_53, d195_54, d195_55, d195_58, d195_61, d195_62, d195_65, d195_67, d195_68, d195_69, d195_70, d195_73, d195_76, d195_77, d195_78, d195_79, d195_82, d195_85, d195_86, d195_88, d195_91, d195_92, d195_95, d195_96, d195_97, d195_98, d195_99, d195_102, d195_104, d195_105, d195_106, d195_107, d195_108, d195_109, d195_110, d195_113, d195_115, d195_116, d195_117, d195_118, d195_119, d195_120, d195_121, d195_122, n_lt, n_le, n_eq, n_lt0, n_ge0, n_gt0, n_le0, n_eq0, m_lt, m_le, m_gt, m_ge, m_eq, m_eq', m_lt0, m_ge0, m_gt0, m_le0, m_ltm, m_lem, n_in, m_in, n_cl, n_ti, n_div, n_rem', n_dec, n_l, nI_add, pk_mul, an0, an1, decide_eq_true_eq, if_true, if_false, ite_true, ite_false, and_true, true_and, and_false, false_and, not_true, not_false_iff, or_false, false_or, or_true, true_or, eq_self, va_some, Bool.false_eq_true, reduceIte, catS_n, catS_i, catS_r, catS_l, catS_d, Nat.zero_add, Nat.add_zero, decide_true, decide_false, Nat.reduceLeDiff, cat_r, cat_i, cat_l, nle_T, nle_F, nlt_T, nlt_F, neq_T, neq_F, k0, p0, y1, h122, h140', h123, hit, xu_n, z]
        done
    have e1 := e1 Q
    rw [← e1, ← a3]
    rw [CT_e (mj := 195) (e := [.ref 150, .int (nI it), .int (nI ra), UN]) (by omega) rfl (Nat.le_of_ble_eq_true rfl)]
    simp (disch := first | assumption | omega) only [Nat.reduceAdd, X_go, go2_some, stp, ldI, ldA, ldL, stI, stA, stL, o1I, o2I, o2L, brI, brII, gl, s1, s2, k1, sl, go_sN, go_sR, go_CT, go_sT, go_no, go_if, pops, bk_v, bk_0, d195_0, d195_2, d195_4, d195_5, d195_8, d195_9, d195_12, d195_15, d195_16, d195_17, d195_18, d195_21, d195_24, d195_25, d195_26, d195_27, d195_28, d195_29, d195_30, d195_33, d195_37, d195_40, d195_43, d195_44, d195_45, d195_46, d195_49, d195_52, d195_53, d195_54, d195_55, d195_58, d195_61, d195_62, d195_65, d195_67, d195_68, d195_69, d195_70, d195_73, d195_76, d195_77, d195_78, d195_79, d195_82, d195_85, d195_86, d195_88, d195_91, d195_92, d195_95, d195_96, d195_97, d195_98, d195_99, d195_102, d195_104, d195_105, d195_106, d195_107, d195_108, d195_109, d195_110, d195_113, d195_115, d195_116, d195_117, d195_118, d195_119, d195_120, d195_121, d195_122, n_lt, n_le, n_eq, n_lt0, n_ge0, n_gt0, n_le0, n_eq0, m_lt, m_le, m_gt, m_ge, m_eq, m_eq', m_lt0, m_ge0, m_gt0, m_le0, m_ltm, m_lem, n_in, m_in, n_cl, n_ti, n_div, n_rem', n_dec, n_l, nI_add, pk_mul, an0, an1, decide_eq_true_eq, if_true, if_false, ite_true, ite_false, and_true, true_and, and_false, false_and, not_true, not_false_iff, or_false, false_or, or_true, true_or, eq_self, va_some, Bool.false_eq_true, reduceIte, catS_n, catS_i, catS_r, catS_l, catS_d, Nat.zero_add, Nat.add_zero, decide_true, decide_false, Nat.reduceLeDiff, cat_r, cat_i, cat_l, nle_T, nle_F, nlt_T, nlt_F, neq_T, neq_F]
    done
