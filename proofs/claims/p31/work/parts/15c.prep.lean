/-! PREPARE -/
def fI (fd : Nat) : Int32 := nI (fd + 4294967295)
theorem fI_0 : fI 0 = nI 4294967295 := rfl
theorem fI_s {n : Nat} : fI (n + 1) = nI n := n_dec (a := n + 1) (by omega)
theorem fI_le {r fd : Nat} (hr : r < 2147483648) (hf : fd < 2147483648) : (nI r ≤ fI fd) = (r < fd) := by
  rcases fd with _ | n
  · rw [fI_0, m_le hr]; exact (eq_false (by omega)).symm
  · rw [fI_s, n_le hr (by omega)]; exact propext ⟨fun h => by omega, fun h => by omega⟩
theorem fI_lt {r fd : Nat} (hr : r < 2147483648) (hf : fd < 2147483648) : (fI fd < nI r) = (fd ≤ r) := by
  rcases fd with _ | n
  · rw [fI_0, m_gt hr]; exact (eq_true (by omega)).symm
  · rw [fI_s, n_lt (by omega) hr]; exact propext ⟨fun h => by omega, fun h => by omega⟩
theorem fI_lt' {r fd : Nat} (hr : r < 2147483648) (hf : fd < 2147483648) : (nI r < fI fd) = (r + 1 < fd) := by
  rcases fd with _ | n
  · rw [fI_0, m_lt hr]; exact (eq_false (by omega)).symm
  · rw [fI_s, n_lt hr (by omega)]; exact propext ⟨fun h => by omega, fun h => by omega⟩
def wqr (g : GS) (sp gr : SP) (fd lo : Nat) : Nat → Nat
  | 0 => 0
  | r + 1 => if (due g (r + 1) && decide (fd ≤ r + 1) && has g (r + 1) sp gr lo) = true then r + 1 else wqr g sp gr fd lo r
theorem wqr_3 {g : GS} {sp gr : SP} {fd lo : Nat} : wqr g sp gr fd lo 3 = wq g sp gr fd lo := rfl
theorem wqr_0 {g : GS} {sp gr : SP} {fd lo : Nat} : ∀ r, r < fd → wqr g sp gr fd lo r = 0 := by
  intro r
  induction r with
  | zero => intro _; rfl
  | succ r ih =>
    intro h
    unfold wqr
    rw [decide_eq_false (by omega), Bool.and_false, Bool.false_and, if_neg Bool.false_ne_true, ih (by omega)]
def prI (D : Nat) (g : GS) (sp gr : SP) (fd lo : Nat) : Nat → MI → MI
  | 0, I => xu (wM I D g 0 sp gr lo) D 2 (nI 0)
  | r + 1, I => if fd ≤ r + 1 then (if due g (r + 1) = true then (if has g (r + 1) sp gr lo = true then xu (wM I D g (r + 1) sp gr lo) D 2 (nI (r + 1)) else prI D g sp gr fd lo r (wM I D g (r + 1) sp gr lo)) else prI D g sp gr fd lo r I) else xu (wM I D g 0 sp gr lo) D 2 (nI 0)
theorem prI_n {D : Nat} {g : GS} {sp gr : SP} {fd lo k j : Nat} (h : k < D ∨ D + 2 < k) : ∀ r I, prI D g sp gr fd lo r I k j = I k j := by
  intro r
  induction r with
  | zero => intro I; unfold prI; rw [xu_n _ _ (by omega), wM_n (by omega) (by omega)]
  | succ r ih =>
    intro I
    unfold prI
    split
    · split
      · split
        · rw [xu_n _ _ (by omega), wM_n (by omega) (by omega)]
        · rw [ih, wM_n (by omega) (by omega)]
      · exact ih I
    · rw [xu_n _ _ (by omega), wM_n (by omega) (by omega)]
theorem prI_p {D : Nat} {g : GS} {sp gr : SP} {fd lo : Nat} (hv : TV g) : ∀ r I, prI D g sp gr fd lo r I D 2 = nI (wqr g sp gr fd lo r) ∧ (∀ t, lo ≤ t → t < 3 → prI D g sp gr fd lo r I (D + 2) t = nI (sw g (wqr g sp gr fd lo r) sp gr t)) ∧ ∀ t e, lo ≤ t → t < 3 → e < g (3 + t) → prI D g sp gr fd lo r I (D + 1) (6 * t + e) = nI (wt g (wqr g sp gr fd lo r) sp gr t e) := by
  have base : ∀ q I, (xu (wM I D g q sp gr lo) D 2 (nI q)) D 2 = nI q ∧ (∀ t, lo ≤ t → t < 3 → (xu (wM I D g q sp gr lo) D 2 (nI q)) (D + 2) t = nI (sw g q sp gr t)) ∧ ∀ t e, lo ≤ t → t < 3 → e < g (3 + t) → (xu (wM I D g q sp gr lo) D 2 (nI q)) (D + 1) (6 * t + e) = nI (wt g q sp gr t e) := by
    intro q I
    refine ⟨xu_s _ _ _ _, fun t h ht => ?_, fun t e h ht he => ?_⟩
    · rw [xu_n _ _ (by omega), wM_s h ht]
    · rw [xu_n _ _ (by omega), wM_w hv h ht he]
  intro r
  induction r with
  | zero => intro I; exact base 0 I
  | succ r ih =>
    intro I
    unfold prI wqr
    by_cases h1 : fd ≤ r + 1
    · rw [if_pos h1, decide_eq_true h1]
      by_cases h2 : due g (r + 1) = true
      · rw [if_pos h2, h2, Bool.true_and, Bool.true_and]
        by_cases h3 : has g (r + 1) sp gr lo = true
        · rw [if_pos h3, if_pos h3]; exact base (r + 1) I
        · rw [if_neg h3, if_neg h3]; exact ih _
      · rw [if_neg h2]
        rw [Bool.not_eq_true] at h2
        rw [h2, Bool.false_and, Bool.false_and, if_neg Bool.false_ne_true]
        exact ih I
    · rw [if_neg h1, decide_eq_false h1, Bool.and_false, Bool.false_and, if_neg Bool.false_ne_true, wqr_0 r (by omega)]
      exact base 0 I
theorem d64_0 : dec 64 0 = some (.iconst 3, 1, [3]) := rfl
theorem d64_1 : dec 64 1 = some (.istore 5, 2, []) := rfl
theorem d64_3 : dec 64 3 = some (.iload 5, 2, []) := rfl
theorem d64_5 : dec 64 5 = some (.iconst 1, 1, [1]) := rfl
theorem d64_6 : dec 64 6 = some (.if_icmp .lt 52, 3, [58]) := rfl
theorem d64_9 : dec 64 9 = some (.iload 5, 2, []) := rfl
theorem d64_11 : dec 64 11 = some (.iload 4, 2, []) := rfl
theorem d64_13 : dec 64 13 = some (.if_icmp .le 45, 3, [58]) := rfl
theorem d64_16 : dec 64 16 = some (.aload_n 1, 1, []) := rfl
theorem d64_17 : dec 64 17 = some (.getfield 18, 3, [1, 6, 1, 2, 1, 142]) := rfl
theorem d64_20 : dec 64 20 = some (.iload 5, 2, []) := rfl
theorem d64_22 : dec 64 22 = some (.invokevirtual 24, 3, [2, 65, 2, 3, 0, 541, 0]) := rfl
theorem d64_25 : dec 64 25 = some (.ifCond .eq 27, 3, [52]) := rfl
theorem d64_28 : dec 64 28 = some (.aload_n 0, 1, []) := rfl
theorem d64_29 : dec 64 29 = some (.aload_n 1, 1, []) := rfl
theorem d64_30 : dec 64 30 = some (.iload_n 2, 1, []) := rfl
theorem d64_31 : dec 64 31 = some (.iload_n 3, 1, []) := rfl
theorem d64_32 : dec 64 32 = some (.iload 5, 2, []) := rfl
theorem d64_34 : dec 64 34 = some (.invokevirtual 30, 3, [2, 66, 2, 1, 0, 545, 0, 0, 0, 2]) := rfl
theorem d64_37 : dec 64 37 = some (.aload_n 0, 1, []) := rfl
theorem d64_38 : dec 64 38 = some (.iload_n 2, 1, []) := rfl
theorem d64_39 : dec 64 39 = some (.invokevirtual 34, 3, [2, 70, 2, 1, 0, 569, 0]) := rfl
theorem d64_42 : dec 64 42 = some (.ifCond .le 10, 3, [52]) := rfl
theorem d64_45 : dec 64 45 = some (.aload_n 0, 1, []) := rfl
theorem d64_46 : dec 64 46 = some (.iload 5, 2, []) := rfl
theorem d64_48 : dec 64 48 = some (.putfield 38, 3, [1, 1, 2, 0, 0, 211]) := rfl
theorem d64_51 : dec 64 51 = some (.return_, 1, []) := rfl
theorem d64_52 : dec 64 52 = some (.iinc 5 (-1), 3, [4294967295]) := rfl
theorem d64_55 : dec 64 55 = some (.goto (-52), 3, [3]) := rfl
theorem d64_58 : dec 64 58 = some (.aload_n 0, 1, []) := rfl
theorem d64_59 : dec 64 59 = some (.aload_n 1, 1, []) := rfl
theorem d64_60 : dec 64 60 = some (.iload_n 2, 1, []) := rfl
theorem d64_61 : dec 64 61 = some (.iload_n 3, 1, []) := rfl
theorem d64_62 : dec 64 62 = some (.iconst 0, 1, [0]) := rfl
theorem d64_63 : dec 64 63 = some (.invokevirtual 30, 3, [2, 66, 2, 1, 0, 545, 0, 0, 0, 2]) := rfl
theorem d64_66 : dec 64 66 = some (.aload_n 0, 1, []) := rfl
theorem d64_67 : dec 64 67 = some (.iconst 0, 1, [0]) := rfl
theorem d64_68 : dec 64 68 = some (.putfield 38, 3, [1, 1, 2, 0, 0, 211]) := rfl
theorem d64_71 : dec 64 71 = some (.return_, 1, []) := rfl
theorem l64 : mL 64 = 6 := rfl
theorem f64 {d : Nat} {P : MP} {L : ML} {C : MC} {Q : QT} {D b fd lo : Nat} {x : Int32} {g : GS} {sp gr : SP} (hD : DB P D) (hb : SB P b) (hv : TV g) (hl : LV g) (hx : CB g x sp gr) (hbD : b + 17 < D) (hd : 6 ≤ d) (hlo : lo < 3) (hf : fd ≤ 4) : ∀ r (I : MI), r ≤ 3 → RC I b g → X d 64 3 [.ref D, .ref b, .int (nI lo), .int x, .int (fI fd), .int (nI r)] [] P I L C Q = Q (.inl none) P (prI D g sp gr fd lo r I) L C := by
  have hD' := hD
  have hb' := hb
  obtain ⟨k0, p0, p1, z1, z2⟩ := hD'
  obtain ⟨l0, r0, r1, r2, hT, hK, hF⟩ := hb'
  have hK0 := hK.1
  intro r
  induction r with
  | zero =>
    intro I h hg
    rw [X_go, d64_3]
    unfold prI
    simp (disch := first | assumption | omega) only [Nat.reduceAdd, X_go, go2_some, stp, ldI, ldA, ldL, stI, stA, stL, o1I, o2I, o2L, brI, brII, gl, s1, s2, k1, sl, go_sN, go_sR, go_CT, go_sT, go_no, go_if, pops, bk_v, bk_0, d64_0, d64_1, d64_5, d64_6, d64_9, d64_11, d64_13, d64_16, d64_17, d64_20, d64_22, d64_25, d64_28, d64_29, d64_30, d64_31, d64_32, d64_34, d64_37, d64_38, d64_39, d64_42, d64_45, d64_46, d64_48, d64_51, d64_52, d64_55, d64_58, d64_59, d64_60, d64_61, d64_62, d64_63, d64_66, d64_67, d64_68, d64_71, n_lt, n_le, n_eq, n_lt0, n_ge0, n_gt0, n_le0, n_eq0, m_lt, m_le, m_gt, m_ge, m_eq, m_eq', m_lt0, m_ge0, m_gt0, m_le0, m_ltm, m_lem, n_in, m_in, n_cl, n_ti, n_div, n_rem', n_dec, n_l, nI_add, pk_mul, an0, an1, decide_eq_true_eq, if_true, if_false, ite_true, ite_false, and_true, true_and, and_false, false_and, not_true, not_false_iff, or_false, false_or, or_true, true_or, eq_self, va_some, Bool.false_eq_true, reduceIte, catS_n, catS_i, catS_r, catS_l, catS_d, Nat.zero_add, Nat.add_zero, decide_true, decide_false, Nat.reduceLeDiff, cat_r, cat_i, cat_l, nle_T, nle_F, nlt_T, nlt_F, neq_T, neq_F, k0, c66 hD hb hg hv hl hx hbD]
  | succ r ih =>
    intro I h hg
    have hg1 : RC (wM I D g (r + 1) sp gr lo) b g := RC_fr hg fun k j _ _ => wM_n (by omega) (by omega)
    have hsb := sw_b (q := r + 1) (sp := sp) (gr := gr) hv hl hlo
    have hsp := sw_p (q := r + 1) (sp := sp) (gr := gr) hv hl hlo
    rw [X_go, d64_3]
    unfold prI
    by_cases h1 : fd ≤ r + 1
    · by_cases h2 : due g (r + 1) = true
      · by_cases h3 : has g (r + 1) sp gr lo = true
        · have hsp := hsp.mpr h3
          simp (disch := first | assumption | omega) only [Nat.reduceAdd, X_go, go2_some, stp, ldI, ldA, ldL, stI, stA, stL, o1I, o2I, o2L, brI, brII, gl, s1, s2, k1, sl, go_sN, go_sR, go_CT, go_sT, go_no, go_if, pops, bk_v, bk_0, d64_0, d64_1, d64_5, d64_6, d64_9, d64_11, d64_13, d64_16, d64_17, d64_20, d64_22, d64_25, d64_28, d64_29, d64_30, d64_31, d64_32, d64_34, d64_37, d64_38, d64_39, d64_42, d64_45, d64_46, d64_48, d64_51, d64_52, d64_55, d64_58, d64_59, d64_60, d64_61, d64_62, d64_63, d64_66, d64_67, d64_68, d64_71, n_lt, n_le, n_eq, n_lt0, n_ge0, n_gt0, n_le0, n_eq0, m_lt, m_le, m_gt, m_ge, m_eq, m_eq', m_lt0, m_ge0, m_gt0, m_le0, m_ltm, m_lem, n_in, m_in, n_cl, n_ti, n_div, n_rem', n_dec, n_l, nI_add, pk_mul, an0, an1, decide_eq_true_eq, if_true, if_false, ite_true, ite_false, and_true, true_and, and_false, false_and, not_true, not_false_iff, or_false, false_or, or_true, true_or, eq_self, va_some, Bool.false_eq_true, reduceIte, catS_n, catS_i, catS_r, catS_l, catS_d, Nat.zero_add, Nat.add_zero, decide_true, decide_false, Nat.reduceLeDiff, cat_r, cat_i, cat_l, nle_T, nle_F, nlt_T, nlt_F, neq_T, neq_F, k0, l0, r1, hK0, fI_le, c65 hK hg.2.1 hl, h1, h2, h3, c66 hD hb hg hv hl hx hbD, c70 hD, wM_s]
        · have hsp : ¬ 0 < sw g (r + 1) sp gr lo := fun z => h3 (hsp.mp z)
          simp (disch := first | assumption | omega) only [Nat.reduceAdd, X_go, go2_some, stp, ldI, ldA, ldL, stI, stA, stL, o1I, o2I, o2L, brI, brII, gl, s1, s2, k1, sl, go_sN, go_sR, go_CT, go_sT, go_no, go_if, pops, bk_v, bk_0, d64_0, d64_1, d64_5, d64_6, d64_9, d64_11, d64_13, d64_16, d64_17, d64_20, d64_22, d64_25, d64_28, d64_29, d64_30, d64_31, d64_32, d64_34, d64_37, d64_38, d64_39, d64_42, d64_45, d64_46, d64_48, d64_51, d64_52, d64_55, d64_58, d64_59, d64_60, d64_61, d64_62, d64_63, d64_66, d64_67, d64_68, d64_71, n_lt, n_le, n_eq, n_lt0, n_ge0, n_gt0, n_le0, n_eq0, m_lt, m_le, m_gt, m_ge, m_eq, m_eq', m_lt0, m_ge0, m_gt0, m_le0, m_ltm, m_lem, n_in, m_in, n_cl, n_ti, n_div, n_rem', n_dec, n_l, nI_add, pk_mul, an0, an1, decide_eq_true_eq, if_true, if_false, ite_true, ite_false, and_true, true_and, and_false, false_and, not_true, not_false_iff, or_false, false_or, or_true, true_or, eq_self, va_some, Bool.false_eq_true, reduceIte, catS_n, catS_i, catS_r, catS_l, catS_d, Nat.zero_add, Nat.add_zero, decide_true, decide_false, Nat.reduceLeDiff, cat_r, cat_i, cat_l, nle_T, nle_F, nlt_T, nlt_F, neq_T, neq_F, k0, l0, r1, hK0, fI_le, c65 hK hg.2.1 hl, h1, h2, h3, c66 hD hb hg hv hl hx hbD, c70 hD, wM_s]
          simp only [← X_go]
          exact ih _ (by omega) hg1
      · simp (disch := first | assumption | omega) only [Nat.reduceAdd, X_go, go2_some, stp, ldI, ldA, ldL, stI, stA, stL, o1I, o2I, o2L, brI, brII, gl, s1, s2, k1, sl, go_sN, go_sR, go_CT, go_sT, go_no, go_if, pops, bk_v, bk_0, d64_0, d64_1, d64_5, d64_6, d64_9, d64_11, d64_13, d64_16, d64_17, d64_20, d64_22, d64_25, d64_28, d64_29, d64_30, d64_31, d64_32, d64_34, d64_37, d64_38, d64_39, d64_42, d64_45, d64_46, d64_48, d64_51, d64_52, d64_55, d64_58, d64_59, d64_60, d64_61, d64_62, d64_63, d64_66, d64_67, d64_68, d64_71, n_lt, n_le, n_eq, n_lt0, n_ge0, n_gt0, n_le0, n_eq0, m_lt, m_le, m_gt, m_ge, m_eq, m_eq', m_lt0, m_ge0, m_gt0, m_le0, m_ltm, m_lem, n_in, m_in, n_cl, n_ti, n_div, n_rem', n_dec, n_l, nI_add, pk_mul, an0, an1, decide_eq_true_eq, if_true, if_false, ite_true, ite_false, and_true, true_and, and_false, false_and, not_true, not_false_iff, or_false, false_or, or_true, true_or, eq_self, va_some, Bool.false_eq_true, reduceIte, catS_n, catS_i, catS_r, catS_l, catS_d, Nat.zero_add, Nat.add_zero, decide_true, decide_false, Nat.reduceLeDiff, cat_r, cat_i, cat_l, nle_T, nle_F, nlt_T, nlt_F, neq_T, neq_F, k0, l0, r1, hK0, fI_le, c65 hK hg.2.1 hl, h1, h2]
        simp only [← X_go]
        exact ih _ (by omega) hg
    · simp (disch := first | assumption | omega) only [Nat.reduceAdd, X_go, go2_some, stp, ldI, ldA, ldL, stI, stA, stL, o1I, o2I, o2L, brI, brII, gl, s1, s2, k1, sl, go_sN, go_sR, go_CT, go_sT, go_no, go_if, pops, bk_v, bk_0, d64_0, d64_1, d64_5, d64_6, d64_9, d64_11, d64_13, d64_16, d64_17, d64_20, d64_22, d64_25, d64_28, d64_29, d64_30, d64_31, d64_32, d64_34, d64_37, d64_38, d64_39, d64_42, d64_45, d64_46, d64_48, d64_51, d64_52, d64_55, d64_58, d64_59, d64_60, d64_61, d64_62, d64_63, d64_66, d64_67, d64_68, d64_71, n_lt, n_le, n_eq, n_lt0, n_ge0, n_gt0, n_le0, n_eq0, m_lt, m_le, m_gt, m_ge, m_eq, m_eq', m_lt0, m_ge0, m_gt0, m_le0, m_ltm, m_lem, n_in, m_in, n_cl, n_ti, n_div, n_rem', n_dec, n_l, nI_add, pk_mul, an0, an1, decide_eq_true_eq, if_true, if_false, ite_true, ite_false, and_true, true_and, and_false, false_and, not_true, not_false_iff, or_false, false_or, or_true, true_or, eq_self, va_some, Bool.false_eq_true, reduceIte, catS_n, catS_i, catS_r, catS_l, catS_d, Nat.zero_add, Nat.add_zero, decide_true, decide_false, Nat.reduceLeDiff, cat_r, cat_i, cat_l, nle_T, nle_F, nlt_T, nlt_F, neq_T, neq_F, k0, l0, r1, hK0, fI_le, h1, c66 hD hb hg hv hl hx hbD]
theorem c64 {d : Nat} {P : MP} {I : MI} {L : ML} {C : MC} {Q : QT} {D b fd lo : Nat} {x : Int32} {g : GS} {sp gr : SP} (hD : DB P D) (hb : SB P b) (hg : RC I b g) (hv : TV g) (hl : LV g) (hx : CB g x sp gr) (hbD : b + 17 < D) (hd : 7 ≤ d) (hlo : lo < 3) (hf : fd ≤ 4) : CT d 64 [.ref D, .ref b, .int (nI lo), .int x, .int (fI fd)] P I L C Q = Q (.inl none) P (prI D g sp gr fd lo 3 I) L C := by
  rw [CT_e (mj := 64) (e := [.ref D, .ref b, .int (nI lo), .int x, .int (fI fd), UN]) (by omega) rfl (Nat.le_of_ble_eq_true rfl)]
  simp (disch := first | assumption | omega) only [Nat.reduceAdd, X_go, go2_some, stp, ldI, ldA, ldL, stI, stA, stL, o1I, o2I, o2L, brI, brII, gl, s1, s2, k1, sl, go_sN, go_sR, go_CT, go_sT, go_no, go_if, pops, bk_v, bk_0, d64_0, d64_1, d64_5, d64_6, d64_9, d64_11, d64_13, d64_16, d64_17, d64_20, d64_22, d64_25, d64_28, d64_29, d64_30, d64_31, d64_32, d64_34, d64_37, d64_38, d64_39, d64_42, d64_45, d64_46, d64_48, d64_51, d64_52, d64_55, d64_58, d64_59, d64_60, d64_61, d64_62, d64_63, d64_66, d64_67, d64_68, d64_71, n_lt, n_le, n_eq, n_lt0, n_ge0, n_gt0, n_le0, n_eq0, m_lt, m_le, m_gt, m_ge, m_eq, m_eq', m_lt0, m_ge0, m_gt0, m_le0, m_ltm, m_lem, n_in, m_in, n_cl, n_ti, n_div, n_rem', n_dec, n_l, nI_add, pk_mul, an0, an1, decide_eq_true_eq, if_true, if_false, ite_true, ite_false, and_true, true_and, and_false, false_and, not_true, not_false_iff, or_false, false_or, or_true, true_or, eq_self, va_some, Bool.false_eq_true, reduceIte, catS_n, catS_i, catS_r, catS_l, catS_d, Nat.zero_add, Nat.add_zero, decide_true, decide_false, Nat.reduceLeDiff, cat_r, cat_i, cat_l, nle_T, nle_F, nlt_T, nlt_F, neq_T, neq_F]
  simp only [← X_go]
  exact f64 hD hb hv hl hx hbD (by omega) hlo hf 3 I (by omega) hg
