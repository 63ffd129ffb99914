/-! THE MODEL: parse, whole -/
theorem all_nI (x : Int32) : ∃ v, x = nI v := ⟨x.toBitVec.toNat, by
  apply Int32.toBitVec_inj.mp
  show x.toBitVec = BitVec.ofNat 32 x.toBitVec.toNat
  rw [BitVec.ofNat_toNat, BitVec.setWidth_eq]⟩
theorem c216 {d : Nat} {P : MP} {I : MI} {L : ML} {C : MC} {B n len : Nat} {g : GS} {ps : Nat → GS} {tx : Nat → Nat} (hM : MB P) (hR : ZR I g n ps len tx) (hA : AV B g n ps len tx) (hB : B ≤ 1000000) (hd : 9 ≤ d) : (∃ f I', rAll tx len 160 0 (empG g) = .inl f ∧ f < 1000 ∧ ZR I' g n ps len tx ∧ I' 150 4 = nI 0 ∧ fm I I' ∧ ∀ Q, CT d 216 [.ref 150] P I L C Q = Q (.inl (some (.int (nI 4294967286 - nI f)))) P I' L C) ∨ (∃ g' I', rAll tx len 160 0 (empG g) = .inr g' ∧ ZR I' g' (puN n) (puS n ps g) len tx ∧ I' 150 4 = nI 0 ∧ fm I I' ∧ ∀ Q, CT d 216 [.ref 150] P I L C Q = Q (.inl (some (.int (nI (g' 3 + g' 4 + g' 5))))) P I' L C) := by
  have hM' := hM
  obtain ⟨⟨k0, p0, p1, p2, p5, y1, y2, y3, y4⟩, _⟩ := hM'
  have hR' := hR
  obtain ⟨hN, h3, hps', h6, htx'⟩ := hR'
  have hA' := hA
  obtain ⟨hGV, hps, hn4, hlen, htx⟩ := hA'
  have h140 := GV_140 hGV
  have hv := hGV.1
  have hl := hGV.2.1
  have hFv := hGV.2.2
  have hR0 : ZR (xu I 150 4 (nI 0)) g n ps len tx := ZR_4 hR
  have hN0 := hR0.1
  obtain ⟨J, j1, j2, j3⟩ := c211 (d := d - 1) (L := L) (C := C) hM hN0 (by omega)
  have hNJ : NR J g := NR_fr hN0 fun j => j2 _ _ (by omega)
  obtain ⟨v, hv23⟩ := all_nI (emI J 150 23)
  have hR1 : ZR J g n ps len tx := by
    obtain ⟨q1, q2, q3, q4, q5⟩ := hR0
    exact ⟨hNJ, by rw [j2 _ _ (by omega)]; exact q2, fun i k hi hk => by rw [j2 _ _ (by omega)]; exact q3 i k hi hk, by rw [j2 _ _ (by omega)]; exact q4, fun i hi => by rw [j2 _ _ (by omega)]; exact q5 i hi⟩
  have hJ4 : J 150 4 = nI 0 := by rw [j2 _ _ (by omega), xu_s]
  have hJo : ∀ k j, k < 150 ∨ 168 < k → J k j = I k j := fun k j h => by rw [j2 _ _ (by omega), xu_n _ _ (by omega)]
  have hNe := NR_em hNJ
  have hTY : TY (emI J) len tx := ⟨⟨by rw [emI_o (by omega)]; exact hR1.2.2.2.1, fun i hi => by rw [emI_o (by omega)]; exact hR1.2.2.2.2 i hi⟩, hlen, htx⟩
  have hms : xu (emI J) 150 22 (nI 0) = mS (emI J) 0 v := by
    unfold mS
    exact (xu_id _ (by rw [xu_n _ _ (by omega)]; exact hv23)).symm
  have start : ∀ Q, CT d 216 [.ref 150] P I L C Q = X (d - 1) 216 45 [.ref 150, .int (nI 3)] [] P (mS (emI J) 0 v) L C Q := fun Q => by
    rw [← hms]
    unfold emI
    rw [CT_e (mj := 216) (e := [.ref 150, UN]) (by omega) rfl (Nat.le_of_ble_eq_true rfl)]
    simp (disch := first | assumption | omega) only [Nat.reduceAdd, X_go, go2_some, stp, ldI, ldA, ldL, stI, stA, stL, o1I, o2I, o2L, brI, brII, gl, s1, s2, k1, sl, go_sN, go_sR, go_CT, go_sT, go_no, go_if, pops, bk_v, bk_0, d216_0, d216_1, d216_2, d216_5, d216_6, d216_9, d216_10, d216_11, d216_12, d216_13, d216_16, d216_17, d216_20, d216_21, d216_22, d216_23, d216_24, d216_25, d216_26, d216_29, d216_30, d216_31, d216_32, d216_33, d216_34, d216_37, d216_40, d216_41, d216_42, d216_46, d216_49, d216_50, d216_53, d216_56, d216_57, d216_59, d216_62, d216_65, d216_66, d216_69, d216_72, d216_75, d216_76, d216_78, d216_81, d216_84, d216_85, d216_88, d216_91, d216_92, d216_95, d216_97, d216_98, d216_101, d216_102, d216_103, d216_104, d216_105, d216_106, d216_109, d216_112, d216_113, d216_116, d216_117, d216_118, d216_121, d216_122, d216_123, d216_124, d216_127, d216_130, d216_131, d216_134, d216_135, d216_138, d216_139, d216_140, d216_141, d216_144, d216_147, d216_148, d216_151, d216_152, d216_153, d216_156, d216_157, d216_158, d216_159, d216_162, d216_165, d216_166, d216_167, d216_170, n_lt, n_le, n_eq, n_lt0, n_ge0, n_gt0, n_le0, n_eq0, m_lt, m_le, m_gt, m_ge, m_eq, m_eq', m_lt0, m_ge0, m_gt0, m_le0, m_ltm, m_lem, n_in, m_in, n_cl, n_ti, n_div, n_rem', n_dec, n_l, nI_add, pk_mul, an0, an1, decide_eq_true_eq, if_true, if_false, ite_true, ite_false, and_true, true_and, and_false, false_and, not_true, not_false_iff, or_false, false_or, or_true, true_or, eq_self, va_some, Bool.false_eq_true, reduceIte, catS_n, catS_i, catS_r, catS_l, catS_d, Nat.zero_add, Nat.add_zero, decide_true, decide_false, Nat.reduceLeDiff, cat_r, cat_i, cat_l, nle_T, nle_F, nlt_T, nlt_F, neq_T, neq_F, k0, p0, y1, j3]
    done
  -- back to the row put aside
  have back : ∀ (M : MI), (∀ j, M 153 j = J 153 j) → (∀ k j, k ≠ 150 → k ≠ 151 → k ≠ 168 → M k j = J k j) → (∀ j, j < 22 → M 150 j = J 150 j) → ∃ M', ZR M' g n ps len tx ∧ (∀ k j, k ≠ 151 → M' k j = M k j) ∧ ∀ Q, CT (d - 1) 212 [.ref 150] P M L C Q = Q (.inl none) P M' L C := fun M h1 h2 h3' => by
    obtain ⟨M', q1, q2, q3⟩ := c212 (d := d - 1) (L := L) (C := C) hM (KR_fr j1 h1) (by omega)
    obtain ⟨r1, r2, r3, r4, r5⟩ := hR1
    exact ⟨M', ⟨q1, by rw [q2 _ _ (by omega), h3' _ (by omega)]; exact r2, fun i k hi hk => by rw [q2 _ _ (by omega), h2 _ _ (by omega) (by omega) (by omega)]; exact r3 i k hi hk, by rw [q2 _ _ (by omega), h3' _ (by omega)]; exact r4, fun i hi => by rw [q2 _ _ (by omega), h2 _ _ (by omega) (by omega) (by omega)]; exact r5 i hi⟩, q2, q3⟩
  rcases f216 (d := d - 1) (L := L) (C := C) (u := .int (nI 3)) hM (by omega) 160 0 v (empG g) (emI J) (by omega) (by omega) hTY hNe TV_emp with ⟨f, w, I', z1, z2, z3, z4⟩ | ⟨s, w, g', I', z1, z2, z3, z4, z5, z6⟩
  · obtain ⟨M', m1, m2, m3⟩ := back (mS I' f w) (fun j => by rw [mS_n (by omega), z3.1 _ _ (by omega) (by omega), emI_o (by omega)]) (fun k j h1 h2 _ => by rw [mS_n (.inl h1), z3.1 _ _ h1 h2, emI_o h2]) (fun j h => by rw [mS_n (.inr h), z3.2 _ h, emI_o (by omega)])
    have h22 : M' 150 22 = nI f := by rw [m2 _ _ (by omega), mS_2]
    refine .inl ⟨f, M', z1, z2, m1, by rw [m2 _ _ (by omega), mS_n (by omega), z3.2 _ (by omega), emI_o (by omega)]; exact hJ4, fun k j h => by rw [m2 _ _ (by omega), mS_n (by omega), z3.1 _ _ (by omega) (by omega), emI_o (by omega), hJo k j h], fun Q => ?_⟩
    rw [start, z4, X_go, d216_91]
    simp (disch := first | assumption | omega) only [Nat.reduceAdd, X_go, go2_some, stp, ldI, ldA, ldL, stI, stA, stL, o1I, o2I, o2L, brI, brII, gl, s1, s2, k1, sl, go_sN, go_sR, go_CT, go_sT, go_no, go_if, pops, bk_v, bk_0, d216_0, d216_1, d216_2, d216_5, d216_6, d216_9, d216_10, d216_11, d216_12, d216_13, d216_16, d216_17, d216_20, d216_21, d216_22, d216_23, d216_24, d216_25, d216_26, d216_29, d216_30, d216_31, d216_32, d216_33, d216_34, d216_37, d216_40, d216_41, d216_42, d216_46, d216_49, d216_50, d216_53, d216_56, d216_57, d216_59, d216_62, d216_65, d216_66, d216_69, d216_72, d216_75, d216_76, d216_78, d216_81, d216_84, d216_85, d216_88, d216_92, d216_95, d216_97, d216_98, d216_101, d216_102, d216_104, d216_105, d216_106, d216_109, d216_112, d216_113, d216_116, d216_117, d216_118, d216_121, d216_122, d216_123, d216_124, d216_127, d216_130, d216_131, d216_134, d216_135, d216_138, d216_139, d216_140, d216_141, d216_144, d216_147, d216_148, d216_151, d216_152, d216_153, d216_156, d216_157, d216_158, d216_159, d216_162, d216_165, d216_166, d216_167, d216_170, n_lt, n_le, n_eq, n_lt0, n_ge0, n_gt0, n_le0, n_eq0, m_lt, m_le, m_gt, m_ge, m_eq, m_eq', m_lt0, m_ge0, m_gt0, m_le0, m_ltm, m_lem, n_in, m_in, n_cl, n_ti, n_div, n_rem', n_dec, n_l, nI_add, pk_mul, an0, an1, decide_eq_true_eq, if_true, if_false, ite_true, ite_false, and_true, true_and, and_false, false_and, not_true, not_false_iff, or_false, false_or, or_true, true_or, eq_self, va_some, Bool.false_eq_true, reduceIte, catS_n, catS_i, catS_r, catS_l, catS_d, Nat.zero_add, Nat.add_zero, decide_true, decide_false, Nat.reduceLeDiff, cat_r, cat_i, cat_l, nle_T, nle_F, nlt_T, nlt_F, neq_T, neq_F, k0, m3, h22]
    done
  · have hge : ∀ k, 114 ≤ k → g' k = g k := fun k hk => by rw [z4 k hk, empG_o (by omega)]
    have hGV' : GV B g' := ⟨z3, LV_g (fun k h _ => hge k h) hl, FV_g (fun k h _ => hge k (by omega)) hFv⟩
    have hM3 : NR (mS I' s w) g' := NR_mS z2
    obtain ⟨M4, hM4⟩ : ∃ M4, M4 = xr (mS I' s w) 168 (fun j => if 0 ≤ j ∧ j < 201 then (mS I' s w) 151 j else (mS I' s w) 168 j) := ⟨_, rfl⟩
    have hc := fun Q => f216c (d := d - 1) (I := mS I' s w) (L := L) (C := C) (Q := Q) hM (by omega) 201 0 ((mS I' s w) 168) (by omega)
    simp only [xr_id] at hc
    rw [← hM4] at hc
    have o4 : ∀ k j, k ≠ 168 → M4 k j = (mS I' s w) k j := fun k j h => by rw [hM4, xr_n _ _ h]
    have h4168 : ∀ k, k < 201 → M4 168 k = nI (g' k) := fun k hk => by rw [hM4, xr_s, if_pos ⟨Nat.zero_le k, hk⟩]; exact hM3 k hk
    obtain ⟨M5, m1, m2, m3⟩ := back M4 (fun j => by rw [o4 _ _ (by omega), mS_n (by omega), z5.1 _ _ (by omega) (by omega), emI_o (by omega)]) (fun k j h1 h2 h3' => by rw [o4 _ _ h3', mS_n (.inl h1), z5.1 _ _ h1 h2, emI_o h2]) (fun j h => by rw [o4 _ _ (by omega), mS_n (.inr h), z5.2 _ h, emI_o (by omega)])
    obtain ⟨M6, n1, n2, n3⟩ := c157 (d := d - 1) (L := L) (C := C) hM m1 hn4 (by omega)
    obtain ⟨M7, hM7⟩ : ∃ M7, M7 = xr M6 151 (fun j => if 0 ≤ j ∧ j < 201 then M6 168 j else M6 151 j) := ⟨_, rfl⟩
    have hdd := fun Q => f216d (d := d - 1) (I := M6) (L := L) (C := C) (Q := Q) hM (by omega) 201 0 (M6 151) (by omega)
    simp only [xr_id] at hdd
    rw [← hM7] at hdd
    have o7 : ∀ k j, k ≠ 151 → M7 k j = M6 k j := fun k j h => by rw [hM7, xr_n _ _ h]
    have hN7 : NR M7 g' := fun k hk => by
      rw [hM7, xr_s, if_pos ⟨Nat.zero_le k, hk⟩, n2 _ _ (by omega) (by omega), m2 _ _ (by omega)]
      exact h4168 k hk
    have h188 := fun Q => c188 (d := d - 1) (L := L) (C := C) (Q := Q) (w := 5) hM hN7 hGV' hB (by omega) (by omega)
    have e5 : vV g' 5 = g' 3 + g' 4 + g' 5 := rfl
    rw [e5] at h188
    refine .inr ⟨g', M7, z1, ZR_now n1 hN7 o7, by rw [o7 _ _ (by omega), n2 _ _ (by omega) (by omega), m2 _ _ (by omega), o4 _ _ (by omega), mS_n (by omega), z5.2 _ (by omega), emI_o (by omega)]; exact hJ4, fun k j h => by rw [o7 _ _ (by omega), n2 _ _ (by omega) (by omega), m2 _ _ (by omega), o4 _ _ (by omega), mS_n (by omega), z5.1 _ _ (by omega) (by omega), emI_o (by omega), hJo k j h], fun Q => ?_⟩
    rw [start, z6, X_go, d216_103]
    simp (disch := first | assumption | omega) only [Nat.reduceAdd, X_go, go2_some, stp, ldI, ldA, ldL, stI, stA, stL, o1I, o2I, o2L, brI, brII, gl, s1, s2, k1, sl, go_sN, go_sR, go_CT, go_sT, go_no, go_if, pops, bk_v, bk_0, d216_0, d216_1, d216_2, d216_5, d216_6, d216_9, d216_10, d216_11, d216_12, d216_13, d216_16, d216_17, d216_20, d216_21, d216_22, d216_23, d216_24, d216_25, d216_26, d216_29, d216_30, d216_31, d216_32, d216_33, d216_34, d216_37, d216_40, d216_41, d216_42, d216_46, d216_49, d216_50, d216_53, d216_56, d216_57, d216_59, d216_62, d216_65, d216_66, d216_69, d216_72, d216_75, d216_76, d216_78, d216_81, d216_84, d216_85, d216_88, d216_92, d216_95, d216_97, d216_98, d216_101, d216_102, d216_104, d216_106, d216_109, d216_112, d216_113, d216_116, d216_117, d216_118, d216_121, d216_122, d216_123, d216_124, d216_127, d216_131, d216_134, d216_135, d216_138, d216_139, d216_141, d216_144, d216_147, d216_148, d216_151, d216_152, d216_153, d216_156, d216_157, d216_158, d216_159, d216_162, d216_166, d216_167, d216_170, n_lt, n_le, n_eq, n_lt0, n_ge0, n_gt0, n_le0, n_eq0, m_lt, m_le, m_gt, m_ge, m_eq, m_eq', m_lt0, m_ge0, m_gt0, m_le0, m_ltm, m_lem, n_in, m_in, n_cl, n_ti, n_div, n_rem', n_dec, n_l, nI_add, pk_mul, an0, an1, decide_eq_true_eq, if_true, if_false, ite_true, ite_false, and_true, true_and, and_false, false_and, not_true, not_false_iff, or_false, false_or, or_true, true_or, eq_self, va_some, Bool.false_eq_true, reduceIte, catS_n, catS_i, catS_r, catS_l, catS_d, Nat.zero_add, Nat.add_zero, decide_true, decide_false, Nat.reduceLeDiff, cat_r, cat_i, cat_l, nle_T, nle_F, nlt_T, nlt_F, neq_T, neq_F]
    simp only [← X_go]
    rw [hc, X_go, d216_130]
    simp (disch := first | assumption | omega) only [Nat.reduceAdd, X_go, go2_some, stp, ldI, ldA, ldL, stI, stA, stL, o1I, o2I, o2L, brI, brII, gl, s1, s2, k1, sl, go_sN, go_sR, go_CT, go_sT, go_no, go_if, pops, bk_v, bk_0, d216_0, d216_1, d216_2, d216_5, d216_6, d216_9, d216_10, d216_11, d216_12, d216_13, d216_16, d216_17, d216_20, d216_21, d216_22, d216_23, d216_24, d216_25, d216_26, d216_29, d216_30, d216_31, d216_32, d216_33, d216_34, d216_37, d216_40, d216_41, d216_42, d216_46, d216_49, d216_50, d216_53, d216_56, d216_57, d216_59, d216_62, d216_65, d216_66, d216_69, d216_72, d216_75, d216_76, d216_78, d216_81, d216_84, d216_85, d216_88, d216_92, d216_95, d216_97, d216_98, d216_101, d216_102, d216_104, d216_106, d216_109, d216_112, d216_113, d216_116, d216_117, d216_118, d216_121, d216_122, d216_123, d216_124, d216_127, d216_131, d216_134, d216_135, d216_138, d216_139, d216_141, d216_144, d216_147, d216_148, d216_151, d216_152, d216_153, d216_156, d216_157, d216_158, d216_159, d216_162, d216_166, d216_167, d216_170, n_lt, n_le, n_eq, n_lt0, n_ge0, n_gt0, n_le0, n_eq0, m_lt, m_le, m_gt, m_ge, m_eq, m_eq', m_lt0, m_ge0, m_gt0, m_le0, m_ltm, m_lem, n_in, m_in, n_cl, n_ti, n_div, n_rem', n_dec, n_l, nI_add, pk_mul, an0, an1, decide_eq_true_eq, if_true, if_false, ite_true, ite_false, and_true, true_and, and_false, false_and, not_true, not_false_iff, or_false, false_or, or_true, true_or, eq_self, va_some, Bool.false_eq_true, reduceIte, catS_n, catS_i, catS_r, catS_l, catS_d, Nat.zero_add, Nat.add_zero, decide_true, decide_false, Nat.reduceLeDiff, cat_r, cat_i, cat_l, nle_T, nle_F, nlt_T, nlt_F, neq_T, neq_F, k0, m3, n3]
    simp only [← X_go]
    rw [hdd, X_go, d216_165]
    simp (disch := first | assumption | omega) only [Nat.reduceAdd, X_go, go2_some, stp, ldI, ldA, ldL, stI, stA, stL, o1I, o2I, o2L, brI, brII, gl, s1, s2, k1, sl, go_sN, go_sR, go_CT, go_sT, go_no, go_if, pops, bk_v, bk_0, d216_0, d216_1, d216_2, d216_5, d216_6, d216_9, d216_10, d216_11, d216_12, d216_13, d216_16, d216_17, d216_20, d216_21, d216_22, d216_23, d216_24, d216_25, d216_26, d216_29, d216_30, d216_31, d216_32, d216_33, d216_34, d216_37, d216_40, d216_41, d216_42, d216_46, d216_49, d216_50, d216_53, d216_56, d216_57, d216_59, d216_62, d216_65, d216_66, d216_69, d216_72, d216_75, d216_76, d216_78, d216_81, d216_84, d216_85, d216_88, d216_92, d216_95, d216_97, d216_98, d216_101, d216_102, d216_104, d216_106, d216_109, d216_112, d216_113, d216_116, d216_117, d216_118, d216_121, d216_122, d216_123, d216_124, d216_127, d216_131, d216_134, d216_135, d216_138, d216_139, d216_141, d216_144, d216_147, d216_148, d216_151, d216_152, d216_153, d216_156, d216_157, d216_158, d216_159, d216_162, d216_166, d216_167, d216_170, n_lt, n_le, n_eq, n_lt0, n_ge0, n_gt0, n_le0, n_eq0, m_lt, m_le, m_gt, m_ge, m_eq, m_eq', m_lt0, m_ge0, m_gt0, m_le0, m_ltm, m_lem, n_in, m_in, n_cl, n_ti, n_div, n_rem', n_dec, n_l, nI_add, pk_mul, an0, an1, decide_eq_true_eq, if_true, if_false, ite_true, ite_false, and_true, true_and, and_false, false_and, not_true, not_false_iff, or_false, false_or, or_true, true_or, eq_self, va_some, Bool.false_eq_true, reduceIte, catS_n, catS_i, catS_r, catS_l, catS_d, Nat.zero_add, Nat.add_zero, decide_true, decide_false, Nat.reduceLeDiff, cat_r, cat_i, cat_l, nle_T, nle_F, nlt_T, nlt_F, neq_T, neq_F, k0, h188]
    done
