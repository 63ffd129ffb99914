/-! CHANCES: the two that call each other -/
theorem c79 {P : MP} {C : MC} {H b D top n w0 w1 r c : Nat} {g : GS} {W : Nat → Nat → Nat} {K : SP → SP → Nat → Nat → Nat → CV} (hH : HB P H) (hb : SB P b) (hbH : b + 17 < H) (hv : TV g) (hci : CI2 W g) (hDn : (n = 0 ∧ D = H + 1) ∨ (n = 1 ∧ D = H + 4)) (hG : ∀ d', c ≤ d' → GOk P C H b top g d' (n + 1) r) (hK : ∀ sp gr fd w s, K sp gr fd w s = goV g top r (n + 1) (if n = 0 then w else w0) (if n = 0 then w1 else w) sp gr fd s) (hc : 4 ≤ c) (hw0 : w0 ≤ 16) (hw1 : w1 ≤ 16) : ∀ f d, c + f ≤ d → HOk P C H b D top g W K n w0 d f := by
  intro f
  induction f with
  | zero => intro d hd t I L x sp gr fd s ht htf; omega
  | succ f ih =>
    intro d hd t I L x sp gr fd s ht htf hg h6 hx h7 hW hpos hfd hs
    have hH' := hH
    have hb' := hb
    obtain ⟨k0, p0, p1, p2, p3, p4, hD1, hD4, y7, y8, y9⟩ := hH'
    obtain ⟨l0, r0, r1, r2, hT, hKK, hF⟩ := hb'
    have hT' := hT
    obtain ⟨⟨m0, q0, q1, q2, q3, q4, q5, q6, q7⟩, z1, z2, z3, z4, z5, z6, z7, z8⟩ := hT'
    have hDB : DB P D := by
      rcases hDn with ⟨_, rfl⟩ | ⟨_, rfl⟩
      · exact hD1
      · exact hD4
    have hDB' := hDB
    obtain ⟨c0, a0, a1, a2, a3⟩ := hDB'
    have hcc := hv.2.1 t ht
    have hst := (hW t (Nat.le_refl t) ht).1
    have hsm := sm_le (n := g (3 + t)) (b := 102000) (f := W t) (fun i hi => (hci t ht i hi).1)
    have hsm2 : g (3 + t) * 102000 ≤ 6 * 102000 := Nat.mul_le_mul_right _ hcc
    have hcmp : (0 < lg_cmp (lN (sm (g (3 + t)) (W t))) (lN 0)) = True := eq_true ((lg_cmp_gt _ _).mpr ((pk_lLT (by omega) (by omega)).mpr hpos))
    obtain ⟨I', hI', hQ⟩ := f79 (d := d - 1) (C := C) (r := r) (w1 := w1) (K := K) hH hb hbH hv hci hDn (hG (d - 1) (by omega)) hK (ih (d - 1) (by omega)) (by omega) ht htf hx hpos hfd hs hw0 hw1 (g (3 + t)) 0 I L UN UN UN UN UN (by omega) hg h6 h7 hW
    refine ⟨I', hI', fun Q => ?_⟩
    rw [CT_e (mj := 79) (e := [.ref H, .ref b, .int (nI t), .int (nI n), .int x, .int (fI fd), .long (lN s), UN, UN, UN, UN, UN, UN, UN, UN, UN, UN, UN, UN, UN]) (by omega) rfl (Nat.le_of_ble_eq_true rfl)]
    have hQ := hQ Q
    rw [show 6 * t + 0 = 6 * t from rfl] at hQ
    have hmn : (if 6 * t + g (3 + t) < 18 then nI (6 * t + g (3 + t)) else nI 18) = nI (6 * t + g (3 + t)) := by
      split
      · rfl
      · rw [show 6 * t + g (3 + t) = 18 by omega]
    rcases hDn with ⟨rfl, rfl⟩ | ⟨rfl, rfl⟩
    · simp (disch := first | assumption | omega) only [Nat.reduceAdd, X_go, go2_some, stp, ldI, ldA, ldL, stI, stA, stL, o1I, o2I, o2L, brI, brII, gl, s1, s2, k1, sl, go_sN, go_sR, go_CT, go_sT, go_no, go_if, pops, bk_v, bk_0, d79_0, d79_1, d79_4, d79_6, d79_7, d79_10, d79_11, d79_14, d79_17, d79_18, d79_21, d79_23, d79_25, d79_26, d79_29, d79_30, d79_32, d79_33, d79_36, d79_38, d79_39, d79_40, d79_43, d79_44, d79_45, d79_46, d79_49, d79_51, d79_53, d79_55, d79_57, d79_58, d79_61, d79_62, d79_65, d79_67, d79_69, d79_73, d79_75, d79_78, d79_80, d79_83, d79_85, d79_86, d79_88, d79_90, d79_93, d79_96, d79_98, d79_100, d79_101, d79_102, d79_104, d79_105, d79_107, d79_109, d79_111, d79_112, d79_114, d79_117, d79_118, d79_120, d79_122, d79_125, d79_127, d79_128, d79_130, d79_132, d79_135, d79_138, d79_139, d79_142, d79_143, d79_145, d79_148, d79_149, d79_150, d79_151, d79_152, d79_153, d79_155, d79_157, d79_159, d79_162, d79_164, d79_165, d79_168, d79_170, d79_173, d79_176, d79_178, d79_181, d79_182, d79_185, d79_186, d79_187, d79_189, d79_192, d79_193, d79_195, d79_197, d79_199, d79_202, d79_205, d79_208, n_lt, n_le, n_eq, n_lt0, n_ge0, n_gt0, n_le0, n_eq0, m_lt, m_le, m_gt, m_ge, m_eq, m_eq', m_lt0, m_ge0, m_gt0, m_le0, m_ltm, m_lem, n_in, m_in, n_cl, n_ti, n_div, n_rem', n_dec, n_l, nI_add, pk_mul, an0, an1, decide_eq_true_eq, if_true, if_false, ite_true, ite_false, and_true, true_and, and_false, false_and, not_true, not_false_iff, or_false, false_or, or_true, true_or, eq_self, va_some, Bool.false_eq_true, reduceIte, catS_n, catS_i, catS_r, catS_l, catS_d, Nat.zero_add, Nat.add_zero, decide_true, decide_false, Nat.reduceLeDiff, cat_r, cat_i, cat_l, nle_T, nle_F, nlt_T, nlt_F, neq_T, neq_F, k0, p0, l0, r0, c0, m0, c70 hDB, hst, hcmp, c27, c25g hT hg.1, hmn]
      simp only [← X_go]
      exact hQ
    · simp (disch := first | assumption | omega) only [Nat.reduceAdd, X_go, go2_some, stp, ldI, ldA, ldL, stI, stA, stL, o1I, o2I, o2L, brI, brII, gl, s1, s2, k1, sl, go_sN, go_sR, go_CT, go_sT, go_no, go_if, pops, bk_v, bk_0, d79_0, d79_1, d79_4, d79_6, d79_7, d79_10, d79_11, d79_14, d79_17, d79_18, d79_21, d79_23, d79_25, d79_26, d79_29, d79_30, d79_32, d79_33, d79_36, d79_38, d79_39, d79_40, d79_43, d79_44, d79_45, d79_46, d79_49, d79_51, d79_53, d79_55, d79_57, d79_58, d79_61, d79_62, d79_65, d79_67, d79_69, d79_73, d79_75, d79_78, d79_80, d79_83, d79_85, d79_86, d79_88, d79_90, d79_93, d79_96, d79_98, d79_100, d79_101, d79_102, d79_104, d79_105, d79_107, d79_109, d79_111, d79_112, d79_114, d79_117, d79_118, d79_120, d79_122, d79_125, d79_127, d79_128, d79_130, d79_132, d79_135, d79_138, d79_139, d79_142, d79_143, d79_145, d79_148, d79_149, d79_150, d79_151, d79_152, d79_153, d79_155, d79_157, d79_159, d79_162, d79_164, d79_165, d79_168, d79_170, d79_173, d79_176, d79_178, d79_181, d79_182, d79_185, d79_186, d79_187, d79_189, d79_192, d79_193, d79_195, d79_197, d79_199, d79_202, d79_205, d79_208, n_lt, n_le, n_eq, n_lt0, n_ge0, n_gt0, n_le0, n_eq0, m_lt, m_le, m_gt, m_ge, m_eq, m_eq', m_lt0, m_ge0, m_gt0, m_le0, m_ltm, m_lem, n_in, m_in, n_cl, n_ti, n_div, n_rem', n_dec, n_l, nI_add, pk_mul, an0, an1, decide_eq_true_eq, if_true, if_false, ite_true, ite_false, and_true, true_and, and_false, false_and, not_true, not_false_iff, or_false, false_or, or_true, true_or, eq_self, va_some, Bool.false_eq_true, reduceIte, catS_n, catS_i, catS_r, catS_l, catS_d, Nat.zero_add, Nat.add_zero, decide_true, decide_false, Nat.reduceLeDiff, cat_r, cat_i, cat_l, nle_T, nle_F, nlt_T, nlt_F, neq_T, neq_F, k0, p1, l0, r0, c0, m0, c70 hDB, hst, hcmp, c27, c25g hT hg.1, hmn]
      simp only [← X_go]
      exact hQ
theorem d77_0 : dec 77 0 = some (.iload_n 2, 1, []) := rfl
theorem d77_1 : dec 77 1 = some (.aload_n 1, 1, []) := rfl
theorem d77_2 : dec 77 2 = some (.getfield 46, 3, [1, 6, 0, 2, 1, 140]) := rfl
theorem d77_5 : dec 77 5 = some (.getfield 68, 3, [1, 7, 0, 2, 1, 44]) := rfl
theorem d77_8 : dec 77 8 = some (.aload_n 0, 1, []) := rfl
theorem d77_9 : dec 77 9 = some (.getfield 32, 3, [1, 0, 6, 0, 0, 250]) := rfl
theorem d77_12 : dec 77 12 = some (.invokestatic 71, 3, [2, 26, 0, 9, 1, 832, 0, 2]) := rfl
theorem d77_15 : dec 77 15 = some (.if_icmp .ge 8, 3, [23]) := rfl
theorem d77_18 : dec 77 18 = some (.iload_n 2, 1, []) := rfl
theorem d77_19 : dec 77 19 = some (.iconst 2, 1, [2]) := rfl
theorem d77_20 : dec 77 20 = some (.if_icmp .lt 13, 3, [33]) := rfl
theorem d77_23 : dec 77 23 = some (.aload_n 0, 1, []) := rfl
theorem d77_24 : dec 77 24 = some (.iload_n 2, 1, []) := rfl
theorem d77_25 : dec 77 25 = some (.iload 4, 2, []) := rfl
theorem d77_27 : dec 77 27 = some (.lload 5, 2, []) := rfl
theorem d77_29 : dec 77 29 = some (.invokevirtual 74, 3, [2, 78, 2, 0, 0, 833, 1, 0, 0]) := rfl
theorem d77_32 : dec 77 32 = some (.return_, 1, []) := rfl
theorem d77_33 : dec 77 33 = some (.iload_n 2, 1, []) := rfl
theorem d77_34 : dec 77 34 = some (.ifCond .ne 10, 3, [44]) := rfl
theorem d77_37 : dec 77 37 = some (.aload_n 0, 1, []) := rfl
theorem d77_38 : dec 77 38 = some (.getfield 12, 3, [1, 0, 0, 2, 0, 243]) := rfl
theorem d77_41 : dec 77 41 = some (.goto 7, 3, [48]) := rfl
theorem d77_44 : dec 77 44 = some (.aload_n 0, 1, []) := rfl
theorem d77_45 : dec 77 45 = some (.getfield 18, 3, [1, 0, 1, 2, 0, 244]) := rfl
theorem d77_48 : dec 77 48 = some (.astore 7, 2, []) := rfl
theorem d77_50 : dec 77 50 = some (.aload 7, 2, []) := rfl
theorem d77_52 : dec 77 52 = some (.aload_n 1, 1, []) := rfl
theorem d77_53 : dec 77 53 = some (.aload_n 0, 1, []) := rfl
theorem d77_54 : dec 77 54 = some (.getfield 32, 3, [1, 0, 6, 0, 0, 250]) := rfl
theorem d77_57 : dec 77 57 = some (.iload_n 3, 1, []) := rfl
theorem d77_58 : dec 77 58 = some (.iload 4, 2, []) := rfl
theorem d77_60 : dec 77 60 = some (.invokevirtual 78, 3, [2, 64, 2, 1, 0, 837, 0, 0, 0, 2]) := rfl
theorem d77_63 : dec 77 63 = some (.aload 7, 2, []) := rfl
theorem d77_65 : dec 77 65 = some (.aload_n 0, 1, []) := rfl
theorem d77_66 : dec 77 66 = some (.getfield 32, 3, [1, 0, 6, 0, 0, 250]) := rfl
theorem d77_69 : dec 77 69 = some (.invokevirtual 82, 3, [2, 70, 2, 1, 0, 838, 0]) := rfl
theorem d77_72 : dec 77 72 = some (.ifCond .le 21, 3, [93]) := rfl
theorem d77_75 : dec 77 75 = some (.aload_n 0, 1, []) := rfl
theorem d77_76 : dec 77 76 = some (.aload_n 1, 1, []) := rfl
theorem d77_77 : dec 77 77 = some (.aload_n 0, 1, []) := rfl
theorem d77_78 : dec 77 78 = some (.getfield 32, 3, [1, 0, 6, 0, 0, 250]) := rfl
theorem d77_81 : dec 77 81 = some (.iload_n 2, 1, []) := rfl
theorem d77_82 : dec 77 82 = some (.iload_n 3, 1, []) := rfl
theorem d77_83 : dec 77 83 = some (.iload 4, 2, []) := rfl
theorem d77_85 : dec 77 85 = some (.lload 5, 2, []) := rfl
theorem d77_87 : dec 77 87 = some (.invokevirtual 86, 3, [2, 79, 2, 0, 0, 839, 1, 0, 0, 0, 0, 2]) := rfl
theorem d77_90 : dec 77 90 = some (.goto 25, 3, [115]) := rfl
theorem d77_93 : dec 77 93 = some (.aload_n 0, 1, []) := rfl
theorem d77_94 : dec 77 94 = some (.getfield 21, 3, [1, 0, 2, 2, 0, 245]) := rfl
theorem d77_97 : dec 77 97 = some (.iload_n 2, 1, []) := rfl
theorem d77_98 : dec 77 98 = some (.iconst (-1), 1, [4294967295]) := rfl
theorem d77_99 : dec 77 99 = some (.invokestatic 90, 3, [2, 44, 0, 9, 1, 848, 0, 0, 2]) := rfl
theorem d77_102 : dec 77 102 = some (.aload_n 0, 1, []) := rfl
theorem d77_103 : dec 77 103 = some (.aload_n 1, 1, []) := rfl
theorem d77_104 : dec 77 104 = some (.iload_n 2, 1, []) := rfl
theorem d77_105 : dec 77 105 = some (.iconst 1, 1, [1]) := rfl
theorem d77_106 : dec 77 106 = some (.iadd, 1, []) := rfl
theorem d77_107 : dec 77 107 = some (.iload_n 3, 1, []) := rfl
theorem d77_108 : dec 77 108 = some (.iload 4, 2, []) := rfl
theorem d77_110 : dec 77 110 = some (.lload 5, 2, []) := rfl
theorem d77_112 : dec 77 112 = some (.invokevirtual 60, 3, [2, 77, 2, 0, 0, 828, 1, 0, 0, 0, 2]) := rfl
theorem d77_115 : dec 77 115 = some (.return_, 1, []) := rfl
theorem l77 : mL 77 = 8 := rfl
theorem c77 {P : MP} {C : MC} {H b top : Nat} {g : GS} (hH : HB P H) (hb : SB P b) (hbH : b + 17 < H) (hv : TV g) (hl : LV g) (ht : top < 3) : ∀ r n d, n + r = g top → 9 + 5 * r ≤ d → GOk P C H b top g d n r := by
  have hH' := hH
  have hb' := hb
  obtain ⟨k0, p0, p1, p2, p3, p4, hD1, hD4, y7, y8, y9⟩ := hH'
  obtain ⟨l0, r0, r1, r2, hT, hKK, hF⟩ := hb'
  have hT' := hT
  obtain ⟨⟨m0, q0, q1, q2, q3, q4, q5, q6, q7⟩, z1, z2, z3, z4, z5, z6, z7, z8⟩ := hT'
  have hdr := hv.1 top ht
  intro r
  induction r with
  | zero =>
    intro n d hn hd I L x sp gr w0 w1 fd s hg h6 hx h70 h71 hw0 hw1 hfd hs
    have hI0 := hg.1.1 top ht
    refine ⟨I, fun _ _ _ => rfl, fun Q => ?_⟩
    rw [CT_e (mj := 77) (e := [.ref H, .ref b, .int (nI n), .int x, .int (fI fd), .long (lN s), UN, UN]) (by omega) rfl (Nat.le_of_ble_eq_true rfl)]
    have e1 : goV g top 0 n w0 w1 sp gr fd s = endV n w0 w1 fd s := rfl
    rw [e1]
    have hn' : n = g top := by omega
    subst hn'
    simp (disch := first | assumption | omega) only [Nat.reduceAdd, X_go, go2_some, stp, ldI, ldA, ldL, stI, stA, stL, o1I, o2I, o2L, brI, brII, gl, s1, s2, k1, sl, go_sN, go_sR, go_CT, go_sT, go_no, go_if, pops, bk_v, bk_0, d77_0, d77_1, d77_2, d77_5, d77_8, d77_9, d77_12, d77_15, d77_18, d77_19, d77_20, d77_23, d77_24, d77_25, d77_27, d77_29, d77_32, d77_33, d77_34, d77_37, d77_38, d77_41, d77_44, d77_45, d77_48, d77_50, d77_52, d77_53, d77_54, d77_57, d77_58, d77_60, d77_63, d77_65, d77_66, d77_69, d77_72, d77_75, d77_76, d77_77, d77_78, d77_81, d77_82, d77_83, d77_85, d77_87, d77_90, d77_93, d77_94, d77_97, d77_98, d77_99, d77_102, d77_103, d77_104, d77_105, d77_106, d77_107, d77_108, d77_110, d77_112, d77_115, n_lt, n_le, n_eq, n_lt0, n_ge0, n_gt0, n_le0, n_eq0, m_lt, m_le, m_gt, m_ge, m_eq, m_eq', m_lt0, m_ge0, m_gt0, m_le0, m_ltm, m_lem, n_in, m_in, n_cl, n_ti, n_div, n_rem', n_dec, n_l, nI_add, pk_mul, an0, an1, decide_eq_true_eq, if_true, if_false, ite_true, ite_false, and_true, true_and, and_false, false_and, not_true, not_false_iff, or_false, false_or, or_true, true_or, eq_self, va_some, Bool.false_eq_true, reduceIte, catS_n, catS_i, catS_r, catS_l, catS_d, Nat.zero_add, Nat.add_zero, decide_true, decide_false, Nat.reduceLeDiff, cat_r, cat_i, cat_l, nle_T, nle_F, nlt_T, nlt_F, neq_T, neq_F, k0, l0, r0, m0, q0, h6, c26 z1, hI0, c78 hH h70 h71]
    done
  | succ r ih =>
    intro n d hn hd I L x sp gr w0 w1 fd s hg h6 hx h70 h71 hw0 hw1 hfd hs
    have hI0 := hg.1.1 top ht
    have hex : ∃ D, (n = 0 ∧ D = H + 1) ∨ (n = 1 ∧ D = H + 4) := by
      have : n = 0 ∨ n = 1 := by omega
      rcases this with rfl | rfl
      · exact ⟨_, .inl ⟨rfl, rfl⟩⟩
      · exact ⟨_, .inr ⟨rfl, rfl⟩⟩
    obtain ⟨D, hDn⟩ := hex
    have hDB : DB P D := by
      rcases hDn with ⟨_, rfl⟩ | ⟨_, rfl⟩
      · exact hD1
      · exact hD4
    have hDB' := hDB
    obtain ⟨c0, a0, a1, a2, a3⟩ := hDB'
    have hp := prI_p (D := D) (g := g) (sp := sp) (gr := gr) (fd := fd) (lo := top) hv 3 I
    rw [wqr_3] at hp
    have hno : ∀ k j, k < D ∨ D + 2 < k → prI D g sp gr fd top 3 I k j = I k j := fun k j h => prI_n h 3 I
    have h64 : ∀ d Q, 7 ≤ d → CT d 64 [.ref D, .ref b, .int (nI top), .int x, .int (fI fd)] P I L C Q = Q (.inl none) P (prI D g sp gr fd top 3 I) L C := fun d Q h => c64 hDB hb hg hv hl hx (by omega) h ht hfd
    generalize prI D g sp gr fd top 3 I = J at hp hno h64
    obtain ⟨e1, e2, e3⟩ := hp
    have hJg : RC J b g := RC_fr hg fun k j _ _ => hno k j (by omega)
    have hs2 : J (D + 2) top = nI (sw g (wq g sp gr fd top) sp gr top) := e2 top (Nat.le_refl _) ht
    have hsb := sw_b (q := wq g sp gr fd top) (sp := sp) (gr := gr) hv hl ht
    have hJ6 : J H 6 = nI top := by rw [hno _ _ (by omega)]; exact h6
    have hJ7 : ∀ j, J (H + 7) j = I (H + 7) j := fun j => hno _ _ (by omega)
    have hsw : ∀ t, sw g (wq g sp gr fd top) sp gr t = sm (g (3 + t)) (wt g (wq g sp gr fd top) sp gr t) := fun _ => rfl
    by_cases hpos : 0 < sw g (wq g sp gr fd top) sp gr top
    · have e4 : goV g top (r + 1) n w0 w1 sp gr fd s = hV g (wt g (wq g sp gr fd top) sp gr) (fun sp' gr' fd' w s' => goV g top r (n + 1) (if n = 0 then w else w0) (if n = 0 then w1 else w) sp' gr' fd' s') 3 top sp gr fd s := if_pos hpos
      rw [e4]
      obtain ⟨I', hI', hQ⟩ := c79 (C := C) (r := r) (c := 9 + 5 * r) (K := fun sp' gr' fd' w s' => goV g top r (n + 1) (if n = 0 then w else w0) (if n = 0 then w1 else w) sp' gr' fd' s') hH hb hbH hv (CI2_wt (q := wq g sp gr fd top) (sp := sp) (gr := gr) hv hl) hDn (fun d' h => ih (n + 1) d' (by omega) h) (fun _ _ _ _ _ => rfl) (by omega) hw0 hw1 3 (d - 1) (by omega) top J L x sp gr fd s ht (by omega) hJg hJ6 hx (fun q => by rw [hJ7]; exact h70 (by omega)) (fun t' h h' => ⟨e2 t' h h', fun e he => e3 t' e h h' he⟩) hpos hfd hs
      refine ⟨I', fun k j h => ?_, fun Q => ?_⟩
      · have h1 : hof H n k j := by unfold gof at h; unfold hof; omega
        rw [hI' k j h1, hno k j (by unfold gof at h; omega)]
      · rw [CT_e (mj := 77) (e := [.ref H, .ref b, .int (nI n), .int x, .int (fI fd), .long (lN s), UN, UN]) (by omega) rfl (Nat.le_of_ble_eq_true rfl)]
        rcases hDn with ⟨rfl, rfl⟩ | ⟨rfl, rfl⟩
        · simp (disch := first | assumption | omega) only [Nat.reduceAdd, X_go, go2_some, stp, ldI, ldA, ldL, stI, stA, stL, o1I, o2I, o2L, brI, brII, gl, s1, s2, k1, sl, go_sN, go_sR, go_CT, go_sT, go_no, go_if, pops, bk_v, bk_0, d77_0, d77_1, d77_2, d77_5, d77_8, d77_9, d77_12, d77_15, d77_18, d77_19, d77_20, d77_23, d77_24, d77_25, d77_27, d77_29, d77_32, d77_33, d77_34, d77_37, d77_38, d77_41, d77_44, d77_45, d77_48, d77_50, d77_52, d77_53, d77_54, d77_57, d77_58, d77_60, d77_63, d77_65, d77_66, d77_69, d77_72, d77_75, d77_76, d77_77, d77_78, d77_81, d77_82, d77_83, d77_85, d77_87, d77_90, d77_93, d77_94, d77_97, d77_98, d77_99, d77_102, d77_103, d77_104, d77_105, d77_106, d77_107, d77_108, d77_110, d77_112, d77_115, n_lt, n_le, n_eq, n_lt0, n_ge0, n_gt0, n_le0, n_eq0, m_lt, m_le, m_gt, m_ge, m_eq, m_eq', m_lt0, m_ge0, m_gt0, m_le0, m_ltm, m_lem, n_in, m_in, n_cl, n_ti, n_div, n_rem', n_dec, n_l, nI_add, pk_mul, an0, an1, decide_eq_true_eq, if_true, if_false, ite_true, ite_false, and_true, true_and, and_false, false_and, not_true, not_false_iff, or_false, false_or, or_true, true_or, eq_self, va_some, Bool.false_eq_true, reduceIte, catS_n, catS_i, catS_r, catS_l, catS_d, Nat.zero_add, Nat.add_zero, decide_true, decide_false, Nat.reduceLeDiff, cat_r, cat_i, cat_l, nle_T, nle_F, nlt_T, nlt_F, neq_T, neq_F, k0, p0, l0, r0, m0, q0, h6, c26 z1, hI0, c0, h64, c70 hDB, hs2, hJ6, hQ]
          done
        · simp (disch := first | assumption | omega) only [Nat.reduceAdd, X_go, go2_some, stp, ldI, ldA, ldL, stI, stA, stL, o1I, o2I, o2L, brI, brII, gl, s1, s2, k1, sl, go_sN, go_sR, go_CT, go_sT, go_no, go_if, pops, bk_v, bk_0, d77_0, d77_1, d77_2, d77_5, d77_8, d77_9, d77_12, d77_15, d77_18, d77_19, d77_20, d77_23, d77_24, d77_25, d77_27, d77_29, d77_32, d77_33, d77_34, d77_37, d77_38, d77_41, d77_44, d77_45, d77_48, d77_50, d77_52, d77_53, d77_54, d77_57, d77_58, d77_60, d77_63, d77_65, d77_66, d77_69, d77_72, d77_75, d77_76, d77_77, d77_78, d77_81, d77_82, d77_83, d77_85, d77_87, d77_90, d77_93, d77_94, d77_97, d77_98, d77_99, d77_102, d77_103, d77_104, d77_105, d77_106, d77_107, d77_108, d77_110, d77_112, d77_115, n_lt, n_le, n_eq, n_lt0, n_ge0, n_gt0, n_le0, n_eq0, m_lt, m_le, m_gt, m_ge, m_eq, m_eq', m_lt0, m_ge0, m_gt0, m_le0, m_ltm, m_lem, n_in, m_in, n_cl, n_ti, n_div, n_rem', n_dec, n_l, nI_add, pk_mul, an0, an1, decide_eq_true_eq, if_true, if_false, ite_true, ite_false, and_true, true_and, and_false, false_and, not_true, not_false_iff, or_false, false_or, or_true, true_or, eq_self, va_some, Bool.false_eq_true, reduceIte, catS_n, catS_i, catS_r, catS_l, catS_d, Nat.zero_add, Nat.add_zero, decide_true, decide_false, Nat.reduceLeDiff, cat_r, cat_i, cat_l, nle_T, nle_F, nlt_T, nlt_F, neq_T, neq_F, k0, p1, l0, r0, m0, q0, h6, c26 z1, hI0, c0, h64, c70 hDB, hs2, hJ6, hQ]
          done
    · have e4 : goV g top (r + 1) n w0 w1 sp gr fd s = goV g top r (n + 1) (if n = 0 then 0 else w0) (if n = 0 then w1 else 0) sp gr fd s := if_neg hpos
      rw [e4]
      have hJh : ∀ k j, hof H n k j → xu J (H + 7) n (nI 4294967295) k j = J k j := fun k j h => xu_n _ _ (by unfold hof at h; omega)
      obtain ⟨I', hI', hQ⟩ := ih (n + 1) (d - 1) (by omega) (by omega) (xu J (H + 7) n (nI 4294967295)) L x sp gr (if n = 0 then 0 else w0) (if n = 0 then w1 else 0) fd s (RC_hof hJg hbH hJh) (by rw [hJh _ _ (by unfold hof; omega)]; exact hJ6) hx (fun _ => by
          rcases hDn with ⟨rfl, _⟩ | ⟨rfl, _⟩
          · rw [if_pos rfl, xu_s, fI_0]
          · rw [if_neg (by omega), xu_n _ _ (by omega), hJ7]; exact h70 (by omega)) (fun h2 => by
          have : n = 1 := by omega
          subst this
          rw [if_neg (by omega), xu_s, fI_0]) (by split <;> omega) (by split <;> omega) hfd hs
      refine ⟨I', fun k j h => ?_, fun Q => ?_⟩
      · have h1 : hof H n k j := by unfold gof at h; unfold hof; omega
        rw [hI' k j (by unfold gof at h ⊢; omega), hJh k j h1, hno k j (by unfold gof at h; omega)]
      · rw [CT_e (mj := 77) (e := [.ref H, .ref b, .int (nI n), .int x, .int (fI fd), .long (lN s), UN, UN]) (by omega) rfl (Nat.le_of_ble_eq_true rfl)]
        rcases hDn with ⟨rfl, rfl⟩ | ⟨rfl, rfl⟩
        · simp (disch := first | assumption | omega) only [Nat.reduceAdd, X_go, go2_some, stp, ldI, ldA, ldL, stI, stA, stL, o1I, o2I, o2L, brI, brII, gl, s1, s2, k1, sl, go_sN, go_sR, go_CT, go_sT, go_no, go_if, pops, bk_v, bk_0, d77_0, d77_1, d77_2, d77_5, d77_8, d77_9, d77_12, d77_15, d77_18, d77_19, d77_20, d77_23, d77_24, d77_25, d77_27, d77_29, d77_32, d77_33, d77_34, d77_37, d77_38, d77_41, d77_44, d77_45, d77_48, d77_50, d77_52, d77_53, d77_54, d77_57, d77_58, d77_60, d77_63, d77_65, d77_66, d77_69, d77_72, d77_75, d77_76, d77_77, d77_78, d77_81, d77_82, d77_83, d77_85, d77_87, d77_90, d77_93, d77_94, d77_97, d77_98, d77_99, d77_102, d77_103, d77_104, d77_105, d77_106, d77_107, d77_108, d77_110, d77_112, d77_115, n_lt, n_le, n_eq, n_lt0, n_ge0, n_gt0, n_le0, n_eq0, m_lt, m_le, m_gt, m_ge, m_eq, m_eq', m_lt0, m_ge0, m_gt0, m_le0, m_ltm, m_lem, n_in, m_in, n_cl, n_ti, n_div, n_rem', n_dec, n_l, nI_add, pk_mul, an0, an1, decide_eq_true_eq, if_true, if_false, ite_true, ite_false, and_true, true_and, and_false, false_and, not_true, not_false_iff, or_false, false_or, or_true, true_or, eq_self, va_some, Bool.false_eq_true, reduceIte, catS_n, catS_i, catS_r, catS_l, catS_d, Nat.zero_add, Nat.add_zero, decide_true, decide_false, Nat.reduceLeDiff, cat_r, cat_i, cat_l, nle_T, nle_F, nlt_T, nlt_F, neq_T, neq_F, k0, p0, p2, l0, r0, m0, q0, h6, c26 z1, hI0, c0, h64, c70 hDB, hs2, hJ6, c44 y7, hQ]
          done
        · simp (disch := first | assumption | omega) only [Nat.reduceAdd, X_go, go2_some, stp, ldI, ldA, ldL, stI, stA, stL, o1I, o2I, o2L, brI, brII, gl, s1, s2, k1, sl, go_sN, go_sR, go_CT, go_sT, go_no, go_if, pops, bk_v, bk_0, d77_0, d77_1, d77_2, d77_5, d77_8, d77_9, d77_12, d77_15, d77_18, d77_19, d77_20, d77_23, d77_24, d77_25, d77_27, d77_29, d77_32, d77_33, d77_34, d77_37, d77_38, d77_41, d77_44, d77_45, d77_48, d77_50, d77_52, d77_53, d77_54, d77_57, d77_58, d77_60, d77_63, d77_65, d77_66, d77_69, d77_72, d77_75, d77_76, d77_77, d77_78, d77_81, d77_82, d77_83, d77_85, d77_87, d77_90, d77_93, d77_94, d77_97, d77_98, d77_99, d77_102, d77_103, d77_104, d77_105, d77_106, d77_107, d77_108, d77_110, d77_112, d77_115, n_lt, n_le, n_eq, n_lt0, n_ge0, n_gt0, n_le0, n_eq0, m_lt, m_le, m_gt, m_ge, m_eq, m_eq', m_lt0, m_ge0, m_gt0, m_le0, m_ltm, m_lem, n_in, m_in, n_cl, n_ti, n_div, n_rem', n_dec, n_l, nI_add, pk_mul, an0, an1, decide_eq_true_eq, if_true, if_false, ite_true, ite_false, and_true, true_and, and_false, false_and, not_true, not_false_iff, or_false, false_or, or_true, true_or, eq_self, va_some, Bool.false_eq_true, reduceIte, catS_n, catS_i, catS_r, catS_l, catS_d, Nat.zero_add, Nat.add_zero, decide_true, decide_false, Nat.reduceLeDiff, cat_r, cat_i, cat_l, nle_T, nle_F, nlt_T, nlt_F, neq_T, neq_F, k0, p1, p2, l0, r0, m0, q0, h6, c26 z1, hI0, c0, h64, c70 hDB, hs2, hJ6, c44 y7, hQ]
          done
