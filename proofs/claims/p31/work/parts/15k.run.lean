/-! OPENINGS: an opening -/
def drwW (s : OST) (top : Nat) : Nat → Nat → Nat := wt s.1 (wq s.1 (spG s.1) s.2.1 s.2.2.1 top) (spG s.1) s.2.1
def drw (top : Nat) (s : OST) : OST := if 0 < sm (s.1 (3 + top)) (drwW s top top) then chn (drwW s top) 3 top s else s
theorem CI_wt {g : GS} {q top : Nat} {gr : SP} (hv : TV g) (hl : LV g) : CI (wt g q (spG g) gr) top g := by
  intro t h ht e he
  refine ⟨wt_b hv hl ht he, fun hp => ?_⟩
  have hcan := (wt_p hv hl ht he).mp hp
  have hE := hv.2.2 t e ht he
  unfold can ca at hcan
  have h1 := (Bool.and_eq_true _ _).mp hcan
  have h2 := h1.1
  unfold fre at h2
  have h3 := ((Bool.and_eq_true _ _).mp h2).1
  unfold spG at h3
  refine ⟨by simpa using h3, fun h16 => ?_⟩
  have h4 := h1.2
  rw [if_neg (by omega)] at h4
  have := hE.2.2.1 h16
  have := hE.1
  exact (sw_p hv hl (show g (cl t e 0) - 16 < 3 by omega)).mpr h4
theorem c116 {d : Nat} {P : MP} {I : MI} {L : ML} {C : MC} {b top B n fd : Nat} {g : GS} {gr : SP} (hO : OB P) (hb : SB P b) (hbD : b + 17 < 123) (hB : B ≤ 1000000) (hd : 8 ≤ d) (ht : top < 3) (hg : RC I b g) (hv : TV g) (hl : LV g) (hF : FV B g) (hFB : g 123 + 1 ≤ 2 * B) (hor : OR I g (spG g) gr fd n) (hfd : fd ≤ 4) (hn : n < 100) : ∃ I', DO P I I' b B g n (drw top (g, gr, fd, n)) ∧ ∀ Q, CT d 116 [.ref 123, .ref b, .int (nI top)] P I L C Q = Q (.inl none) P I' L C := by
  have hO' := hO
  obtain ⟨k0, p0, hD⟩ := hO'
  have hD0 := hD.1
  obtain ⟨hx, h2, h3⟩ := hor
  have hp := prI_p (D := 124) (g := g) (sp := spG g) (gr := gr) (fd := fd) (lo := top) hv 3 I
  rw [wqr_3] at hp
  have hno : ∀ k j, k < 124 ∨ 124 + 2 < k → prI 124 g (spG g) gr fd top 3 I k j = I k j := fun k j h => prI_n h 3 I
  generalize hJ : prI 124 g (spG g) gr fd top 3 I = J at hp hno
  obtain ⟨p1, p2, p3⟩ := hp
  have hJg : RC J b g := RC_fr hg fun k j _ _ => hno k j (by omega)
  have hW : drwW (g, gr, fd, n) top = wt g (wq g (spG g) gr fd top) (spG g) gr := rfl
  unfold drw
  rw [hW]
  have hs : J 126 top = nI (sm (g (3 + top)) (wt g (wq g (spG g) gr fd top) (spG g) gr top)) := p2 top (Nat.le_refl _) ht
  have hsb := sw_b (q := wq g (spG g) gr fd top) (sp := spG g) (gr := gr) hv hl ht
  unfold sw at hsb
  by_cases hpos : 0 < sm (g (3 + top)) (wt g (wq g (spG g) gr fd top) (spG g) gr top)
  · rw [if_pos hpos]
    obtain ⟨I', hDO, hX⟩ := f116 (d := d - 1) (L := L) (C := C) (top := top) hO hb hbD hB (by omega) 3 top J g gr fd n UN UN UN UN ht (by omega) (by omega) hJg hv hl hF hFB ⟨by rw [hno _ _ (by omega)]; exact hx, by rw [hno _ _ (by omega)]; exact h2, by rw [hno _ _ (by omega)]; exact h3⟩ hfd hn (CI_wt hv hl) hpos (fun t' h h' => ⟨p2 t' h h', fun e he => p3 t' e h h' he⟩)
    obtain ⟨d1, d2, d3, d4, d5⟩ := hDO
    refine ⟨I', ⟨d1, d2, d3, d4, fun k j h h' => ?_⟩, fun Q => ?_⟩
    · rw [d5 k j h h', hno _ _ (by omega)]
    · rw [CT_e (mj := 116) (e := [.ref 123, .ref b, .int (nI top), UN, UN, UN, UN, UN, UN]) (by omega) rfl (Nat.le_of_ble_eq_true rfl)]
      simp (disch := first | assumption | omega) only [Nat.reduceAdd, X_go, go2_some, stp, ldI, ldA, ldL, stI, stA, stL, o1I, o2I, o2L, brI, brII, gl, s1, s2, k1, sl, go_sN, go_sR, go_CT, go_sT, go_no, go_if, pops, bk_v, bk_0, d116_0, d116_1, d116_4, d116_5, d116_6, d116_7, d116_10, d116_11, d116_14, d116_17, d116_18, d116_19, d116_20, d116_24, d116_25, d116_28, d116_29, d116_32, d116_33, d116_36, d116_39, d116_40, d116_43, d116_44, d116_47, d116_48, d116_51, d116_54, d116_56, d116_57, d116_60, d116_61, d116_63, d116_64, d116_67, d116_68, d116_71, d116_74, d116_76, d116_78, d116_79, d116_82, d116_83, d116_84, d116_86, d116_89, d116_91, d116_92, d116_95, d116_98, d116_100, d116_103, d116_105, d116_106, d116_107, d116_110, d116_111, d116_114, d116_115, d116_117, d116_120, d116_121, d116_124, d116_125, d116_128, d116_130, d116_133, d116_135, d116_138, d116_141, d116_142, d116_143, d116_145, d116_146, d116_149, d116_152, d116_154, d116_157, d116_160, d116_161, d116_163, d116_166, d116_167, d116_170, d116_173, n_lt, n_le, n_eq, n_lt0, n_ge0, n_gt0, n_le0, n_eq0, m_lt, m_le, m_gt, m_ge, m_eq, m_eq', m_lt0, m_ge0, m_gt0, m_le0, m_ltm, m_lem, n_in, m_in, n_cl, n_ti, n_div, n_rem', n_dec, n_l, nI_add, pk_mul, an0, an1, decide_eq_true_eq, if_true, if_false, ite_true, ite_false, and_true, true_and, and_false, false_and, not_true, not_false_iff, or_false, false_or, or_true, true_or, eq_self, va_some, Bool.false_eq_true, reduceIte, catS_n, catS_i, catS_r, catS_l, catS_d, Nat.zero_add, Nat.add_zero, decide_true, decide_false, Nat.reduceLeDiff, cat_r, cat_i, cat_l, nle_T, nle_F, nlt_T, nlt_F, neq_T, neq_F, k0, p0, hD0, h2, c64 hD hb hg hv hl hx (by omega : b + 17 < 124), hJ]
      simp only [← X_go]
      exact hX Q
  · rw [if_neg hpos]
    refine ⟨J, ⟨hJg, ⟨hv, hl, hF⟩, ⟨by rw [hno _ _ (by omega)]; exact hx, by rw [hno _ _ (by omega)]; exact h2, by rw [hno _ _ (by omega)]; exact h3⟩, ⟨hfd, Nat.le_succ n, Nat.le_succ _, rfl, fun _ _ => rfl⟩, fun k j h h' => ?_⟩, fun Q => ?_⟩
    · exact hno _ _ (by omega)
    · rw [CT_e (mj := 116) (e := [.ref 123, .ref b, .int (nI top), UN, UN, UN, UN, UN, UN]) (by omega) rfl (Nat.le_of_ble_eq_true rfl)]
      simp (disch := first | assumption | omega) only [Nat.reduceAdd, X_go, go2_some, stp, ldI, ldA, ldL, stI, stA, stL, o1I, o2I, o2L, brI, brII, gl, s1, s2, k1, sl, go_sN, go_sR, go_CT, go_sT, go_no, go_if, pops, bk_v, bk_0, d116_0, d116_1, d116_4, d116_5, d116_6, d116_7, d116_10, d116_11, d116_14, d116_17, d116_18, d116_19, d116_20, d116_24, d116_25, d116_28, d116_29, d116_32, d116_33, d116_36, d116_39, d116_40, d116_43, d116_44, d116_47, d116_48, d116_51, d116_54, d116_56, d116_57, d116_60, d116_61, d116_63, d116_64, d116_67, d116_68, d116_71, d116_74, d116_76, d116_78, d116_79, d116_82, d116_83, d116_84, d116_86, d116_89, d116_91, d116_92, d116_95, d116_98, d116_100, d116_103, d116_105, d116_106, d116_107, d116_110, d116_111, d116_114, d116_115, d116_117, d116_120, d116_121, d116_124, d116_125, d116_128, d116_130, d116_133, d116_135, d116_138, d116_141, d116_142, d116_143, d116_145, d116_146, d116_149, d116_152, d116_154, d116_157, d116_160, d116_161, d116_163, d116_166, d116_167, d116_170, d116_173, n_lt, n_le, n_eq, n_lt0, n_ge0, n_gt0, n_le0, n_eq0, m_lt, m_le, m_gt, m_ge, m_eq, m_eq', m_lt0, m_ge0, m_gt0, m_le0, m_ltm, m_lem, n_in, m_in, n_cl, n_ti, n_div, n_rem', n_dec, n_l, nI_add, pk_mul, an0, an1, decide_eq_true_eq, if_true, if_false, ite_true, ite_false, and_true, true_and, and_false, false_and, not_true, not_false_iff, or_false, false_or, or_true, true_or, eq_self, va_some, Bool.false_eq_true, reduceIte, catS_n, catS_i, catS_r, catS_l, catS_d, Nat.zero_add, Nat.add_zero, decide_true, decide_false, Nat.reduceLeDiff, cat_r, cat_i, cat_l, nle_T, nle_F, nlt_T, nlt_F, neq_T, neq_F, k0, p0, hD0, h2, c64 hD hb hg hv hl hx (by omega : b + 17 < 124), hJ]
      simp only [← X_go]
      rw [X_go, d116_22]
      simp (disch := first | assumption | omega) only [Nat.reduceAdd, X_go, go2_some, stp, ldI, ldA, ldL, stI, stA, stL, o1I, o2I, o2L, brI, brII, gl, s1, s2, k1, sl, go_sN, go_sR, go_CT, go_sT, go_no, go_if, pops, bk_v, bk_0, d116_0, d116_1, d116_4, d116_5, d116_6, d116_7, d116_10, d116_11, d116_14, d116_17, d116_18, d116_19, d116_20, d116_24, d116_25, d116_28, d116_29, d116_32, d116_33, d116_36, d116_39, d116_40, d116_43, d116_44, d116_47, d116_48, d116_51, d116_54, d116_56, d116_57, d116_60, d116_61, d116_63, d116_64, d116_67, d116_68, d116_71, d116_74, d116_76, d116_78, d116_79, d116_82, d116_83, d116_84, d116_86, d116_89, d116_91, d116_92, d116_95, d116_98, d116_100, d116_103, d116_105, d116_106, d116_107, d116_110, d116_111, d116_114, d116_115, d116_117, d116_120, d116_121, d116_124, d116_125, d116_128, d116_130, d116_133, d116_135, d116_138, d116_141, d116_142, d116_143, d116_145, d116_146, d116_149, d116_152, d116_154, d116_157, d116_160, d116_161, d116_163, d116_166, d116_167, d116_170, d116_173, n_lt, n_le, n_eq, n_lt0, n_ge0, n_gt0, n_le0, n_eq0, m_lt, m_le, m_gt, m_ge, m_eq, m_eq', m_lt0, m_ge0, m_gt0, m_le0, m_ltm, m_lem, n_in, m_in, n_cl, n_ti, n_div, n_rem', n_dec, n_l, nI_add, pk_mul, an0, an1, decide_eq_true_eq, if_true, if_false, ite_true, ite_false, and_true, true_and, and_false, false_and, not_true, not_false_iff, or_false, false_or, or_true, true_or, eq_self, va_some, Bool.false_eq_true, reduceIte, catS_n, catS_i, catS_r, catS_l, catS_d, Nat.zero_add, Nat.add_zero, decide_true, decide_false, Nat.reduceLeDiff, cat_r, cat_i, cat_l, nle_T, nle_F, nlt_T, nlt_F, neq_T, neq_F, k0, p0, hD0, c70 hD, hs]
      done
