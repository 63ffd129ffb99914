/-! CALLS of the class: what is told of entries, tables, values -/
def fq (g : GS) (t : Nat) : Nat := wq g (spG g) noG 0 t
def fw (g : GS) (t e : Nat) : Nat := wt g (fq g t) (spG g) noG t e
def fs (g : GS) (t : Nat) : Nat := sw g (fq g t) (spG g) noG t
theorem XR_dr {I I' : MI} {L : ML} {g : GS} {n len : Nat} {ps : Nat → GS} {tx : Nat → Nat} (h : XR I L g n ps len tx) (hf : ∀ k j, k < 114 ∨ k = 130 → I' k j = I k j) : XR I' L g n ps len tx :=
  ⟨RC_fr h.1 fun k j _ _ => hf k j (by omega), VR_fr h.2.1 fun k j _ _ => hf k j (by omega), XT_fr h.2.2.1 fun k j _ => hf k j (by omega), CC_fr h.2.2.2 (hf _ _ (by omega)) fun _ _ _ _ => rfl⟩
theorem d63_0 : dec 63 0 = some (.aload_n 0, 1, []) := rfl
theorem d63_1 : dec 63 1 = some (.getfield 50, 3, [1, 9, 6, 2, 0, 273]) := rfl
theorem d63_4 : dec 63 4 = some (.aload_n 0, 1, []) := rfl
theorem d63_5 : dec 63 5 = some (.getfield 12, 3, [1, 9, 0, 2, 0, 267]) := rfl
theorem d63_8 : dec 63 8 = some (.iload_n 1, 1, []) := rfl
theorem d63_9 : dec 63 9 = some (.aload_n 0, 1, []) := rfl
theorem d63_10 : dec 63 10 = some (.getfield 12, 3, [1, 9, 0, 2, 0, 267]) := rfl
theorem d63_13 : dec 63 13 = some (.getfield 75, 3, [1, 6, 0, 2, 1, 138]) := rfl
theorem d63_16 : dec 63 16 = some (.invokevirtual 295, 3, [2, 24, 2, 7, 0, 536]) := rfl
theorem d63_19 : dec 63 19 = some (.iconst (-1), 1, [4294967295]) := rfl
theorem d63_20 : dec 63 20 = some (.invokevirtual 298, 3, [2, 64, 2, 1, 0, 537, 0, 0, 0, 2]) := rfl
theorem d63_23 : dec 63 23 = some (.return_, 1, []) := rfl
theorem l63 : mL 63 = 2 := rfl
theorem c63 {d : Nat} {P : MP} {I : MI} {L : ML} {C : MC} {t : Nat} {B n len : Nat} {g : GS} {ps : Nat → GS} {tx : Nat → Nat} (hX : XB P) (hR : XR I L g n ps len tx) (hA : AV B g n ps len tx) (hd : 8 ≤ d) (ht : t < 3) : ∃ I', XR I' L g n ps len tx ∧ fo I I' ∧ (I' 127 2 = nI (fq g t) ∧ I' 129 t = nI (fs g t) ∧ ∀ e, e < g (3 + t) → I' 128 (6 * t + e) = nI (fw g t e)) ∧ ∀ Q, CT d 63 [.ref 1, .int (nI t)] P I L C Q = Q (.inl none) P I' L C := by
  have hX' := hX
  obtain ⟨k0, ⟨p0, p1, p2, p3, p4, p5, p6, p7, p8⟩, hS, hS2, hV, ⟨x0, x1, x2⟩, hT2, hO, hD, hH, hH2⟩ := hX'
  have hS' := hS
  obtain ⟨l0, r0, r1, r2, hT, hK, hF⟩ := hS'
  have hT' := hT
  have hK' := hK
  have hF' := hF
  have hR' := hR
  have hA' := hA
  obtain ⟨⟨m0, q0, q1, q2, q3, q4, q5, q6, q7⟩, z1, z2, z3, z4, z5, z6, z7, z8⟩ := hT'
  obtain ⟨w0, w1, w2, w3, w4⟩ := hK'
  obtain ⟨f0, f1, f2, f3, f4, f5, f6, f7, f8⟩ := hF'
  obtain ⟨hg, hVR, hXT, hCC⟩ := hR'
  obtain ⟨hGV, hps, hn4, hlen, htx⟩ := hA'
  have h140 := GV_140 hGV
  have hv := hGV.1
  have hl := hGV.2.1
  have hFv := hGV.2.2
  have hp := prI_p (D := 127) (g := g) (sp := spG g) (gr := noG) (fd := 0) (lo := t) hv 3 I
  rw [wqr_3] at hp
  have hno : ∀ k j, k < 127 ∨ 127 + 2 < k → prI 127 g (spG g) noG 0 t 3 I k j = I k j := fun k j h => prI_n h 3 I
  have h64 : ∀ d Q, 7 ≤ d → CT d 64 [.ref 127, .ref 2, .int (nI t), .int (sbits g), .int (nI 4294967295)] P I L C Q = Q (.inl none) P (prI 127 g (spG g) noG 0 t 3 I) L C := fun d Q h => c64 (fd := 0) hD hS hg hv hl (CB_sb hv) (by omega) h ht (by omega)
  generalize prI 127 g (spG g) noG 0 t 3 I = J at hp hno h64
  obtain ⟨e1, e2, e3⟩ := hp
  have hD0 := hD.1
  refine ⟨J, XR_dr hR fun k j h => hno _ _ (by omega), fun k j h => hno _ _ (by omega), ⟨e1, e2 t (Nat.le_refl t) ht, fun e he => e3 t e (Nat.le_refl t) ht he⟩, fun Q => ?_⟩
  rw [CT_e (mj := 63) (e := [.ref 1, .int (nI t)]) (by omega) rfl (Nat.le_of_ble_eq_true rfl)]
  simp (disch := first | assumption | omega) only [Nat.reduceAdd, X_go, go2_some, stp, ldI, ldA, ldL, stI, stA, stL, o1I, o2I, o2L, brI, brII, gl, s1, s2, k1, sl, go_sN, go_sR, go_CT, go_sT, go_no, go_if, pops, bk_v, bk_0, d63_0, d63_1, d63_4, d63_5, d63_8, d63_9, d63_10, d63_13, d63_16, d63_19, d63_20, d63_23, n_lt, n_le, n_eq, n_lt0, n_ge0, n_gt0, n_le0, n_eq0, m_lt, m_le, m_gt, m_ge, m_eq, m_eq', m_lt0, m_ge0, m_gt0, m_le0, m_ltm, m_lem, n_in, m_in, n_cl, n_ti, n_div, n_rem', n_dec, n_l, nI_add, pk_mul, an0, an1, decide_eq_true_eq, if_true, if_false, ite_true, ite_false, and_true, true_and, and_false, false_and, not_true, not_false_iff, or_false, false_or, or_true, true_or, eq_self, va_some, Bool.false_eq_true, reduceIte, catS_n, catS_i, catS_r, catS_l, catS_d, Nat.zero_add, Nat.add_zero, decide_true, decide_false, Nat.reduceLeDiff, cat_r, cat_i, cat_l, nle_T, nle_F, nlt_T, nlt_F, neq_T, neq_F, k0, p0, p1, p2, p3, p4, p5, p6, p7, p8, x0, x1, x2, l0, r0, r1, r2, m0, q0, q1, q2, q3, q4, q5, q6, q7, w0, w1, w2, f0, f1, f2, f3, f4, hD0, c24 hT hg.1 hv, h64]
  done
/-- what is told of an entry -/
def eV (g : GS) (t e w : Nat) : Nat := if w < 6 then g (cl t e w) else if w = 6 then pw g t e else if 0 < fw g t e then 1 else 0
theorem d73_0 : dec 73 0 = some (.iload_n 1, 1, []) := rfl
theorem d73_1 : dec 73 1 = some (.iload_n 2, 1, []) := rfl
theorem d73_2 : dec 73 2 = some (.invokestatic 124, 3, [2, 27, 0, 9, 0, 599, 0, 0]) := rfl
theorem d73_5 : dec 73 5 = some (.istore 4, 2, []) := rfl
theorem d73_7 : dec 73 7 = some (.iload_n 3, 1, []) := rfl
theorem d73_8 : dec 73 8 = some (.tableswitch 150 0 6 #[44, 60, 76, 92, 108, 124, 140], 44, []) := rfl
theorem d73_52 : dec 73 52 = some (.aload_n 0, 1, []) := rfl
theorem d73_53 : dec 73 53 = some (.getfield 12, 3, [1, 9, 0, 2, 0, 267]) := rfl
theorem d73_56 : dec 73 56 = some (.getfield 75, 3, [1, 6, 0, 2, 1, 138]) := rfl
theorem d73_59 : dec 73 59 = some (.getfield 302, 3, [1, 7, 2, 2, 1, 50]) := rfl
theorem d73_62 : dec 73 62 = some (.iload 4, 2, []) := rfl
theorem d73_64 : dec 73 64 = some (.invokestatic 161, 3, [2, 26, 0, 9, 0, 530, 0, 2]) := rfl
theorem d73_67 : dec 73 67 = some (.ireturn, 1, [0]) := rfl
theorem d73_68 : dec 73 68 = some (.aload_n 0, 1, []) := rfl
theorem d73_69 : dec 73 69 = some (.getfield 12, 3, [1, 9, 0, 2, 0, 267]) := rfl
theorem d73_72 : dec 73 72 = some (.getfield 75, 3, [1, 6, 0, 2, 1, 138]) := rfl
theorem d73_75 : dec 73 75 = some (.getfield 121, 3, [1, 7, 3, 2, 1, 53]) := rfl
theorem d73_78 : dec 73 78 = some (.iload 4, 2, []) := rfl
theorem d73_80 : dec 73 80 = some (.invokestatic 161, 3, [2, 26, 0, 9, 0, 530, 0, 2]) := rfl
theorem d73_83 : dec 73 83 = some (.ireturn, 1, [0]) := rfl
theorem d73_84 : dec 73 84 = some (.aload_n 0, 1, []) := rfl
theorem d73_85 : dec 73 85 = some (.getfield 12, 3, [1, 9, 0, 2, 0, 267]) := rfl
theorem d73_88 : dec 73 88 = some (.getfield 75, 3, [1, 6, 0, 2, 1, 138]) := rfl
theorem d73_91 : dec 73 91 = some (.getfield 305, 3, [1, 7, 4, 2, 1, 59]) := rfl
theorem d73_94 : dec 73 94 = some (.iload 4, 2, []) := rfl
theorem d73_96 : dec 73 96 = some (.invokestatic 161, 3, [2, 26, 0, 9, 0, 530, 0, 2]) := rfl
theorem d73_99 : dec 73 99 = some (.ireturn, 1, [0]) := rfl
theorem d73_100 : dec 73 100 = some (.aload_n 0, 1, []) := rfl
theorem d73_101 : dec 73 101 = some (.getfield 12, 3, [1, 9, 0, 2, 0, 267]) := rfl
theorem d73_104 : dec 73 104 = some (.getfield 75, 3, [1, 6, 0, 2, 1, 138]) := rfl
theorem d73_107 : dec 73 107 = some (.getfield 308, 3, [1, 7, 5, 2, 1, 61]) := rfl
theorem d73_110 : dec 73 110 = some (.iload 4, 2, []) := rfl
theorem d73_112 : dec 73 112 = some (.invokestatic 161, 3, [2, 26, 0, 9, 0, 530, 0, 2]) := rfl
theorem d73_115 : dec 73 115 = some (.ireturn, 1, [0]) := rfl
theorem d73_116 : dec 73 116 = some (.aload_n 0, 1, []) := rfl
theorem d73_117 : dec 73 117 = some (.getfield 12, 3, [1, 9, 0, 2, 0, 267]) := rfl
theorem d73_120 : dec 73 120 = some (.getfield 75, 3, [1, 6, 0, 2, 1, 138]) := rfl
theorem d73_123 : dec 73 123 = some (.getfield 311, 3, [1, 7, 6, 2, 1, 63]) := rfl
theorem d73_126 : dec 73 126 = some (.iload 4, 2, []) := rfl
theorem d73_128 : dec 73 128 = some (.invokestatic 161, 3, [2, 26, 0, 9, 0, 530, 0, 2]) := rfl
theorem d73_131 : dec 73 131 = some (.ireturn, 1, [0]) := rfl
theorem d73_132 : dec 73 132 = some (.aload_n 0, 1, []) := rfl
theorem d73_133 : dec 73 133 = some (.getfield 12, 3, [1, 9, 0, 2, 0, 267]) := rfl
theorem d73_136 : dec 73 136 = some (.getfield 75, 3, [1, 6, 0, 2, 1, 138]) := rfl
theorem d73_139 : dec 73 139 = some (.getfield 314, 3, [1, 7, 7, 2, 1, 65]) := rfl
theorem d73_142 : dec 73 142 = some (.iload 4, 2, []) := rfl
theorem d73_144 : dec 73 144 = some (.invokestatic 161, 3, [2, 26, 0, 9, 0, 530, 0, 2]) := rfl
theorem d73_147 : dec 73 147 = some (.ireturn, 1, [0]) := rfl
theorem d73_148 : dec 73 148 = some (.aload_n 0, 1, []) := rfl
theorem d73_149 : dec 73 149 = some (.getfield 12, 3, [1, 9, 0, 2, 0, 267]) := rfl
theorem d73_152 : dec 73 152 = some (.iload 4, 2, []) := rfl
theorem d73_154 : dec 73 154 = some (.invokevirtual 317, 3, [2, 71, 2, 6, 0, 600, 0]) := rfl
theorem d73_157 : dec 73 157 = some (.ireturn, 1, [0]) := rfl
theorem d73_158 : dec 73 158 = some (.aload_n 0, 1, []) := rfl
theorem d73_159 : dec 73 159 = some (.iload_n 1, 1, []) := rfl
theorem d73_160 : dec 73 160 = some (.invokevirtual 189, 3, [2, 63, 2, 9, 0, 532, 0]) := rfl
theorem d73_163 : dec 73 163 = some (.aload_n 0, 1, []) := rfl
theorem d73_164 : dec 73 164 = some (.getfield 50, 3, [1, 9, 6, 2, 0, 273]) := rfl
theorem d73_167 : dec 73 167 = some (.iload 4, 2, []) := rfl
theorem d73_169 : dec 73 169 = some (.invokevirtual 192, 3, [2, 74, 2, 1, 0, 601, 0]) := rfl
theorem d73_172 : dec 73 172 = some (.ifCond .le 7, 3, [179]) := rfl
theorem d73_175 : dec 73 175 = some (.iconst 1, 1, [1]) := rfl
theorem d73_176 : dec 73 176 = some (.goto 4, 3, [180]) := rfl
theorem d73_179 : dec 73 179 = some (.iconst 0, 1, [0]) := rfl
theorem d73_180 : dec 73 180 = some (.ireturn, 1, [0]) := rfl
theorem l73 : mL 73 = 5 := rfl
theorem t73_8_0 {ls st : List Value} {P : MP} {I : MI} {L : ML} {C : MC} : stp 8 (.tableswitch 150 0 6 #[44, 60, 76, 92, 108, 124, 140]) 44 [] ls (.int (nI 0) :: st) P I L C = sN 52 ls st P I L C := rfl
theorem t73_8_1 {ls st : List Value} {P : MP} {I : MI} {L : ML} {C : MC} : stp 8 (.tableswitch 150 0 6 #[44, 60, 76, 92, 108, 124, 140]) 44 [] ls (.int (nI 1) :: st) P I L C = sN 68 ls st P I L C := rfl
theorem t73_8_2 {ls st : List Value} {P : MP} {I : MI} {L : ML} {C : MC} : stp 8 (.tableswitch 150 0 6 #[44, 60, 76, 92, 108, 124, 140]) 44 [] ls (.int (nI 2) :: st) P I L C = sN 84 ls st P I L C := rfl
theorem t73_8_3 {ls st : List Value} {P : MP} {I : MI} {L : ML} {C : MC} : stp 8 (.tableswitch 150 0 6 #[44, 60, 76, 92, 108, 124, 140]) 44 [] ls (.int (nI 3) :: st) P I L C = sN 100 ls st P I L C := rfl
theorem t73_8_4 {ls st : List Value} {P : MP} {I : MI} {L : ML} {C : MC} : stp 8 (.tableswitch 150 0 6 #[44, 60, 76, 92, 108, 124, 140]) 44 [] ls (.int (nI 4) :: st) P I L C = sN 116 ls st P I L C := rfl
theorem t73_8_5 {ls st : List Value} {P : MP} {I : MI} {L : ML} {C : MC} : stp 8 (.tableswitch 150 0 6 #[44, 60, 76, 92, 108, 124, 140]) 44 [] ls (.int (nI 5) :: st) P I L C = sN 132 ls st P I L C := rfl
theorem t73_8_6 {ls st : List Value} {P : MP} {I : MI} {L : ML} {C : MC} : stp 8 (.tableswitch 150 0 6 #[44, 60, 76, 92, 108, 124, 140]) 44 [] ls (.int (nI 6) :: st) P I L C = sN 148 ls st P I L C := rfl
theorem t73_8_7 {ls st : List Value} {P : MP} {I : MI} {L : ML} {C : MC} : stp 8 (.tableswitch 150 0 6 #[44, 60, 76, 92, 108, 124, 140]) 44 [] ls (.int (nI 7) :: st) P I L C = sN 158 ls st P I L C := rfl
theorem c73 {d : Nat} {P : MP} {I : MI} {L : ML} {C : MC} {t e w : Nat} {B n len : Nat} {g : GS} {ps : Nat → GS} {tx : Nat → Nat} (hX : XB P) (hR : XR I L g n ps len tx) (hA : AV B g n ps len tx) (hd : 10 ≤ d) (ht : t < 3) (he : e < g (3 + t)) (hw : w < 8) : ∃ I', XR I' L g n ps len tx ∧ fo I I' ∧ ∀ Q, CT d 73 [.ref 1, .int (nI t), .int (nI e), .int (nI w)] P I L C Q = Q (.inl (some (.int (nI (eV g t e w))))) P I' L C := by
  have hX' := hX
  obtain ⟨k0, ⟨p0, p1, p2, p3, p4, p5, p6, p7, p8⟩, hS, hS2, hV, ⟨x0, x1, x2⟩, hT2, hO, hD, hH, hH2⟩ := hX'
  have hS' := hS
  obtain ⟨l0, r0, r1, r2, hT, hK, hF⟩ := hS'
  have hT' := hT
  have hK' := hK
  have hF' := hF
  have hR' := hR
  have hA' := hA
  obtain ⟨⟨m0, q0, q1, q2, q3, q4, q5, q6, q7⟩, z1, z2, z3, z4, z5, z6, z7, z8⟩ := hT'
  obtain ⟨w0, w1, w2, w3, w4⟩ := hK'
  obtain ⟨f0, f1, f2, f3, f4, f5, f6, f7, f8⟩ := hF'
  obtain ⟨hg, hVR, hXT, hCC⟩ := hR'
  obtain ⟨hGV, hps, hn4, hlen, htx⟩ := hA'
  have h140 := GV_140 hGV
  have hv := hGV.1
  have hl := hGV.2.1
  have hFv := hGV.2.2
  have hc := hv.2.1 t ht
  obtain ⟨R0, R1, R2, R3, R4, R5⟩ := hg.1.2.2 t e ht he
  have g0 : I 6 (6 * t + e) = nI (g (cl t e 0)) := R0
  have g1 : I 7 (6 * t + e) = nI (g (cl t e 1)) := R1
  have g2 : I 8 (6 * t + e) = nI (g (cl t e 2)) := R2
  have g3 : I 9 (6 * t + e) = nI (g (cl t e 3)) := R3
  have g4 : I 10 (6 * t + e) = nI (g (cl t e 4)) := R4
  have g5 : I 11 (6 * t + e) = nI (g (cl t e 5)) := R5
  have hE : w = 0 ∨ w = 1 ∨ w = 2 ∨ w = 3 ∨ w = 4 ∨ w = 5 ∨ w = 6 ∨ w = 7 := by omega
  have hD0 := hD.1
  rcases hE with rfl | rfl | rfl | rfl | rfl | rfl | rfl | rfl
  · refine ⟨I, hR, fo_r, fun Q => ?_⟩
    rw [CT_e (mj := 73) (e := [.ref 1, .int (nI t), .int (nI e), .int (nI 0), UN]) (by omega) rfl (Nat.le_of_ble_eq_true rfl)]
    simp (disch := first | assumption | omega) only [↓t73_8_0, Nat.reduceAdd, X_go, go2_some, stp, ldI, ldA, ldL, stI, stA, stL, o1I, o2I, o2L, brI, brII, gl, s1, s2, k1, sl, go_sN, go_sR, go_CT, go_sT, go_no, go_if, pops, bk_v, bk_0, d73_0, d73_1, d73_2, d73_5, d73_7, d73_8, d73_52, d73_53, d73_56, d73_59, d73_62, d73_64, d73_67, d73_68, d73_69, d73_72, d73_75, d73_78, d73_80, d73_83, d73_84, d73_85, d73_88, d73_91, d73_94, d73_96, d73_99, d73_100, d73_101, d73_104, d73_107, d73_110, d73_112, d73_115, d73_116, d73_117, d73_120, d73_123, d73_126, d73_128, d73_131, d73_132, d73_133, d73_136, d73_139, d73_142, d73_144, d73_147, d73_148, d73_149, d73_152, d73_154, d73_157, d73_158, d73_159, d73_160, d73_163, d73_164, d73_167, d73_169, d73_172, d73_175, d73_176, d73_179, d73_180, n_lt, n_le, n_eq, n_lt0, n_ge0, n_gt0, n_le0, n_eq0, m_lt, m_le, m_gt, m_ge, m_eq, m_eq', m_lt0, m_ge0, m_gt0, m_le0, m_ltm, m_lem, n_in, m_in, n_cl, n_ti, n_div, n_rem', n_dec, n_l, nI_add, pk_mul, an0, an1, decide_eq_true_eq, if_true, if_false, ite_true, ite_false, and_true, true_and, and_false, false_and, not_true, not_false_iff, or_false, false_or, or_true, true_or, eq_self, va_some, Bool.false_eq_true, reduceIte, catS_n, catS_i, catS_r, catS_l, catS_d, Nat.zero_add, Nat.add_zero, decide_true, decide_false, Nat.reduceLeDiff, cat_r, cat_i, cat_l, nle_T, nle_F, nlt_T, nlt_F, neq_T, neq_F, k0, p0, p1, p2, p3, p4, p5, p6, p7, p8, x0, x1, x2, l0, r0, r1, r2, m0, q0, q1, q2, q3, q4, q5, q6, q7, w0, w1, w2, f0, f1, f2, f3, f4, c27, c26 z3, g0]
    rfl
  · refine ⟨I, hR, fo_r, fun Q => ?_⟩
    rw [CT_e (mj := 73) (e := [.ref 1, .int (nI t), .int (nI e), .int (nI 1), UN]) (by omega) rfl (Nat.le_of_ble_eq_true rfl)]
    simp (disch := first | assumption | omega) only [↓t73_8_1, Nat.reduceAdd, X_go, go2_some, stp, ldI, ldA, ldL, stI, stA, stL, o1I, o2I, o2L, brI, brII, gl, s1, s2, k1, sl, go_sN, go_sR, go_CT, go_sT, go_no, go_if, pops, bk_v, bk_0, d73_0, d73_1, d73_2, d73_5, d73_7, d73_8, d73_52, d73_53, d73_56, d73_59, d73_62, d73_64, d73_67, d73_68, d73_69, d73_72, d73_75, d73_78, d73_80, d73_83, d73_84, d73_85, d73_88, d73_91, d73_94, d73_96, d73_99, d73_100, d73_101, d73_104, d73_107, d73_110, d73_112, d73_115, d73_116, d73_117, d73_120, d73_123, d73_126, d73_128, d73_131, d73_132, d73_133, d73_136, d73_139, d73_142, d73_144, d73_147, d73_148, d73_149, d73_152, d73_154, d73_157, d73_158, d73_159, d73_160, d73_163, d73_164, d73_167, d73_169, d73_172, d73_175, d73_176, d73_179, d73_180, n_lt, n_le, n_eq, n_lt0, n_ge0, n_gt0, n_le0, n_eq0, m_lt, m_le, m_gt, m_ge, m_eq, m_eq', m_lt0, m_ge0, m_gt0, m_le0, m_ltm, m_lem, n_in, m_in, n_cl, n_ti, n_div, n_rem', n_dec, n_l, nI_add, pk_mul, an0, an1, decide_eq_true_eq, if_true, if_false, ite_true, ite_false, and_true, true_and, and_false, false_and, not_true, not_false_iff, or_false, false_or, or_true, true_or, eq_self, va_some, Bool.false_eq_true, reduceIte, catS_n, catS_i, catS_r, catS_l, catS_d, Nat.zero_add, Nat.add_zero, decide_true, decide_false, Nat.reduceLeDiff, cat_r, cat_i, cat_l, nle_T, nle_F, nlt_T, nlt_F, neq_T, neq_F, k0, p0, p1, p2, p3, p4, p5, p6, p7, p8, x0, x1, x2, l0, r0, r1, r2, m0, q0, q1, q2, q3, q4, q5, q6, q7, w0, w1, w2, f0, f1, f2, f3, f4, c27, c26 z4, g1]
    rfl
  · refine ⟨I, hR, fo_r, fun Q => ?_⟩
    rw [CT_e (mj := 73) (e := [.ref 1, .int (nI t), .int (nI e), .int (nI 2), UN]) (by omega) rfl (Nat.le_of_ble_eq_true rfl)]
    simp (disch := first | assumption | omega) only [↓t73_8_2, Nat.reduceAdd, X_go, go2_some, stp, ldI, ldA, ldL, stI, stA, stL, o1I, o2I, o2L, brI, brII, gl, s1, s2, k1, sl, go_sN, go_sR, go_CT, go_sT, go_no, go_if, pops, bk_v, bk_0, d73_0, d73_1, d73_2, d73_5, d73_7, d73_8, d73_52, d73_53, d73_56, d73_59, d73_62, d73_64, d73_67, d73_68, d73_69, d73_72, d73_75, d73_78, d73_80, d73_83, d73_84, d73_85, d73_88, d73_91, d73_94, d73_96, d73_99, d73_100, d73_101, d73_104, d73_107, d73_110, d73_112, d73_115, d73_116, d73_117, d73_120, d73_123, d73_126, d73_128, d73_131, d73_132, d73_133, d73_136, d73_139, d73_142, d73_144, d73_147, d73_148, d73_149, d73_152, d73_154, d73_157, d73_158, d73_159, d73_160, d73_163, d73_164, d73_167, d73_169, d73_172, d73_175, d73_176, d73_179, d73_180, n_lt, n_le, n_eq, n_lt0, n_ge0, n_gt0, n_le0, n_eq0, m_lt, m_le, m_gt, m_ge, m_eq, m_eq', m_lt0, m_ge0, m_gt0, m_le0, m_ltm, m_lem, n_in, m_in, n_cl, n_ti, n_div, n_rem', n_dec, n_l, nI_add, pk_mul, an0, an1, decide_eq_true_eq, if_true, if_false, ite_true, ite_false, and_true, true_and, and_false, false_and, not_true, not_false_iff, or_false, false_or, or_true, true_or, eq_self, va_some, Bool.false_eq_true, reduceIte, catS_n, catS_i, catS_r, catS_l, catS_d, Nat.zero_add, Nat.add_zero, decide_true, decide_false, Nat.reduceLeDiff, cat_r, cat_i, cat_l, nle_T, nle_F, nlt_T, nlt_F, neq_T, neq_F, k0, p0, p1, p2, p3, p4, p5, p6, p7, p8, x0, x1, x2, l0, r0, r1, r2, m0, q0, q1, q2, q3, q4, q5, q6, q7, w0, w1, w2, f0, f1, f2, f3, f4, c27, c26 z5, g2]
    rfl
  · refine ⟨I, hR, fo_r, fun Q => ?_⟩
    rw [CT_e (mj := 73) (e := [.ref 1, .int (nI t), .int (nI e), .int (nI 3), UN]) (by omega) rfl (Nat.le_of_ble_eq_true rfl)]
    simp (disch := first | assumption | omega) only [↓t73_8_3, Nat.reduceAdd, X_go, go2_some, stp, ldI, ldA, ldL, stI, stA, stL, o1I, o2I, o2L, brI, brII, gl, s1, s2, k1, sl, go_sN, go_sR, go_CT, go_sT, go_no, go_if, pops, bk_v, bk_0, d73_0, d73_1, d73_2, d73_5, d73_7, d73_8, d73_52, d73_53, d73_56, d73_59, d73_62, d73_64, d73_67, d73_68, d73_69, d73_72, d73_75, d73_78, d73_80, d73_83, d73_84, d73_85, d73_88, d73_91, d73_94, d73_96, d73_99, d73_100, d73_101, d73_104, d73_107, d73_110, d73_112, d73_115, d73_116, d73_117, d73_120, d73_123, d73_126, d73_128, d73_131, d73_132, d73_133, d73_136, d73_139, d73_142, d73_144, d73_147, d73_148, d73_149, d73_152, d73_154, d73_157, d73_158, d73_159, d73_160, d73_163, d73_164, d73_167, d73_169, d73_172, d73_175, d73_176, d73_179, d73_180, n_lt, n_le, n_eq, n_lt0, n_ge0, n_gt0, n_le0, n_eq0, m_lt, m_le, m_gt, m_ge, m_eq, m_eq', m_lt0, m_ge0, m_gt0, m_le0, m_ltm, m_lem, n_in, m_in, n_cl, n_ti, n_div, n_rem', n_dec, n_l, nI_add, pk_mul, an0, an1, decide_eq_true_eq, if_true, if_false, ite_true, ite_false, and_true, true_and, and_false, false_and, not_true, not_false_iff, or_false, false_or, or_true, true_or, eq_self, va_some, Bool.false_eq_true, reduceIte, catS_n, catS_i, catS_r, catS_l, catS_d, Nat.zero_add, Nat.add_zero, decide_true, decide_false, Nat.reduceLeDiff, cat_r, cat_i, cat_l, nle_T, nle_F, nlt_T, nlt_F, neq_T, neq_F, k0, p0, p1, p2, p3, p4, p5, p6, p7, p8, x0, x1, x2, l0, r0, r1, r2, m0, q0, q1, q2, q3, q4, q5, q6, q7, w0, w1, w2, f0, f1, f2, f3, f4, c27, c26 z6, g3]
    rfl
  · refine ⟨I, hR, fo_r, fun Q => ?_⟩
    rw [CT_e (mj := 73) (e := [.ref 1, .int (nI t), .int (nI e), .int (nI 4), UN]) (by omega) rfl (Nat.le_of_ble_eq_true rfl)]
    simp (disch := first | assumption | omega) only [↓t73_8_4, Nat.reduceAdd, X_go, go2_some, stp, ldI, ldA, ldL, stI, stA, stL, o1I, o2I, o2L, brI, brII, gl, s1, s2, k1, sl, go_sN, go_sR, go_CT, go_sT, go_no, go_if, pops, bk_v, bk_0, d73_0, d73_1, d73_2, d73_5, d73_7, d73_8, d73_52, d73_53, d73_56, d73_59, d73_62, d73_64, d73_67, d73_68, d73_69, d73_72, d73_75, d73_78, d73_80, d73_83, d73_84, d73_85, d73_88, d73_91, d73_94, d73_96, d73_99, d73_100, d73_101, d73_104, d73_107, d73_110, d73_112, d73_115, d73_116, d73_117, d73_120, d73_123, d73_126, d73_128, d73_131, d73_132, d73_133, d73_136, d73_139, d73_142, d73_144, d73_147, d73_148, d73_149, d73_152, d73_154, d73_157, d73_158, d73_159, d73_160, d73_163, d73_164, d73_167, d73_169, d73_172, d73_175, d73_176, d73_179, d73_180, n_lt, n_le, n_eq, n_lt0, n_ge0, n_gt0, n_le0, n_eq0, m_lt, m_le, m_gt, m_ge, m_eq, m_eq', m_lt0, m_ge0, m_gt0, m_le0, m_ltm, m_lem, n_in, m_in, n_cl, n_ti, n_div, n_rem', n_dec, n_l, nI_add, pk_mul, an0, an1, decide_eq_true_eq, if_true, if_false, ite_true, ite_false, and_true, true_and, and_false, false_and, not_true, not_false_iff, or_false, false_or, or_true, true_or, eq_self, va_some, Bool.false_eq_true, reduceIte, catS_n, catS_i, catS_r, catS_l, catS_d, Nat.zero_add, Nat.add_zero, decide_true, decide_false, Nat.reduceLeDiff, cat_r, cat_i, cat_l, nle_T, nle_F, nlt_T, nlt_F, neq_T, neq_F, k0, p0, p1, p2, p3, p4, p5, p6, p7, p8, x0, x1, x2, l0, r0, r1, r2, m0, q0, q1, q2, q3, q4, q5, q6, q7, w0, w1, w2, f0, f1, f2, f3, f4, c27, c26 z7, g4]
    rfl
  · refine ⟨I, hR, fo_r, fun Q => ?_⟩
    rw [CT_e (mj := 73) (e := [.ref 1, .int (nI t), .int (nI e), .int (nI 5), UN]) (by omega) rfl (Nat.le_of_ble_eq_true rfl)]
    simp (disch := first | assumption | omega) only [↓t73_8_5, Nat.reduceAdd, X_go, go2_some, stp, ldI, ldA, ldL, stI, stA, stL, o1I, o2I, o2L, brI, brII, gl, s1, s2, k1, sl, go_sN, go_sR, go_CT, go_sT, go_no, go_if, pops, bk_v, bk_0, d73_0, d73_1, d73_2, d73_5, d73_7, d73_8, d73_52, d73_53, d73_56, d73_59, d73_62, d73_64, d73_67, d73_68, d73_69, d73_72, d73_75, d73_78, d73_80, d73_83, d73_84, d73_85, d73_88, d73_91, d73_94, d73_96, d73_99, d73_100, d73_101, d73_104, d73_107, d73_110, d73_112, d73_115, d73_116, d73_117, d73_120, d73_123, d73_126, d73_128, d73_131, d73_132, d73_133, d73_136, d73_139, d73_142, d73_144, d73_147, d73_148, d73_149, d73_152, d73_154, d73_157, d73_158, d73_159, d73_160, d73_163, d73_164, d73_167, d73_169, d73_172, d73_175, d73_176, d73_179, d73_180, n_lt, n_le, n_eq, n_lt0, n_ge0, n_gt0, n_le0, n_eq0, m_lt, m_le, m_gt, m_ge, m_eq, m_eq', m_lt0, m_ge0, m_gt0, m_le0, m_ltm, m_lem, n_in, m_in, n_cl, n_ti, n_div, n_rem', n_dec, n_l, nI_add, pk_mul, an0, an1, decide_eq_true_eq, if_true, if_false, ite_true, ite_false, and_true, true_and, and_false, false_and, not_true, not_false_iff, or_false, false_or, or_true, true_or, eq_self, va_some, Bool.false_eq_true, reduceIte, catS_n, catS_i, catS_r, catS_l, catS_d, Nat.zero_add, Nat.add_zero, decide_true, decide_false, Nat.reduceLeDiff, cat_r, cat_i, cat_l, nle_T, nle_F, nlt_T, nlt_F, neq_T, neq_F, k0, p0, p1, p2, p3, p4, p5, p6, p7, p8, x0, x1, x2, l0, r0, r1, r2, m0, q0, q1, q2, q3, q4, q5, q6, q7, w0, w1, w2, f0, f1, f2, f3, f4, c27, c26 z8, g5]
    rfl
  · refine ⟨I, hR, fo_r, fun Q => ?_⟩
    rw [CT_e (mj := 73) (e := [.ref 1, .int (nI t), .int (nI e), .int (nI 6), UN]) (by omega) rfl (Nat.le_of_ble_eq_true rfl)]
    simp (disch := first | assumption | omega) only [↓t73_8_6, Nat.reduceAdd, X_go, go2_some, stp, ldI, ldA, ldL, stI, stA, stL, o1I, o2I, o2L, brI, brII, gl, s1, s2, k1, sl, go_sN, go_sR, go_CT, go_sT, go_no, go_if, pops, bk_v, bk_0, d73_0, d73_1, d73_2, d73_5, d73_7, d73_8, d73_52, d73_53, d73_56, d73_59, d73_62, d73_64, d73_67, d73_68, d73_69, d73_72, d73_75, d73_78, d73_80, d73_83, d73_84, d73_85, d73_88, d73_91, d73_94, d73_96, d73_99, d73_100, d73_101, d73_104, d73_107, d73_110, d73_112, d73_115, d73_116, d73_117, d73_120, d73_123, d73_126, d73_128, d73_131, d73_132, d73_133, d73_136, d73_139, d73_142, d73_144, d73_147, d73_148, d73_149, d73_152, d73_154, d73_157, d73_158, d73_159, d73_160, d73_163, d73_164, d73_167, d73_169, d73_172, d73_175, d73_176, d73_179, d73_180, n_lt, n_le, n_eq, n_lt0, n_ge0, n_gt0, n_le0, n_eq0, m_lt, m_le, m_gt, m_ge, m_eq, m_eq', m_lt0, m_ge0, m_gt0, m_le0, m_ltm, m_lem, n_in, m_in, n_cl, n_ti, n_div, n_rem', n_dec, n_l, nI_add, pk_mul, an0, an1, decide_eq_true_eq, if_true, if_false, ite_true, ite_false, and_true, true_and, and_false, false_and, not_true, not_false_iff, or_false, false_or, or_true, true_or, eq_self, va_some, Bool.false_eq_true, reduceIte, catS_n, catS_i, catS_r, catS_l, catS_d, Nat.zero_add, Nat.add_zero, decide_true, decide_false, Nat.reduceLeDiff, cat_r, cat_i, cat_l, nle_T, nle_F, nlt_T, nlt_F, neq_T, neq_F, k0, p0, p1, p2, p3, p4, p5, p6, p7, p8, x0, x1, x2, l0, r0, r1, r2, m0, q0, q1, q2, q3, q4, q5, q6, q7, w0, w1, w2, f0, f1, f2, f3, f4, c27, c71 hS hg hv hl]
    rfl
  · obtain ⟨I', i1, i2, ⟨i3, i4, i5⟩, i6⟩ := c63 (d := d - 1) (C := C) hX hR hA (by omega) ht
    have i5 := i5 e he
    have hb := wt_b (q := fq g t) (sp := spG g) (gr := noG) hv hl ht he
    have hb : fw g t e ≤ 102000 := hb
    refine ⟨I', i1, i2, fun Q => ?_⟩
    rw [CT_e (mj := 73) (e := [.ref 1, .int (nI t), .int (nI e), .int (nI 7), UN]) (by omega) rfl (Nat.le_of_ble_eq_true rfl)]
    have e7 : eV g t e 7 = if 0 < fw g t e then 1 else 0 := rfl
    rw [e7]
    by_cases z : 0 < fw g t e
    · simp (disch := first | assumption | omega) only [↓t73_8_7, Nat.reduceAdd, X_go, go2_some, stp, ldI, ldA, ldL, stI, stA, stL, o1I, o2I, o2L, brI, brII, gl, s1, s2, k1, sl, go_sN, go_sR, go_CT, go_sT, go_no, go_if, pops, bk_v, bk_0, d73_0, d73_1, d73_2, d73_5, d73_7, d73_8, d73_52, d73_53, d73_56, d73_59, d73_62, d73_64, d73_67, d73_68, d73_69, d73_72, d73_75, d73_78, d73_80, d73_83, d73_84, d73_85, d73_88, d73_91, d73_94, d73_96, d73_99, d73_100, d73_101, d73_104, d73_107, d73_110, d73_112, d73_115, d73_116, d73_117, d73_120, d73_123, d73_126, d73_128, d73_131, d73_132, d73_133, d73_136, d73_139, d73_142, d73_144, d73_147, d73_148, d73_149, d73_152, d73_154, d73_157, d73_158, d73_159, d73_160, d73_163, d73_164, d73_167, d73_169, d73_172, d73_175, d73_176, d73_179, d73_180, n_lt, n_le, n_eq, n_lt0, n_ge0, n_gt0, n_le0, n_eq0, m_lt, m_le, m_gt, m_ge, m_eq, m_eq', m_lt0, m_ge0, m_gt0, m_le0, m_ltm, m_lem, n_in, m_in, n_cl, n_ti, n_div, n_rem', n_dec, n_l, nI_add, pk_mul, an0, an1, decide_eq_true_eq, if_true, if_false, ite_true, ite_false, and_true, true_and, and_false, false_and, not_true, not_false_iff, or_false, false_or, or_true, true_or, eq_self, va_some, Bool.false_eq_true, reduceIte, catS_n, catS_i, catS_r, catS_l, catS_d, Nat.zero_add, Nat.add_zero, decide_true, decide_false, Nat.reduceLeDiff, cat_r, cat_i, cat_l, nle_T, nle_F, nlt_T, nlt_F, neq_T, neq_F, k0, p0, p1, p2, p3, p4, p5, p6, p7, p8, x0, x1, x2, l0, r0, r1, r2, m0, q0, q1, q2, q3, q4, q5, q6, q7, w0, w1, w2, f0, f1, f2, f3, f4, c27, i6, hD0, c74 hD, i5, z]
    · simp (disch := first | assumption | omega) only [↓t73_8_7, Nat.reduceAdd, X_go, go2_some, stp, ldI, ldA, ldL, stI, stA, stL, o1I, o2I, o2L, brI, brII, gl, s1, s2, k1, sl, go_sN, go_sR, go_CT, go_sT, go_no, go_if, pops, bk_v, bk_0, d73_0, d73_1, d73_2, d73_5, d73_7, d73_8, d73_52, d73_53, d73_56, d73_59, d73_62, d73_64, d73_67, d73_68, d73_69, d73_72, d73_75, d73_78, d73_80, d73_83, d73_84, d73_85, d73_88, d73_91, d73_94, d73_96, d73_99, d73_100, d73_101, d73_104, d73_107, d73_110, d73_112, d73_115, d73_116, d73_117, d73_120, d73_123, d73_126, d73_128, d73_131, d73_132, d73_133, d73_136, d73_139, d73_142, d73_144, d73_147, d73_148, d73_149, d73_152, d73_154, d73_157, d73_158, d73_159, d73_160, d73_163, d73_164, d73_167, d73_169, d73_172, d73_175, d73_176, d73_179, d73_180, n_lt, n_le, n_eq, n_lt0, n_ge0, n_gt0, n_le0, n_eq0, m_lt, m_le, m_gt, m_ge, m_eq, m_eq', m_lt0, m_ge0, m_gt0, m_le0, m_ltm, m_lem, n_in, m_in, n_cl, n_ti, n_div, n_rem', n_dec, n_l, nI_add, pk_mul, an0, an1, decide_eq_true_eq, if_true, if_false, ite_true, ite_false, and_true, true_and, and_false, false_and, not_true, not_false_iff, or_false, false_or, or_true, true_or, eq_self, va_some, Bool.false_eq_true, reduceIte, catS_n, catS_i, catS_r, catS_l, catS_d, Nat.zero_add, Nat.add_zero, decide_true, decide_false, Nat.reduceLeDiff, cat_r, cat_i, cat_l, nle_T, nle_F, nlt_T, nlt_F, neq_T, neq_F, k0, p0, p1, p2, p3, p4, p5, p6, p7, p8, x0, x1, x2, l0, r0, r1, r2, m0, q0, q1, q2, q3, q4, q5, q6, q7, w0, w1, w2, f0, f1, f2, f3, f4, c27, i6, hD0, c74 hD, i5, z]
theorem d99_0 : dec 99 0 = some (.aload_n 0, 1, []) := rfl
theorem d99_1 : dec 99 1 = some (.iload_n 1, 1, []) := rfl
theorem d99_2 : dec 99 2 = some (.iload_n 2, 1, []) := rfl
theorem d99_3 : dec 99 3 = some (.invokevirtual 113, 3, [2, 93, 2, 9, 0, 590, 0, 0]) := rfl
theorem d99_6 : dec 99 6 = some (.iload_n 3, 1, []) := rfl
theorem d99_7 : dec 99 7 = some (.iconst 0, 1, [0]) := rfl
theorem d99_8 : dec 99 8 = some (.bipush 7, 2, [7]) := rfl
theorem d99_10 : dec 99 10 = some (.invokestatic 68, 3, [2, 87, 0, 9, 0, 434, 0, 0, 0]) := rfl
theorem d99_13 : dec 99 13 = some (.aload_n 0, 1, []) := rfl
theorem d99_14 : dec 99 14 = some (.iload_n 1, 1, []) := rfl
theorem d99_15 : dec 99 15 = some (.iload_n 2, 1, []) := rfl
theorem d99_16 : dec 99 16 = some (.iload_n 3, 1, []) := rfl
theorem d99_17 : dec 99 17 = some (.invokevirtual 131, 3, [2, 73, 2, 9, 0, 595, 0, 0, 0]) := rfl
theorem d99_20 : dec 99 20 = some (.ireturn, 1, [0]) := rfl
theorem l99 : mL 99 = 4 := rfl
theorem x99 : (mG 99).2.2.2.2 = [] := rfl
theorem c99 {d : Nat} {P : MP} {I : MI} {L : ML} {C : MC} {t e w : Nat} {B n len : Nat} {g : GS} {ps : Nat → GS} {tx : Nat → Nat} (hX : XB P) (hR : XR I L g n ps len tx) (hA : AV B g n ps len tx) (hd : 12 ≤ d) (ht : t < 3) (he : e < g (3 + t)) (hw : w < 8) : ∃ I', XR I' L g n ps len tx ∧ fo I I' ∧ ∀ Q, CT d 99 [.ref 1, .int (nI t), .int (nI e), .int (nI w)] P I L C Q = Q (.inl (some (.int (nI (eV g t e w))))) P I' L C := by
  have hX' := hX
  obtain ⟨k0, ⟨p0, p1, p2, p3, p4, p5, p6, p7, p8⟩, hS, hS2, hV, ⟨x0, x1, x2⟩, hT2, hO, hD, hH, hH2⟩ := hX'
  have hS' := hS
  obtain ⟨l0, r0, r1, r2, hT, hK, hF⟩ := hS'
  have hT' := hT
  have hK' := hK
  have hF' := hF
  have hR' := hR
  have hA' := hA
  obtain ⟨⟨m0, q0, q1, q2, q3, q4, q5, q6, q7⟩, z1, z2, z3, z4, z5, z6, z7, z8⟩ := hT'
  obtain ⟨w0, w1, w2, w3, w4⟩ := hK'
  obtain ⟨f0, f1, f2, f3, f4, f5, f6, f7, f8⟩ := hF'
  obtain ⟨hg, hVR, hXT, hCC⟩ := hR'
  obtain ⟨hGV, hps, hn4, hlen, htx⟩ := hA'
  have h140 := GV_140 hGV
  have hv := hGV.1
  have hl := hGV.2.1
  have hFv := hGV.2.2
  obtain ⟨I', i1, i2, i3⟩ := c73 (d := d - 1) (C := C) hX hR hA (by omega) ht he hw
  refine ⟨I', i1, i2, fun Q => ?_⟩
  rw [CT_e (mj := 99) (e := [.ref 1, .int (nI t), .int (nI e), .int (nI w)]) (by omega) rfl (Nat.le_of_ble_eq_true rfl)]
  simp (disch := first | assumption | omega) only [Nat.reduceAdd, X_go, go2_some, stp, ldI, ldA, ldL, stI, stA, stL, o1I, o2I, o2L, brI, brII, gl, s1, s2, k1, sl, go_sN, go_sR, go_CT, go_sT, go_no, go_if, pops, bk_v, bk_0, d99_0, d99_1, d99_2, d99_3, d99_6, d99_7, d99_8, d99_10, d99_13, d99_14, d99_15, d99_16, d99_17, d99_20, n_lt, n_le, n_eq, n_lt0, n_ge0, n_gt0, n_le0, n_eq0, m_lt, m_le, m_gt, m_ge, m_eq, m_eq', m_lt0, m_ge0, m_gt0, m_le0, m_ltm, m_lem, n_in, m_in, n_cl, n_ti, n_div, n_rem', n_dec, n_l, nI_add, pk_mul, an0, an1, decide_eq_true_eq, if_true, if_false, ite_true, ite_false, and_true, true_and, and_false, false_and, not_true, not_false_iff, or_false, false_or, or_true, true_or, eq_self, va_some, Bool.false_eq_true, reduceIte, catS_n, catS_i, catS_r, catS_l, catS_d, Nat.zero_add, Nat.add_zero, decide_true, decide_false, Nat.reduceLeDiff, cat_r, cat_i, cat_l, nle_T, nle_F, nlt_T, nlt_F, neq_T, neq_F, k0, p0, p1, p2, p3, p4, p5, p6, p7, p8, x0, x1, x2, l0, r0, r1, r2, m0, q0, q1, q2, q3, q4, q5, q6, q7, w0, w1, w2, f0, f1, f2, f3, f4, c93 hX hg hv, c87, i3]
  done
theorem c99b {d : Nat} {P : MP} {I : MI} {L : ML} {C : MC} {Q : QT} {x y z : Int32} (hX : XB P) (hd : 8 ≤ d) (hx : x < 0 ∨ nI 3 ≤ x) : CT d 99 [.ref 1, .int x, .int y, .int z] P I L C Q = Q (.inr 0) P I L (C.1 + 1, C.2 + 6) := by
  have k0 := hX.1
  rw [CT_e (mj := 99) (e := [.ref 1, .int x, .int y, .int z]) (by omega) rfl (Nat.le_of_ble_eq_true rfl)]
  simp (disch := first | assumption | omega) only [Nat.reduceAdd, X_go, go2_some, stp, ldI, ldA, ldL, stI, stA, stL, o1I, o2I, o2L, brI, brII, gl, s1, s2, k1, sl, go_sN, go_sR, go_CT, go_sT, go_no, go_if, pops, bk_v, bk_0, d99_0, d99_1, d99_2, d99_3, d99_6, d99_7, d99_8, d99_10, d99_13, d99_14, d99_15, d99_16, d99_17, d99_20, n_lt, n_le, n_eq, n_lt0, n_ge0, n_gt0, n_le0, n_eq0, m_lt, m_le, m_gt, m_ge, m_eq, m_eq', m_lt0, m_ge0, m_gt0, m_le0, m_ltm, m_lem, n_in, m_in, n_cl, n_ti, n_div, n_rem', n_dec, n_l, nI_add, pk_mul, an0, an1, decide_eq_true_eq, if_true, if_false, ite_true, ite_false, and_true, true_and, and_false, false_and, not_true, not_false_iff, or_false, false_or, or_true, true_or, eq_self, va_some, Bool.false_eq_true, reduceIte, catS_n, catS_i, catS_r, catS_l, catS_d, Nat.zero_add, Nat.add_zero, decide_true, decide_false, Nat.reduceLeDiff, cat_r, cat_i, cat_l, nle_T, nle_F, nlt_T, nlt_F, neq_T, neq_F, k0, c93t hX, bk_x x99]
  done
theorem c99c {d : Nat} {P : MP} {I : MI} {L : ML} {C : MC} {Q : QT} {t : Nat} {y z : Int32} {g : GS} (hX : XB P) (hg : RC I 2 g) (hv : TV g) (hd : 8 ≤ d) (ht : t < 3) (hy : y < 0 ∨ nI (g (3 + t)) ≤ y) : CT d 99 [.ref 1, .int (nI t), .int y, .int z] P I L C Q = Q (.inr 0) P I L (C.1 + 1, C.2 + 6) := by
  have k0 := hX.1
  rw [CT_e (mj := 99) (e := [.ref 1, .int (nI t), .int y, .int z]) (by omega) rfl (Nat.le_of_ble_eq_true rfl)]
  simp (disch := first | assumption | omega) only [Nat.reduceAdd, X_go, go2_some, stp, ldI, ldA, ldL, stI, stA, stL, o1I, o2I, o2L, brI, brII, gl, s1, s2, k1, sl, go_sN, go_sR, go_CT, go_sT, go_no, go_if, pops, bk_v, bk_0, d99_0, d99_1, d99_2, d99_3, d99_6, d99_7, d99_8, d99_10, d99_13, d99_14, d99_15, d99_16, d99_17, d99_20, n_lt, n_le, n_eq, n_lt0, n_ge0, n_gt0, n_le0, n_eq0, m_lt, m_le, m_gt, m_ge, m_eq, m_eq', m_lt0, m_ge0, m_gt0, m_le0, m_ltm, m_lem, n_in, m_in, n_cl, n_ti, n_div, n_rem', n_dec, n_l, nI_add, pk_mul, an0, an1, decide_eq_true_eq, if_true, if_false, ite_true, ite_false, and_true, true_and, and_false, false_and, not_true, not_false_iff, or_false, false_or, or_true, true_or, eq_self, va_some, Bool.false_eq_true, reduceIte, catS_n, catS_i, catS_r, catS_l, catS_d, Nat.zero_add, Nat.add_zero, decide_true, decide_false, Nat.reduceLeDiff, cat_r, cat_i, cat_l, nle_T, nle_F, nlt_T, nlt_F, neq_T, neq_F, k0, c93e hX hg hv, bk_x x99]
  done
theorem c99d {d : Nat} {P : MP} {I : MI} {L : ML} {C : MC} {Q : QT} {t e : Nat} {z : Int32} {g : GS} (hX : XB P) (hg : RC I 2 g) (hv : TV g) (hd : 8 ≤ d) (ht : t < 3) (he : e < g (3 + t)) (hz : z < 0 ∨ nI 7 < z) : CT d 99 [.ref 1, .int (nI t), .int (nI e), .int z] P I L C Q = Q (.inr 1) P I L (C.1 + 1, C.2 + 6) := by
  have k0 := hX.1
  rw [CT_e (mj := 99) (e := [.ref 1, .int (nI t), .int (nI e), .int z]) (by omega) rfl (Nat.le_of_ble_eq_true rfl)]
  simp (disch := first | assumption | omega) only [Nat.reduceAdd, X_go, go2_some, stp, ldI, ldA, ldL, stI, stA, stL, o1I, o2I, o2L, brI, brII, gl, s1, s2, k1, sl, go_sN, go_sR, go_CT, go_sT, go_no, go_if, pops, bk_v, bk_0, d99_0, d99_1, d99_2, d99_3, d99_6, d99_7, d99_8, d99_10, d99_13, d99_14, d99_15, d99_16, d99_17, d99_20, n_lt, n_le, n_eq, n_lt0, n_ge0, n_gt0, n_le0, n_eq0, m_lt, m_le, m_gt, m_ge, m_eq, m_eq', m_lt0, m_ge0, m_gt0, m_le0, m_ltm, m_lem, n_in, m_in, n_cl, n_ti, n_div, n_rem', n_dec, n_l, nI_add, pk_mul, an0, an1, decide_eq_true_eq, if_true, if_false, ite_true, ite_false, and_true, true_and, and_false, false_and, not_true, not_false_iff, or_false, false_or, or_true, true_or, eq_self, va_some, Bool.false_eq_true, reduceIte, catS_n, catS_i, catS_r, catS_l, catS_d, Nat.zero_add, Nat.add_zero, decide_true, decide_false, Nat.reduceLeDiff, cat_r, cat_i, cat_l, nle_T, nle_F, nlt_T, nlt_F, neq_T, neq_F, k0, c93 hX hg hv, c87b (y := nI 0) (hx := hz), bk_x x99]
  done
/-- what is told of a table -/
def tV (g : GS) (t w : Nat) : Nat := if w = 0 then g t else if w = 1 then g (3 + t) else if w = 2 then fq g t else fs g t
theorem d62_0 : dec 62 0 = some (.iload_n 2, 1, []) := rfl
theorem d62_1 : dec 62 1 = some (.tableswitch 67 0 2 #[27, 42, 54], 27, []) := rfl
theorem d62_28 : dec 62 28 = some (.aload_n 0, 1, []) := rfl
theorem d62_29 : dec 62 29 = some (.getfield 12, 3, [1, 9, 0, 2, 0, 267]) := rfl
theorem d62_32 : dec 62 32 = some (.getfield 75, 3, [1, 6, 0, 2, 1, 138]) := rfl
theorem d62_35 : dec 62 35 = some (.getfield 78, 3, [1, 7, 0, 2, 1, 42]) := rfl
theorem d62_38 : dec 62 38 = some (.iload_n 1, 1, []) := rfl
theorem d62_39 : dec 62 39 = some (.invokestatic 161, 3, [2, 26, 0, 9, 0, 530, 0, 2]) := rfl
theorem d62_42 : dec 62 42 = some (.ireturn, 1, [0]) := rfl
theorem d62_43 : dec 62 43 = some (.aload_n 0, 1, []) := rfl
theorem d62_44 : dec 62 44 = some (.getfield 12, 3, [1, 9, 0, 2, 0, 267]) := rfl
theorem d62_47 : dec 62 47 = some (.getfield 75, 3, [1, 6, 0, 2, 1, 138]) := rfl
theorem d62_50 : dec 62 50 = some (.iload_n 1, 1, []) := rfl
theorem d62_51 : dec 62 51 = some (.invokevirtual 101, 3, [2, 25, 2, 7, 0, 531, 0]) := rfl
theorem d62_54 : dec 62 54 = some (.ireturn, 1, [0]) := rfl
theorem d62_55 : dec 62 55 = some (.aload_n 0, 1, []) := rfl
theorem d62_56 : dec 62 56 = some (.iload_n 1, 1, []) := rfl
theorem d62_57 : dec 62 57 = some (.invokevirtual 189, 3, [2, 63, 2, 9, 0, 532, 0]) := rfl
theorem d62_60 : dec 62 60 = some (.aload_n 0, 1, []) := rfl
theorem d62_61 : dec 62 61 = some (.getfield 50, 3, [1, 9, 6, 2, 0, 273]) := rfl
theorem d62_64 : dec 62 64 = some (.getfield 320, 3, [1, 1, 2, 0, 1, 212]) := rfl
theorem d62_67 : dec 62 67 = some (.ireturn, 1, [0]) := rfl
theorem d62_68 : dec 62 68 = some (.aload_n 0, 1, []) := rfl
theorem d62_69 : dec 62 69 = some (.iload_n 1, 1, []) := rfl
theorem d62_70 : dec 62 70 = some (.invokevirtual 189, 3, [2, 63, 2, 9, 0, 532, 0]) := rfl
theorem d62_73 : dec 62 73 = some (.aload_n 0, 1, []) := rfl
theorem d62_74 : dec 62 74 = some (.getfield 50, 3, [1, 9, 6, 2, 0, 273]) := rfl
theorem d62_77 : dec 62 77 = some (.iload_n 1, 1, []) := rfl
theorem d62_78 : dec 62 78 = some (.invokevirtual 195, 3, [2, 70, 2, 1, 0, 581, 0]) := rfl
theorem d62_81 : dec 62 81 = some (.ireturn, 1, [0]) := rfl
theorem l62 : mL 62 = 3 := rfl
theorem t62_1_0 {ls st : List Value} {P : MP} {I : MI} {L : ML} {C : MC} : stp 1 (.tableswitch 67 0 2 #[27, 42, 54]) 27 [] ls (.int (nI 0) :: st) P I L C = sN 28 ls st P I L C := rfl
theorem t62_1_1 {ls st : List Value} {P : MP} {I : MI} {L : ML} {C : MC} : stp 1 (.tableswitch 67 0 2 #[27, 42, 54]) 27 [] ls (.int (nI 1) :: st) P I L C = sN 43 ls st P I L C := rfl
theorem t62_1_2 {ls st : List Value} {P : MP} {I : MI} {L : ML} {C : MC} : stp 1 (.tableswitch 67 0 2 #[27, 42, 54]) 27 [] ls (.int (nI 2) :: st) P I L C = sN 55 ls st P I L C := rfl
theorem t62_1_3 {ls st : List Value} {P : MP} {I : MI} {L : ML} {C : MC} : stp 1 (.tableswitch 67 0 2 #[27, 42, 54]) 27 [] ls (.int (nI 3) :: st) P I L C = sN 68 ls st P I L C := rfl
theorem c62 {d : Nat} {P : MP} {I : MI} {L : ML} {C : MC} {t w : Nat} {B n len : Nat} {g : GS} {ps : Nat → GS} {tx : Nat → Nat} (hX : XB P) (hR : XR I L g n ps len tx) (hA : AV B g n ps len tx) (hd : 10 ≤ d) (ht : t < 3) (hw : w < 4) : ∃ I', XR I' L g n ps len tx ∧ fo I I' ∧ ∀ Q, CT d 62 [.ref 1, .int (nI t), .int (nI w)] P I L C Q = Q (.inl (some (.int (nI (tV g t w))))) P I' L C := by
  have hX' := hX
  obtain ⟨k0, ⟨p0, p1, p2, p3, p4, p5, p6, p7, p8⟩, hS, hS2, hV, ⟨x0, x1, x2⟩, hT2, hO, hD, hH, hH2⟩ := hX'
  have hS' := hS
  obtain ⟨l0, r0, r1, r2, hT, hK, hF⟩ := hS'
  have hT' := hT
  have hK' := hK
  have hF' := hF
  have hR' := hR
  have hA' := hA
  obtain ⟨⟨m0, q0, q1, q2, q3, q4, q5, q6, q7⟩, z1, z2, z3, z4, z5, z6, z7, z8⟩ := hT'
  obtain ⟨w0, w1, w2, w3, w4⟩ := hK'
  obtain ⟨f0, f1, f2, f3, f4, f5, f6, f7, f8⟩ := hF'
  obtain ⟨hg, hVR, hXT, hCC⟩ := hR'
  obtain ⟨hGV, hps, hn4, hlen, htx⟩ := hA'
  have h140 := GV_140 hGV
  have hv := hGV.1
  have hl := hGV.2.1
  have hFv := hGV.2.2
  have e0 : I 4 t = nI (g t) := hg.1.1 t ht
  have hE : w = 0 ∨ w = 1 ∨ w = 2 ∨ w = 3 := by omega
  have hD0 := hD.1
  obtain ⟨I', i1, i2, ⟨i3, i4, i5⟩, i6⟩ := c63 (d := d - 1) (C := C) hX hR hA (by omega) ht
  rcases hE with rfl | rfl | rfl | rfl
  · refine ⟨I, hR, fo_r, fun Q => ?_⟩
    rw [CT_e (mj := 62) (e := [.ref 1, .int (nI t), .int (nI 0)]) (by omega) rfl (Nat.le_of_ble_eq_true rfl)]
    simp (disch := first | assumption | omega) only [↓t62_1_0, Nat.reduceAdd, X_go, go2_some, stp, ldI, ldA, ldL, stI, stA, stL, o1I, o2I, o2L, brI, brII, gl, s1, s2, k1, sl, go_sN, go_sR, go_CT, go_sT, go_no, go_if, pops, bk_v, bk_0, d62_0, d62_1, d62_28, d62_29, d62_32, d62_35, d62_38, d62_39, d62_42, d62_43, d62_44, d62_47, d62_50, d62_51, d62_54, d62_55, d62_56, d62_57, d62_60, d62_61, d62_64, d62_67, d62_68, d62_69, d62_70, d62_73, d62_74, d62_77, d62_78, d62_81, n_lt, n_le, n_eq, n_lt0, n_ge0, n_gt0, n_le0, n_eq0, m_lt, m_le, m_gt, m_ge, m_eq, m_eq', m_lt0, m_ge0, m_gt0, m_le0, m_ltm, m_lem, n_in, m_in, n_cl, n_ti, n_div, n_rem', n_dec, n_l, nI_add, pk_mul, an0, an1, decide_eq_true_eq, if_true, if_false, ite_true, ite_false, and_true, true_and, and_false, false_and, not_true, not_false_iff, or_false, false_or, or_true, true_or, eq_self, va_some, Bool.false_eq_true, reduceIte, catS_n, catS_i, catS_r, catS_l, catS_d, Nat.zero_add, Nat.add_zero, decide_true, decide_false, Nat.reduceLeDiff, cat_r, cat_i, cat_l, nle_T, nle_F, nlt_T, nlt_F, neq_T, neq_F, k0, p0, p1, p2, p3, p4, p5, p6, p7, p8, x0, x1, x2, l0, r0, r1, r2, m0, q0, q1, q2, q3, q4, q5, q6, q7, w0, w1, w2, f0, f1, f2, f3, f4, c26 z1, e0]
    rfl
  · refine ⟨I, hR, fo_r, fun Q => ?_⟩
    rw [CT_e (mj := 62) (e := [.ref 1, .int (nI t), .int (nI 1)]) (by omega) rfl (Nat.le_of_ble_eq_true rfl)]
    simp (disch := first | assumption | omega) only [↓t62_1_1, Nat.reduceAdd, X_go, go2_some, stp, ldI, ldA, ldL, stI, stA, stL, o1I, o2I, o2L, brI, brII, gl, s1, s2, k1, sl, go_sN, go_sR, go_CT, go_sT, go_no, go_if, pops, bk_v, bk_0, d62_0, d62_1, d62_28, d62_29, d62_32, d62_35, d62_38, d62_39, d62_42, d62_43, d62_44, d62_47, d62_50, d62_51, d62_54, d62_55, d62_56, d62_57, d62_60, d62_61, d62_64, d62_67, d62_68, d62_69, d62_70, d62_73, d62_74, d62_77, d62_78, d62_81, n_lt, n_le, n_eq, n_lt0, n_ge0, n_gt0, n_le0, n_eq0, m_lt, m_le, m_gt, m_ge, m_eq, m_eq', m_lt0, m_ge0, m_gt0, m_le0, m_ltm, m_lem, n_in, m_in, n_cl, n_ti, n_div, n_rem', n_dec, n_l, nI_add, pk_mul, an0, an1, decide_eq_true_eq, if_true, if_false, ite_true, ite_false, and_true, true_and, and_false, false_and, not_true, not_false_iff, or_false, false_or, or_true, true_or, eq_self, va_some, Bool.false_eq_true, reduceIte, catS_n, catS_i, catS_r, catS_l, catS_d, Nat.zero_add, Nat.add_zero, decide_true, decide_false, Nat.reduceLeDiff, cat_r, cat_i, cat_l, nle_T, nle_F, nlt_T, nlt_F, neq_T, neq_F, k0, p0, p1, p2, p3, p4, p5, p6, p7, p8, x0, x1, x2, l0, r0, r1, r2, m0, q0, q1, q2, q3, q4, q5, q6, q7, w0, w1, w2, f0, f1, f2, f3, f4, c25g hT hg.1]
    rfl
  · refine ⟨I', i1, i2, fun Q => ?_⟩
    rw [CT_e (mj := 62) (e := [.ref 1, .int (nI t), .int (nI 2)]) (by omega) rfl (Nat.le_of_ble_eq_true rfl)]
    simp (disch := first | assumption | omega) only [↓t62_1_2, Nat.reduceAdd, X_go, go2_some, stp, ldI, ldA, ldL, stI, stA, stL, o1I, o2I, o2L, brI, brII, gl, s1, s2, k1, sl, go_sN, go_sR, go_CT, go_sT, go_no, go_if, pops, bk_v, bk_0, d62_0, d62_1, d62_28, d62_29, d62_32, d62_35, d62_38, d62_39, d62_42, d62_43, d62_44, d62_47, d62_50, d62_51, d62_54, d62_55, d62_56, d62_57, d62_60, d62_61, d62_64, d62_67, d62_68, d62_69, d62_70, d62_73, d62_74, d62_77, d62_78, d62_81, n_lt, n_le, n_eq, n_lt0, n_ge0, n_gt0, n_le0, n_eq0, m_lt, m_le, m_gt, m_ge, m_eq, m_eq', m_lt0, m_ge0, m_gt0, m_le0, m_ltm, m_lem, n_in, m_in, n_cl, n_ti, n_div, n_rem', n_dec, n_l, nI_add, pk_mul, an0, an1, decide_eq_true_eq, if_true, if_false, ite_true, ite_false, and_true, true_and, and_false, false_and, not_true, not_false_iff, or_false, false_or, or_true, true_or, eq_self, va_some, Bool.false_eq_true, reduceIte, catS_n, catS_i, catS_r, catS_l, catS_d, Nat.zero_add, Nat.add_zero, decide_true, decide_false, Nat.reduceLeDiff, cat_r, cat_i, cat_l, nle_T, nle_F, nlt_T, nlt_F, neq_T, neq_F, k0, p0, p1, p2, p3, p4, p5, p6, p7, p8, x0, x1, x2, l0, r0, r1, r2, m0, q0, q1, q2, q3, q4, q5, q6, q7, w0, w1, w2, f0, f1, f2, f3, f4, hD0, i6, i3]
    rfl
  · refine ⟨I', i1, i2, fun Q => ?_⟩
    rw [CT_e (mj := 62) (e := [.ref 1, .int (nI t), .int (nI 3)]) (by omega) rfl (Nat.le_of_ble_eq_true rfl)]
    simp (disch := first | assumption | omega) only [↓t62_1_3, Nat.reduceAdd, X_go, go2_some, stp, ldI, ldA, ldL, stI, stA, stL, o1I, o2I, o2L, brI, brII, gl, s1, s2, k1, sl, go_sN, go_sR, go_CT, go_sT, go_no, go_if, pops, bk_v, bk_0, d62_0, d62_1, d62_28, d62_29, d62_32, d62_35, d62_38, d62_39, d62_42, d62_43, d62_44, d62_47, d62_50, d62_51, d62_54, d62_55, d62_56, d62_57, d62_60, d62_61, d62_64, d62_67, d62_68, d62_69, d62_70, d62_73, d62_74, d62_77, d62_78, d62_81, n_lt, n_le, n_eq, n_lt0, n_ge0, n_gt0, n_le0, n_eq0, m_lt, m_le, m_gt, m_ge, m_eq, m_eq', m_lt0, m_ge0, m_gt0, m_le0, m_ltm, m_lem, n_in, m_in, n_cl, n_ti, n_div, n_rem', n_dec, n_l, nI_add, pk_mul, an0, an1, decide_eq_true_eq, if_true, if_false, ite_true, ite_false, and_true, true_and, and_false, false_and, not_true, not_false_iff, or_false, false_or, or_true, true_or, eq_self, va_some, Bool.false_eq_true, reduceIte, catS_n, catS_i, catS_r, catS_l, catS_d, Nat.zero_add, Nat.add_zero, decide_true, decide_false, Nat.reduceLeDiff, cat_r, cat_i, cat_l, nle_T, nle_F, nlt_T, nlt_F, neq_T, neq_F, k0, p0, p1, p2, p3, p4, p5, p6, p7, p8, x0, x1, x2, l0, r0, r1, r2, m0, q0, q1, q2, q3, q4, q5, q6, q7, w0, w1, w2, f0, f1, f2, f3, f4, hD0, i6, c70 hD, i4]
    rfl
theorem d101_0 : dec 101 0 = some (.iload_n 1, 1, []) := rfl
theorem d101_1 : dec 101 1 = some (.invokestatic 64, 3, [2, 86, 0, 9, 0, 507, 0]) := rfl
theorem d101_4 : dec 101 4 = some (.iload_n 2, 1, []) := rfl
theorem d101_5 : dec 101 5 = some (.iconst 0, 1, [0]) := rfl
theorem d101_6 : dec 101 6 = some (.iconst 3, 1, [3]) := rfl
theorem d101_7 : dec 101 7 = some (.invokestatic 68, 3, [2, 87, 0, 9, 0, 434, 0, 0, 0]) := rfl
theorem d101_10 : dec 101 10 = some (.aload_n 0, 1, []) := rfl
theorem d101_11 : dec 101 11 = some (.iload_n 1, 1, []) := rfl
theorem d101_12 : dec 101 12 = some (.iload_n 2, 1, []) := rfl
theorem d101_13 : dec 101 13 = some (.invokevirtual 135, 3, [2, 62, 2, 9, 0, 526, 0, 0]) := rfl
theorem d101_16 : dec 101 16 = some (.ireturn, 1, [0]) := rfl
theorem l101 : mL 101 = 3 := rfl
theorem x101 : (mG 101).2.2.2.2 = [] := rfl
theorem c101 {d : Nat} {P : MP} {I : MI} {L : ML} {C : MC} {t w : Nat} {B n len : Nat} {g : GS} {ps : Nat → GS} {tx : Nat → Nat} (hX : XB P) (hR : XR I L g n ps len tx) (hA : AV B g n ps len tx) (hd : 12 ≤ d) (ht : t < 3) (hw : w < 4) : ∃ I', XR I' L g n ps len tx ∧ fo I I' ∧ ∀ Q, CT d 101 [.ref 1, .int (nI t), .int (nI w)] P I L C Q = Q (.inl (some (.int (nI (tV g t w))))) P I' L C := by
  have hX' := hX
  obtain ⟨k0, ⟨p0, p1, p2, p3, p4, p5, p6, p7, p8⟩, hS, hS2, hV, ⟨x0, x1, x2⟩, hT2, hO, hD, hH, hH2⟩ := hX'
  have hS' := hS
  obtain ⟨l0, r0, r1, r2, hT, hK, hF⟩ := hS'
  have hT' := hT
  have hK' := hK
  have hF' := hF
  have hR' := hR
  have hA' := hA
  obtain ⟨⟨m0, q0, q1, q2, q3, q4, q5, q6, q7⟩, z1, z2, z3, z4, z5, z6, z7, z8⟩ := hT'
  obtain ⟨w0, w1, w2, w3, w4⟩ := hK'
  obtain ⟨f0, f1, f2, f3, f4, f5, f6, f7, f8⟩ := hF'
  obtain ⟨hg, hVR, hXT, hCC⟩ := hR'
  obtain ⟨hGV, hps, hn4, hlen, htx⟩ := hA'
  have h140 := GV_140 hGV
  have hv := hGV.1
  have hl := hGV.2.1
  have hFv := hGV.2.2
  obtain ⟨I', i1, i2, i3⟩ := c62 (d := d - 1) (C := C) hX hR hA (by omega) ht hw
  refine ⟨I', i1, i2, fun Q => ?_⟩
  rw [CT_e (mj := 101) (e := [.ref 1, .int (nI t), .int (nI w)]) (by omega) rfl (Nat.le_of_ble_eq_true rfl)]
  simp (disch := first | assumption | omega) only [Nat.reduceAdd, X_go, go2_some, stp, ldI, ldA, ldL, stI, stA, stL, o1I, o2I, o2L, brI, brII, gl, s1, s2, k1, sl, go_sN, go_sR, go_CT, go_sT, go_no, go_if, pops, bk_v, bk_0, d101_0, d101_1, d101_4, d101_5, d101_6, d101_7, d101_10, d101_11, d101_12, d101_13, d101_16, n_lt, n_le, n_eq, n_lt0, n_ge0, n_gt0, n_le0, n_eq0, m_lt, m_le, m_gt, m_ge, m_eq, m_eq', m_lt0, m_ge0, m_gt0, m_le0, m_ltm, m_lem, n_in, m_in, n_cl, n_ti, n_div, n_rem', n_dec, n_l, nI_add, pk_mul, an0, an1, decide_eq_true_eq, if_true, if_false, ite_true, ite_false, and_true, true_and, and_false, false_and, not_true, not_false_iff, or_false, false_or, or_true, true_or, eq_self, va_some, Bool.false_eq_true, reduceIte, catS_n, catS_i, catS_r, catS_l, catS_d, Nat.zero_add, Nat.add_zero, decide_true, decide_false, Nat.reduceLeDiff, cat_r, cat_i, cat_l, nle_T, nle_F, nlt_T, nlt_F, neq_T, neq_F, k0, p0, p1, p2, p3, p4, p5, p6, p7, p8, x0, x1, x2, l0, r0, r1, r2, m0, q0, q1, q2, q3, q4, q5, q6, q7, w0, w1, w2, f0, f1, f2, f3, f4, c86, c87, i3]
  done
theorem c101b {d : Nat} {P : MP} {I : MI} {L : ML} {C : MC} {Q : QT} {x y : Int32} (hd : 8 ≤ d) (hx : x < 0 ∨ nI 3 ≤ x) : CT d 101 [.ref 1, .int x, .int y] P I L C Q = Q (.inr 0) P I L (C.1 + 1, C.2 + 6) := by
  rw [CT_e (mj := 101) (e := [.ref 1, .int x, .int y]) (by omega) rfl (Nat.le_of_ble_eq_true rfl)]
  simp (disch := first | assumption | omega) only [Nat.reduceAdd, X_go, go2_some, stp, ldI, ldA, ldL, stI, stA, stL, o1I, o2I, o2L, brI, brII, gl, s1, s2, k1, sl, go_sN, go_sR, go_CT, go_sT, go_no, go_if, pops, bk_v, bk_0, d101_0, d101_1, d101_4, d101_5, d101_6, d101_7, d101_10, d101_11, d101_12, d101_13, d101_16, n_lt, n_le, n_eq, n_lt0, n_ge0, n_gt0, n_le0, n_eq0, m_lt, m_le, m_gt, m_ge, m_eq, m_eq', m_lt0, m_ge0, m_gt0, m_le0, m_ltm, m_lem, n_in, m_in, n_cl, n_ti, n_div, n_rem', n_dec, n_l, nI_add, pk_mul, an0, an1, decide_eq_true_eq, if_true, if_false, ite_true, ite_false, and_true, true_and, and_false, false_and, not_true, not_false_iff, or_false, false_or, or_true, true_or, eq_self, va_some, Bool.false_eq_true, reduceIte, catS_n, catS_i, catS_r, catS_l, catS_d, Nat.zero_add, Nat.add_zero, decide_true, decide_false, Nat.reduceLeDiff, cat_r, cat_i, cat_l, nle_T, nle_F, nlt_T, nlt_F, neq_T, neq_F, c86b, bk_x x101]
  done
theorem c101c {d : Nat} {P : MP} {I : MI} {L : ML} {C : MC} {Q : QT} {t : Nat} {y : Int32} (hd : 8 ≤ d) (ht : t < 3) (hy : y < 0 ∨ nI 3 < y) : CT d 101 [.ref 1, .int (nI t), .int y] P I L C Q = Q (.inr 1) P I L (C.1 + 1, C.2 + 6) := by
  rw [CT_e (mj := 101) (e := [.ref 1, .int (nI t), .int y]) (by omega) rfl (Nat.le_of_ble_eq_true rfl)]
  simp (disch := first | assumption | omega) only [Nat.reduceAdd, X_go, go2_some, stp, ldI, ldA, ldL, stI, stA, stL, o1I, o2I, o2L, brI, brII, gl, s1, s2, k1, sl, go_sN, go_sR, go_CT, go_sT, go_no, go_if, pops, bk_v, bk_0, d101_0, d101_1, d101_4, d101_5, d101_6, d101_7, d101_10, d101_11, d101_12, d101_13, d101_16, n_lt, n_le, n_eq, n_lt0, n_ge0, n_gt0, n_le0, n_eq0, m_lt, m_le, m_gt, m_ge, m_eq, m_eq', m_lt0, m_ge0, m_gt0, m_le0, m_ltm, m_lem, n_in, m_in, n_cl, n_ti, n_div, n_rem', n_dec, n_l, nI_add, pk_mul, an0, an1, decide_eq_true_eq, if_true, if_false, ite_true, ite_false, and_true, true_and, and_false, false_and, not_true, not_false_iff, or_false, false_or, or_true, true_or, eq_self, va_some, Bool.false_eq_true, reduceIte, catS_n, catS_i, catS_r, catS_l, catS_d, Nat.zero_add, Nat.add_zero, decide_true, decide_false, Nat.reduceLeDiff, cat_r, cat_i, cat_l, nle_T, nle_F, nlt_T, nlt_F, neq_T, neq_F, c86, c87b (y := nI 0) (hx := hy), bk_x x101]
  done
/-- what is told as a value -/
def vV (g : GS) (w : Nat) : Nat := if w < 4 then g (120 + w) else if w = 4 then g 140 else if w = 5 then g 3 + g 4 + g 5 else if w = 6 then spc g else dif g 16
theorem d59_0 : dec 59 0 = some (.iload_n 1, 1, []) := rfl
theorem d59_1 : dec 59 1 = some (.tableswitch 120 0 6 #[43, 54, 65, 76, 87, 98, 109], 43, []) := rfl
theorem d59_44 : dec 59 44 = some (.aload_n 0, 1, []) := rfl
theorem d59_45 : dec 59 45 = some (.getfield 12, 3, [1, 9, 0, 2, 0, 267]) := rfl
theorem d59_48 : dec 59 48 = some (.getfield 141, 3, [1, 6, 1, 2, 1, 144]) := rfl
theorem d59_51 : dec 59 51 = some (.getfield 154, 3, [1, 3, 2, 0, 1, 95]) := rfl
theorem d59_54 : dec 59 54 = some (.ireturn, 1, [0]) := rfl
theorem d59_55 : dec 59 55 = some (.aload_n 0, 1, []) := rfl
theorem d59_56 : dec 59 56 = some (.getfield 12, 3, [1, 9, 0, 2, 0, 267]) := rfl
theorem d59_59 : dec 59 59 = some (.getfield 141, 3, [1, 6, 1, 2, 1, 144]) := rfl
theorem d59_62 : dec 59 62 = some (.getfield 158, 3, [1, 3, 3, 0, 1, 97]) := rfl
theorem d59_65 : dec 59 65 = some (.ireturn, 1, [0]) := rfl
theorem d59_66 : dec 59 66 = some (.aload_n 0, 1, []) := rfl
theorem d59_67 : dec 59 67 = some (.getfield 12, 3, [1, 9, 0, 2, 0, 267]) := rfl
theorem d59_70 : dec 59 70 = some (.getfield 174, 3, [1, 6, 2, 2, 1, 147]) := rfl
theorem d59_73 : dec 59 73 = some (.getfield 216, 3, [1, 2, 4, 0, 1, 120]) := rfl
theorem d59_76 : dec 59 76 = some (.ireturn, 1, [0]) := rfl
theorem d59_77 : dec 59 77 = some (.aload_n 0, 1, []) := rfl
theorem d59_78 : dec 59 78 = some (.getfield 12, 3, [1, 9, 0, 2, 0, 267]) := rfl
theorem d59_81 : dec 59 81 = some (.getfield 174, 3, [1, 6, 2, 2, 1, 147]) := rfl
theorem d59_84 : dec 59 84 = some (.getfield 323, 3, [1, 2, 5, 0, 1, 122]) := rfl
theorem d59_87 : dec 59 87 = some (.ireturn, 1, [0]) := rfl
theorem d59_88 : dec 59 88 = some (.aload_n 0, 1, []) := rfl
theorem d59_89 : dec 59 89 = some (.getfield 12, 3, [1, 9, 0, 2, 0, 267]) := rfl
theorem d59_92 : dec 59 92 = some (.getfield 174, 3, [1, 6, 2, 2, 1, 147]) := rfl
theorem d59_95 : dec 59 95 = some (.invokevirtual 276, 3, [2, 33, 2, 2, 0, 457]) := rfl
theorem d59_98 : dec 59 98 = some (.ireturn, 1, [0]) := rfl
theorem d59_99 : dec 59 99 = some (.aload_n 0, 1, []) := rfl
theorem d59_100 : dec 59 100 = some (.getfield 12, 3, [1, 9, 0, 2, 0, 267]) := rfl
theorem d59_103 : dec 59 103 = some (.getfield 75, 3, [1, 6, 0, 2, 1, 138]) := rfl
theorem d59_106 : dec 59 106 = some (.invokevirtual 255, 3, [2, 56, 2, 7, 0, 462]) := rfl
theorem d59_109 : dec 59 109 = some (.ireturn, 1, [0]) := rfl
theorem d59_110 : dec 59 110 = some (.aload_n 0, 1, []) := rfl
theorem d59_111 : dec 59 111 = some (.getfield 12, 3, [1, 9, 0, 2, 0, 267]) := rfl
theorem d59_114 : dec 59 114 = some (.getfield 75, 3, [1, 6, 0, 2, 1, 138]) := rfl
theorem d59_117 : dec 59 117 = some (.invokevirtual 326, 3, [2, 23, 2, 7, 0, 473]) := rfl
theorem d59_120 : dec 59 120 = some (.ireturn, 1, [0]) := rfl
theorem d59_121 : dec 59 121 = some (.aload_n 0, 1, []) := rfl
theorem d59_122 : dec 59 122 = some (.getfield 12, 3, [1, 9, 0, 2, 0, 267]) := rfl
theorem d59_125 : dec 59 125 = some (.getfield 174, 3, [1, 6, 2, 2, 1, 147]) := rfl
theorem d59_128 : dec 59 128 = some (.invokevirtual 329, 3, [2, 60, 2, 2, 0, 493]) := rfl
theorem d59_131 : dec 59 131 = some (.ireturn, 1, [0]) := rfl
theorem l59 : mL 59 = 2 := rfl
theorem t59_1_0 {ls st : List Value} {P : MP} {I : MI} {L : ML} {C : MC} : stp 1 (.tableswitch 120 0 6 #[43, 54, 65, 76, 87, 98, 109]) 43 [] ls (.int (nI 0) :: st) P I L C = sN 44 ls st P I L C := rfl
theorem t59_1_1 {ls st : List Value} {P : MP} {I : MI} {L : ML} {C : MC} : stp 1 (.tableswitch 120 0 6 #[43, 54, 65, 76, 87, 98, 109]) 43 [] ls (.int (nI 1) :: st) P I L C = sN 55 ls st P I L C := rfl
theorem t59_1_2 {ls st : List Value} {P : MP} {I : MI} {L : ML} {C : MC} : stp 1 (.tableswitch 120 0 6 #[43, 54, 65, 76, 87, 98, 109]) 43 [] ls (.int (nI 2) :: st) P I L C = sN 66 ls st P I L C := rfl
theorem t59_1_3 {ls st : List Value} {P : MP} {I : MI} {L : ML} {C : MC} : stp 1 (.tableswitch 120 0 6 #[43, 54, 65, 76, 87, 98, 109]) 43 [] ls (.int (nI 3) :: st) P I L C = sN 77 ls st P I L C := rfl
theorem t59_1_4 {ls st : List Value} {P : MP} {I : MI} {L : ML} {C : MC} : stp 1 (.tableswitch 120 0 6 #[43, 54, 65, 76, 87, 98, 109]) 43 [] ls (.int (nI 4) :: st) P I L C = sN 88 ls st P I L C := rfl
theorem t59_1_5 {ls st : List Value} {P : MP} {I : MI} {L : ML} {C : MC} : stp 1 (.tableswitch 120 0 6 #[43, 54, 65, 76, 87, 98, 109]) 43 [] ls (.int (nI 5) :: st) P I L C = sN 99 ls st P I L C := rfl
theorem t59_1_6 {ls st : List Value} {P : MP} {I : MI} {L : ML} {C : MC} : stp 1 (.tableswitch 120 0 6 #[43, 54, 65, 76, 87, 98, 109]) 43 [] ls (.int (nI 6) :: st) P I L C = sN 110 ls st P I L C := rfl
theorem t59_1_7 {ls st : List Value} {P : MP} {I : MI} {L : ML} {C : MC} : stp 1 (.tableswitch 120 0 6 #[43, 54, 65, 76, 87, 98, 109]) 43 [] ls (.int (nI 7) :: st) P I L C = sN 121 ls st P I L C := rfl
theorem c59 {d : Nat} {P : MP} {I : MI} {L : ML} {C : MC} {Q : QT} {w : Nat} {B n len : Nat} {g : GS} {ps : Nat → GS} {tx : Nat → Nat} (hX : XB P) (hR : XR I L g n ps len tx) (hA : AV B g n ps len tx) (hB : B ≤ 1000000) (hd : 8 ≤ d) (hw : w < 8) : CT d 59 [.ref 1, .int (nI w)] P I L C Q = Q (.inl (some (.int (nI (vV g w))))) P I L C := by
  have hX' := hX
  obtain ⟨k0, ⟨p0, p1, p2, p3, p4, p5, p6, p7, p8⟩, hS, hS2, hV, ⟨x0, x1, x2⟩, hT2, hO, hD, hH, hH2⟩ := hX'
  have hS' := hS
  obtain ⟨l0, r0, r1, r2, hT, hK, hF⟩ := hS'
  have hT' := hT
  have hK' := hK
  have hF' := hF
  have hR' := hR
  have hA' := hA
  obtain ⟨⟨m0, q0, q1, q2, q3, q4, q5, q6, q7⟩, z1, z2, z3, z4, z5, z6, z7, z8⟩ := hT'
  obtain ⟨w0, w1, w2, w3, w4⟩ := hK'
  obtain ⟨f0, f1, f2, f3, f4, f5, f6, f7, f8⟩ := hF'
  obtain ⟨hg, hVR, hXT, hCC⟩ := hR'
  obtain ⟨hGV, hps, hn4, hlen, htx⟩ := hA'
  have h140 := GV_140 hGV
  have hv := hGV.1
  have hl := hGV.2.1
  have hFv := hGV.2.2
  have e0 : I 12 2 = nI (g 120) := hg.2.1.2.1
  have e1 : I 12 3 = nI (g 121) := hg.2.1.2.2
  have e2 : I 15 4 = nI (g 122) := hg.2.2.2.1
  have e3 : I 15 5 = nI (g 123) := hg.2.2.2.2.1
  have hE : w = 0 ∨ w = 1 ∨ w = 2 ∨ w = 3 ∨ w = 4 ∨ w = 5 ∨ w = 6 ∨ w = 7 := by omega
  rcases hE with rfl | rfl | rfl | rfl | rfl | rfl | rfl | rfl
  · rw [CT_e (mj := 59) (e := [.ref 1, .int (nI 0)]) (by omega) rfl (Nat.le_of_ble_eq_true rfl)]
    simp (disch := first | assumption | omega) only [↓t59_1_0, Nat.reduceAdd, X_go, go2_some, stp, ldI, ldA, ldL, stI, stA, stL, o1I, o2I, o2L, brI, brII, gl, s1, s2, k1, sl, go_sN, go_sR, go_CT, go_sT, go_no, go_if, pops, bk_v, bk_0, d59_0, d59_1, d59_44, d59_45, d59_48, d59_51, d59_54, d59_55, d59_56, d59_59, d59_62, d59_65, d59_66, d59_67, d59_70, d59_73, d59_76, d59_77, d59_78, d59_81, d59_84, d59_87, d59_88, d59_89, d59_92, d59_95, d59_98, d59_99, d59_100, d59_103, d59_106, d59_109, d59_110, d59_111, d59_114, d59_117, d59_120, d59_121, d59_122, d59_125, d59_128, d59_131, n_lt, n_le, n_eq, n_lt0, n_ge0, n_gt0, n_le0, n_eq0, m_lt, m_le, m_gt, m_ge, m_eq, m_eq', m_lt0, m_ge0, m_gt0, m_le0, m_ltm, m_lem, n_in, m_in, n_cl, n_ti, n_div, n_rem', n_dec, n_l, nI_add, pk_mul, an0, an1, decide_eq_true_eq, if_true, if_false, ite_true, ite_false, and_true, true_and, and_false, false_and, not_true, not_false_iff, or_false, false_or, or_true, true_or, eq_self, va_some, Bool.false_eq_true, reduceIte, catS_n, catS_i, catS_r, catS_l, catS_d, Nat.zero_add, Nat.add_zero, decide_true, decide_false, Nat.reduceLeDiff, cat_r, cat_i, cat_l, nle_T, nle_F, nlt_T, nlt_F, neq_T, neq_F, k0, p0, p1, p2, p3, p4, p5, p6, p7, p8, x0, x1, x2, l0, r0, r1, r2, m0, q0, q1, q2, q3, q4, q5, q6, q7, w0, w1, w2, f0, f1, f2, f3, f4, e0]
    rfl
  · rw [CT_e (mj := 59) (e := [.ref 1, .int (nI 1)]) (by omega) rfl (Nat.le_of_ble_eq_true rfl)]
    simp (disch := first | assumption | omega) only [↓t59_1_1, Nat.reduceAdd, X_go, go2_some, stp, ldI, ldA, ldL, stI, stA, stL, o1I, o2I, o2L, brI, brII, gl, s1, s2, k1, sl, go_sN, go_sR, go_CT, go_sT, go_no, go_if, pops, bk_v, bk_0, d59_0, d59_1, d59_44, d59_45, d59_48, d59_51, d59_54, d59_55, d59_56, d59_59, d59_62, d59_65, d59_66, d59_67, d59_70, d59_73, d59_76, d59_77, d59_78, d59_81, d59_84, d59_87, d59_88, d59_89, d59_92, d59_95, d59_98, d59_99, d59_100, d59_103, d59_106, d59_109, d59_110, d59_111, d59_114, d59_117, d59_120, d59_121, d59_122, d59_125, d59_128, d59_131, n_lt, n_le, n_eq, n_lt0, n_ge0, n_gt0, n_le0, n_eq0, m_lt, m_le, m_gt, m_ge, m_eq, m_eq', m_lt0, m_ge0, m_gt0, m_le0, m_ltm, m_lem, n_in, m_in, n_cl, n_ti, n_div, n_rem', n_dec, n_l, nI_add, pk_mul, an0, an1, decide_eq_true_eq, if_true, if_false, ite_true, ite_false, and_true, true_and, and_false, false_and, not_true, not_false_iff, or_false, false_or, or_true, true_or, eq_self, va_some, Bool.false_eq_true, reduceIte, catS_n, catS_i, catS_r, catS_l, catS_d, Nat.zero_add, Nat.add_zero, decide_true, decide_false, Nat.reduceLeDiff, cat_r, cat_i, cat_l, nle_T, nle_F, nlt_T, nlt_F, neq_T, neq_F, k0, p0, p1, p2, p3, p4, p5, p6, p7, p8, x0, x1, x2, l0, r0, r1, r2, m0, q0, q1, q2, q3, q4, q5, q6, q7, w0, w1, w2, f0, f1, f2, f3, f4, e1]
    rfl
  · rw [CT_e (mj := 59) (e := [.ref 1, .int (nI 2)]) (by omega) rfl (Nat.le_of_ble_eq_true rfl)]
    simp (disch := first | assumption | omega) only [↓t59_1_2, Nat.reduceAdd, X_go, go2_some, stp, ldI, ldA, ldL, stI, stA, stL, o1I, o2I, o2L, brI, brII, gl, s1, s2, k1, sl, go_sN, go_sR, go_CT, go_sT, go_no, go_if, pops, bk_v, bk_0, d59_0, d59_1, d59_44, d59_45, d59_48, d59_51, d59_54, d59_55, d59_56, d59_59, d59_62, d59_65, d59_66, d59_67, d59_70, d59_73, d59_76, d59_77, d59_78, d59_81, d59_84, d59_87, d59_88, d59_89, d59_92, d59_95, d59_98, d59_99, d59_100, d59_103, d59_106, d59_109, d59_110, d59_111, d59_114, d59_117, d59_120, d59_121, d59_122, d59_125, d59_128, d59_131, n_lt, n_le, n_eq, n_lt0, n_ge0, n_gt0, n_le0, n_eq0, m_lt, m_le, m_gt, m_ge, m_eq, m_eq', m_lt0, m_ge0, m_gt0, m_le0, m_ltm, m_lem, n_in, m_in, n_cl, n_ti, n_div, n_rem', n_dec, n_l, nI_add, pk_mul, an0, an1, decide_eq_true_eq, if_true, if_false, ite_true, ite_false, and_true, true_and, and_false, false_and, not_true, not_false_iff, or_false, false_or, or_true, true_or, eq_self, va_some, Bool.false_eq_true, reduceIte, catS_n, catS_i, catS_r, catS_l, catS_d, Nat.zero_add, Nat.add_zero, decide_true, decide_false, Nat.reduceLeDiff, cat_r, cat_i, cat_l, nle_T, nle_F, nlt_T, nlt_F, neq_T, neq_F, k0, p0, p1, p2, p3, p4, p5, p6, p7, p8, x0, x1, x2, l0, r0, r1, r2, m0, q0, q1, q2, q3, q4, q5, q6, q7, w0, w1, w2, f0, f1, f2, f3, f4, e2]
    rfl
  · rw [CT_e (mj := 59) (e := [.ref 1, .int (nI 3)]) (by omega) rfl (Nat.le_of_ble_eq_true rfl)]
    simp (disch := first | assumption | omega) only [↓t59_1_3, Nat.reduceAdd, X_go, go2_some, stp, ldI, ldA, ldL, stI, stA, stL, o1I, o2I, o2L, brI, brII, gl, s1, s2, k1, sl, go_sN, go_sR, go_CT, go_sT, go_no, go_if, pops, bk_v, bk_0, d59_0, d59_1, d59_44, d59_45, d59_48, d59_51, d59_54, d59_55, d59_56, d59_59, d59_62, d59_65, d59_66, d59_67, d59_70, d59_73, d59_76, d59_77, d59_78, d59_81, d59_84, d59_87, d59_88, d59_89, d59_92, d59_95, d59_98, d59_99, d59_100, d59_103, d59_106, d59_109, d59_110, d59_111, d59_114, d59_117, d59_120, d59_121, d59_122, d59_125, d59_128, d59_131, n_lt, n_le, n_eq, n_lt0, n_ge0, n_gt0, n_le0, n_eq0, m_lt, m_le, m_gt, m_ge, m_eq, m_eq', m_lt0, m_ge0, m_gt0, m_le0, m_ltm, m_lem, n_in, m_in, n_cl, n_ti, n_div, n_rem', n_dec, n_l, nI_add, pk_mul, an0, an1, decide_eq_true_eq, if_true, if_false, ite_true, ite_false, and_true, true_and, and_false, false_and, not_true, not_false_iff, or_false, false_or, or_true, true_or, eq_self, va_some, Bool.false_eq_true, reduceIte, catS_n, catS_i, catS_r, catS_l, catS_d, Nat.zero_add, Nat.add_zero, decide_true, decide_false, Nat.reduceLeDiff, cat_r, cat_i, cat_l, nle_T, nle_F, nlt_T, nlt_F, neq_T, neq_F, k0, p0, p1, p2, p3, p4, p5, p6, p7, p8, x0, x1, x2, l0, r0, r1, r2, m0, q0, q1, q2, q3, q4, q5, q6, q7, w0, w1, w2, f0, f1, f2, f3, f4, e3]
    rfl
  · rw [CT_e (mj := 59) (e := [.ref 1, .int (nI 4)]) (by omega) rfl (Nat.le_of_ble_eq_true rfl)]
    simp (disch := first | assumption | omega) only [↓t59_1_4, Nat.reduceAdd, X_go, go2_some, stp, ldI, ldA, ldL, stI, stA, stL, o1I, o2I, o2L, brI, brII, gl, s1, s2, k1, sl, go_sN, go_sR, go_CT, go_sT, go_no, go_if, pops, bk_v, bk_0, d59_0, d59_1, d59_44, d59_45, d59_48, d59_51, d59_54, d59_55, d59_56, d59_59, d59_62, d59_65, d59_66, d59_67, d59_70, d59_73, d59_76, d59_77, d59_78, d59_81, d59_84, d59_87, d59_88, d59_89, d59_92, d59_95, d59_98, d59_99, d59_100, d59_103, d59_106, d59_109, d59_110, d59_111, d59_114, d59_117, d59_120, d59_121, d59_122, d59_125, d59_128, d59_131, n_lt, n_le, n_eq, n_lt0, n_ge0, n_gt0, n_le0, n_eq0, m_lt, m_le, m_gt, m_ge, m_eq, m_eq', m_lt0, m_ge0, m_gt0, m_le0, m_ltm, m_lem, n_in, m_in, n_cl, n_ti, n_div, n_rem', n_dec, n_l, nI_add, pk_mul, an0, an1, decide_eq_true_eq, if_true, if_false, ite_true, ite_false, and_true, true_and, and_false, false_and, not_true, not_false_iff, or_false, false_or, or_true, true_or, eq_self, va_some, Bool.false_eq_true, reduceIte, catS_n, catS_i, catS_r, catS_l, catS_d, Nat.zero_add, Nat.add_zero, decide_true, decide_false, Nat.reduceLeDiff, cat_r, cat_i, cat_l, nle_T, nle_F, nlt_T, nlt_F, neq_T, neq_F, k0, p0, p1, p2, p3, p4, p5, p6, p7, p8, x0, x1, x2, l0, r0, r1, r2, m0, q0, q1, q2, q3, q4, q5, q6, q7, w0, w1, w2, f0, f1, f2, f3, f4, c33 hF hg.2.2 hFv hB]
    rfl
  · rw [CT_e (mj := 59) (e := [.ref 1, .int (nI 5)]) (by omega) rfl (Nat.le_of_ble_eq_true rfl)]
    simp (disch := first | assumption | omega) only [↓t59_1_5, Nat.reduceAdd, X_go, go2_some, stp, ldI, ldA, ldL, stI, stA, stL, o1I, o2I, o2L, brI, brII, gl, s1, s2, k1, sl, go_sN, go_sR, go_CT, go_sT, go_no, go_if, pops, bk_v, bk_0, d59_0, d59_1, d59_44, d59_45, d59_48, d59_51, d59_54, d59_55, d59_56, d59_59, d59_62, d59_65, d59_66, d59_67, d59_70, d59_73, d59_76, d59_77, d59_78, d59_81, d59_84, d59_87, d59_88, d59_89, d59_92, d59_95, d59_98, d59_99, d59_100, d59_103, d59_106, d59_109, d59_110, d59_111, d59_114, d59_117, d59_120, d59_121, d59_122, d59_125, d59_128, d59_131, n_lt, n_le, n_eq, n_lt0, n_ge0, n_gt0, n_le0, n_eq0, m_lt, m_le, m_gt, m_ge, m_eq, m_eq', m_lt0, m_ge0, m_gt0, m_le0, m_ltm, m_lem, n_in, m_in, n_cl, n_ti, n_div, n_rem', n_dec, n_l, nI_add, pk_mul, an0, an1, decide_eq_true_eq, if_true, if_false, ite_true, ite_false, and_true, true_and, and_false, false_and, not_true, not_false_iff, or_false, false_or, or_true, true_or, eq_self, va_some, Bool.false_eq_true, reduceIte, catS_n, catS_i, catS_r, catS_l, catS_d, Nat.zero_add, Nat.add_zero, decide_true, decide_false, Nat.reduceLeDiff, cat_r, cat_i, cat_l, nle_T, nle_F, nlt_T, nlt_F, neq_T, neq_F, k0, p0, p1, p2, p3, p4, p5, p6, p7, p8, x0, x1, x2, l0, r0, r1, r2, m0, q0, q1, q2, q3, q4, q5, q6, q7, w0, w1, w2, f0, f1, f2, f3, f4, c56 hT hg.1]
    rfl
  · rw [CT_e (mj := 59) (e := [.ref 1, .int (nI 6)]) (by omega) rfl (Nat.le_of_ble_eq_true rfl)]
    simp (disch := first | assumption | omega) only [↓t59_1_6, Nat.reduceAdd, X_go, go2_some, stp, ldI, ldA, ldL, stI, stA, stL, o1I, o2I, o2L, brI, brII, gl, s1, s2, k1, sl, go_sN, go_sR, go_CT, go_sT, go_no, go_if, pops, bk_v, bk_0, d59_0, d59_1, d59_44, d59_45, d59_48, d59_51, d59_54, d59_55, d59_56, d59_59, d59_62, d59_65, d59_66, d59_67, d59_70, d59_73, d59_76, d59_77, d59_78, d59_81, d59_84, d59_87, d59_88, d59_89, d59_92, d59_95, d59_98, d59_99, d59_100, d59_103, d59_106, d59_109, d59_110, d59_111, d59_114, d59_117, d59_120, d59_121, d59_122, d59_125, d59_128, d59_131, n_lt, n_le, n_eq, n_lt0, n_ge0, n_gt0, n_le0, n_eq0, m_lt, m_le, m_gt, m_ge, m_eq, m_eq', m_lt0, m_ge0, m_gt0, m_le0, m_ltm, m_lem, n_in, m_in, n_cl, n_ti, n_div, n_rem', n_dec, n_l, nI_add, pk_mul, an0, an1, decide_eq_true_eq, if_true, if_false, ite_true, ite_false, and_true, true_and, and_false, false_and, not_true, not_false_iff, or_false, false_or, or_true, true_or, eq_self, va_some, Bool.false_eq_true, reduceIte, catS_n, catS_i, catS_r, catS_l, catS_d, Nat.zero_add, Nat.add_zero, decide_true, decide_false, Nat.reduceLeDiff, cat_r, cat_i, cat_l, nle_T, nle_F, nlt_T, nlt_F, neq_T, neq_F, k0, p0, p1, p2, p3, p4, p5, p6, p7, p8, x0, x1, x2, l0, r0, r1, r2, m0, q0, q1, q2, q3, q4, q5, q6, q7, w0, w1, w2, f0, f1, f2, f3, f4, c23 hT hg.1 hv]
    rfl
  · rw [CT_e (mj := 59) (e := [.ref 1, .int (nI 7)]) (by omega) rfl (Nat.le_of_ble_eq_true rfl)]
    simp (disch := first | assumption | omega) only [↓t59_1_7, Nat.reduceAdd, X_go, go2_some, stp, ldI, ldA, ldL, stI, stA, stL, o1I, o2I, o2L, brI, brII, gl, s1, s2, k1, sl, go_sN, go_sR, go_CT, go_sT, go_no, go_if, pops, bk_v, bk_0, d59_0, d59_1, d59_44, d59_45, d59_48, d59_51, d59_54, d59_55, d59_56, d59_59, d59_62, d59_65, d59_66, d59_67, d59_70, d59_73, d59_76, d59_77, d59_78, d59_81, d59_84, d59_87, d59_88, d59_89, d59_92, d59_95, d59_98, d59_99, d59_100, d59_103, d59_106, d59_109, d59_110, d59_111, d59_114, d59_117, d59_120, d59_121, d59_122, d59_125, d59_128, d59_131, n_lt, n_le, n_eq, n_lt0, n_ge0, n_gt0, n_le0, n_eq0, m_lt, m_le, m_gt, m_ge, m_eq, m_eq', m_lt0, m_ge0, m_gt0, m_le0, m_ltm, m_lem, n_in, m_in, n_cl, n_ti, n_div, n_rem', n_dec, n_l, nI_add, pk_mul, an0, an1, decide_eq_true_eq, if_true, if_false, ite_true, ite_false, and_true, true_and, and_false, false_and, not_true, not_false_iff, or_false, false_or, or_true, true_or, eq_self, va_some, Bool.false_eq_true, reduceIte, catS_n, catS_i, catS_r, catS_l, catS_d, Nat.zero_add, Nat.add_zero, decide_true, decide_false, Nat.reduceLeDiff, cat_r, cat_i, cat_l, nle_T, nle_F, nlt_T, nlt_F, neq_T, neq_F, k0, p0, p1, p2, p3, p4, p5, p6, p7, p8, x0, x1, x2, l0, r0, r1, r2, m0, q0, q1, q2, q3, q4, q5, q6, q7, w0, w1, w2, f0, f1, f2, f3, f4, c60 hF hg.2.2 hFv hB]
    rfl
theorem d112_0 : dec 112 0 = some (.iload_n 1, 1, []) := rfl
theorem d112_1 : dec 112 1 = some (.iconst 0, 1, [0]) := rfl
theorem d112_2 : dec 112 2 = some (.bipush 7, 2, [7]) := rfl
theorem d112_4 : dec 112 4 = some (.invokestatic 68, 3, [2, 87, 0, 9, 0, 434, 0, 0, 0]) := rfl
theorem d112_7 : dec 112 7 = some (.aload_n 0, 1, []) := rfl
theorem d112_8 : dec 112 8 = some (.iload_n 1, 1, []) := rfl
theorem d112_9 : dec 112 9 = some (.invokevirtual 165, 3, [2, 59, 2, 9, 0, 453, 0]) := rfl
theorem d112_12 : dec 112 12 = some (.ireturn, 1, [0]) := rfl
theorem l112 : mL 112 = 2 := rfl
theorem x112 : (mG 112).2.2.2.2 = [] := rfl
theorem c112 {d : Nat} {P : MP} {I : MI} {L : ML} {C : MC} {Q : QT} {w : Nat} {B n len : Nat} {g : GS} {ps : Nat → GS} {tx : Nat → Nat} (hX : XB P) (hR : XR I L g n ps len tx) (hA : AV B g n ps len tx) (hB : B ≤ 1000000) (hd : 10 ≤ d) (hw : w < 8) : CT d 112 [.ref 1, .int (nI w)] P I L C Q = Q (.inl (some (.int (nI (vV g w))))) P I L C := by
  have hX' := hX
  obtain ⟨k0, ⟨p0, p1, p2, p3, p4, p5, p6, p7, p8⟩, hS, hS2, hV, ⟨x0, x1, x2⟩, hT2, hO, hD, hH, hH2⟩ := hX'
  have hS' := hS
  obtain ⟨l0, r0, r1, r2, hT, hK, hF⟩ := hS'
  have hT' := hT
  have hK' := hK
  have hF' := hF
  have hR' := hR
  have hA' := hA
  obtain ⟨⟨m0, q0, q1, q2, q3, q4, q5, q6, q7⟩, z1, z2, z3, z4, z5, z6, z7, z8⟩ := hT'
  obtain ⟨w0, w1, w2, w3, w4⟩ := hK'
  obtain ⟨f0, f1, f2, f3, f4, f5, f6, f7, f8⟩ := hF'
  obtain ⟨hg, hVR, hXT, hCC⟩ := hR'
  obtain ⟨hGV, hps, hn4, hlen, htx⟩ := hA'
  have h140 := GV_140 hGV
  have hv := hGV.1
  have hl := hGV.2.1
  have hFv := hGV.2.2
  rw [CT_e (mj := 112) (e := [.ref 1, .int (nI w)]) (by omega) rfl (Nat.le_of_ble_eq_true rfl)]
  simp (disch := first | assumption | omega) only [Nat.reduceAdd, X_go, go2_some, stp, ldI, ldA, ldL, stI, stA, stL, o1I, o2I, o2L, brI, brII, gl, s1, s2, k1, sl, go_sN, go_sR, go_CT, go_sT, go_no, go_if, pops, bk_v, bk_0, d112_0, d112_1, d112_2, d112_4, d112_7, d112_8, d112_9, d112_12, n_lt, n_le, n_eq, n_lt0, n_ge0, n_gt0, n_le0, n_eq0, m_lt, m_le, m_gt, m_ge, m_eq, m_eq', m_lt0, m_ge0, m_gt0, m_le0, m_ltm, m_lem, n_in, m_in, n_cl, n_ti, n_div, n_rem', n_dec, n_l, nI_add, pk_mul, an0, an1, decide_eq_true_eq, if_true, if_false, ite_true, ite_false, and_true, true_and, and_false, false_and, not_true, not_false_iff, or_false, false_or, or_true, true_or, eq_self, va_some, Bool.false_eq_true, reduceIte, catS_n, catS_i, catS_r, catS_l, catS_d, Nat.zero_add, Nat.add_zero, decide_true, decide_false, Nat.reduceLeDiff, cat_r, cat_i, cat_l, nle_T, nle_F, nlt_T, nlt_F, neq_T, neq_F, k0, p0, p1, p2, p3, p4, p5, p6, p7, p8, x0, x1, x2, l0, r0, r1, r2, m0, q0, q1, q2, q3, q4, q5, q6, q7, w0, w1, w2, f0, f1, f2, f3, f4, c87, c59 hX hR hA hB]
  done
theorem c112b {d : Nat} {P : MP} {I : MI} {L : ML} {C : MC} {Q : QT} {y : Int32} (hd : 4 ≤ d) (hy : y < 0 ∨ nI 7 < y) : CT d 112 [.ref 1, .int y] P I L C Q = Q (.inr 1) P I L (C.1 + 1, C.2 + 6) := by
  rw [CT_e (mj := 112) (e := [.ref 1, .int y]) (by omega) rfl (Nat.le_of_ble_eq_true rfl)]
  simp (disch := first | assumption | omega) only [Nat.reduceAdd, X_go, go2_some, stp, ldI, ldA, ldL, stI, stA, stL, o1I, o2I, o2L, brI, brII, gl, s1, s2, k1, sl, go_sN, go_sR, go_CT, go_sT, go_no, go_if, pops, bk_v, bk_0, d112_0, d112_1, d112_2, d112_4, d112_7, d112_8, d112_9, d112_12, n_lt, n_le, n_eq, n_lt0, n_ge0, n_gt0, n_le0, n_eq0, m_lt, m_le, m_gt, m_ge, m_eq, m_eq', m_lt0, m_ge0, m_gt0, m_le0, m_ltm, m_lem, n_in, m_in, n_cl, n_ti, n_div, n_rem', n_dec, n_l, nI_add, pk_mul, an0, an1, decide_eq_true_eq, if_true, if_false, ite_true, ite_false, and_true, true_and, and_false, false_and, not_true, not_false_iff, or_false, false_or, or_true, true_or, eq_self, va_some, Bool.false_eq_true, reduceIte, catS_n, catS_i, catS_r, catS_l, catS_d, Nat.zero_add, Nat.add_zero, decide_true, decide_false, Nat.reduceLeDiff, cat_r, cat_i, cat_l, nle_T, nle_F, nlt_T, nlt_F, neq_T, neq_F, c87b (y := nI 0) (hx := hy), bk_x x112]
  done
