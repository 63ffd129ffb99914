/-! THE START: the model, and the law up to its loop -/
theorem d150_0 : dec 150 0 = some (.aload_n 0, 1, []) := rfl
theorem d150_1 : dec 150 1 = some (.invokespecial 1, 3, [4, 993]) := rfl
theorem d150_4 : dec 150 4 = some (.aload_n 0, 1, []) := rfl
theorem d150_5 : dec 150 5 = some (.sipush 201, 3, [201]) := rfl
theorem d150_8 : dec 150 8 = some (.newarray .int, 2, []) := rfl
theorem d150_10 : dec 150 10 = some (.putfield 7, 3, [1, 10, 0, 2, 0, 994]) := rfl
theorem d150_13 : dec 150 13 = some (.aload_n 0, 1, []) := rfl
theorem d150_14 : dec 150 14 = some (.sipush 804, 3, [804]) := rfl
theorem d150_17 : dec 150 17 = some (.newarray .int, 2, []) := rfl
theorem d150_19 : dec 150 19 = some (.putfield 13, 3, [1, 10, 1, 2, 0, 995]) := rfl
theorem d150_22 : dec 150 22 = some (.aload_n 0, 1, []) := rfl
theorem d150_23 : dec 150 23 = some (.sipush 201, 3, [201]) := rfl
theorem d150_26 : dec 150 26 = some (.newarray .int, 2, []) := rfl
theorem d150_28 : dec 150 28 = some (.putfield 16, 3, [1, 10, 2, 2, 0, 996]) := rfl
theorem d150_31 : dec 150 31 = some (.aload_n 0, 1, []) := rfl
theorem d150_32 : dec 150 32 = some (.sipush 160, 3, [160]) := rfl
theorem d150_35 : dec 150 35 = some (.newarray .int, 2, []) := rfl
theorem d150_37 : dec 150 37 = some (.putfield 19, 3, [1, 10, 5, 2, 0, 999]) := rfl
theorem d150_40 : dec 150 40 = some (.aload_n 0, 1, []) := rfl
theorem d150_41 : dec 150 41 = some (.bipush 8, 2, [8]) := rfl
theorem d150_43 : dec 150 43 = some (.newarray .int, 2, []) := rfl
theorem d150_45 : dec 150 45 = some (.putfield 22, 3, [1, 10, 7, 2, 0, 1001]) := rfl
theorem d150_48 : dec 150 48 = some (.aload_n 0, 1, []) := rfl
theorem d150_49 : dec 150 49 = some (.bipush 8, 2, [8]) := rfl
theorem d150_51 : dec 150 51 = some (.newarray .int, 2, []) := rfl
theorem d150_53 : dec 150 53 = some (.putfield 25, 3, [1, 10, 8, 2, 0, 1002]) := rfl
theorem d150_56 : dec 150 56 = some (.aload_n 0, 1, []) := rfl
theorem d150_57 : dec 150 57 = some (.bipush 8, 2, [8]) := rfl
theorem d150_59 : dec 150 59 = some (.newarray .int, 2, []) := rfl
theorem d150_61 : dec 150 61 = some (.putfield 28, 3, [1, 10, 9, 2, 0, 1003]) := rfl
theorem d150_64 : dec 150 64 = some (.aload_n 0, 1, []) := rfl
theorem d150_65 : dec 150 65 = some (.bipush 8, 2, [8]) := rfl
theorem d150_67 : dec 150 67 = some (.newarray .int, 2, []) := rfl
theorem d150_69 : dec 150 69 = some (.putfield 31, 3, [1, 10, 10, 2, 0, 1004]) := rfl
theorem d150_72 : dec 150 72 = some (.aload_n 0, 1, []) := rfl
theorem d150_73 : dec 150 73 = some (.bipush 8, 2, [8]) := rfl
theorem d150_75 : dec 150 75 = some (.newarray .long, 2, []) := rfl
theorem d150_77 : dec 150 77 = some (.putfield 34, 3, [1, 10, 11, 2, 0, 1005]) := rfl
theorem d150_80 : dec 150 80 = some (.aload_n 0, 1, []) := rfl
theorem d150_81 : dec 150 81 = some (.bipush 8, 2, [8]) := rfl
theorem d150_83 : dec 150 83 = some (.newarray .int, 2, []) := rfl
theorem d150_85 : dec 150 85 = some (.putfield 38, 3, [1, 10, 12, 2, 0, 1006]) := rfl
theorem d150_88 : dec 150 88 = some (.aload_n 0, 1, []) := rfl
theorem d150_89 : dec 150 89 = some (.bipush 8, 2, [8]) := rfl
theorem d150_91 : dec 150 91 = some (.newarray .int, 2, []) := rfl
theorem d150_93 : dec 150 93 = some (.putfield 41, 3, [1, 10, 13, 2, 0, 1007]) := rfl
theorem d150_96 : dec 150 96 = some (.aload_n 0, 1, []) := rfl
theorem d150_97 : dec 150 97 = some (.bipush 8, 2, [8]) := rfl
theorem d150_99 : dec 150 99 = some (.newarray .int, 2, []) := rfl
theorem d150_101 : dec 150 101 = some (.putfield 44, 3, [1, 10, 14, 2, 0, 1008]) := rfl
theorem d150_104 : dec 150 104 = some (.aload_n 0, 1, []) := rfl
theorem d150_105 : dec 150 105 = some (.bipush 8, 2, [8]) := rfl
theorem d150_107 : dec 150 107 = some (.newarray .int, 2, []) := rfl
theorem d150_109 : dec 150 109 = some (.putfield 47, 3, [1, 10, 15, 2, 0, 1009]) := rfl
theorem d150_112 : dec 150 112 = some (.aload_n 0, 1, []) := rfl
theorem d150_113 : dec 150 113 = some (.bipush 8, 2, [8]) := rfl
theorem d150_115 : dec 150 115 = some (.newarray .int, 2, []) := rfl
theorem d150_117 : dec 150 117 = some (.putfield 50, 3, [1, 10, 16, 2, 0, 1010]) := rfl
theorem d150_120 : dec 150 120 = some (.aload_n 0, 1, []) := rfl
theorem d150_121 : dec 150 121 = some (.bipush 8, 2, [8]) := rfl
theorem d150_123 : dec 150 123 = some (.newarray .int, 2, []) := rfl
theorem d150_125 : dec 150 125 = some (.putfield 53, 3, [1, 10, 17, 2, 0, 1011]) := rfl
theorem d150_128 : dec 150 128 = some (.aload_n 0, 1, []) := rfl
theorem d150_129 : dec 150 129 = some (.bipush 16, 2, [16]) := rfl
theorem d150_131 : dec 150 131 = some (.newarray .long, 2, []) := rfl
theorem d150_133 : dec 150 133 = some (.putfield 56, 3, [1, 10, 19, 2, 0, 1013]) := rfl
theorem d150_136 : dec 150 136 = some (.aload_n 0, 1, []) := rfl
theorem d150_137 : dec 150 137 = some (.iconst 4, 1, [4]) := rfl
theorem d150_138 : dec 150 138 = some (.newarray .long, 2, []) := rfl
theorem d150_140 : dec 150 140 = some (.putfield 59, 3, [1, 10, 20, 2, 0, 1014]) := rfl
theorem d150_143 : dec 150 143 = some (.aload_n 0, 1, []) := rfl
theorem d150_144 : dec 150 144 = some (.sipush 201, 3, [201]) := rfl
theorem d150_147 : dec 150 147 = some (.newarray .int, 2, []) := rfl
theorem d150_149 : dec 150 149 = some (.putfield 62, 3, [1, 10, 24, 2, 0, 1018]) := rfl
theorem d150_152 : dec 150 152 = some (.iconst 0, 1, [0]) := rfl
theorem d150_153 : dec 150 153 = some (.istore_n 1, 1, []) := rfl
theorem d150_154 : dec 150 154 = some (.iload_n 1, 1, []) := rfl
theorem d150_155 : dec 150 155 = some (.iconst 3, 1, [3]) := rfl
theorem d150_156 : dec 150 156 = some (.if_icmp .ge 18, 3, [174]) := rfl
theorem d150_159 : dec 150 159 = some (.aload_n 0, 1, []) := rfl
theorem d150_160 : dec 150 160 = some (.getfield 7, 3, [1, 10, 0, 2, 0, 994]) := rfl
theorem d150_163 : dec 150 163 = some (.iconst 0, 1, [0]) := rfl
theorem d150_164 : dec 150 164 = some (.iload_n 1, 1, []) := rfl
theorem d150_165 : dec 150 165 = some (.iadd, 1, []) := rfl
theorem d150_166 : dec 150 166 = some (.iconst 1, 1, [1]) := rfl
theorem d150_167 : dec 150 167 = some (.iastore, 1, []) := rfl
theorem d150_168 : dec 150 168 = some (.iinc 1 1, 3, [1]) := rfl
theorem d150_171 : dec 150 171 = some (.goto (-17), 3, [154]) := rfl
theorem d150_174 : dec 150 174 = some (.aload_n 0, 1, []) := rfl
theorem d150_175 : dec 150 175 = some (.getfield 7, 3, [1, 10, 0, 2, 0, 994]) := rfl
theorem d150_178 : dec 150 178 = some (.bipush 121, 2, [121]) := rfl
theorem d150_180 : dec 150 180 = some (.iconst 1, 1, [1]) := rfl
theorem d150_181 : dec 150 181 = some (.iastore, 1, []) := rfl
theorem d150_182 : dec 150 182 = some (.return_, 1, []) := rfl
theorem l150 : mL 150 = 2 := rfl
theorem x150 : (mG 150).2.2.2.2 = [] := rfl
theorem n150a {d : Nat} {P : MP} {I : MI} {L : ML} {C : MC} {Q : QT} (hb : P.2.2 = 150) (hk : P.1 150 = (11, 0)) (hd : 1 ≤ d) : CT d 150 [.ref 150] P I L C Q = Q (.inl none) (xr (xr (xr (xr (xr (xr (xr (xr (xr (xr (xr (xr (xr (xr (xr (xr (xr (xr (P.1) 151 (20, 201)) 152 (20, 804)) 153 (20, 201)) 154 (20, 160)) 155 (20, 8)) 156 (20, 8)) 157 (20, 8)) 158 (20, 8)) 159 (21, 8)) 160 (20, 8)) 161 (20, 8)) 162 (20, 8)) 163 (20, 8)) 164 (20, 8)) 165 (20, 8)) 166 (21, 16)) 167 (21, 4)) 168 (20, 201), xu (xr (xu (xr (xu (xr (xu (xr (xu (xr (xu (xr (xu (xr (xu (xr (xu (xr (xu (xr (xu (xr (xu (xr (xu (xr (xu (xr (xu (xr (xu (xr (xu (xr (xu (xr (P.2.1) 151 (fun _ => none)) 150 0 (some 151)) 152 (fun _ => none)) 150 1 (some 152)) 153 (fun _ => none)) 150 2 (some 153)) 154 (fun _ => none)) 150 5 (some 154)) 155 (fun _ => none)) 150 7 (some 155)) 156 (fun _ => none)) 150 8 (some 156)) 157 (fun _ => none)) 150 9 (some 157)) 158 (fun _ => none)) 150 10 (some 158)) 159 (fun _ => none)) 150 11 (some 159)) 160 (fun _ => none)) 150 12 (some 160)) 161 (fun _ => none)) 150 13 (some 161)) 162 (fun _ => none)) 150 14 (some 162)) 163 (fun _ => none)) 150 15 (some 163)) 164 (fun _ => none)) 150 16 (some 164)) 165 (fun _ => none)) 150 17 (some 165)) 166 (fun _ => none)) 150 19 (some 166)) 167 (fun _ => none)) 150 20 (some 167)) 168 (fun _ => none)) 150 24 (some 168), 168) (xu (xu (xu (xu (xr (xr (xr (xr (xr (xr (xr (xr (xr (xr (xr (xr (xr (xr (xr (xr (xr (xr (I) 151 (fun _ => 0)) 152 (fun _ => 0)) 153 (fun _ => 0)) 154 (fun _ => 0)) 155 (fun _ => 0)) 156 (fun _ => 0)) 157 (fun _ => 0)) 158 (fun _ => 0)) 159 (fun _ => 0)) 160 (fun _ => 0)) 161 (fun _ => 0)) 162 (fun _ => 0)) 163 (fun _ => 0)) 164 (fun _ => 0)) 165 (fun _ => 0)) 166 (fun _ => 0)) 167 (fun _ => 0)) 168 (fun _ => 0)) 151 0 (nI 1)) 151 1 (nI 1)) 151 2 (nI 1)) 151 121 (nI 1)) (xr (xr (xr (xr (xr (xr (xr (xr (xr (xr (xr (xr (xr (xr (xr (xr (xr (xr (L) 151 (fun _ => 0)) 152 (fun _ => 0)) 153 (fun _ => 0)) 154 (fun _ => 0)) 155 (fun _ => 0)) 156 (fun _ => 0)) 157 (fun _ => 0)) 158 (fun _ => 0)) 159 (fun _ => 0)) 160 (fun _ => 0)) 161 (fun _ => 0)) 162 (fun _ => 0)) 163 (fun _ => 0)) 164 (fun _ => 0)) 165 (fun _ => 0)) 166 (fun _ => 0)) 167 (fun _ => 0)) 168 (fun _ => 0)) (C.1 + 1 + 1 + 1 + 1 + 1 + 1 + 1 + 1 + 1 + 1 + 1 + 1 + 1 + 1 + 1 + 1 + 1 + 1, C.2 + 201 + 804 + 201 + 160 + 8 + 8 + 8 + 8 + 8 + 8 + 8 + 8 + 8 + 8 + 8 + 16 + 4 + 201) := by
  rw [CT_e (mj := 150) (e := [.ref 150, UN]) (by omega) rfl (Nat.le_of_ble_eq_true rfl)]
  simp (disch := first | assumption | omega) only [Nat.reduceAdd, X_go, go2_some, stp, ldI, ldA, ldL, stI, stA, stL, o1I, o2I, o2L, brI, brII, gl, s1, s2, k1, sl, go_sN, go_sR, go_CT, go_sT, go_no, go_if, pops, bk_v, bk_0, d150_0, d150_1, d150_4, d150_5, d150_8, d150_10, d150_13, d150_14, d150_17, d150_19, d150_22, d150_23, d150_26, d150_28, d150_31, d150_32, d150_35, d150_37, d150_40, d150_41, d150_43, d150_45, d150_48, d150_49, d150_51, d150_53, d150_56, d150_57, d150_59, d150_61, d150_64, d150_65, d150_67, d150_69, d150_72, d150_73, d150_75, d150_77, d150_80, d150_81, d150_83, d150_85, d150_88, d150_89, d150_91, d150_93, d150_96, d150_97, d150_99, d150_101, d150_104, d150_105, d150_107, d150_109, d150_112, d150_113, d150_115, d150_117, d150_120, d150_121, d150_123, d150_125, d150_128, d150_129, d150_131, d150_133, d150_136, d150_137, d150_138, d150_140, d150_143, d150_144, d150_147, d150_149, d150_152, d150_153, d150_154, d150_155, d150_156, d150_159, d150_160, d150_163, d150_164, d150_165, d150_166, d150_167, d150_168, d150_171, d150_174, d150_175, d150_178, d150_180, d150_181, d150_182, n_lt, n_le, n_eq, n_lt0, n_ge0, n_gt0, n_le0, n_eq0, m_lt, m_le, m_gt, m_ge, m_eq, m_eq', m_lt0, m_ge0, m_gt0, m_le0, m_ltm, m_lem, n_in, m_in, n_cl, n_ti, n_div, n_rem', n_dec, n_l, nI_add, pk_mul, an0, an1, decide_eq_true_eq, if_true, if_false, ite_true, ite_false, and_true, true_and, and_false, false_and, not_true, not_false_iff, or_false, false_or, or_true, true_or, eq_self, va_some, Bool.false_eq_true, reduceIte, catS_n, catS_i, catS_r, catS_l, catS_d, Nat.zero_add, Nat.add_zero, decide_true, decide_false, Nat.reduceLeDiff, cat_r, cat_i, cat_l, nle_T, nle_F, nlt_T, nlt_F, neq_T, neq_F, mk, mkP, hb, hk, xr_e, xr_m, xu_e, xu_m, le1]
  done
theorem n150 {d : Nat} {P : MP} {I : MI} {L : ML} {C : MC} (hb : P.2.2 = 150) (hk : P.1 150 = (11, 0)) (hz : ∀ j, I 150 j = 0) (hd : 1 ≤ d) : ∃ P' I' L' C', NW 150 18 2000 P P' I I' L L' C C' ∧ MB P' ∧ (∀ ps tx, ZR I' g0 0 ps 0 tx) ∧ ∀ Q, CT d 150 [.ref 150] P I L C Q = Q (.inl none) P' I' L' C' := by
  refine ⟨_, _, _, _, ⟨by first | rfl | (dsimp only; omega), fun k h => ?_, fun k j h => ⟨?_, ?_, ?_⟩, by dsimp only; omega, by dsimp only; omega⟩, ⟨⟨?_, ?_, ?_, ?_, ?_, ?_, ?_, ?_, ?_⟩, ⟨?_, ?_, ?_, ?_, ?_, ?_, ?_, ?_, ?_, ?_, ?_⟩, ⟨?_, ?_, ?_, ?_, ?_, ?_, ?_, ?_, ?_, ?_, ?_⟩, ?_, ?_, ?_, ?_, ?_, ?_⟩, fun ps tx => ⟨fun k hk' => ?_, ?_, fun i k hi => by omega, ?_, fun i hi => by omega⟩, fun Q => n150a hb hk hd⟩
  · simp (disch := omega) only [xr_m]
  · simp (disch := omega) only [xr_m, xu_m]
  · simp (disch := omega) only [xr_m, xu_m]
  · simp (disch := omega) only [xr_m, xu_m]
  · simp (disch := omega) only [xr_e, xr_m, xu_e, xu_m, hk]
  · simp (disch := omega) only [xr_e, xr_m, xu_e, xu_m, hk]
  · simp (disch := omega) only [xr_e, xr_m, xu_e, xu_m, hk]
  · simp (disch := omega) only [xr_e, xr_m, xu_e, xu_m, hk]
  · simp (disch := omega) only [xr_e, xr_m, xu_e, xu_m, hk]
  · simp (disch := omega) only [xr_e, xr_m, xu_e, xu_m, hk]
  · simp (disch := omega) only [xr_e, xr_m, xu_e, xu_m, hk]
  · simp (disch := omega) only [xr_e, xr_m, xu_e, xu_m, hk]
  · simp (disch := omega) only [xr_e, xr_m, xu_e, xu_m, hk]
  · simp (disch := omega) only [xr_e, xr_m, xu_e, xu_m, hk]
  · simp (disch := omega) only [xr_e, xr_m, xu_e, xu_m, hk]
  · simp (disch := omega) only [xr_e, xr_m, xu_e, xu_m, hk]
  · simp (disch := omega) only [xr_e, xr_m, xu_e, xu_m, hk]
  · simp (disch := omega) only [xr_e, xr_m, xu_e, xu_m, hk]
  · simp (disch := omega) only [xr_e, xr_m, xu_e, xu_m, hk]
  · simp (disch := omega) only [xr_e, xr_m, xu_e, xu_m, hk]
  · simp (disch := omega) only [xr_e, xr_m, xu_e, xu_m, hk]
  · simp (disch := omega) only [xr_e, xr_m, xu_e, xu_m, hk]
  · simp (disch := omega) only [xr_e, xr_m, xu_e, xu_m, hk]
  · simp (disch := omega) only [xr_e, xr_m, xu_e, xu_m, hk]
  · simp (disch := omega) only [xr_e, xr_m, xu_e, xu_m, hk]
  · simp (disch := omega) only [xr_e, xr_m, xu_e, xu_m, hk]
  · simp (disch := omega) only [xr_e, xr_m, xu_e, xu_m, hk]
  · simp (disch := omega) only [xr_e, xr_m, xu_e, xu_m, hk]
  · simp (disch := omega) only [xr_e, xr_m, xu_e, xu_m, hk]
  · simp (disch := omega) only [xr_e, xr_m, xu_e, xu_m, hk]
  · simp (disch := omega) only [xr_e, xr_m, xu_e, xu_m, hk]
  · simp (disch := omega) only [xr_e, xr_m, xu_e, xu_m, hk]
  · simp (disch := omega) only [xr_e, xr_m, xu_e, xu_m, hk]
  · simp (disch := omega) only [xr_e, xr_m, xu_e, xu_m, hk]
  · simp (disch := omega) only [xr_e, xr_m, xu_e, xu_m, hk]
  · simp (disch := omega) only [xr_e, xr_m, xu_e, xu_m, hk]
  · simp (disch := omega) only [xr_e, xr_m, xu_e, xu_m, hk]
  · simp (disch := omega) only [xr_e, xr_m, xu_e, xu_m, hk]
  · simp (disch := omega) only [xr_e, xr_m, xu_e, xu_m, hk]
  · simp (disch := omega) only [xr_e, xr_m, xu_e, xu_m, hk]
  · simp (disch := omega) only [xr_e, xr_m, xu_e, xu_m, hk]
  · by_cases z : k < 3 ∨ k = 121
    · rw [g0_1 z]
      rcases (by omega : k = 0 ∨ k = 1 ∨ k = 2 ∨ k = 121) with rfl | rfl | rfl | rfl <;> simp (disch := omega) only [xr_e, xr_m, xu_e, xu_m]
    · rw [g0_0 z]
      simp (disch := omega) only [xr_e, xr_m, xu_m, z_nI]
  · simp (disch := omega) only [xr_e, xr_m, xu_m, hz, z_nI]
  · simp (disch := omega) only [xr_e, xr_m, xu_m, hz, z_nI]
theorem GV_0 : GV 0 g0 := by
  refine ⟨⟨fun t ht => ?_, fun t ht => ?_, fun t e ht he => ?_⟩, ⟨fun r h1 h3 => ⟨?_, ?_⟩, ?_, ?_⟩, ?_, ?_, ?_, fun i hi => ?_, fun i hi => ?_⟩
  · rw [g0_1 (by omega)]; omega
  · rw [g0_0 (by omega)]; omega
  · rw [g0_0 (by omega)] at he; omega
  · rw [g0_0 (by omega)]; omega
  · rw [g0_0 (by omega)]; omega
  · rw [g0_0 (by omega)]; omega
  · rw [g0_1 (by omega)]; omega
  · rw [g0_0 (by omega)]; omega
  · rw [g0_0 (by omega)]; omega
  · rw [g0_0 (by omega), g0_0 (by omega)]; rfl
  · rw [g0_0 (by omega)]; omega
  · rw [g0_0 (by omega)] at hi; omega
theorem XB_es {P P' : MP} {I I' : MI} (h : XB P) (e : ES 1 149 P P' I I') : XB P' := by
  obtain ⟨h1, ⟨h2, h3, h4, h5, h6, h7, h8, h9, h10⟩, s1', s2', ⟨v1, v2, v3, v4, v5⟩, ⟨t1, t2, t3⟩, tb, ⟨o1, o2, o3⟩, dd, hb1, hb2⟩ := h
  have eK : ∀ k, 1 ≤ k → k ≤ 149 → P'.1 k = P.1 k := fun k q1 q2 => (e k q1 q2).1
  have eR : ∀ k j, 1 ≤ k → k ≤ 149 → P'.2.1 k j = P.2.1 k j := fun k j q1 q2 => ((e k q1 q2).2 j).1
  refine ⟨?_, ⟨?_, ?_, ?_, ?_, ?_, ?_, ?_, ?_, ?_⟩, SB_es s1' (ES_w e (by omega) (by omega)), SB_es s2' (ES_w e (by omega) (by omega)), ⟨?_, ?_, ?_, fun i hi => ?_, fun i hi => SB_es (v5 i hi) (ES_w e (by unfold vb; omega) (by unfold vb; omega))⟩, ⟨?_, ?_, ?_⟩, TB_es tb (ES_w e (by omega) (by omega)), ⟨?_, ?_, DB_es o3 (ES_w e (by omega) (by omega))⟩, DB_es dd (ES_w e (by omega) (by omega)), HB_es hb1 (ES_w e (by omega) (by omega)), HB_es hb2 (ES_w e (by omega) (by omega))⟩
  · rw [eK _ (by omega) (by omega)]; exact h1
  · rw [eR _ _ (by omega) (by omega)]; exact h2
  · rw [eR _ _ (by omega) (by omega)]; exact h3
  · rw [eR _ _ (by omega) (by omega)]; exact h4
  · rw [eR _ _ (by omega) (by omega)]; exact h5
  · rw [eR _ _ (by omega) (by omega)]; exact h6
  · rw [eR _ _ (by omega) (by omega)]; exact h7
  · rw [eR _ _ (by omega) (by omega)]; exact h8
  · rw [eR _ _ (by omega) (by omega)]; exact h9
  · rw [eR _ _ (by omega) (by omega)]; exact h10
  · rw [eK _ (by omega) (by omega)]; exact v1
  · rw [eR _ _ (by omega) (by omega)]; exact v2
  · rw [eK _ (by omega) (by omega)]; exact v3
  · rw [eR _ _ (by omega) (by omega)]; exact v4 i hi
  · rw [eK _ (by omega) (by omega)]; exact t1
  · rw [eR _ _ (by omega) (by omega)]; exact t2
  · rw [eK _ (by omega) (by omega)]; exact t3
  · rw [eK _ (by omega) (by omega)]; exact o1
  · rw [eR _ _ (by omega) (by omega)]; exact o2
theorem MB_es {P P' : MP} {I I' : MI} (h : MB P) (e : ES 150 168 P P' I I') : MB P' := by
  have eK : ∀ k, 150 ≤ k → k ≤ 168 → P'.1 k = P.1 k := fun k q1 q2 => (e k q1 q2).1
  have eR : ∀ k j, 150 ≤ k → k ≤ 168 → P'.2.1 k j = P.2.1 k j := fun k j q1 q2 => ((e k q1 q2).2 j).1
  unfold MB at h ⊢
  simp (disch := omega) only [eK, eR]
  exact h
theorem ZR_es {P P' : MP} {I I' : MI} {n len : Nat} {g : GS} {ps : Nat → GS} {tx : Nat → Nat} (h : ZR I g n ps len tx) (e : ES 150 168 P P' I I') : ZR I' g n ps len tx := by
  have eI : ∀ k j, 150 ≤ k → k ≤ 168 → I' k j = I k j := fun k j q1 q2 => ((e k q1 q2).2 j).2
  obtain ⟨h1, h2, h3, h4, h5⟩ := h
  exact ⟨NR_fr h1 fun j => eI _ _ (by omega) (by omega), by rw [eI _ _ (by omega) (by omega)]; exact h2, fun i k hi hk => by rw [eI _ _ (by omega) (by omega)]; exact h3 i k hi hk, by rw [eI _ _ (by omega) (by omega)]; exact h4, fun i hi => by rw [eI _ _ (by omega) (by omega)]; exact h5 i hi⟩

theorem law_go {d len : Nat} {P : MP} {I : MI} {L : ML} {C : MC} {Q : QT} (hb : P.2.2 = 0) (h0 : P.1 0 = (30, len)) (hl : len ≤ 10000) (hd : 50 ≤ d) (hlen : len ≤ 7 * 1400 + 6) : ∃ P' I' L' C', (C'.1 ≤ C.1 + 3000 ∧ C'.2 ≤ C.2 + 20000) ∧ X d 226 0 [.ref 0, UN, UN, UN, UN, UN, UN, UN, UN] [] P I L C Q = Q (.inl (some (.int (nI 1)))) P' I' L' C' := by
  obtain ⟨P1, I1, L1, C1, ⟨a1, b1, c1, x1, y1⟩, hX, hRC, ⟨ho, hn⟩, h112, h130, q1⟩ := n0 (d := d) (P := (xr P.1 1 (10, 0), xr P.2.1 1 (fun _ => none), 1)) (I := xr I 1 (fun _ => 0)) (L := xr L 1 (fun _ => 0)) (C := (C.1 + 1, C.2 + fN 9)) rfl (by dsimp only; rw [xr_e rfl]) (by omega)
  dsimp only at b1 c1 x1 y1
  have m1 : P1.2.2 = 149 := by omega
  obtain ⟨P2, I2, L2, C2, ⟨a2, b2, c2, x2, y2⟩, hM, hZ, q2⟩ := n150 (d := d) (P := (xr P1.1 150 (11, 0), xr P1.2.1 150 (fun _ => none), 150)) (I := xr I1 150 (fun _ => 0)) (L := xr L1 150 (fun _ => 0)) (C := (C1.1 + 1, C1.2 + fN 10)) rfl (by dsimp only; rw [xr_e rfl]) (fun j => by rw [xr_e rfl]) (by omega)
  dsimp only at b2 c2 x2 y2
  have m2 : P2.2.2 = 168 := by omega
  have f9 : fN 9 = 9 ∧ fN 10 = 26 := ⟨rfl, rfl⟩
  have cr2 : ∀ k j, k < 150 → P2.2.1 k j = (xr P1.2.1 150 (fun _ => none)) k j := fun k j h => (c2 k j h).1
  have ci2 : ∀ k j, k < 150 → I2 k j = (xr I1 150 (fun _ => 0)) k j := fun k j h => (c2 k j h).2.1
  have cl2 : ∀ k j, k < 150 → L2 k j = (xr L1 150 (fun _ => 0)) k j := fun k j h => (c2 k j h).2.2
  have hq : X d 226 0 [.ref 0, UN, UN, UN, UN, UN, UN, UN, UN] [] P I L C Q = X d 226 23 [.ref 0, .ref 1, .ref 150, .ref 169, .int (nI 0), UN, UN, UN, UN] [] (xr P2.1 169 (21, 1), xr P2.2.1 169 (fun _ => none), 169) (xr I2 169 (fun _ => 0)) (xr L2 169 (fun _ => 0)) (C2.1 + 1, C2.2 + 1) Q := by
    simp (disch := first | assumption | omega) only [Nat.reduceAdd, X_go, go2_some, stp, ldI, ldA, ldL, stI, stA, stL, o1I, o2I, o2L, brI, brII, gl, s1, s2, k1, sl, go_sN, go_sR, go_CT, go_sT, go_no, go_if, pops, bk_v, bk_0, d226_0, d226_3, d226_4, d226_7, d226_8, d226_11, d226_12, d226_15, d226_16, d226_17, d226_19, d226_20, d226_21, n_lt, n_le, n_eq, n_lt0, n_ge0, n_gt0, n_le0, n_eq0, m_lt, m_le, m_gt, m_ge, m_eq, m_eq', m_lt0, m_ge0, m_gt0, m_le0, m_ltm, m_lem, n_in, m_in, n_cl, n_ti, n_div, n_rem', n_dec, n_l, nI_add, pk_mul, an0, an1, decide_eq_true_eq, if_true, if_false, ite_true, ite_false, and_true, true_and, and_false, false_and, not_true, not_false_iff, or_false, false_or, or_true, true_or, eq_self, va_some, Bool.false_eq_true, reduceIte, catS_n, catS_i, catS_r, catS_l, catS_d, Nat.zero_add, Nat.add_zero, decide_true, decide_false, Nat.reduceLeDiff, cat_r, cat_i, cat_l, nle_T, nle_F, nlt_T, nlt_F, neq_T, neq_F, mk, mkP, xr_e, xr_m, le1, hb, q1, m1, q2, m2]
    done
  have e1 : ES 1 149 P1 (xr P2.1 169 (21, 1), xr P2.2.1 169 (fun _ => none), 169) I1 (xr I2 169 (fun _ => 0)) := fun k h1 h2 => ⟨by simp (disch := omega) only [xr_m, b2], fun j => ⟨by simp (disch := omega) only [xr_m, cr2], by simp (disch := omega) only [xr_m, ci2]⟩⟩
  have e2 : ES 150 168 P2 (xr P2.1 169 (21, 1), xr P2.2.1 169 (fun _ => none), 169) I2 (xr I2 169 (fun _ => 0)) := fun k h1 h2 => ⟨by simp (disch := omega) only [xr_m], fun j => ⟨by simp (disch := omega) only [xr_m], by simp (disch := omega) only [xr_m]⟩⟩
  have hF : FP (xr P2.1 169 (21, 1), xr P2.2.1 169 (fun _ => none), 169) := ⟨XB_es hX e1, MB_es hM e2, by dsimp only; rw [xr_e rfl]⟩
  have h0' : (xr P2.1 169 (21, 1), xr P2.2.1 169 (fun _ => none), 169).1 0 = (30, len) := by
    simp (disch := omega) only [xr_m, b2, b1, h0]
  have hI : ∀ k j, 1 ≤ k → k ≤ 149 → (xr I2 169 (fun _ => 0)) k j = I1 k j := fun k j h1 h2 => ((e1 k h1 h2).2 j).2
  have hG : GG 0 (xr I2 169 (fun _ => 0)) (xr L2 169 (fun _ => 0)) := by
    refine ⟨0, 0, g0, fun _ => g0, fun _ => 0, ⟨RC_es hRC (ES_w e1 (by omega) (by omega)), ⟨0, by omega, ?_, ?_, by omega, fun i hi => by omega⟩, ⟨?_, fun i hi => by omega⟩, CC_no ?_⟩, ZR_es (hZ _ _) e2, ⟨GV_0, fun i hi => by omega, by omega, by omega, fun i hi => by omega⟩⟩
    · rw [hI _ _ (by omega) (by omega)]; exact ho
    · rw [hI _ _ (by omega) (by omega)]; exact hn
    · rw [hI _ _ (by omega) (by omega)]; exact h112
    · rw [hI _ _ (by omega) (by omega)]; exact h130
  obtain ⟨I3, L3, C3, ⟨z1, z2⟩, hlp⟩ := law_loop (d := d) (Q := Q) (C := (C2.1 + 1, C2.2 + 1)) (u5 := UN) (u6 := UN) (u7 := UN) (u8 := UN) hF h0' hl (by omega) 1400 0 0 _ _ (by omega) (by omega) (by omega) hG
  dsimp only at z1 z2
  exact ⟨_, I3, L3, C3, ⟨by omega, by omega⟩, hq.trans hlp⟩
