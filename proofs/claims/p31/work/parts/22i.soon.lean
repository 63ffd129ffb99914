/-! THE LAW: openings, one after another, and undone -/
theorem Zk {Z : ZT} {r : RV} {g : GS} {n a b : Nat} {ps : Nat → GS} (h : a = b) : Z r (g, n, ps, a) = Z r (g, n, ps, b) := by rw [h]
theorem mz0 : (nI 4294967295 = 0) = False := eq_false (by decide)
theorem pu_x {n j : Nat} {ps : Nat → GS} {g : GS} (h1 : 1 ≤ j) (hj : j ≤ n) (h3 : j ≤ 3) (h4 : n ≤ 4) : puS n ps g (puN n - 1 - j) = ps (n - j) := by
  unfold puS puN
  by_cases h : n < 4
  · rw [if_pos h, if_pos h, ud_n (by omega), show n + 1 - 1 - j = n - j by omega]
  · have h44 : n = 4 := by omega
    subst h44
    rw [if_neg h, if_neg h]
    show (if 4 - 1 - j < 3 then ps (4 - 1 - j + 1) else g) = _
    rw [if_pos (by omega), show 4 - 1 - j + 1 = 4 - j by omega]
theorem pu_2 {n : Nat} {ps : Nat → GS} {g g' : GS} : puS (puN n) (puS n ps g) g' (puN (puN n) - 1 - 1) = g := by
  rw [pu_x (Nat.le_refl 1) puN_1 (by omega) puN_4, puS_t]
theorem puN_2 {n : Nat} : 2 ≤ puN (puN n) := by unfold puN; split <;> split <;> omega
theorem puN_3 {n : Nat} : 3 ≤ puN (puN (puN n)) := by
  have h1 := puN_2 (n := n)
  generalize puN (puN n) = m at h1
  unfold puN
  split <;> omega
theorem pu_3a {n : Nat} {ps : Nat → GS} {g g1 g2 : GS} : puS (puN (puN n)) (puS (puN n) (puS n ps g) g1) g2 (puN (puN (puN n)) - 1 - 1) = g1 := pu_2
theorem pu_3b {n : Nat} {ps : Nat → GS} {g g1 g2 : GS} : puS (puN (puN n)) (puS (puN n) (puS n ps g) g1) g2 (puN (puN (puN n)) - 1 - 1 - 1) = g := by
  have h1 := puN_3 (n := n)
  rw [show puN (puN (puN n)) - 1 - 1 - 1 = puN (puN (puN n)) - 1 - 2 by omega, pu_x (by omega) puN_2 (by omega) puN_4, show puN (puN n) - 2 = puN (puN n) - 1 - 1 by omega, pu_2]
theorem opI_p {t : Nat} (ht : t < 3) : ∀ m B g, GV B g → PV g → GV (B + m) (opI t m g) ∧ PV (opI t m g) ∧ opT t m g ≤ 2 * m ∧ ∀ i, i < 16 → g (124 + i) ≤ opI t m g (124 + i) := by
  intro m
  induction m with
  | zero => intro B g hG hP; exact ⟨hG, hP, Nat.le_refl _, fun _ _ => Nat.le_refl _⟩
  | succ m ih =>
    intro B g hG hP
    obtain ⟨h1, h2, fd, h3⟩ := opn_p hG hP ht
    obtain ⟨i1, i2, i3, i4⟩ := ih (B + 1) (opn t g) h1 h2
    have e : opI t (m + 1) g = opI t m (opn t g) := rfl
    have e2 : opT t (m + 1) g = opN t g + opT t m (opn t g) := rfl
    have hd := (hG.1.1 t ht).2
    have hn := h3.1.1
    rw [e, e2]
    refine ⟨by rw [show B + (m + 1) = B + 1 + m by omega]; exact i1, i2, by omega, fun i hi => Nat.le_trans ((h3.2.2.2.2.2.1 i hi).1) (i4 i hi)⟩
theorem opI_s {t : Nat} : ∀ m g, opI t (m + 1) g = opn t (opI t m g) := by
  intro m
  induction m with
  | zero => intro g; rfl
  | succ m ih =>
    intro g
    have e : opI t (m + 1 + 1) g = opI t (m + 1) (opn t g) := rfl
    rw [e, ih]
    rfl
/-- what soonest answers -/
theorem so_p {t it had : Nat} : ∀ m i g, g (124 + it) ≤ had → (soV t it had m i g = nI 4294967295 ∧ ∀ j, j ≤ m → opI t j g (124 + it) ≤ had) ∨ ∃ j, j < m ∧ soV t it had m i g = nI (i + j + 1) ∧ (∀ j', j' ≤ j → opI t j' g (124 + it) ≤ had) ∧ had < opI t (j + 1) g (124 + it) := by
  intro m
  induction m with
  | zero =>
    intro i g hg
    refine .inl ⟨rfl, fun j hj => ?_⟩
    have : j = 0 := by omega
    subst this
    exact hg
  | succ m ih =>
    intro i g hg
    by_cases z : had < opn t g (124 + it)
    · have e : soV t it had (m + 1) i g = nI (i + 1) := if_pos z
      refine .inr ⟨0, by omega, e, fun j' hj => ?_, z⟩
      have : j' = 0 := by omega
      subst this
      exact hg
    · have e : soV t it had (m + 1) i g = soV t it had m (i + 1) (opn t g) := if_neg z
      rw [e]
      rcases ih (i + 1) (opn t g) (by omega) with ⟨h1, h2⟩ | ⟨j, h1, h2, h3, h4⟩
      · refine .inl ⟨h1, fun j hj => ?_⟩
        cases j with
        | zero => exact hg
        | succ j => exact h2 j (by omega)
      · refine .inr ⟨j + 1, by omega, by rw [h2]; congr 1; omega, fun j' hj => ?_, h4⟩
        cases j' with
        | zero => exact hg
        | succ j' => exact h3 j' (by omega)
theorem e157_0 : dek 157 0 = some (.aload_n 0, 1, []) := rfl
theorem e157_1 : dek 157 1 = some (.invokestatic 119, 3, [2, 152, 0, 14, 0, 421, 2]) := rfl
theorem e157_4 : dek 157 4 = some (.lstore_n 3, 1, []) := rfl
theorem e157_5 : dek 157 5 = some (.aload_n 0, 1, []) := rfl
theorem e157_6 : dek 157 6 = some (.iload_n 1, 1, []) := rfl
theorem e157_7 : dek 157 7 = some (.iload_n 2, 1, []) := rfl
theorem e157_8 : dek 157 8 = some (.invokestatic 154, 3, [2, 140, 0, 14, 0, 877, 0, 0, 2]) := rfl
theorem e157_11 : dek 157 11 = some (.istore 5, 2, []) := rfl
theorem e157_13 : dek 157 13 = some (.aload_n 0, 1, []) := rfl
theorem e157_14 : dek 157 14 = some (.iload_n 2, 1, []) := rfl
theorem e157_15 : dek 157 15 = some (.invokestatic 142, 3, [2, 127, 0, 14, 0, 791, 0, 2]) := rfl
theorem e157_18 : dek 157 18 = some (.istore 6, 2, []) := rfl
theorem e157_20 : dek 157 20 = some (.aload_n 0, 1, []) := rfl
theorem e157_21 : dek 157 21 = some (.invokestatic 119, 3, [2, 152, 0, 14, 0, 421, 2]) := rfl
theorem e157_24 : dek 157 24 = some (.lload_n 3, 1, []) := rfl
theorem e157_25 : dek 157 25 = some (.lcmp, 1, []) := rfl
theorem e157_26 : dek 157 26 = some (.ifCond .ne 20, 3, [46]) := rfl
theorem e157_29 : dek 157 29 = some (.iload 5, 2, []) := rfl
theorem e157_31 : dek 157 31 = some (.ifCond .eq 15, 3, [46]) := rfl
theorem e157_34 : dek 157 34 = some (.iload 5, 2, []) := rfl
theorem e157_36 : dek 157 36 = some (.sipush 300, 3, [300]) := rfl
theorem e157_39 : dek 157 39 = some (.if_icmp .gt 7, 3, [46]) := rfl
theorem e157_42 : dek 157 42 = some (.iconst 1, 1, [1]) := rfl
theorem e157_43 : dek 157 43 = some (.goto 4, 3, [47]) := rfl
theorem e157_46 : dek 157 46 = some (.iconst 0, 1, [0]) := rfl
theorem e157_47 : dek 157 47 = some (.istore 7, 2, []) := rfl
theorem e157_49 : dek 157 49 = some (.iload 5, 2, []) := rfl
theorem e157_51 : dek 157 51 = some (.iconst (-1), 1, [4294967295]) := rfl
theorem e157_52 : dek 157 52 = some (.if_icmp .ne 9, 3, [61]) := rfl
theorem e157_55 : dek 157 55 = some (.sipush 200, 3, [200]) := rfl
theorem e157_58 : dek 157 58 = some (.goto 7, 3, [65]) := rfl
theorem e157_61 : dek 157 61 = some (.iload 5, 2, []) := rfl
theorem e157_63 : dek 157 63 = some (.iconst 1, 1, [1]) := rfl
theorem e157_64 : dek 157 64 = some (.isub, 1, []) := rfl
theorem e157_65 : dek 157 65 = some (.istore 8, 2, []) := rfl
theorem e157_67 : dek 157 67 = some (.iload 7, 2, []) := rfl
theorem e157_69 : dek 157 69 = some (.ifCond .eq 84, 3, [153]) := rfl
theorem e157_72 : dek 157 72 = some (.iload 8, 2, []) := rfl
theorem e157_74 : dek 157 74 = some (.ifCond .le 79, 3, [153]) := rfl
theorem e157_77 : dek 157 77 = some (.iload 8, 2, []) := rfl
theorem e157_79 : dek 157 79 = some (.sipush 200, 3, [200]) := rfl
theorem e157_82 : dek 157 82 = some (.if_icmp .gt 71, 3, [153]) := rfl
theorem e157_85 : dek 157 85 = some (.aload_n 0, 1, []) := rfl
theorem e157_86 : dek 157 86 = some (.iload_n 1, 1, []) := rfl
theorem e157_87 : dek 157 87 = some (.iload 8, 2, []) := rfl
theorem e157_89 : dek 157 89 = some (.invokestatic 140, 3, [2, 123, 0, 14, 0, 784, 0, 0, 2]) := rfl
theorem e157_92 : dek 157 92 = some (.ifCond .lt 55, 3, [147]) := rfl
theorem e157_95 : dek 157 95 = some (.aload_n 0, 1, []) := rfl
theorem e157_96 : dek 157 96 = some (.iload_n 2, 1, []) := rfl
theorem e157_97 : dek 157 97 = some (.invokestatic 142, 3, [2, 127, 0, 14, 0, 791, 0, 2]) := rfl
theorem e157_100 : dek 157 100 = some (.iload 6, 2, []) := rfl
theorem e157_102 : dek 157 102 = some (.if_icmp .ne 45, 3, [147]) := rfl
theorem e157_105 : dek 157 105 = some (.iload 5, 2, []) := rfl
theorem e157_107 : dek 157 107 = some (.iconst (-1), 1, [4294967295]) := rfl
theorem e157_108 : dek 157 108 = some (.if_icmp .eq 28, 3, [136]) := rfl
theorem e157_111 : dek 157 111 = some (.aload_n 0, 1, []) := rfl
theorem e157_112 : dek 157 112 = some (.iload_n 1, 1, []) := rfl
theorem e157_113 : dek 157 113 = some (.invokestatic 138, 3, [2, 113, 0, 14, 0, 721, 0, 2]) := rfl
theorem e157_116 : dek 157 116 = some (.ifCond .le 31, 3, [147]) := rfl
theorem e157_119 : dek 157 119 = some (.aload_n 0, 1, []) := rfl
theorem e157_120 : dek 157 120 = some (.iload_n 2, 1, []) := rfl
theorem e157_121 : dek 157 121 = some (.invokestatic 142, 3, [2, 127, 0, 14, 0, 791, 0, 2]) := rfl
theorem e157_124 : dek 157 124 = some (.iload 6, 2, []) := rfl
theorem e157_126 : dek 157 126 = some (.if_icmp .le 21, 3, [147]) := rfl
theorem e157_129 : dek 157 129 = some (.aload_n 0, 1, []) := rfl
theorem e157_130 : dek 157 130 = some (.invokestatic 168, 3, [2, 147, 0, 14, 0, 303, 2]) := rfl
theorem e157_133 : dek 157 133 = some (.ifCond .lt 14, 3, [147]) := rfl
theorem e157_136 : dek 157 136 = some (.aload_n 0, 1, []) := rfl
theorem e157_137 : dek 157 137 = some (.invokestatic 168, 3, [2, 147, 0, 14, 0, 303, 2]) := rfl
theorem e157_140 : dek 157 140 = some (.ifCond .lt 7, 3, [147]) := rfl
theorem e157_143 : dek 157 143 = some (.iconst 1, 1, [1]) := rfl
theorem e157_144 : dek 157 144 = some (.goto 4, 3, [148]) := rfl
theorem e157_147 : dek 157 147 = some (.iconst 0, 1, [0]) := rfl
theorem e157_148 : dek 157 148 = some (.istore 7, 2, []) := rfl
theorem e157_150 : dek 157 150 = some (.goto 46, 3, [196]) := rfl
theorem e157_153 : dek 157 153 = some (.iload 7, 2, []) := rfl
theorem e157_155 : dek 157 155 = some (.ifCond .eq 41, 3, [196]) := rfl
theorem e157_158 : dek 157 158 = some (.iload 5, 2, []) := rfl
theorem e157_160 : dek 157 160 = some (.iconst 1, 1, [1]) := rfl
theorem e157_161 : dek 157 161 = some (.if_icmp .ne 35, 3, [196]) := rfl
theorem e157_164 : dek 157 164 = some (.aload_n 0, 1, []) := rfl
theorem e157_165 : dek 157 165 = some (.iload_n 1, 1, []) := rfl
theorem e157_166 : dek 157 166 = some (.invokestatic 138, 3, [2, 113, 0, 14, 0, 721, 0, 2]) := rfl
theorem e157_169 : dek 157 169 = some (.ifCond .le 24, 3, [193]) := rfl
theorem e157_172 : dek 157 172 = some (.aload_n 0, 1, []) := rfl
theorem e157_173 : dek 157 173 = some (.iload_n 2, 1, []) := rfl
theorem e157_174 : dek 157 174 = some (.invokestatic 142, 3, [2, 127, 0, 14, 0, 791, 0, 2]) := rfl
theorem e157_177 : dek 157 177 = some (.iload 6, 2, []) := rfl
theorem e157_179 : dek 157 179 = some (.if_icmp .le 14, 3, [193]) := rfl
theorem e157_182 : dek 157 182 = some (.aload_n 0, 1, []) := rfl
theorem e157_183 : dek 157 183 = some (.invokestatic 168, 3, [2, 147, 0, 14, 0, 303, 2]) := rfl
theorem e157_186 : dek 157 186 = some (.ifCond .lt 7, 3, [193]) := rfl
theorem e157_189 : dek 157 189 = some (.iconst 1, 1, [1]) := rfl
theorem e157_190 : dek 157 190 = some (.goto 4, 3, [194]) := rfl
theorem e157_193 : dek 157 193 = some (.iconst 0, 1, [0]) := rfl
theorem e157_194 : dek 157 194 = some (.istore 7, 2, []) := rfl
theorem e157_196 : dek 157 196 = some (.iload 7, 2, []) := rfl
theorem e157_198 : dek 157 198 = some (.ifCond .eq 16, 3, [214]) := rfl
theorem e157_201 : dek 157 201 = some (.aload_n 0, 1, []) := rfl
theorem e157_202 : dek 157 202 = some (.invokestatic 119, 3, [2, 152, 0, 14, 0, 421, 2]) := rfl
theorem e157_205 : dek 157 205 = some (.lload_n 3, 1, []) := rfl
theorem e157_206 : dek 157 206 = some (.lcmp, 1, []) := rfl
theorem e157_207 : dek 157 207 = some (.ifCond .ne 7, 3, [214]) := rfl
theorem e157_210 : dek 157 210 = some (.iconst 1, 1, [1]) := rfl
theorem e157_211 : dek 157 211 = some (.goto 4, 3, [215]) := rfl
theorem e157_214 : dek 157 214 = some (.iconst 0, 1, [0]) := rfl
theorem e157_215 : dek 157 215 = some (.ireturn, 1, [1]) := rfl
set_option maxRecDepth 50000 in
set_option maxHeartbeats 8000000 in
theorem e157 {z : SX} {d : Nat} {g : GS} {n k : Nat} {ps : Nat → GS} {Z : ZT} {B t it : Nat} (hG : GV B g) (hP : PV g) (hB : B ≤ 900000) (ht : t < 3) (hi : it < 16) (hd : 33 ≤ d) : ∃ (n' : Nat) (ps' : Nat → GS) (kk : Nat), kk ≤ 700 ∧ C2 z d 157 [.ref 1, .int (nI t), .int (nI it)] (g, n, ps, k) Z = Z (.inl (some (.int (nI 1)))) (g, n', ps', k + kk) := by
  have hv := hG.1
  have hk := prK_b hv
  have hF := hG.2.2
  have hb1 := hF.2.2.2.1 it hi
  have hb2 := hF.2.1
  have h140 : ∀ {z : SX} {d n k : Nat} {ps : Nat → GS} {Z : ZT}, 31 ≤ d → C2 z d 140 [.ref 1, .int (nI t), .int (nI it)] (g, n, ps, k) Z = Z (.inl (some (.int (soV t it (g (124 + it)) 300 0 g)))) (g, n, ps, k) := fun hd => e140 hd ht hi
  have hp1 := puN_1 (n := n)
  have hp4 := puN_4 (n := n)
  rcases so_p (t := t) (it := it) (had := g (124 + it)) 300 0 g (Nat.le_refl _) with ⟨e1, e2⟩ | ⟨j, e0, e1, e2, e3⟩
  · obtain ⟨i1, i2, i3, i4⟩ := opI_p ht 200 B g hG hP
    have heq : opI t 200 g (124 + it) = g (124 + it) := Nat.le_antisymm (e2 200 (by omega)) (i4 it hi)
    refine ⟨puN n - 1, puS n ps g, prK g + prK g + 200 + prK g, by omega, ?_⟩
    rw [C2_e (mj := 157) (e := [.ref 1, .int (nI t), .int (nI it), UN, UN, UN, UN, UN, UN]) rfl (by omega) rfl (Nat.le_of_ble_eq_true rfl)]
    simp (disch := first | assumption | omega) only [Nat.reduceAdd, mP_1, mP_0, X2_go, g4_some, stp, ldI, ldA, ldL, stI, stA, stL, o1I, o2I, o2L, brI, brII, gl, s1, s2, k1, sl, g3_sN, g3_sR, g3_sC, g3_if, g3_no, pops, b2_v, e157_0, e157_1, e157_4, e157_5, e157_6, e157_7, e157_8, e157_11, e157_13, e157_14, e157_15, e157_18, e157_20, e157_21, e157_24, e157_25, e157_26, e157_29, e157_31, e157_34, e157_36, e157_39, e157_42, e157_43, e157_46, e157_47, e157_49, e157_51, e157_52, e157_55, e157_58, e157_61, e157_63, e157_64, e157_65, e157_67, e157_69, e157_72, e157_74, e157_77, e157_79, e157_82, e157_85, e157_86, e157_87, e157_89, e157_92, e157_95, e157_96, e157_97, e157_100, e157_102, e157_105, e157_107, e157_108, e157_111, e157_112, e157_113, e157_116, e157_119, e157_120, e157_121, e157_124, e157_126, e157_129, e157_130, e157_133, e157_136, e157_137, e157_140, e157_143, e157_144, e157_147, e157_148, e157_150, e157_153, e157_155, e157_158, e157_160, e157_161, e157_164, e157_165, e157_166, e157_169, e157_172, e157_173, e157_174, e157_177, e157_179, e157_182, e157_183, e157_186, e157_189, e157_190, e157_193, e157_194, e157_196, e157_198, e157_201, e157_202, e157_205, e157_206, e157_207, e157_210, e157_211, e157_214, e157_215, n_lt, n_le, n_eq, n_lt0, n_ge0, n_gt0, n_le0, n_eq0, m_lt, m_le, m_gt, m_ge, m_eq, m_eq', m_lt0, m_ge0, m_gt0, m_le0, m_ltm, m_lem, n_in, m_in, n_cl, n_ti, n_div, n_rem', n_dec, n_l, nI_add, pk_mul, an0, an1, decide_eq_true_eq, if_true, if_false, ite_true, ite_false, and_true, true_and, and_false, false_and, not_true, not_false_iff, or_false, false_or, or_true, true_or, eq_self, va_some, Bool.false_eq_true, reduceIte, catS_n, catS_i, catS_r, catS_l, catS_d, Nat.zero_add, Nat.add_zero, decide_true, decide_false, Nat.reduceLeDiff, cat_r, cat_i, cat_l, nle_T, nle_F, nlt_T, nlt_F, neq_T, neq_F, e152, h140, e1, e127o, e123, heq, e147u, lg_self, mz0]
    exact Zk (by omega)
  · rw [Nat.zero_add] at e1
    obtain ⟨i1, i2, i3, i4⟩ := opI_p ht j B g hG hP
    have heq : opI t j g (124 + it) = g (124 + it) := Nat.le_antisymm (e2 j (Nat.le_refl j)) (i4 it hi)
    obtain ⟨o1, o2, fd, o3⟩ := opn_p i1 i2 ht
    rw [opI_s] at e3
    have hN : 0 < opN t (opI t j g) := by
      rcases Nat.eq_zero_or_pos (opN t (opI t j g)) with y | y
      · have := (o3.2.2.2.2.2.1 it hi).2 y
        omega
      · exact y
    have hN2 := o3.1.1
    have hd6 := (i1.1.1 t ht).2
    have hb3 := o1.2.2.2.2.2.1 it hi
    have hb4 := o1.2.2.2.1
    by_cases hj0 : j = 0
    · subst hj0
      have eo : opI t 0 g = g := rfl
      rw [eo] at e3 hN hN2 hd6 hb3 hb4
      rw [Nat.zero_add] at e1
      refine ⟨puN n - 1, puS n ps g, prK g + prK g + 1 + prK g, by omega, ?_⟩
      rw [C2_e (mj := 157) (e := [.ref 1, .int (nI t), .int (nI it), UN, UN, UN, UN, UN, UN]) rfl (by omega) rfl (Nat.le_of_ble_eq_true rfl)]
      simp (disch := first | assumption | omega) only [Nat.reduceAdd, mP_1, mP_0, X2_go, g4_some, stp, ldI, ldA, ldL, stI, stA, stL, o1I, o2I, o2L, brI, brII, gl, s1, s2, k1, sl, g3_sN, g3_sR, g3_sC, g3_if, g3_no, pops, b2_v, e157_0, e157_1, e157_4, e157_5, e157_6, e157_7, e157_8, e157_11, e157_13, e157_14, e157_15, e157_18, e157_20, e157_21, e157_24, e157_25, e157_26, e157_29, e157_31, e157_34, e157_36, e157_39, e157_42, e157_43, e157_46, e157_47, e157_49, e157_51, e157_52, e157_55, e157_58, e157_61, e157_63, e157_64, e157_65, e157_67, e157_69, e157_72, e157_74, e157_77, e157_79, e157_82, e157_85, e157_86, e157_87, e157_89, e157_92, e157_95, e157_96, e157_97, e157_100, e157_102, e157_105, e157_107, e157_108, e157_111, e157_112, e157_113, e157_116, e157_119, e157_120, e157_121, e157_124, e157_126, e157_129, e157_130, e157_133, e157_136, e157_137, e157_140, e157_143, e157_144, e157_147, e157_148, e157_150, e157_153, e157_155, e157_158, e157_160, e157_161, e157_164, e157_165, e157_166, e157_169, e157_172, e157_173, e157_174, e157_177, e157_179, e157_182, e157_183, e157_186, e157_189, e157_190, e157_193, e157_194, e157_196, e157_198, e157_201, e157_202, e157_205, e157_206, e157_207, e157_210, e157_211, e157_214, e157_215, n_lt, n_le, n_eq, n_lt0, n_ge0, n_gt0, n_le0, n_eq0, m_lt, m_le, m_gt, m_ge, m_eq, m_eq', m_lt0, m_ge0, m_gt0, m_le0, m_ltm, m_lem, n_in, m_in, n_cl, n_ti, n_div, n_rem', n_dec, n_l, nI_add, pk_mul, an0, an1, decide_eq_true_eq, if_true, if_false, ite_true, ite_false, and_true, true_and, and_false, false_and, not_true, not_false_iff, or_false, false_or, or_true, true_or, eq_self, va_some, Bool.false_eq_true, reduceIte, catS_n, catS_i, catS_r, catS_l, catS_d, Nat.zero_add, Nat.add_zero, decide_true, decide_false, Nat.reduceLeDiff, cat_r, cat_i, cat_l, nle_T, nle_F, nlt_T, nlt_F, neq_T, neq_F, e152, h140, e1, e127o, e113, e147u, lg_self, n_sub, Nat.reduceSub]
      exact Zk (by omega)
    · by_cases hj2 : j ≤ 200
      · have hq1 := puN_1 (n := puN n)
        have hq4 := puN_4 (n := puN n)
        have hq2 := puN_2 (n := n)
        have hpu := pu_2 (n := n) (ps := ps) (g := g) (g' := opI t j g)
        have h147 : ∀ {z : SX} {d k : Nat} {Z : ZT}, 31 ≤ d → C2 z d 147 [.ref 1] (opI t j g, puN (puN n) - 1, puS (puN n) (puS n ps g) (opI t j g), k) Z = Z (.inl (some (.int (nI (puN (puN n) - 1 - 1))))) (g, puN (puN n) - 1 - 1, puS (puN n) (puS n ps g) (opI t j g), k) := fun hd => by
          rw [e147 hd (by omega), hpu]
        refine ⟨puN (puN n) - 1 - 1, puS (puN n) (puS n ps g) (opI t j g), prK g + prK g + j + 1 + prK g, by omega, ?_⟩
        rw [C2_e (mj := 157) (e := [.ref 1, .int (nI t), .int (nI it), UN, UN, UN, UN, UN, UN]) rfl (by omega) rfl (Nat.le_of_ble_eq_true rfl)]
        simp (disch := first | assumption | omega) only [Nat.reduceAdd, mP_1, mP_0, X2_go, g4_some, stp, ldI, ldA, ldL, stI, stA, stL, o1I, o2I, o2L, brI, brII, gl, s1, s2, k1, sl, g3_sN, g3_sR, g3_sC, g3_if, g3_no, pops, b2_v, e157_0, e157_1, e157_4, e157_5, e157_6, e157_7, e157_8, e157_11, e157_13, e157_14, e157_15, e157_18, e157_20, e157_21, e157_24, e157_25, e157_26, e157_29, e157_31, e157_34, e157_36, e157_39, e157_42, e157_43, e157_46, e157_47, e157_49, e157_51, e157_52, e157_55, e157_58, e157_61, e157_63, e157_64, e157_65, e157_67, e157_69, e157_72, e157_74, e157_77, e157_79, e157_82, e157_85, e157_86, e157_87, e157_89, e157_92, e157_95, e157_96, e157_97, e157_100, e157_102, e157_105, e157_107, e157_108, e157_111, e157_112, e157_113, e157_116, e157_119, e157_120, e157_121, e157_124, e157_126, e157_129, e157_130, e157_133, e157_136, e157_137, e157_140, e157_143, e157_144, e157_147, e157_148, e157_150, e157_153, e157_155, e157_158, e157_160, e157_161, e157_164, e157_165, e157_166, e157_169, e157_172, e157_173, e157_174, e157_177, e157_179, e157_182, e157_183, e157_186, e157_189, e157_190, e157_193, e157_194, e157_196, e157_198, e157_201, e157_202, e157_205, e157_206, e157_207, e157_210, e157_211, e157_214, e157_215, n_lt, n_le, n_eq, n_lt0, n_ge0, n_gt0, n_le0, n_eq0, m_lt, m_le, m_gt, m_ge, m_eq, m_eq', m_lt0, m_ge0, m_gt0, m_le0, m_ltm, m_lem, n_in, m_in, n_cl, n_ti, n_div, n_rem', n_dec, n_l, nI_add, pk_mul, an0, an1, decide_eq_true_eq, if_true, if_false, ite_true, ite_false, and_true, true_and, and_false, false_and, not_true, not_false_iff, or_false, false_or, or_true, true_or, eq_self, va_some, Bool.false_eq_true, reduceIte, catS_n, catS_i, catS_r, catS_l, catS_d, Nat.zero_add, Nat.add_zero, decide_true, decide_false, Nat.reduceLeDiff, cat_r, cat_i, cat_l, nle_T, nle_F, nlt_T, nlt_F, neq_T, neq_F, e152, h140, e1, e127o, e123, heq, e113, e147u, h147, lg_self, n_sub, Nat.add_sub_cancel]
        exact Zk (by omega)
      · refine ⟨n, ps, prK g + prK g + prK g, by omega, ?_⟩
        rw [C2_e (mj := 157) (e := [.ref 1, .int (nI t), .int (nI it), UN, UN, UN, UN, UN, UN]) rfl (by omega) rfl (Nat.le_of_ble_eq_true rfl)]
        simp (disch := first | assumption | omega) only [Nat.reduceAdd, mP_1, mP_0, X2_go, g4_some, stp, ldI, ldA, ldL, stI, stA, stL, o1I, o2I, o2L, brI, brII, gl, s1, s2, k1, sl, g3_sN, g3_sR, g3_sC, g3_if, g3_no, pops, b2_v, e157_0, e157_1, e157_4, e157_5, e157_6, e157_7, e157_8, e157_11, e157_13, e157_14, e157_15, e157_18, e157_20, e157_21, e157_24, e157_25, e157_26, e157_29, e157_31, e157_34, e157_36, e157_39, e157_42, e157_43, e157_46, e157_47, e157_49, e157_51, e157_52, e157_55, e157_58, e157_61, e157_63, e157_64, e157_65, e157_67, e157_69, e157_72, e157_74, e157_77, e157_79, e157_82, e157_85, e157_86, e157_87, e157_89, e157_92, e157_95, e157_96, e157_97, e157_100, e157_102, e157_105, e157_107, e157_108, e157_111, e157_112, e157_113, e157_116, e157_119, e157_120, e157_121, e157_124, e157_126, e157_129, e157_130, e157_133, e157_136, e157_137, e157_140, e157_143, e157_144, e157_147, e157_148, e157_150, e157_153, e157_155, e157_158, e157_160, e157_161, e157_164, e157_165, e157_166, e157_169, e157_172, e157_173, e157_174, e157_177, e157_179, e157_182, e157_183, e157_186, e157_189, e157_190, e157_193, e157_194, e157_196, e157_198, e157_201, e157_202, e157_205, e157_206, e157_207, e157_210, e157_211, e157_214, e157_215, n_lt, n_le, n_eq, n_lt0, n_ge0, n_gt0, n_le0, n_eq0, m_lt, m_le, m_gt, m_ge, m_eq, m_eq', m_lt0, m_ge0, m_gt0, m_le0, m_ltm, m_lem, n_in, m_in, n_cl, n_ti, n_div, n_rem', n_dec, n_l, nI_add, pk_mul, an0, an1, decide_eq_true_eq, if_true, if_false, ite_true, ite_false, and_true, true_and, and_false, false_and, not_true, not_false_iff, or_false, false_or, or_true, true_or, eq_self, va_some, Bool.false_eq_true, reduceIte, catS_n, catS_i, catS_r, catS_l, catS_d, Nat.zero_add, Nat.add_zero, decide_true, decide_false, Nat.reduceLeDiff, cat_r, cat_i, cat_l, nle_T, nle_F, nlt_T, nlt_F, neq_T, neq_F, e152, h140, e1, e127o, lg_self, n_sub, Nat.add_sub_cancel]
        exact Zk (by omega)
