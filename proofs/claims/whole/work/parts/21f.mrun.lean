/-! THE MODEL: a table on the pile, run to its end -/
def KF (g : GS) (top r k w0 w1 : Nat) : SP → SP → Nat → Nat → Nat → CV := fun sp' gr' fd' w s' => goV g top r (k + 1) (if k = 0 then w else w0) (if k = 0 then w1 else w) sp' gr' fd' s'
def RT (d top : Nat) (P : MP) (C : MC) (I : MI) (L : ML) (I' : MI) (L' : ML) : Prop := ∀ u, ∃ v, ∀ Q, X d 201 68 [.ref 150, .int (nI top), u] [] P I L C Q = X d 201 68 [.ref 150, .int (nI top), v] [] P I' L' C Q
theorem RT_t {d top : Nat} {P : MP} {C : MC} {I I' I2 : MI} {L L' L2 : ML} (h : RT d top P C I L I' L') (h2 : RT d top P C I' L' I2 L2) : RT d top P C I L I2 L2 := fun u => by
  obtain ⟨v, e⟩ := h u
  obtain ⟨w, e2⟩ := h2 v
  exact ⟨w, fun Q => by rw [e, e2]⟩
theorem pf_le {p q k j : Nat} (h : pf p k j) (hq : p ≤ q) : pf q k j := by unfold pf at *; omega
theorem pf_n {p k j : Nat} (h : k < 150 ∨ (150 < k ∧ k < 155) ∨ 165 < k) : pf p k j := by unfold pf; omega
theorem FrS_fr {I I' : MI} {L L' : ML} {p q t e sM s k fd mn : Nat} {x xs ys its : Int32} (h : FrS I L p t e x sM s k xs ys its fd mn) (hq : p < q) (hI : ∀ kk j, pf q kk j → I' kk j = I kk j) (hL : L' 159 p = L 159 p) : FrS I' L' p t e x sM s k xs ys its fd mn := by
  obtain ⟨f1, f2, f3, f4, f5, f6, f7, f8, f9, f10, f11⟩ := h
  have o : ∀ kk, 155 ≤ kk → kk ≤ 165 → I' kk p = I kk p := fun kk h1 h2 => hI _ _ (by unfold pf; omega)
  exact ⟨by rw [o _ (by omega) (by omega)]; exact f1, by rw [o _ (by omega) (by omega)]; exact f2, by rw [o _ (by omega) (by omega)]; exact f3, by rw [o _ (by omega) (by omega)]; exact f4, by rw [hL]; exact f5, by rw [o _ (by omega) (by omega)]; exact f6, by rw [o _ (by omega) (by omega)]; exact f7, by rw [o _ (by omega) (by omega)]; exact f8, by rw [o _ (by omega) (by omega)]; exact f9, by rw [o _ (by omega) (by omega)]; exact f10, by rw [o _ (by omega) (by omega)]; exact f11⟩
theorem CI2_c {g : GS} {c : Nat → Nat → Bool} (h : CI2 (wS g c) g) : CI2 (wS g c) g := h
theorem d201_0 : dec 201 0 = some (.iconst 0, 1, [0]) := rfl
theorem d201_1 : dec 201 1 = some (.istore_n 2, 1, []) := rfl
theorem d201_2 : dec 201 2 = some (.iload_n 2, 1, []) := rfl
theorem d201_3 : dec 201 3 = some (.bipush 16, 2, [16]) := rfl
theorem d201_5 : dec 201 5 = some (.if_icmp .ge 16, 3, [21]) := rfl
theorem d201_8 : dec 201 8 = some (.aload_n 0, 1, []) := rfl
theorem d201_9 : dec 201 9 = some (.getfield 56, 3, [1, 10, 19, 2, 0, 1013]) := rfl
theorem d201_12 : dec 201 12 = some (.iload_n 2, 1, []) := rfl
theorem d201_13 : dec 201 13 = some (.lconst 0, 1, [0]) := rfl
theorem d201_14 : dec 201 14 = some (.lastore, 1, []) := rfl
theorem d201_15 : dec 201 15 = some (.iinc 2 1, 3, [1]) := rfl
theorem d201_18 : dec 201 18 = some (.goto (-16), 3, [2]) := rfl
theorem d201_21 : dec 201 21 = some (.iconst 0, 1, [0]) := rfl
theorem d201_22 : dec 201 22 = some (.istore_n 2, 1, []) := rfl
theorem d201_23 : dec 201 23 = some (.iload_n 2, 1, []) := rfl
theorem d201_24 : dec 201 24 = some (.iconst 4, 1, [4]) := rfl
theorem d201_25 : dec 201 25 = some (.if_icmp .ge 16, 3, [41]) := rfl
theorem d201_28 : dec 201 28 = some (.aload_n 0, 1, []) := rfl
theorem d201_29 : dec 201 29 = some (.getfield 59, 3, [1, 10, 20, 2, 0, 1014]) := rfl
theorem d201_32 : dec 201 32 = some (.iload_n 2, 1, []) := rfl
theorem d201_33 : dec 201 33 = some (.lconst 0, 1, [0]) := rfl
theorem d201_34 : dec 201 34 = some (.lastore, 1, []) := rfl
theorem d201_35 : dec 201 35 = some (.iinc 2 1, 3, [1]) := rfl
theorem d201_38 : dec 201 38 = some (.goto (-15), 3, [23]) := rfl
theorem d201_41 : dec 201 41 = some (.aload_n 0, 1, []) := rfl
theorem d201_42 : dec 201 42 = some (.lconst 0, 1, [0]) := rfl
theorem d201_43 : dec 201 43 = some (.putfield 187, 3, [1, 10, 21, 1, 0, 1015]) := rfl
theorem d201_46 : dec 201 46 = some (.aload_n 0, 1, []) := rfl
theorem d201_47 : dec 201 47 = some (.iconst 0, 1, [0]) := rfl
theorem d201_48 : dec 201 48 = some (.putfield 180, 3, [1, 10, 18, 0, 0, 1012]) := rfl
theorem d201_51 : dec 201 51 = some (.aload_n 0, 1, []) := rfl
theorem d201_52 : dec 201 52 = some (.iload_n 1, 1, []) := rfl
theorem d201_53 : dec 201 53 = some (.ldc2_w 198, 3, [9, 1000000000, 1274]) := rfl
theorem d201_56 : dec 201 56 = some (.iconst 0, 1, [0]) := rfl
theorem d201_57 : dec 201 57 = some (.aload_n 0, 1, []) := rfl
theorem d201_58 : dec 201 58 = some (.invokevirtual 124, 3, [2, 174, 2, 10, 0, 1159]) := rfl
theorem d201_61 : dec 201 61 = some (.iconst 0, 1, [0]) := rfl
theorem d201_62 : dec 201 62 = some (.iconst 0, 1, [0]) := rfl
theorem d201_63 : dec 201 63 = some (.iconst (-1), 1, [4294967295]) := rfl
theorem d201_64 : dec 201 64 = some (.iconst 0, 1, [0]) := rfl
theorem d201_65 : dec 201 65 = some (.invokevirtual 194, 3, [2, 202, 2, 10, 0, 1275, 0, 0, 0, 0, 0, 0, 1, 0]) := rfl
theorem d201_68 : dec 201 68 = some (.aload_n 0, 1, []) := rfl
theorem d201_69 : dec 201 69 = some (.getfield 180, 3, [1, 10, 18, 0, 0, 1012]) := rfl
theorem d201_72 : dec 201 72 = some (.ifCond .le 35, 3, [107]) := rfl
theorem d201_75 : dec 201 75 = some (.aload_n 0, 1, []) := rfl
theorem d201_76 : dec 201 76 = some (.invokevirtual 200, 3, [2, 204, 2, 10, 0, 1283]) := rfl
theorem d201_79 : dec 201 79 = some (.istore_n 2, 1, []) := rfl
theorem d201_80 : dec 201 80 = some (.iload_n 2, 1, []) := rfl
theorem d201_81 : dec 201 81 = some (.iconst (-1), 1, [4294967295]) := rfl
theorem d201_82 : dec 201 82 = some (.if_icmp .ne 16, 3, [98]) := rfl
theorem d201_85 : dec 201 85 = some (.aload_n 0, 1, []) := rfl
theorem d201_86 : dec 201 86 = some (.dup, 1, []) := rfl
theorem d201_87 : dec 201 87 = some (.getfield 180, 3, [1, 10, 18, 0, 0, 1012]) := rfl
theorem d201_90 : dec 201 90 = some (.iconst 1, 1, [1]) := rfl
theorem d201_91 : dec 201 91 = some (.isub, 1, []) := rfl
theorem d201_92 : dec 201 92 = some (.putfield 180, 3, [1, 10, 18, 0, 0, 1012]) := rfl
theorem d201_95 : dec 201 95 = some (.goto 9, 3, [104]) := rfl
theorem d201_98 : dec 201 98 = some (.aload_n 0, 1, []) := rfl
theorem d201_99 : dec 201 99 = some (.iload_n 1, 1, []) := rfl
theorem d201_100 : dec 201 100 = some (.iload_n 2, 1, []) := rfl
theorem d201_101 : dec 201 101 = some (.invokevirtual 203, 3, [2, 205, 2, 10, 0, 1287, 0, 0]) := rfl
theorem d201_104 : dec 201 104 = some (.goto (-36), 3, [68]) := rfl
theorem d201_107 : dec 201 107 = some (.return_, 1, []) := rfl
theorem l201 : mL 201 = 3 := rfl
theorem run201 {d : Nat} {P : MP} {C : MC} {top : Nat} {g : GS} (hM : MB P) (hv : TV g) (hl : LV g) (hd : 12 ≤ d) (ht0 : top < 3) : ∀ r f m e t p k (c : Nat → Nat → Bool) (I : MI) (L : ML) (sp gr : SP) (xs ys its : Int32) (fd mn w0 w1 s : Nat), k + 1 + r = g top → t < 3 → 3 ≤ t + (f + 1) → f + 1 ≤ 3 → p + (f + 1) + 3 * r ≤ 6 → e + m = g (3 + t) → NR I g → I 150 18 = nI (p + 1) → FrS I L p t e (aset g c) (sm (g (3 + t)) (wS g c t)) s k xs ys its fd mn → 0 < sm (g (3 + t)) (wS g c t) → CI2 (wS g c) g → MSp g xs sp → MGr ys gr → ItR its k w0 w1 → mn = mnV k w0 w1 → w0 ≤ 16 → w1 ≤ 16 → fd ≤ 4 → s ≤ 1000000000 → ∃ I' L', I' 150 18 = nI p ∧ (∀ kk j, pf p kk j → I' kk j = I kk j) ∧ (∀ kk j, kk ≠ 159 ∨ j < p → L' kk j = L kk j + dM (TM (sE (hE g (wS g c) (KF g top r k w0 w1) (hV g (wS g c) (KF g top r k w0 w1) f) t sp gr fd s) e m)) kk j) ∧ RT d top P C I L I' L' := by
  have hM' := hM
  obtain ⟨⟨k0, _⟩, ⟨a7, a8, a9, a10, a11, a12, a13, a14, a15, a16, a17⟩, ⟨b7, b8, b9, b10, b11, b12, b13, b14, b15, b16, b17⟩, _⟩ := hM'
  have hdr := hv.1 top ht0
  intro r
  induction r using Nat.strongRecOn with
  | ind r ihr =>
  intro f
  induction f using Nat.strongRecOn with
  | ind f ihf =>
  intro m
  induction m using Nat.strongRecOn with
  | ind m ihm =>
  intro e t p k c I L sp gr xs ys its fd mn w0 w1 s hk ht h3 hf3 hpf hem hn hp hF hpos hci hx hy hit hmn h0 h1 hfd hs
  have hcc := hv.2.1 t ht
  have hsmb := smS_b (c := c) hv hl ht (Nat.le_refl _)
  have hmn2 := mnV_b (k := k) (w0 := w0) (w1 := w1)
  have hF' := hF
  obtain ⟨f1, f2, f3, f4, f5, f6, f7, f8, f9, f10, f11⟩ := hF'
  have hnx := nx_b (c := c t) m e
  have hc204 := fun Q => c204 (d := d) (L := L) (C := C) (Q := Q) (m := m) hM hn hv hp f1 f2 f3 rfl hem (by omega) ht (by omega)
  have hW0 : ∀ i, c t i = false → hE g (wS g c) (KF g top r k w0 w1) (hV g (wS g c) (KF g top r k w0 w1) f) t sp gr fd s i = cv0 := fun i hi => by
    have : wS g c t i = 0 := by unfold wS; rw [hi]; rfl
    exact if_pos this
  have hsk := sE_nx (f := hE g (wS g c) (KF g top r k w0 w1) (hV g (wS g c) (KF g top r k w0 w1) f) t sp gr fd s) (c := c t) hW0 m e
  rw [hsk]
  clear hsk
  generalize nx (c t) m e = j at hnx hc204 ⊢
  obtain ⟨nx1, nx2, nx3, nx4⟩ := hnx
  obtain ⟨I1, hI1⟩ : ∃ I1, I1 = xu I 156 p (nI (j + 1)) := ⟨_, rfl⟩
  rw [← hI1] at hc204
  have hI1n : ∀ kk j', kk ≠ 156 ∨ j' ≠ p → I1 kk j' = I kk j' := fun kk j' h => by rw [hI1, xu_n _ _ (by omega)]
  have hn1 : NR I1 g := NR_fr hn fun j' => hI1n _ _ (by omega)
  have hp1 : I1 150 18 = nI (p + 1) := by rw [hI1n _ _ (by omega)]; exact hp
  have hF1 : FrS I1 L p t (j + 1) (aset g c) (sm (g (3 + t)) (wS g c t)) s k xs ys its fd mn := ⟨by rw [hI1n _ _ (by omega)]; exact f1, by rw [hI1, xu_s], by rw [hI1n _ _ (by omega)]; exact f3, by rw [hI1n _ _ (by omega)]; exact f4, f5, by rw [hI1n _ _ (by omega)]; exact f6, by rw [hI1n _ _ (by omega)]; exact f7, by rw [hI1n _ _ (by omega)]; exact f8, by rw [hI1n _ _ (by omega)]; exact f9, by rw [hI1n _ _ (by omega)]; exact f10, by rw [hI1n _ _ (by omega)]; exact f11⟩
  by_cases hjc : j < g (3 + t)
  · have hct : c t j = true := nx3 (by omega)
    have hWj : wS g c t j = pw g t j := if_pos hct
    have hpw := pw_b hv hl ht hjc
    obtain ⟨E0, E1, E2, E3, E4, E5, E6, E7⟩ := hv.2.2 t j ht hjc
    obtain ⟨m', hm'⟩ : ∃ m', e + m - j = m' + 1 := ⟨e + m - j - 1, by omega⟩
    rw [hm', sE_s, TM_A]
    have hbody : ∀ u Q, X d 201 68 [.ref 150, .int (nI top), u] [] P I L C Q = CT d 205 [.ref 150, .int (nI top), .int (nI j)] P I1 L C (bk d 201 101 [.ref 150, .int (nI top), .int (nI j)] [] Q) := fun u Q => by
      rw [X_go, d201_68]
      simp (disch := first | assumption | omega) only [Nat.reduceAdd, X_go, go2_some, stp, ldI, ldA, ldL, stI, stA, stL, o1I, o2I, o2L, brI, brII, gl, s1, s2, k1, sl, go_sN, go_sR, go_CT, go_sT, go_no, go_if, pops, bk_v, bk_0, d201_0, d201_1, d201_2, d201_3, d201_5, d201_8, d201_9, d201_12, d201_13, d201_14, d201_15, d201_18, d201_21, d201_22, d201_23, d201_24, d201_25, d201_28, d201_29, d201_32, d201_33, d201_34, d201_35, d201_38, d201_41, d201_42, d201_43, d201_46, d201_47, d201_48, d201_51, d201_52, d201_53, d201_56, d201_57, d201_58, d201_61, d201_62, d201_63, d201_64, d201_65, d201_69, d201_72, d201_75, d201_76, d201_79, d201_80, d201_81, d201_82, d201_85, d201_86, d201_87, d201_90, d201_91, d201_92, d201_95, d201_98, d201_99, d201_100, d201_101, d201_104, d201_107, n_lt, n_le, n_eq, n_lt0, n_ge0, n_gt0, n_le0, n_eq0, m_lt, m_le, m_gt, m_ge, m_eq, m_eq', m_lt0, m_ge0, m_gt0, m_le0, m_ltm, m_lem, n_in, m_in, n_cl, n_ti, n_div, n_rem', n_dec, n_l, nI_add, pk_mul, an0, an1, decide_eq_true_eq, if_true, if_false, ite_true, ite_false, and_true, true_and, and_false, false_and, not_true, not_false_iff, or_false, false_or, or_true, true_or, eq_self, va_some, Bool.false_eq_true, reduceIte, catS_n, catS_i, catS_r, catS_l, catS_d, Nat.zero_add, Nat.add_zero, decide_true, decide_false, Nat.reduceLeDiff, cat_r, cat_i, cat_l, nle_T, nle_F, nlt_T, nlt_F, neq_T, neq_F, k0, hp, hc204, hjc]
      done
    have hback : ∀ (I2 : MI) (L2 : ML) Q, bk d 201 101 [.ref 150, .int (nI top), .int (nI j)] [] Q (.inl none) P I2 L2 C = X d 201 68 [.ref 150, .int (nI top), .int (nI j)] [] P I2 L2 C Q := fun I2 L2 Q => by
      simp (disch := first | assumption | omega) only [Nat.reduceAdd, X_go, go2_some, stp, ldI, ldA, ldL, stI, stA, stL, o1I, o2I, o2L, brI, brII, gl, s1, s2, k1, sl, go_sN, go_sR, go_CT, go_sT, go_no, go_if, pops, bk_v, bk_0, d201_0, d201_1, d201_2, d201_3, d201_5, d201_8, d201_9, d201_12, d201_13, d201_14, d201_15, d201_18, d201_21, d201_22, d201_23, d201_24, d201_25, d201_28, d201_29, d201_32, d201_33, d201_34, d201_35, d201_38, d201_41, d201_42, d201_43, d201_46, d201_47, d201_48, d201_51, d201_52, d201_53, d201_56, d201_57, d201_58, d201_61, d201_62, d201_63, d201_64, d201_65, d201_69, d201_72, d201_75, d201_76, d201_79, d201_80, d201_81, d201_82, d201_85, d201_86, d201_87, d201_90, d201_91, d201_92, d201_95, d201_98, d201_99, d201_100, d201_101, d201_104, d201_107, n_lt, n_le, n_eq, n_lt0, n_ge0, n_gt0, n_le0, n_eq0, m_lt, m_le, m_gt, m_ge, m_eq, m_eq', m_lt0, m_ge0, m_gt0, m_le0, m_ltm, m_lem, n_in, m_in, n_cl, n_ti, n_div, n_rem', n_dec, n_l, nI_add, pk_mul, an0, an1, decide_eq_true_eq, if_true, if_false, ite_true, ite_false, and_true, true_and, and_false, false_and, not_true, not_false_iff, or_false, false_or, or_true, true_or, eq_self, va_some, Bool.false_eq_true, reduceIte, catS_n, catS_i, catS_r, catS_l, catS_d, Nat.zero_add, Nat.add_zero, decide_true, decide_false, Nat.reduceLeDiff, cat_r, cat_i, cat_l, nle_T, nle_F, nlt_T, nlt_F, neq_T, neq_F]
      done
    have hRT : ∀ (I2 : MI) (L2 : ML), (∀ Q, CT d 205 [.ref 150, .int (nI top), .int (nI j)] P I1 L C Q = Q (.inl none) P I2 L2 C) → RT d top P C I L I2 L2 := fun I2 L2 h u => ⟨.int (nI j), fun Q => by rw [hbody, h, hback]⟩
    have hpartle : s * pw g t j / sm (g (3 + t)) (wS g c t) ≤ 1000000000 := by
      have q1 : pw g t j ≤ sm (g (3 + t)) (wS g c t) := by rw [← hWj]; exact sm_split hjc
      have : s * pw g t j ≤ s * sm (g (3 + t)) (wS g c t) := Nat.mul_le_mul_left _ q1
      exact Nat.le_trans (Nat.div_le_of_le_mul (by rw [Nat.mul_comm _ s]; exact this)) hs
    have claim : ∃ I2 L2, I2 150 18 = nI (p + 1) ∧ (∀ kk j', pf (p + 1) kk j' → I2 kk j' = I1 kk j') ∧ (∀ kk j', kk ≠ 159 ∨ j' < p + 1 → L2 kk j' = L kk j' + dM (TM (hE g (wS g c) (KF g top r k w0 w1) (hV g (wS g c) (KF g top r k w0 w1) f) t sp gr fd s j)) kk j') ∧ RT d top P C I L I2 L2 := by
      have hEj : hE g (wS g c) (KF g top r k w0 w1) (hV g (wS g c) (KF g top r k w0 w1) f) t sp gr fd s j = if g (cl t j 0) < 16 then KF g top r k w0 w1 (spW g sp t j) (grW gr t (g (cl t j 3))) (max fd (g (cl t j 2) + 1)) (g (cl t j 0) + 1) (s * pw g t j / sm (g (3 + t)) (wS g c t)) else hV g (wS g c) (KF g top r k w0 w1) f (g (cl t j 0) - 16) (spW g sp t j) (grW gr t (g (cl t j 3))) fd (s * pw g t j / sm (g (3 + t)) (wS g c t)) := by
        unfold hE
        rw [if_neg (by omega), hWj]
      rw [hEj]
      by_cases hz : s * pw g t j / sm (g (3 + t)) (wS g c t) = 0
      · have e0 : (if g (cl t j 0) < 16 then KF g top r k w0 w1 (spW g sp t j) (grW gr t (g (cl t j 3))) (max fd (g (cl t j 2) + 1)) (g (cl t j 0) + 1) (s * pw g t j / sm (g (3 + t)) (wS g c t)) else hV g (wS g c) (KF g top r k w0 w1) f (g (cl t j 0) - 16) (spW g sp t j) (grW gr t (g (cl t j 3))) fd (s * pw g t j / sm (g (3 + t)) (wS g c t))) = cv0 := by
          have hK0 : ∀ sp gr fd w, KF g top r k w0 w1 sp gr fd w 0 = cv0 := fun _ _ _ _ => goV_0 _ _ _ _ _ _ _
          rw [hz, hK0, hV_0 hK0, ite_self]
        rw [e0, TM_0]
        refine ⟨I1, L, hp1, fun _ _ _ => rfl, fun kk j' _ => by rw [dM_0, Int64.add_zero], hRT I1 L fun Q => ?_⟩
        exact c205z (x := 0) hM hn1 hv hl hp1 hF1 (by omega) (by omega) ht hjc hs hpos hsmb hz
      · have hxs := MSp_w hx hv ht hjc
        have hys := MGr_w (t := t) (k := g (cl t j 3)) hy ht E5
        by_cases h16 : g (cl t j 0) < 16
        · rw [if_pos h16]
          have hr3 := E1 h16
          have hk1 : k ≤ 1 := by omega
          rcases c202 (d := d - 1) (I := I1) (L := L) (C := C) (top := top) (p := p + 1) (s := s * pw g t j / sm (g (3 + t)) (wS g c t)) (fd := max fd (g (cl t j 2) + 1)) (mn := mn + 1) (r := r) (k := k + 1) (x := xsW g xs t j) (y := ysW g ys t j) hM hn1 hv hl hxs hys hp1 (by omega) (by omega) ht0 (by omega) (by omega) (ItR_s hit hk1 h16) (by rw [mnV_s hk1, hmn]) (by split <;> omega) (by split <;> omega) with ⟨L', q1, q2⟩ | ⟨k', r', w0', w1', I3, L3, ⟨z1, z2, z3⟩, z4, ⟨z5, z6, z7, z8⟩, z9, z10, z11, z12, z13, z14⟩
          · refine ⟨I1, L', hp1, fun _ _ _ => rfl, fun kk j' _ => q1 kk j', hRT I1 L' fun Q => ?_⟩
            exact c205i hM hn1 hv hl hp1 hF1 (by omega) (by omega) ht hjc hs hpos hsmb hz h16 hfd (by omega) (by omega) (fun Q => q2 Q)
          · have hn3 : NR I3 g := NR_fr hn1 fun j' => z12 _ _ (pf_n (by omega))
            obtain ⟨I2, L2, b1, b2, b3, b4⟩ := ihr r' z3 2 (g (3 + top)) 0 top (p + 1) k' (cS g top (max fd (g (cl t j 2) + 1)) (spW g sp t j) (grW gr t (g (cl t j 3)))) I3 L3 (spW g sp t j) (grW gr t (g (cl t j 3))) (xsW g xs t j) (ysW g ys t j) _ (max fd (g (cl t j 2) + 1)) (mn + 1) w0' w1' (s * pw g t j / sm (g (3 + t)) (wS g c t)) (by omega) ht0 (by omega) (by omega) (by omega) (by omega) hn3 z11 z10 z9 (CI2_wt hv hl) hxs hys z5 z6 z7 z8 (by omega) hpartle
            refine ⟨I2, L2, b1, fun kk j' h => by rw [b2 kk j' h, z12 kk j' h], fun kk j' h => ?_, RT_t (hRT I3 L3 fun Q => ?_) b4⟩
            · rw [b3 kk j' h, z13 kk j' h]
              have e4 : KF g top r k w0 w1 (spW g sp t j) (grW gr t (g (cl t j 3))) (max fd (g (cl t j 2) + 1)) (g (cl t j 0) + 1) (s * pw g t j / sm (g (3 + t)) (wS g c t)) = _ := z4
              rw [e4]
              rfl
            · exact c205i hM hn1 hv hl hp1 hF1 (by omega) (by omega) ht hjc hs hpos hsmb hz h16 hfd (by omega) (by omega) (fun Q => z14 Q)
        · rw [if_neg h16]
          have hE2 := E2 (by omega)
          have hlt : g (cl t j 0) - 16 < 3 := by omega
          obtain ⟨f', hf'⟩ : ∃ f', f = f' + 1 := ⟨f - 1, by omega⟩
          have hp2 := (hci t ht j hjc).2 (by omega) (by omega)
          obtain ⟨o1, o2, o3, o4⟩ := push_ok (I := I1) (L := L) (p := p + 1) (t := g (cl t j 0) - 16) (sm := sm (g (3 + (g (cl t j 0) - 16))) (wS g c (g (cl t j 0) - 16))) (s := s * pw g t j / sm (g (3 + t)) (wS g c t)) (k := k) (fd := fd) (mn := mn) (x := aset g c) (xs := xsW g xs t j) (ys := ysW g ys t j) (its := its)
          have h205 := fun Q => c205l (d := d) (P := P) (C := C) (Q := Q) (top := top) hM hn1 hv hl hp1 hF1 (by omega) (by omega) ht hjc hs hpos hsmb hz (by omega) (by omega) (by omega)
          generalize pu6 (pu5 I1 (p + 1) (xsW g xs t j) (ysW g ys t j) its fd mn) (p + 1) (g (cl t j 0) - 16) (sm (g (3 + (g (cl t j 0) - 16))) (wS g c (g (cl t j 0) - 16))) k (aset g c) = I3 at o1 o2 o3 h205
          generalize xu L 159 (p + 1) (lN (s * pw g t j / sm (g (3 + t)) (wS g c t))) = L3 at o1 o4 h205
          have hn3 : NR I3 g := NR_fr hn1 fun j' => o3 _ _ (pf_n (by omega))
          obtain ⟨I2, L2, b1, b2, b3, b4⟩ := ihf f' (by omega) (g (3 + (g (cl t j 0) - 16))) 0 (g (cl t j 0) - 16) (p + 1) k c I3 L3 (spW g sp t j) (grW gr t (g (cl t j 3))) (xsW g xs t j) (ysW g ys t j) its fd mn w0 w1 (s * pw g t j / sm (g (3 + t)) (wS g c t)) hk hlt (by omega) (by omega) (by omega) (by omega) hn3 o2 o1 hp2 hci hxs hys hit hmn h0 h1 hfd hpartle
          refine ⟨I2, L2, b1, fun kk j' h => by rw [b2 kk j' h, o3 kk j' h], fun kk j' h => ?_, RT_t (hRT I3 L3 h205) b4⟩
          rw [b3 kk j' h, o4 kk j' h, hf']
          rfl
    obtain ⟨I2, L2, b1, b2, b3, b4⟩ := claim
    have hn2 : NR I2 g := NR_fr hn1 fun j' => b2 _ _ (pf_n (by omega))
    have hL2p : L2 159 p = L 159 p := by rw [b3 _ _ (by omega), dM_o (by omega) (by omega) (by omega), Int64.add_zero]
    obtain ⟨I', L', d1, d2, d3, d4⟩ := ihm m' (by omega) (j + 1) t p k c I2 L2 sp gr xs ys its fd mn w0 w1 s hk ht h3 hf3 hpf (by omega) hn2 b1 (FrS_fr hF1 (Nat.lt_succ_self p) b2 hL2p) hpos hci hx hy hit hmn h0 h1 hfd hs
    refine ⟨I', L', d1, fun kk j' h => by rw [d2 kk j' h, b2 kk j' (pf_le h (by omega)), hI1n _ _ (by unfold pf at h; omega)], fun kk j' h => ?_, RT_t b4 d4⟩
    rw [d3 kk j' h, b3 kk j' (by omega), dM_A, Int64.add_assoc]
  · have hje : e + m - j = 0 := by omega
    rw [hje]
    have e0 : sE (hE g (wS g c) (KF g top r k w0 w1) (hV g (wS g c) (KF g top r k w0 w1) f) t sp gr fd s) j 0 = cv0 := rfl
    rw [e0, TM_0]
    refine ⟨xu I1 150 18 (nI p), L, xu_s _ _ _ _, fun kk j' h => ?_, fun kk j' _ => by rw [dM_0, Int64.add_zero], fun u => ⟨.int (nI 4294967295), fun Q => ?_⟩⟩
    · unfold pf at h
      rw [xu_n _ _ (by omega), hI1n _ _ (by omega)]
    · rw [X_go, d201_68]
      simp (disch := first | assumption | omega) only [Nat.reduceAdd, X_go, go2_some, stp, ldI, ldA, ldL, stI, stA, stL, o1I, o2I, o2L, brI, brII, gl, s1, s2, k1, sl, go_sN, go_sR, go_CT, go_sT, go_no, go_if, pops, bk_v, bk_0, d201_0, d201_1, d201_2, d201_3, d201_5, d201_8, d201_9, d201_12, d201_13, d201_14, d201_15, d201_18, d201_21, d201_22, d201_23, d201_24, d201_25, d201_28, d201_29, d201_32, d201_33, d201_34, d201_35, d201_38, d201_41, d201_42, d201_43, d201_46, d201_47, d201_48, d201_51, d201_52, d201_53, d201_56, d201_57, d201_58, d201_61, d201_62, d201_63, d201_64, d201_65, d201_69, d201_72, d201_75, d201_76, d201_79, d201_80, d201_81, d201_82, d201_85, d201_86, d201_87, d201_90, d201_91, d201_92, d201_95, d201_98, d201_99, d201_100, d201_101, d201_104, d201_107, n_lt, n_le, n_eq, n_lt0, n_ge0, n_gt0, n_le0, n_eq0, m_lt, m_le, m_gt, m_ge, m_eq, m_eq', m_lt0, m_ge0, m_gt0, m_le0, m_ltm, m_lem, n_in, m_in, n_cl, n_ti, n_div, n_rem', n_dec, n_l, nI_add, pk_mul, an0, an1, decide_eq_true_eq, if_true, if_false, ite_true, ite_false, and_true, true_and, and_false, false_and, not_true, not_false_iff, or_false, false_or, or_true, true_or, eq_self, va_some, Bool.false_eq_true, reduceIte, catS_n, catS_i, catS_r, catS_l, catS_d, Nat.zero_add, Nat.add_zero, decide_true, decide_false, Nat.reduceLeDiff, cat_r, cat_i, cat_l, nle_T, nle_F, nlt_T, nlt_F, neq_T, neq_F, n_sub, Nat.add_sub_cancel, k0, hp, hp1, hc204, hjc]
      done
