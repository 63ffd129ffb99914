/-! TEXT: numbers, table, what -/
def nuP (tx : Nat → Nat) (len : Nat) : Nat → Nat → Nat
  | 0, p => p
  | k + 1, p => if isD tx len p 0 9 = true then nuP tx len k (p + 1) else p
def nuV (tx : Nat → Nat) (len : Nat) : Nat → Nat → Nat → Nat
  | 0, _, v => v
  | k + 1, p, v => if isD tx len p 0 9 = true then nuV tx len k (p + 1) (10 * v + (tx p - 48)) else v
theorem isD_b {tx : Nat → Nat} {len p lo hi : Nat} (h : isD tx len p lo hi = true) : p < len ∧ 48 + lo ≤ tx p ∧ tx p ≤ 48 + hi := by
  unfold isD at h
  have q1 := (Bool.and_eq_true _ _).mp h
  have q2 := (Bool.and_eq_true _ _).mp q1.2
  exact ⟨of_decide_eq_true q1.1, of_decide_eq_true q2.1, of_decide_eq_true q2.2⟩
theorem ch_b {tx : Nat → Nat} {len p c : Nat} (h : ch tx len p c = true) : p < len ∧ tx p = c := by
  unfold ch at h
  have q1 := (Bool.and_eq_true _ _).mp h
  exact ⟨of_decide_eq_true q1.1, of_decide_eq_true q1.2⟩
theorem nuP_b {tx : Nat → Nat} {len : Nat} : ∀ k p, p ≤ nuP tx len k p ∧ nuP tx len k p ≤ p + k ∧ (p ≤ len → nuP tx len k p ≤ len) := by
  intro k
  induction k with
  | zero => intro p; exact ⟨Nat.le_refl p, Nat.le_refl p, fun h => h⟩
  | succ k ih =>
    intro p
    unfold nuP
    split
    · rename_i h
      have hb := isD_b h
      have := ih (p + 1)
      omega
    · omega
theorem nuV_b {tx : Nat → Nat} {len : Nat} : ∀ k p v, nuV tx len k p v + 1 ≤ (v + 1) * 10 ^ k := by
  intro k
  induction k with
  | zero => intro p v; exact Nat.le_of_eq (Nat.mul_one _).symm
  | succ k ih =>
    intro p v
    unfold nuV
    split
    · rename_i h
      have hb := isD_b h
      have h1 := ih (p + 1) (10 * v + (tx p - 48))
      have h2 : (10 * v + (tx p - 48) + 1) * 10 ^ k ≤ (10 * (v + 1)) * 10 ^ k := Nat.mul_le_mul_right _ (by omega)
      have h3 : (v + 1) * 10 ^ (k + 1) = (10 * (v + 1)) * 10 ^ k := by rw [Nat.pow_succ, Nat.mul_comm (10 ^ k) 10, ← Nat.mul_assoc, Nat.mul_comm (v + 1) 10]
      omega
    · exact Nat.le_trans (Nat.le_of_eq (Nat.mul_one (v + 1)).symm) (Nat.mul_le_mul_left _ (Nat.pow_pos (by omega)))
theorem d48_0 : dec 48 0 = some (.aload_n 0, 1, []) := rfl
theorem d48_1 : dec 48 1 = some (.getfield 27, 3, [1, 8, 3, 0, 0, 187]) := rfl
theorem d48_4 : dec 48 4 = some (.iconst (-1), 1, [4294967295]) := rfl
theorem d48_5 : dec 48 5 = some (.if_icmp .eq 5, 3, [10]) := rfl
theorem d48_8 : dec 48 8 = some (.iload_n 2, 1, []) := rfl
theorem d48_9 : dec 48 9 = some (.ireturn, 1, [0]) := rfl
theorem d48_10 : dec 48 10 = some (.aload_n 0, 1, []) := rfl
theorem d48_11 : dec 48 11 = some (.getfield 24, 3, [1, 8, 2, 0, 0, 186]) := rfl
theorem d48_14 : dec 48 14 = some (.istore 4, 2, []) := rfl
theorem d48_16 : dec 48 16 = some (.iconst 0, 1, [0]) := rfl
theorem d48_17 : dec 48 17 = some (.istore 5, 2, []) := rfl
theorem d48_19 : dec 48 19 = some (.iconst 0, 1, [0]) := rfl
theorem d48_20 : dec 48 20 = some (.istore 6, 2, []) := rfl
theorem d48_22 : dec 48 22 = some (.iload 6, 2, []) := rfl
theorem d48_24 : dec 48 24 = some (.iload_n 1, 1, []) := rfl
theorem d48_25 : dec 48 25 = some (.if_icmp .ge 44, 3, [69]) := rfl
theorem d48_28 : dec 48 28 = some (.aload_n 0, 1, []) := rfl
theorem d48_29 : dec 48 29 = some (.invokevirtual 34, 3, [2, 40, 2, 8, 0, 422]) := rfl
theorem d48_32 : dec 48 32 = some (.invokestatic 90, 3, [2, 49, 0, 8, 0, 458, 0]) := rfl
theorem d48_35 : dec 48 35 = some (.ifCond .eq 34, 3, [69]) := rfl
theorem d48_38 : dec 48 38 = some (.iload 5, 2, []) := rfl
theorem d48_40 : dec 48 40 = some (.bipush 10, 2, [10]) := rfl
theorem d48_42 : dec 48 42 = some (.imul, 1, []) := rfl
theorem d48_43 : dec 48 43 = some (.aload_n 0, 1, []) := rfl
theorem d48_44 : dec 48 44 = some (.invokevirtual 34, 3, [2, 40, 2, 8, 0, 422]) := rfl
theorem d48_47 : dec 48 47 = some (.iadd, 1, []) := rfl
theorem d48_48 : dec 48 48 = some (.bipush 48, 2, [48]) := rfl
theorem d48_50 : dec 48 50 = some (.isub, 1, []) := rfl
theorem d48_51 : dec 48 51 = some (.istore 5, 2, []) := rfl
theorem d48_53 : dec 48 53 = some (.aload_n 0, 1, []) := rfl
theorem d48_54 : dec 48 54 = some (.dup, 1, []) := rfl
theorem d48_55 : dec 48 55 = some (.getfield 24, 3, [1, 8, 2, 0, 0, 186]) := rfl
theorem d48_58 : dec 48 58 = some (.iconst 1, 1, [1]) := rfl
theorem d48_59 : dec 48 59 = some (.iadd, 1, []) := rfl
theorem d48_60 : dec 48 60 = some (.putfield 24, 3, [1, 8, 2, 0, 0, 186]) := rfl
theorem d48_63 : dec 48 63 = some (.iinc 6 1, 3, [1]) := rfl
theorem d48_66 : dec 48 66 = some (.goto (-44), 3, [22]) := rfl
theorem d48_69 : dec 48 69 = some (.aload_n 0, 1, []) := rfl
theorem d48_70 : dec 48 70 = some (.getfield 24, 3, [1, 8, 2, 0, 0, 186]) := rfl
theorem d48_73 : dec 48 73 = some (.iload 4, 2, []) := rfl
theorem d48_75 : dec 48 75 = some (.if_icmp .eq 13, 3, [88]) := rfl
theorem d48_78 : dec 48 78 = some (.aload_n 0, 1, []) := rfl
theorem d48_79 : dec 48 79 = some (.invokevirtual 34, 3, [2, 40, 2, 8, 0, 422]) := rfl
theorem d48_82 : dec 48 82 = some (.invokestatic 90, 3, [2, 49, 0, 8, 0, 458, 0]) := rfl
theorem d48_85 : dec 48 85 = some (.ifCond .eq 14, 3, [99]) := rfl
theorem d48_88 : dec 48 88 = some (.aload_n 0, 1, []) := rfl
theorem d48_89 : dec 48 89 = some (.aload_n 0, 1, []) := rfl
theorem d48_90 : dec 48 90 = some (.getfield 24, 3, [1, 8, 2, 0, 0, 186]) := rfl
theorem d48_93 : dec 48 93 = some (.putfield 27, 3, [1, 8, 3, 0, 0, 187]) := rfl
theorem d48_96 : dec 48 96 = some (.goto 21, 3, [117]) := rfl
theorem d48_99 : dec 48 99 = some (.iload 5, 2, []) := rfl
theorem d48_101 : dec 48 101 = some (.iload_n 2, 1, []) := rfl
theorem d48_102 : dec 48 102 = some (.if_icmp .lt 9, 3, [111]) := rfl
theorem d48_105 : dec 48 105 = some (.iload 5, 2, []) := rfl
theorem d48_107 : dec 48 107 = some (.iload_n 3, 1, []) := rfl
theorem d48_108 : dec 48 108 = some (.if_icmp .le 9, 3, [117]) := rfl
theorem d48_111 : dec 48 111 = some (.aload_n 0, 1, []) := rfl
theorem d48_112 : dec 48 112 = some (.iload 4, 2, []) := rfl
theorem d48_114 : dec 48 114 = some (.putfield 27, 3, [1, 8, 3, 0, 0, 187]) := rfl
theorem d48_117 : dec 48 117 = some (.iload 5, 2, []) := rfl
theorem d48_119 : dec 48 119 = some (.ireturn, 1, [0]) := rfl
theorem l48 : mL 48 = 7 := rfl
theorem f48 {d : Nat} {P : MP} {I : MI} {L : ML} {C : MC} {Q : QT} {len k p0 : Nat} {lo hi : Int32} {tx : Nat → Nat} (hX : XB P) (ht : TX I len tx) (hd : 2 ≤ d) (hk : k ≤ 4) : ∀ m i p v, i + m = k → p < 900 + i → ∃ j, X d 48 22 [.ref 112, .int (nI k), .int lo, .int hi, .int (nI p0), .int (nI v), .int (nI i)] [] P (tS I p (nI 4294967295)) L C Q = X d 48 69 [.ref 112, .int (nI k), .int lo, .int hi, .int (nI p0), .int (nI (nuV tx len m p v)), j] [] P (tS I (nuP tx len m p) (nI 4294967295)) L C Q := by
  have x0 := hX.2.2.2.2.2.1.1
  intro m
  induction m with
  | zero =>
    intro i p v hi hp
    have : i = k := by omega
    subst this
    refine ⟨.int (nI i), ?_⟩
    have e1 : nuV tx len 0 p v = v := rfl
    have e2 : nuP tx len 0 p = p := rfl
    rw [e1, e2, X_go, d48_22]
    simp (disch := first | assumption | omega) only [Nat.reduceAdd, X_go, go2_some, stp, ldI, ldA, ldL, stI, stA, stL, o1I, o2I, o2L, brI, brII, gl, s1, s2, k1, sl, go_sN, go_sR, go_CT, go_sT, go_no, go_if, pops, bk_v, bk_0, d48_0, d48_1, d48_4, d48_5, d48_8, d48_9, d48_10, d48_11, d48_14, d48_16, d48_17, d48_19, d48_20, d48_24, d48_25, d48_28, d48_29, d48_32, d48_35, d48_38, d48_40, d48_42, d48_43, d48_44, d48_47, d48_48, d48_50, d48_51, d48_53, d48_54, d48_55, d48_58, d48_59, d48_60, d48_63, d48_66, d48_70, d48_73, d48_75, d48_78, d48_79, d48_82, d48_85, d48_88, d48_89, d48_90, d48_93, d48_96, d48_99, d48_101, d48_102, d48_105, d48_107, d48_108, d48_111, d48_112, d48_114, d48_117, d48_119, n_lt, n_le, n_eq, n_lt0, n_ge0, n_gt0, n_le0, n_eq0, m_lt, m_le, m_gt, m_ge, m_eq, m_eq', m_lt0, m_ge0, m_gt0, m_le0, m_ltm, m_lem, n_in, m_in, n_cl, n_ti, n_div, n_rem', n_dec, n_l, nI_add, pk_mul, an0, an1, decide_eq_true_eq, if_true, if_false, ite_true, ite_false, and_true, true_and, and_false, false_and, not_true, not_false_iff, or_false, false_or, or_true, true_or, eq_self, va_some, Bool.false_eq_true, reduceIte, catS_n, catS_i, catS_r, catS_l, catS_d, Nat.zero_add, Nat.add_zero, decide_true, decide_false, Nat.reduceLeDiff, cat_r, cat_i, cat_l, nle_T, nle_F, nlt_T, nlt_F, neq_T, neq_F]
  | succ m ih =>
    intro i p v hi hp
    by_cases z : isD tx len p 0 9 = true
    · have hb := isD_b z
      obtain ⟨j, e⟩ := ih (i + 1) (p + 1) (10 * v + (tx p - 48)) (by omega) (by omega)
      refine ⟨j, ?_⟩
      have e1 : nuV tx len (m + 1) p v = nuV tx len m (p + 1) (10 * v + (tx p - 48)) := if_pos z
      have e2 : nuP tx len (m + 1) p = nuP tx len m (p + 1) := if_pos z
      have e3 : pk tx len p = nI (tx p) := if_pos hb.1
      have e4 : nI (v * 10 + tx p) - nI 48 = nI (10 * v + (tx p - 48)) := by
        rw [n_sub (by omega), show v * 10 + tx p - 48 = 10 * v + (tx p - 48) by omega]
      have e5 : ∀ Q, CT d 49 [.int (nI (tx p))] P (tS I p (nI 4294967295)) L C Q = Q (.inl (some (.int (nI 1)))) P (tS I p (nI 4294967295)) L C := fun Q => by
        have q := c49 (d := d) (P := P) (L := L) (C := C) (Q := Q) (p := p) (I := tS I p (nI 4294967295)) (tx := tx) (len := len) ⟨⟨by rw [tS_n (by omega)]; exact ht.1.1, fun i hi => by rw [tS_n (by omega)]; exact ht.1.2 i hi⟩, ht.2⟩ (by omega)
        rw [e3, if_pos z] at q
        exact q
      rw [e1, e2, ← e, X_go, d48_22]
      simp (disch := first | assumption | omega) only [Nat.reduceAdd, X_go, go2_some, stp, ldI, ldA, ldL, stI, stA, stL, o1I, o2I, o2L, brI, brII, gl, s1, s2, k1, sl, go_sN, go_sR, go_CT, go_sT, go_no, go_if, pops, bk_v, bk_0, d48_0, d48_1, d48_4, d48_5, d48_8, d48_9, d48_10, d48_11, d48_14, d48_16, d48_17, d48_19, d48_20, d48_24, d48_25, d48_28, d48_29, d48_32, d48_35, d48_38, d48_40, d48_42, d48_43, d48_44, d48_47, d48_48, d48_50, d48_51, d48_53, d48_54, d48_55, d48_58, d48_59, d48_60, d48_63, d48_66, d48_70, d48_73, d48_75, d48_78, d48_79, d48_82, d48_85, d48_88, d48_89, d48_90, d48_93, d48_96, d48_99, d48_101, d48_102, d48_105, d48_107, d48_108, d48_111, d48_112, d48_114, d48_117, d48_119, n_lt, n_le, n_eq, n_lt0, n_ge0, n_gt0, n_le0, n_eq0, m_lt, m_le, m_gt, m_ge, m_eq, m_eq', m_lt0, m_ge0, m_gt0, m_le0, m_ltm, m_lem, n_in, m_in, n_cl, n_ti, n_div, n_rem', n_dec, n_l, nI_add, pk_mul, an0, an1, decide_eq_true_eq, if_true, if_false, ite_true, ite_false, and_true, true_and, and_false, false_and, not_true, not_false_iff, or_false, false_or, or_true, true_or, eq_self, va_some, Bool.false_eq_true, reduceIte, catS_n, catS_i, catS_r, catS_l, catS_d, Nat.zero_add, Nat.add_zero, decide_true, decide_false, Nat.reduceLeDiff, cat_r, cat_i, cat_l, nle_T, nle_F, nlt_T, nlt_F, neq_T, neq_F, x0, c40 hX ht, e3, e4, e5, tS_2, tS_p]
      done
    · refine ⟨.int (nI i), ?_⟩
      have e1 : nuV tx len (m + 1) p v = v := if_neg z
      have e2 : nuP tx len (m + 1) p = p := if_neg z
      rw [e1, e2, X_go, d48_22]
      simp (disch := first | assumption | omega) only [Nat.reduceAdd, X_go, go2_some, stp, ldI, ldA, ldL, stI, stA, stL, o1I, o2I, o2L, brI, brII, gl, s1, s2, k1, sl, go_sN, go_sR, go_CT, go_sT, go_no, go_if, pops, bk_v, bk_0, d48_0, d48_1, d48_4, d48_5, d48_8, d48_9, d48_10, d48_11, d48_14, d48_16, d48_17, d48_19, d48_20, d48_24, d48_25, d48_28, d48_29, d48_32, d48_35, d48_38, d48_40, d48_42, d48_43, d48_44, d48_47, d48_48, d48_50, d48_51, d48_53, d48_54, d48_55, d48_58, d48_59, d48_60, d48_63, d48_66, d48_70, d48_73, d48_75, d48_78, d48_79, d48_82, d48_85, d48_88, d48_89, d48_90, d48_93, d48_96, d48_99, d48_101, d48_102, d48_105, d48_107, d48_108, d48_111, d48_112, d48_114, d48_117, d48_119, n_lt, n_le, n_eq, n_lt0, n_ge0, n_gt0, n_le0, n_eq0, m_lt, m_le, m_gt, m_ge, m_eq, m_eq', m_lt0, m_ge0, m_gt0, m_le0, m_ltm, m_lem, n_in, m_in, n_cl, n_ti, n_div, n_rem', n_dec, n_l, nI_add, pk_mul, an0, an1, decide_eq_true_eq, if_true, if_false, ite_true, ite_false, and_true, true_and, and_false, false_and, not_true, not_false_iff, or_false, false_or, or_true, true_or, eq_self, va_some, Bool.false_eq_true, reduceIte, catS_n, catS_i, catS_r, catS_l, catS_d, Nat.zero_add, Nat.add_zero, decide_true, decide_false, Nat.reduceLeDiff, cat_r, cat_i, cat_l, nle_T, nle_F, nlt_T, nlt_F, neq_T, neq_F, x0, c40 hX ht, c49 (I := tS I p (nI 4294967295)) (tx := tx) (len := len) ⟨⟨by rw [tS_n (by omega)]; exact ht.1.1, fun i hi => by rw [tS_n (by omega)]; exact ht.1.2 i hi⟩, ht.2⟩, z]
      done
theorem TX_t {I : MI} {len p : Nat} {f : Int32} {tx : Nat → Nat} (ht : TX I len tx) : TX (tS I p f) len tx := ⟨⟨by rw [tS_n (by omega)]; exact ht.1.1, fun i hi => by rw [tS_n (by omega)]; exact ht.1.2 i hi⟩, ht.2⟩
/-- the fault of a number, one more; 0 is none -/
def nuF (tx : Nat → Nat) (len k lo hi p : Nat) : Nat := if nuP tx len k p = p ∨ isD tx len (nuP tx len k p) 0 9 = true then nuP tx len k p + 1 else if nuV tx len k p 0 < lo ∨ hi < nuV tx len k p 0 then p + 1 else 0
theorem c48 {d : Nat} {P : MP} {I : MI} {L : ML} {C : MC} {Q : QT} {len k lo hi p : Nat} {tx : Nat → Nat} (hX : XB P) (ht : TX I len tx) (hd : 3 ≤ d) (hk : k ≤ 4) (hp : p < 900) (h1 : lo < 10000) (h2 : hi < 10000) : CT d 48 [.ref 112, .int (nI k), .int (nI lo), .int (nI hi)] P (tS I p (nI 4294967295)) L C Q = Q (.inl (some (.int (nI (nuV tx len k p 0))))) P (tS I (nuP tx len k p) (fI (nuF tx len k lo hi p))) L C := by
  have x0 := hX.2.2.2.2.2.1.1
  have hP := nuP_b (tx := tx) (len := len) k p
  have hV := nuV_b (tx := tx) (len := len) k p 0
  have hpw : 10 ^ k ≤ 10 ^ 4 := Nat.pow_le_pow_right (by omega) hk
  have hV2 : nuV tx len k p 0 < 10000 := by omega
  obtain ⟨j, e⟩ := f48 (d := d - 1) (L := L) (C := C) (Q := Q) (p0 := p) (lo := nI lo) (hi := nI hi) hX ht (by omega) hk k 0 p 0 (by omega) (by omega)
  rw [CT_e (mj := 48) (e := [.ref 112, .int (nI k), .int (nI lo), .int (nI hi), UN, UN, UN]) (by omega) rfl (Nat.le_of_ble_eq_true rfl)]
  simp (disch := first | assumption | omega) only [Nat.reduceAdd, X_go, go2_some, stp, ldI, ldA, ldL, stI, stA, stL, o1I, o2I, o2L, brI, brII, gl, s1, s2, k1, sl, go_sN, go_sR, go_CT, go_sT, go_no, go_if, pops, bk_v, bk_0, d48_0, d48_1, d48_4, d48_5, d48_8, d48_9, d48_10, d48_11, d48_14, d48_16, d48_17, d48_19, d48_20, d48_24, d48_25, d48_28, d48_29, d48_32, d48_35, d48_38, d48_40, d48_42, d48_43, d48_44, d48_47, d48_48, d48_50, d48_51, d48_53, d48_54, d48_55, d48_58, d48_59, d48_60, d48_63, d48_66, d48_70, d48_73, d48_75, d48_78, d48_79, d48_82, d48_85, d48_88, d48_89, d48_90, d48_93, d48_96, d48_99, d48_101, d48_102, d48_105, d48_107, d48_108, d48_111, d48_112, d48_114, d48_117, d48_119, n_lt, n_le, n_eq, n_lt0, n_ge0, n_gt0, n_le0, n_eq0, m_lt, m_le, m_gt, m_ge, m_eq, m_eq', m_lt0, m_ge0, m_gt0, m_le0, m_ltm, m_lem, n_in, m_in, n_cl, n_ti, n_div, n_rem', n_dec, n_l, nI_add, pk_mul, an0, an1, decide_eq_true_eq, if_true, if_false, ite_true, ite_false, and_true, true_and, and_false, false_and, not_true, not_false_iff, or_false, false_or, or_true, true_or, eq_self, va_some, Bool.false_eq_true, reduceIte, catS_n, catS_i, catS_r, catS_l, catS_d, Nat.zero_add, Nat.add_zero, decide_true, decide_false, Nat.reduceLeDiff, cat_r, cat_i, cat_l, nle_T, nle_F, nlt_T, nlt_F, neq_T, neq_F, x0, tS_2, tS_3]
  simp only [← X_go]
  rw [e, X_go, d48_69]
  unfold nuF
  by_cases z1 : nuP tx len k p = p
  · rw [if_pos (.inl z1), fI_s]
    simp (disch := first | assumption | omega) only [Nat.reduceAdd, X_go, go2_some, stp, ldI, ldA, ldL, stI, stA, stL, o1I, o2I, o2L, brI, brII, gl, s1, s2, k1, sl, go_sN, go_sR, go_CT, go_sT, go_no, go_if, pops, bk_v, bk_0, d48_0, d48_1, d48_4, d48_5, d48_8, d48_9, d48_10, d48_11, d48_14, d48_16, d48_17, d48_19, d48_20, d48_24, d48_25, d48_28, d48_29, d48_32, d48_35, d48_38, d48_40, d48_42, d48_43, d48_44, d48_47, d48_48, d48_50, d48_51, d48_53, d48_54, d48_55, d48_58, d48_59, d48_60, d48_63, d48_66, d48_70, d48_73, d48_75, d48_78, d48_79, d48_82, d48_85, d48_88, d48_89, d48_90, d48_93, d48_96, d48_99, d48_101, d48_102, d48_105, d48_107, d48_108, d48_111, d48_112, d48_114, d48_117, d48_119, n_lt, n_le, n_eq, n_lt0, n_ge0, n_gt0, n_le0, n_eq0, m_lt, m_le, m_gt, m_ge, m_eq, m_eq', m_lt0, m_ge0, m_gt0, m_le0, m_ltm, m_lem, n_in, m_in, n_cl, n_ti, n_div, n_rem', n_dec, n_l, nI_add, pk_mul, an0, an1, decide_eq_true_eq, if_true, if_false, ite_true, ite_false, and_true, true_and, and_false, false_and, not_true, not_false_iff, or_false, false_or, or_true, true_or, eq_self, va_some, Bool.false_eq_true, reduceIte, catS_n, catS_i, catS_r, catS_l, catS_d, Nat.zero_add, Nat.add_zero, decide_true, decide_false, Nat.reduceLeDiff, cat_r, cat_i, cat_l, nle_T, nle_F, nlt_T, nlt_F, neq_T, neq_F, x0, tS_2, tS_f, z1]
  · by_cases z2 : isD tx len (nuP tx len k p) 0 9 = true
    · rw [if_pos (.inr z2), fI_s]
      simp (disch := first | assumption | omega) only [Nat.reduceAdd, X_go, go2_some, stp, ldI, ldA, ldL, stI, stA, stL, o1I, o2I, o2L, brI, brII, gl, s1, s2, k1, sl, go_sN, go_sR, go_CT, go_sT, go_no, go_if, pops, bk_v, bk_0, d48_0, d48_1, d48_4, d48_5, d48_8, d48_9, d48_10, d48_11, d48_14, d48_16, d48_17, d48_19, d48_20, d48_24, d48_25, d48_28, d48_29, d48_32, d48_35, d48_38, d48_40, d48_42, d48_43, d48_44, d48_47, d48_48, d48_50, d48_51, d48_53, d48_54, d48_55, d48_58, d48_59, d48_60, d48_63, d48_66, d48_70, d48_73, d48_75, d48_78, d48_79, d48_82, d48_85, d48_88, d48_89, d48_90, d48_93, d48_96, d48_99, d48_101, d48_102, d48_105, d48_107, d48_108, d48_111, d48_112, d48_114, d48_117, d48_119, n_lt, n_le, n_eq, n_lt0, n_ge0, n_gt0, n_le0, n_eq0, m_lt, m_le, m_gt, m_ge, m_eq, m_eq', m_lt0, m_ge0, m_gt0, m_le0, m_ltm, m_lem, n_in, m_in, n_cl, n_ti, n_div, n_rem', n_dec, n_l, nI_add, pk_mul, an0, an1, decide_eq_true_eq, if_true, if_false, ite_true, ite_false, and_true, true_and, and_false, false_and, not_true, not_false_iff, or_false, false_or, or_true, true_or, eq_self, va_some, Bool.false_eq_true, reduceIte, catS_n, catS_i, catS_r, catS_l, catS_d, Nat.zero_add, Nat.add_zero, decide_true, decide_false, Nat.reduceLeDiff, cat_r, cat_i, cat_l, nle_T, nle_F, nlt_T, nlt_F, neq_T, neq_F, x0, tS_2, tS_f, z1, c40 hX ht, c49 (TX_t ht), z2]
      done
    · rw [if_neg (fun q => q.elim z1 z2)]
      by_cases z3 : nuV tx len k p 0 < lo
      · rw [if_pos (.inl z3), fI_s]
        simp (disch := first | assumption | omega) only [Nat.reduceAdd, X_go, go2_some, stp, ldI, ldA, ldL, stI, stA, stL, o1I, o2I, o2L, brI, brII, gl, s1, s2, k1, sl, go_sN, go_sR, go_CT, go_sT, go_no, go_if, pops, bk_v, bk_0, d48_0, d48_1, d48_4, d48_5, d48_8, d48_9, d48_10, d48_11, d48_14, d48_16, d48_17, d48_19, d48_20, d48_24, d48_25, d48_28, d48_29, d48_32, d48_35, d48_38, d48_40, d48_42, d48_43, d48_44, d48_47, d48_48, d48_50, d48_51, d48_53, d48_54, d48_55, d48_58, d48_59, d48_60, d48_63, d48_66, d48_70, d48_73, d48_75, d48_78, d48_79, d48_82, d48_85, d48_88, d48_89, d48_90, d48_93, d48_96, d48_99, d48_101, d48_102, d48_105, d48_107, d48_108, d48_111, d48_112, d48_114, d48_117, d48_119, n_lt, n_le, n_eq, n_lt0, n_ge0, n_gt0, n_le0, n_eq0, m_lt, m_le, m_gt, m_ge, m_eq, m_eq', m_lt0, m_ge0, m_gt0, m_le0, m_ltm, m_lem, n_in, m_in, n_cl, n_ti, n_div, n_rem', n_dec, n_l, nI_add, pk_mul, an0, an1, decide_eq_true_eq, if_true, if_false, ite_true, ite_false, and_true, true_and, and_false, false_and, not_true, not_false_iff, or_false, false_or, or_true, true_or, eq_self, va_some, Bool.false_eq_true, reduceIte, catS_n, catS_i, catS_r, catS_l, catS_d, Nat.zero_add, Nat.add_zero, decide_true, decide_false, Nat.reduceLeDiff, cat_r, cat_i, cat_l, nle_T, nle_F, nlt_T, nlt_F, neq_T, neq_F, x0, tS_2, tS_f, z1, c40 hX ht, c49 (TX_t ht), z2, z3]
        done
      · by_cases z4 : hi < nuV tx len k p 0
        · rw [if_pos (.inr z4), fI_s]
          simp (disch := first | assumption | omega) only [Nat.reduceAdd, X_go, go2_some, stp, ldI, ldA, ldL, stI, stA, stL, o1I, o2I, o2L, brI, brII, gl, s1, s2, k1, sl, go_sN, go_sR, go_CT, go_sT, go_no, go_if, pops, bk_v, bk_0, d48_0, d48_1, d48_4, d48_5, d48_8, d48_9, d48_10, d48_11, d48_14, d48_16, d48_17, d48_19, d48_20, d48_24, d48_25, d48_28, d48_29, d48_32, d48_35, d48_38, d48_40, d48_42, d48_43, d48_44, d48_47, d48_48, d48_50, d48_51, d48_53, d48_54, d48_55, d48_58, d48_59, d48_60, d48_63, d48_66, d48_70, d48_73, d48_75, d48_78, d48_79, d48_82, d48_85, d48_88, d48_89, d48_90, d48_93, d48_96, d48_99, d48_101, d48_102, d48_105, d48_107, d48_108, d48_111, d48_112, d48_114, d48_117, d48_119, n_lt, n_le, n_eq, n_lt0, n_ge0, n_gt0, n_le0, n_eq0, m_lt, m_le, m_gt, m_ge, m_eq, m_eq', m_lt0, m_ge0, m_gt0, m_le0, m_ltm, m_lem, n_in, m_in, n_cl, n_ti, n_div, n_rem', n_dec, n_l, nI_add, pk_mul, an0, an1, decide_eq_true_eq, if_true, if_false, ite_true, ite_false, and_true, true_and, and_false, false_and, not_true, not_false_iff, or_false, false_or, or_true, true_or, eq_self, va_some, Bool.false_eq_true, reduceIte, catS_n, catS_i, catS_r, catS_l, catS_d, Nat.zero_add, Nat.add_zero, decide_true, decide_false, Nat.reduceLeDiff, cat_r, cat_i, cat_l, nle_T, nle_F, nlt_T, nlt_F, neq_T, neq_F, x0, tS_2, tS_f, z1, c40 hX ht, c49 (TX_t ht), z2, z3, z4]
          done
        · rw [if_neg (by omega), fI_0]
          simp (disch := first | assumption | omega) only [Nat.reduceAdd, X_go, go2_some, stp, ldI, ldA, ldL, stI, stA, stL, o1I, o2I, o2L, brI, brII, gl, s1, s2, k1, sl, go_sN, go_sR, go_CT, go_sT, go_no, go_if, pops, bk_v, bk_0, d48_0, d48_1, d48_4, d48_5, d48_8, d48_9, d48_10, d48_11, d48_14, d48_16, d48_17, d48_19, d48_20, d48_24, d48_25, d48_28, d48_29, d48_32, d48_35, d48_38, d48_40, d48_42, d48_43, d48_44, d48_47, d48_48, d48_50, d48_51, d48_53, d48_54, d48_55, d48_58, d48_59, d48_60, d48_63, d48_66, d48_70, d48_73, d48_75, d48_78, d48_79, d48_82, d48_85, d48_88, d48_89, d48_90, d48_93, d48_96, d48_99, d48_101, d48_102, d48_105, d48_107, d48_108, d48_111, d48_112, d48_114, d48_117, d48_119, n_lt, n_le, n_eq, n_lt0, n_ge0, n_gt0, n_le0, n_eq0, m_lt, m_le, m_gt, m_ge, m_eq, m_eq', m_lt0, m_ge0, m_gt0, m_le0, m_ltm, m_lem, n_in, m_in, n_cl, n_ti, n_div, n_rem', n_dec, n_l, nI_add, pk_mul, an0, an1, decide_eq_true_eq, if_true, if_false, ite_true, ite_false, and_true, true_and, and_false, false_and, not_true, not_false_iff, or_false, false_or, or_true, true_or, eq_self, va_some, Bool.false_eq_true, reduceIte, catS_n, catS_i, catS_r, catS_l, catS_d, Nat.zero_add, Nat.add_zero, decide_true, decide_false, Nat.reduceLeDiff, cat_r, cat_i, cat_l, nle_T, nle_F, nlt_T, nlt_F, neq_T, neq_F, x0, tS_2, tS_f, z1, c40 hX ht, c49 (TX_t ht), z2, z3, z4]
          done
theorem c48f {d : Nat} {P : MP} {I : MI} {L : ML} {C : MC} {Q : QT} {p f : Nat} {x y z : Int32} (hX : XB P) (hd : 2 ≤ d) (hf : f < 1000) : CT d 48 [.ref 112, .int x, .int y, .int z] P (tS I p (nI f)) L C Q = Q (.inl (some (.int y))) P (tS I p (nI f)) L C := by
  have x0 := hX.2.2.2.2.2.1.1
  rw [CT_e (mj := 48) (e := [.ref 112, .int x, .int y, .int z, UN, UN, UN]) (by omega) rfl (Nat.le_of_ble_eq_true rfl)]
  simp (disch := first | assumption | omega) only [Nat.reduceAdd, X_go, go2_some, stp, ldI, ldA, ldL, stI, stA, stL, o1I, o2I, o2L, brI, brII, gl, s1, s2, k1, sl, go_sN, go_sR, go_CT, go_sT, go_no, go_if, pops, bk_v, bk_0, d48_0, d48_1, d48_4, d48_5, d48_8, d48_9, d48_10, d48_11, d48_14, d48_16, d48_17, d48_19, d48_20, d48_22, d48_24, d48_25, d48_28, d48_29, d48_32, d48_35, d48_38, d48_40, d48_42, d48_43, d48_44, d48_47, d48_48, d48_50, d48_51, d48_53, d48_54, d48_55, d48_58, d48_59, d48_60, d48_63, d48_66, d48_69, d48_70, d48_73, d48_75, d48_78, d48_79, d48_82, d48_85, d48_88, d48_89, d48_90, d48_93, d48_96, d48_99, d48_101, d48_102, d48_105, d48_107, d48_108, d48_111, d48_112, d48_114, d48_117, d48_119, n_lt, n_le, n_eq, n_lt0, n_ge0, n_gt0, n_le0, n_eq0, m_lt, m_le, m_gt, m_ge, m_eq, m_eq', m_lt0, m_ge0, m_gt0, m_le0, m_ltm, m_lem, n_in, m_in, n_cl, n_ti, n_div, n_rem', n_dec, n_l, nI_add, pk_mul, an0, an1, decide_eq_true_eq, if_true, if_false, ite_true, ite_false, and_true, true_and, and_false, false_and, not_true, not_false_iff, or_false, false_or, or_true, true_or, eq_self, va_some, Bool.false_eq_true, reduceIte, catS_n, catS_i, catS_r, catS_l, catS_d, Nat.zero_add, Nat.add_zero, decide_true, decide_false, Nat.reduceLeDiff, cat_r, cat_i, cat_l, nle_T, nle_F, nlt_T, nlt_F, neq_T, neq_F, x0, tS_3]
  done
