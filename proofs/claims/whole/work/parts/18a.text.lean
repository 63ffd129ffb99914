/-! TEXT: bytes, digits, signs, numbers -/
/-- the reading stands at p, with a fault or none -/
def tS (I : MI) (p : Nat) (f : Int32) : MI := xu (xu I 112 2 (nI p)) 112 3 f
theorem tS_2 {I : MI} {p : Nat} {f : Int32} : tS I p f 112 2 = nI p := by
  unfold tS
  rw [xu_n _ _ (by omega), xu_s]
theorem tS_3 {I : MI} {p : Nat} {f : Int32} : tS I p f 112 3 = f := xu_s _ _ _ _
theorem tS_n {I : MI} {p k j : Nat} {f : Int32} (h : k ≠ 112 ∨ j < 2) : tS I p f k j = I k j := by
  unfold tS
  rw [xu_n _ _ (by omega), xu_n _ _ (by omega)]
theorem tS_p {I : MI} {p q : Nat} {f : Int32} : xu (tS I p f) 112 2 (nI q) = tS I q f := by
  funext a b
  unfold tS xu
  by_cases z : a = 112 ∧ b = 2
  · rw [if_pos z, if_neg (by omega), if_pos z]
  · rw [if_neg z, if_neg z, if_neg z]
theorem tS_f {I : MI} {p : Nat} {f f' : Int32} : xu (tS I p f) 112 3 f' = tS I p f' := by
  funext a b
  unfold tS xu
  by_cases z : a = 112 ∧ b = 3
  · rw [if_pos z, if_pos z]
  · rw [if_neg z, if_neg z, if_neg z]
theorem tS_u {I : MI} {p k j : Nat} {f v : Int32} (h : k ≠ 112) : xu (tS I p f) k j v = tS (xu I k j v) p f := by
  funext a b
  unfold tS xu
  by_cases z : a = k ∧ b = j
  · rw [if_pos z, if_neg (by omega), if_neg (by omega), if_pos z]
  · rw [if_neg z]
    by_cases z1 : a = 112 ∧ b = 3
    · rw [if_pos z1, if_pos z1]
    · rw [if_neg z1, if_neg z1]
      by_cases z2 : a = 112 ∧ b = 2
      · rw [if_pos z2, if_pos z2]
      · rw [if_neg z2, if_neg z2, if_neg z]
def isD (tx : Nat → Nat) (len p lo hi : Nat) : Bool := decide (p < len) && (decide (48 + lo ≤ tx p) && decide (tx p ≤ 48 + hi))
def ch (tx : Nat → Nat) (len p c : Nat) : Bool := decide (p < len) && decide (tx p = c)
def pk (tx : Nat → Nat) (len p : Nat) : Int32 := if p < len then nI (tx p) else nI 4294967295
def TX (I : MI) (len : Nat) (tx : Nat → Nat) : Prop := (I 112 1 = nI len ∧ ∀ i, i < len → I 113 i = nI (tx i)) ∧ len ≤ 160 ∧ ∀ i, i < len → tx i ≤ 127
theorem pd_lo : ∀ a, a < 128 → ∀ lo, lo < 4 → ((nI a - nI 48 < nI lo) ↔ a < 48 + lo) := by decide +kernel
theorem pd_hi : ∀ a, a < 128 → ∀ hi, hi < 4 → ((nI a - nI 48 ≤ nI hi) ↔ a ≤ 48 + hi) := by decide +kernel
theorem pd_no : ∀ lo, lo < 4 → (nI 4294967295 - nI 48 < nI lo) := by decide +kernel
theorem pk_lo {tx : Nat → Nat} {len p lo hi : Nat} (h : ∀ i, i < len → tx i ≤ 127) (hlo : lo < 4) (hhi : hi < 4) : isD tx len p lo hi = true → ¬ (pk tx len p - nI 48 < nI lo) ∧ (pk tx len p - nI 48 ≤ nI hi) ∧ pk tx len p - nI 48 = nI (tx p - 48) := by
  intro q
  unfold isD at q
  have q1 := (Bool.and_eq_true _ _).mp q
  have q2 := (Bool.and_eq_true _ _).mp q1.2
  have a1 := of_decide_eq_true q1.1
  have a2 := of_decide_eq_true q2.1
  have a3 := of_decide_eq_true q2.2
  have b := h p a1
  unfold pk
  rw [if_pos a1]
  exact ⟨fun z => by have := (pd_lo (tx p) (by omega) lo hlo).mp z; omega, (pd_hi (tx p) (by omega) hi hhi).mpr a3, n_sub (by omega)⟩
theorem pk_hi {tx : Nat → Nat} {len p lo hi : Nat} (h : ∀ i, i < len → tx i ≤ 127) (hlo : lo < 4) (hhi : hi < 4) : isD tx len p lo hi = false → (pk tx len p - nI 48 < nI lo) ∨ (¬ (pk tx len p - nI 48 < nI lo) ∧ ¬ (pk tx len p - nI 48 ≤ nI hi)) := by
  intro q
  unfold pk
  by_cases a1 : p < len
  · have b := h p a1
    rw [if_pos a1]
    by_cases a2 : 48 + lo ≤ tx p
    · refine .inr ⟨fun z => by have := (pd_lo (tx p) (by omega) lo hlo).mp z; omega, fun z => ?_⟩
      have a3 := (pd_hi (tx p) (by omega) hi hhi).mp z
      unfold isD at q
      rw [decide_eq_true a1, decide_eq_true a2, decide_eq_true a3] at q
      exact absurd q (by decide)
    · exact .inl ((pd_lo (tx p) (by omega) lo hlo).mpr (by omega))
  · rw [if_neg a1]
    exact .inl (pd_no lo hlo)
theorem pk_ch {tx : Nat → Nat} {len p c : Nat} (h : ∀ i, i < len → tx i ≤ 127) (hc : c < 128) : (pk tx len p = nI c) = (ch tx len p c = true) := by
  unfold pk ch
  by_cases a1 : p < len
  · have b := h p a1
    rw [if_pos a1, decide_eq_true a1, Bool.true_and, n_eq (by omega) (by omega)]
    exact propext ⟨fun z => decide_eq_true z, fun z => of_decide_eq_true z⟩
  · rw [if_neg a1, decide_eq_false a1, Bool.false_and, m_eq' (by omega)]
    exact (eq_false (by decide)).symm
theorem d40_0 : dec 40 0 = some (.aload_n 0, 1, []) := rfl
theorem d40_1 : dec 40 1 = some (.getfield 24, 3, [1, 8, 2, 0, 0, 186]) := rfl
theorem d40_4 : dec 40 4 = some (.ifCond .lt 38, 3, [42]) := rfl
theorem d40_7 : dec 40 7 = some (.aload_n 0, 1, []) := rfl
theorem d40_8 : dec 40 8 = some (.getfield 24, 3, [1, 8, 2, 0, 0, 186]) := rfl
theorem d40_11 : dec 40 11 = some (.aload_n 0, 1, []) := rfl
theorem d40_12 : dec 40 12 = some (.getfield 15, 3, [1, 8, 1, 0, 0, 184]) := rfl
theorem d40_15 : dec 40 15 = some (.if_icmp .ge 27, 3, [42]) := rfl
theorem d40_18 : dec 40 18 = some (.aload_n 0, 1, []) := rfl
theorem d40_19 : dec 40 19 = some (.getfield 24, 3, [1, 8, 2, 0, 0, 186]) := rfl
theorem d40_22 : dec 40 22 = some (.aload_n 0, 1, []) := rfl
theorem d40_23 : dec 40 23 = some (.getfield 9, 3, [1, 8, 0, 2, 0, 183]) := rfl
theorem d40_26 : dec 40 26 = some (.arraylength, 1, []) := rfl
theorem d40_27 : dec 40 27 = some (.if_icmp .ge 15, 3, [42]) := rfl
theorem d40_30 : dec 40 30 = some (.aload_n 0, 1, []) := rfl
theorem d40_31 : dec 40 31 = some (.getfield 9, 3, [1, 8, 0, 2, 0, 183]) := rfl
theorem d40_34 : dec 40 34 = some (.aload_n 0, 1, []) := rfl
theorem d40_35 : dec 40 35 = some (.getfield 24, 3, [1, 8, 2, 0, 0, 186]) := rfl
theorem d40_38 : dec 40 38 = some (.baload, 1, []) := rfl
theorem d40_39 : dec 40 39 = some (.goto 4, 3, [43]) := rfl
theorem d40_42 : dec 40 42 = some (.iconst (-1), 1, [4294967295]) := rfl
theorem d40_43 : dec 40 43 = some (.ireturn, 1, [0]) := rfl
theorem l40 : mL 40 = 1 := rfl
theorem c40 {d : Nat} {P : MP} {I : MI} {L : ML} {C : MC} {Q : QT} {len p : Nat} {f : Int32} {tx : Nat → Nat} (hX : XB P) (ht : TX I len tx) (hd : 1 ≤ d) (hp : p < 1000) : CT d 40 [.ref 112] P (tS I p f) L C Q = Q (.inl (some (.int (pk tx len p)))) P (tS I p f) L C := by
  obtain ⟨k0, ⟨p0, p1, p2, p3, p4, p5, p6, p7, p8⟩, hS, hS2, hV, ⟨x0, x1, x2⟩, _⟩ := hX
  obtain ⟨⟨t1, t2⟩, t3, t4⟩ := ht
  have e1 : tS I p f 112 1 = nI len := by rw [tS_n (by omega)]; exact t1
  rw [CT_e (mj := 40) (e := [.ref 112]) (by omega) rfl (Nat.le_of_ble_eq_true rfl)]
  unfold pk
  by_cases z : p < len
  · have e2 : tS I p f 113 p = nI (tx p) := by rw [tS_n (by omega)]; exact t2 p z
    simp (disch := first | assumption | omega) only [Nat.reduceAdd, X_go, go2_some, stp, ldI, ldA, ldL, stI, stA, stL, o1I, o2I, o2L, brI, brII, gl, s1, s2, k1, sl, go_sN, go_sR, go_CT, go_sT, go_no, go_if, pops, bk_v, bk_0, d40_0, d40_1, d40_4, d40_7, d40_8, d40_11, d40_12, d40_15, d40_18, d40_19, d40_22, d40_23, d40_26, d40_27, d40_30, d40_31, d40_34, d40_35, d40_38, d40_39, d40_42, d40_43, n_lt, n_le, n_eq, n_lt0, n_ge0, n_gt0, n_le0, n_eq0, m_lt, m_le, m_gt, m_ge, m_eq, m_eq', m_lt0, m_ge0, m_gt0, m_le0, m_ltm, m_lem, n_in, m_in, n_cl, n_ti, n_div, n_rem', n_dec, n_l, nI_add, pk_mul, an0, an1, decide_eq_true_eq, if_true, if_false, ite_true, ite_false, and_true, true_and, and_false, false_and, not_true, not_false_iff, or_false, false_or, or_true, true_or, eq_self, va_some, Bool.false_eq_true, reduceIte, catS_n, catS_i, catS_r, catS_l, catS_d, Nat.zero_add, Nat.add_zero, decide_true, decide_false, Nat.reduceLeDiff, cat_r, cat_i, cat_l, nle_T, nle_F, nlt_T, nlt_F, neq_T, neq_F, x0, x1, x2, tS_2, e1, e2, z]
  · simp (disch := first | assumption | omega) only [Nat.reduceAdd, X_go, go2_some, stp, ldI, ldA, ldL, stI, stA, stL, o1I, o2I, o2L, brI, brII, gl, s1, s2, k1, sl, go_sN, go_sR, go_CT, go_sT, go_no, go_if, pops, bk_v, bk_0, d40_0, d40_1, d40_4, d40_7, d40_8, d40_11, d40_12, d40_15, d40_18, d40_19, d40_22, d40_23, d40_26, d40_27, d40_30, d40_31, d40_34, d40_35, d40_38, d40_39, d40_42, d40_43, n_lt, n_le, n_eq, n_lt0, n_ge0, n_gt0, n_le0, n_eq0, m_lt, m_le, m_gt, m_ge, m_eq, m_eq', m_lt0, m_ge0, m_gt0, m_le0, m_ltm, m_lem, n_in, m_in, n_cl, n_ti, n_div, n_rem', n_dec, n_l, nI_add, pk_mul, an0, an1, decide_eq_true_eq, if_true, if_false, ite_true, ite_false, and_true, true_and, and_false, false_and, not_true, not_false_iff, or_false, false_or, or_true, true_or, eq_self, va_some, Bool.false_eq_true, reduceIte, catS_n, catS_i, catS_r, catS_l, catS_d, Nat.zero_add, Nat.add_zero, decide_true, decide_false, Nat.reduceLeDiff, cat_r, cat_i, cat_l, nle_T, nle_F, nlt_T, nlt_F, neq_T, neq_F, x0, x1, x2, tS_2, e1, z]
theorem d49_0 : dec 49 0 = some (.iload_n 0, 1, []) := rfl
theorem d49_1 : dec 49 1 = some (.bipush 48, 2, [48]) := rfl
theorem d49_3 : dec 49 3 = some (.if_icmp .lt 13, 3, [16]) := rfl
theorem d49_6 : dec 49 6 = some (.iload_n 0, 1, []) := rfl
theorem d49_7 : dec 49 7 = some (.bipush 57, 2, [57]) := rfl
theorem d49_9 : dec 49 9 = some (.if_icmp .gt 7, 3, [16]) := rfl
theorem d49_12 : dec 49 12 = some (.iconst 1, 1, [1]) := rfl
theorem d49_13 : dec 49 13 = some (.goto 4, 3, [17]) := rfl
theorem d49_16 : dec 49 16 = some (.iconst 0, 1, [0]) := rfl
theorem d49_17 : dec 49 17 = some (.ireturn, 1, [1]) := rfl
theorem l49 : mL 49 = 1 := rfl
theorem c49 {d : Nat} {P : MP} {I : MI} {L : ML} {C : MC} {Q : QT} {len p : Nat} {tx : Nat → Nat} (ht : TX I len tx) (hd : 1 ≤ d) : CT d 49 [.int (pk tx len p)] P I L C Q = Q (.inl (some (.int (nI (if isD tx len p 0 9 = true then 1 else 0))))) P I L C := by
  obtain ⟨⟨t1, t2⟩, t3, t4⟩ := ht
  unfold pk isD
  by_cases z : p < len
  · have b := t4 p z
    rw [if_pos z, decide_eq_true z]
    rw [CT_e (mj := 49) (e := [.int (nI (tx p))]) (by omega) rfl (Nat.le_of_ble_eq_true rfl)]
    by_cases y : 48 ≤ tx p
    · by_cases x : tx p ≤ 57
      · simp (disch := first | assumption | omega) only [Nat.reduceAdd, X_go, go2_some, stp, ldI, ldA, ldL, stI, stA, stL, o1I, o2I, o2L, brI, brII, gl, s1, s2, k1, sl, go_sN, go_sR, go_CT, go_sT, go_no, go_if, pops, bk_v, bk_0, d49_0, d49_1, d49_3, d49_6, d49_7, d49_9, d49_12, d49_13, d49_16, d49_17, n_lt, n_le, n_eq, n_lt0, n_ge0, n_gt0, n_le0, n_eq0, m_lt, m_le, m_gt, m_ge, m_eq, m_eq', m_lt0, m_ge0, m_gt0, m_le0, m_ltm, m_lem, n_in, m_in, n_cl, n_ti, n_div, n_rem', n_dec, n_l, nI_add, pk_mul, an0, an1, decide_eq_true_eq, if_true, if_false, ite_true, ite_false, and_true, true_and, and_false, false_and, not_true, not_false_iff, or_false, false_or, or_true, true_or, eq_self, va_some, Bool.false_eq_true, reduceIte, catS_n, catS_i, catS_r, catS_l, catS_d, Nat.zero_add, Nat.add_zero, decide_true, decide_false, Nat.reduceLeDiff, cat_r, cat_i, cat_l, nle_T, nle_F, nlt_T, nlt_F, neq_T, neq_F, y, x, Bool.true_and, Bool.and_true]
      · simp (disch := first | assumption | omega) only [Nat.reduceAdd, X_go, go2_some, stp, ldI, ldA, ldL, stI, stA, stL, o1I, o2I, o2L, brI, brII, gl, s1, s2, k1, sl, go_sN, go_sR, go_CT, go_sT, go_no, go_if, pops, bk_v, bk_0, d49_0, d49_1, d49_3, d49_6, d49_7, d49_9, d49_12, d49_13, d49_16, d49_17, n_lt, n_le, n_eq, n_lt0, n_ge0, n_gt0, n_le0, n_eq0, m_lt, m_le, m_gt, m_ge, m_eq, m_eq', m_lt0, m_ge0, m_gt0, m_le0, m_ltm, m_lem, n_in, m_in, n_cl, n_ti, n_div, n_rem', n_dec, n_l, nI_add, pk_mul, an0, an1, decide_eq_true_eq, if_true, if_false, ite_true, ite_false, and_true, true_and, and_false, false_and, not_true, not_false_iff, or_false, false_or, or_true, true_or, eq_self, va_some, Bool.false_eq_true, reduceIte, catS_n, catS_i, catS_r, catS_l, catS_d, Nat.zero_add, Nat.add_zero, decide_true, decide_false, Nat.reduceLeDiff, cat_r, cat_i, cat_l, nle_T, nle_F, nlt_T, nlt_F, neq_T, neq_F, y, x, Bool.true_and, Bool.and_true, Bool.and_false]
    · simp (disch := first | assumption | omega) only [Nat.reduceAdd, X_go, go2_some, stp, ldI, ldA, ldL, stI, stA, stL, o1I, o2I, o2L, brI, brII, gl, s1, s2, k1, sl, go_sN, go_sR, go_CT, go_sT, go_no, go_if, pops, bk_v, bk_0, d49_0, d49_1, d49_3, d49_6, d49_7, d49_9, d49_12, d49_13, d49_16, d49_17, n_lt, n_le, n_eq, n_lt0, n_ge0, n_gt0, n_le0, n_eq0, m_lt, m_le, m_gt, m_ge, m_eq, m_eq', m_lt0, m_ge0, m_gt0, m_le0, m_ltm, m_lem, n_in, m_in, n_cl, n_ti, n_div, n_rem', n_dec, n_l, nI_add, pk_mul, an0, an1, decide_eq_true_eq, if_true, if_false, ite_true, ite_false, and_true, true_and, and_false, false_and, not_true, not_false_iff, or_false, false_or, or_true, true_or, eq_self, va_some, Bool.false_eq_true, reduceIte, catS_n, catS_i, catS_r, catS_l, catS_d, Nat.zero_add, Nat.add_zero, decide_true, decide_false, Nat.reduceLeDiff, cat_r, cat_i, cat_l, nle_T, nle_F, nlt_T, nlt_F, neq_T, neq_F, y, Bool.true_and, Bool.and_true, Bool.and_false, Bool.false_and]
  · rw [if_neg z, decide_eq_false z, Bool.false_and]
    rw [CT_e (mj := 49) (e := [.int (nI 4294967295)]) (by omega) rfl (Nat.le_of_ble_eq_true rfl)]
    simp (disch := first | assumption | omega) only [Nat.reduceAdd, X_go, go2_some, stp, ldI, ldA, ldL, stI, stA, stL, o1I, o2I, o2L, brI, brII, gl, s1, s2, k1, sl, go_sN, go_sR, go_CT, go_sT, go_no, go_if, pops, bk_v, bk_0, d49_0, d49_1, d49_3, d49_6, d49_7, d49_9, d49_12, d49_13, d49_16, d49_17, n_lt, n_le, n_eq, n_lt0, n_ge0, n_gt0, n_le0, n_eq0, m_lt, m_le, m_gt, m_ge, m_eq, m_eq', m_lt0, m_ge0, m_gt0, m_le0, m_ltm, m_lem, n_in, m_in, n_cl, n_ti, n_div, n_rem', n_dec, n_l, nI_add, pk_mul, an0, an1, decide_eq_true_eq, if_true, if_false, ite_true, ite_false, and_true, true_and, and_false, false_and, not_true, not_false_iff, or_false, false_or, or_true, true_or, eq_self, va_some, Bool.false_eq_true, reduceIte, catS_n, catS_i, catS_r, catS_l, catS_d, Nat.zero_add, Nat.add_zero, decide_true, decide_false, Nat.reduceLeDiff, cat_r, cat_i, cat_l, nle_T, nle_F, nlt_T, nlt_F, neq_T, neq_F]
    done
theorem d42_0 : dec 42 0 = some (.aload_n 0, 1, []) := rfl
theorem d42_1 : dec 42 1 = some (.getfield 27, 3, [1, 8, 3, 0, 0, 187]) := rfl
theorem d42_4 : dec 42 4 = some (.iconst (-1), 1, [4294967295]) := rfl
theorem d42_5 : dec 42 5 = some (.if_icmp .eq 5, 3, [10]) := rfl
theorem d42_8 : dec 42 8 = some (.iload_n 1, 1, []) := rfl
theorem d42_9 : dec 42 9 = some (.ireturn, 1, [0]) := rfl
theorem d42_10 : dec 42 10 = some (.aload_n 0, 1, []) := rfl
theorem d42_11 : dec 42 11 = some (.invokevirtual 34, 3, [2, 40, 2, 8, 0, 422]) := rfl
theorem d42_14 : dec 42 14 = some (.bipush 48, 2, [48]) := rfl
theorem d42_16 : dec 42 16 = some (.isub, 1, []) := rfl
theorem d42_17 : dec 42 17 = some (.istore_n 3, 1, []) := rfl
theorem d42_18 : dec 42 18 = some (.iload_n 3, 1, []) := rfl
theorem d42_19 : dec 42 19 = some (.iload_n 1, 1, []) := rfl
theorem d42_20 : dec 42 20 = some (.if_icmp .lt 8, 3, [28]) := rfl
theorem d42_23 : dec 42 23 = some (.iload_n 3, 1, []) := rfl
theorem d42_24 : dec 42 24 = some (.iload_n 2, 1, []) := rfl
theorem d42_25 : dec 42 25 = some (.if_icmp .le 13, 3, [38]) := rfl
theorem d42_28 : dec 42 28 = some (.aload_n 0, 1, []) := rfl
theorem d42_29 : dec 42 29 = some (.aload_n 0, 1, []) := rfl
theorem d42_30 : dec 42 30 = some (.getfield 24, 3, [1, 8, 2, 0, 0, 186]) := rfl
theorem d42_33 : dec 42 33 = some (.putfield 27, 3, [1, 8, 3, 0, 0, 187]) := rfl
theorem d42_36 : dec 42 36 = some (.iload_n 1, 1, []) := rfl
theorem d42_37 : dec 42 37 = some (.ireturn, 1, [0]) := rfl
theorem d42_38 : dec 42 38 = some (.aload_n 0, 1, []) := rfl
theorem d42_39 : dec 42 39 = some (.dup, 1, []) := rfl
theorem d42_40 : dec 42 40 = some (.getfield 24, 3, [1, 8, 2, 0, 0, 186]) := rfl
theorem d42_43 : dec 42 43 = some (.iconst 1, 1, [1]) := rfl
theorem d42_44 : dec 42 44 = some (.iadd, 1, []) := rfl
theorem d42_45 : dec 42 45 = some (.putfield 24, 3, [1, 8, 2, 0, 0, 186]) := rfl
theorem d42_48 : dec 42 48 = some (.iload_n 3, 1, []) := rfl
theorem d42_49 : dec 42 49 = some (.ireturn, 1, [0]) := rfl
theorem l42 : mL 42 = 4 := rfl
theorem c42 {d : Nat} {P : MP} {I : MI} {L : ML} {C : MC} {Q : QT} {len p lo hi : Nat} {tx : Nat → Nat} (hX : XB P) (ht : TX I len tx) (hi' : isD tx len p lo hi = true) (hd : 2 ≤ d) (hp : p < 1000) (h1 : lo < 4) (h2 : hi < 4) : CT d 42 [.ref 112, .int (nI lo), .int (nI hi)] P (tS I p (nI 4294967295)) L C Q = Q (.inl (some (.int (nI (tx p - 48))))) P (tS I (p + 1) (nI 4294967295)) L C := by
  have x0 := hX.2.2.2.2.2.1.1
  obtain ⟨q1, q2, q3⟩ := pk_lo ht.2.2 h1 h2 hi'
  rw [q3] at q1 q2
  rw [CT_e (mj := 42) (e := [.ref 112, .int (nI lo), .int (nI hi), UN]) (by omega) rfl (Nat.le_of_ble_eq_true rfl)]
  simp (disch := first | assumption | omega) only [Nat.reduceAdd, X_go, go2_some, stp, ldI, ldA, ldL, stI, stA, stL, o1I, o2I, o2L, brI, brII, gl, s1, s2, k1, sl, go_sN, go_sR, go_CT, go_sT, go_no, go_if, pops, bk_v, bk_0, d42_0, d42_1, d42_4, d42_5, d42_8, d42_9, d42_10, d42_11, d42_14, d42_16, d42_17, d42_18, d42_19, d42_20, d42_23, d42_24, d42_25, d42_28, d42_29, d42_30, d42_33, d42_36, d42_37, d42_38, d42_39, d42_40, d42_43, d42_44, d42_45, d42_48, d42_49, an0, an1, eq_self, if_true, if_false, and_true, true_and, va_some, reduceIte, catS_n, catS_i, catS_r, catS_l, Nat.zero_add, Nat.reduceLeDiff, bk_v, cat_i, cat_r, x0, tS_2, tS_3, tS_p, tS_f, c40 hX ht, q1, q2, q3, nI_add]
  done
theorem c42n {d : Nat} {P : MP} {I : MI} {L : ML} {C : MC} {Q : QT} {len p lo hi : Nat} {tx : Nat → Nat} (hX : XB P) (ht : TX I len tx) (hi' : isD tx len p lo hi = false) (hd : 2 ≤ d) (hp : p < 1000) (h1 : lo < 4) (h2 : hi < 4) : CT d 42 [.ref 112, .int (nI lo), .int (nI hi)] P (tS I p (nI 4294967295)) L C Q = Q (.inl (some (.int (nI lo)))) P (tS I p (nI p)) L C := by
  have x0 := hX.2.2.2.2.2.1.1
  rw [CT_e (mj := 42) (e := [.ref 112, .int (nI lo), .int (nI hi), UN]) (by omega) rfl (Nat.le_of_ble_eq_true rfl)]
  rcases pk_hi ht.2.2 h1 h2 hi' with q | ⟨q1, q2⟩
  · simp (disch := first | assumption | omega) only [Nat.reduceAdd, X_go, go2_some, stp, ldI, ldA, ldL, stI, stA, stL, o1I, o2I, o2L, brI, brII, gl, s1, s2, k1, sl, go_sN, go_sR, go_CT, go_sT, go_no, go_if, pops, bk_v, bk_0, d42_0, d42_1, d42_4, d42_5, d42_8, d42_9, d42_10, d42_11, d42_14, d42_16, d42_17, d42_18, d42_19, d42_20, d42_23, d42_24, d42_25, d42_28, d42_29, d42_30, d42_33, d42_36, d42_37, d42_38, d42_39, d42_40, d42_43, d42_44, d42_45, d42_48, d42_49, an0, an1, eq_self, if_true, if_false, and_true, true_and, va_some, reduceIte, catS_n, catS_i, catS_r, catS_l, Nat.zero_add, Nat.reduceLeDiff, bk_v, cat_i, cat_r, x0, tS_2, tS_3, tS_p, tS_f, c40 hX ht, q]
  · simp (disch := first | assumption | omega) only [Nat.reduceAdd, X_go, go2_some, stp, ldI, ldA, ldL, stI, stA, stL, o1I, o2I, o2L, brI, brII, gl, s1, s2, k1, sl, go_sN, go_sR, go_CT, go_sT, go_no, go_if, pops, bk_v, bk_0, d42_0, d42_1, d42_4, d42_5, d42_8, d42_9, d42_10, d42_11, d42_14, d42_16, d42_17, d42_18, d42_19, d42_20, d42_23, d42_24, d42_25, d42_28, d42_29, d42_30, d42_33, d42_36, d42_37, d42_38, d42_39, d42_40, d42_43, d42_44, d42_45, d42_48, d42_49, an0, an1, eq_self, if_true, if_false, and_true, true_and, va_some, reduceIte, catS_n, catS_i, catS_r, catS_l, Nat.zero_add, Nat.reduceLeDiff, bk_v, cat_i, cat_r, x0, tS_2, tS_3, tS_p, tS_f, c40 hX ht, q1, q2]
theorem c42f {d : Nat} {P : MP} {I : MI} {L : ML} {C : MC} {Q : QT} {p f : Nat} {x y : Int32} (hX : XB P) (hd : 2 ≤ d) (hf : f < 1000) : CT d 42 [.ref 112, .int x, .int y] P (tS I p (nI f)) L C Q = Q (.inl (some (.int x))) P (tS I p (nI f)) L C := by
  have x0 := hX.2.2.2.2.2.1.1
  rw [CT_e (mj := 42) (e := [.ref 112, .int x, .int y, UN]) (by omega) rfl (Nat.le_of_ble_eq_true rfl)]
  simp (disch := first | assumption | omega) only [Nat.reduceAdd, X_go, go2_some, stp, ldI, ldA, ldL, stI, stA, stL, o1I, o2I, o2L, brI, brII, gl, s1, s2, k1, sl, go_sN, go_sR, go_CT, go_sT, go_no, go_if, pops, bk_v, bk_0, d42_0, d42_1, d42_4, d42_5, d42_8, d42_9, d42_10, d42_11, d42_14, d42_16, d42_17, d42_18, d42_19, d42_20, d42_23, d42_24, d42_25, d42_28, d42_29, d42_30, d42_33, d42_36, d42_37, d42_38, d42_39, d42_40, d42_43, d42_44, d42_45, d42_48, d42_49, n_lt, n_le, n_eq, n_lt0, n_ge0, n_gt0, n_le0, n_eq0, m_lt, m_le, m_gt, m_ge, m_eq, m_eq', m_lt0, m_ge0, m_gt0, m_le0, m_ltm, m_lem, n_in, m_in, n_cl, n_ti, n_div, n_rem', n_dec, n_l, nI_add, pk_mul, an0, an1, decide_eq_true_eq, if_true, if_false, ite_true, ite_false, and_true, true_and, and_false, false_and, not_true, not_false_iff, or_false, false_or, or_true, true_or, eq_self, va_some, Bool.false_eq_true, reduceIte, catS_n, catS_i, catS_r, catS_l, catS_d, Nat.zero_add, Nat.add_zero, decide_true, decide_false, Nat.reduceLeDiff, cat_r, cat_i, cat_l, nle_T, nle_F, nlt_T, nlt_F, neq_T, neq_F, x0, tS_3]
  done
theorem d43_0 : dec 43 0 = some (.aload_n 0, 1, []) := rfl
theorem d43_1 : dec 43 1 = some (.getfield 27, 3, [1, 8, 3, 0, 0, 187]) := rfl
theorem d43_4 : dec 43 4 = some (.iconst (-1), 1, [4294967295]) := rfl
theorem d43_5 : dec 43 5 = some (.if_icmp .eq 4, 3, [9]) := rfl
theorem d43_8 : dec 43 8 = some (.return_, 1, []) := rfl
theorem d43_9 : dec 43 9 = some (.aload_n 0, 1, []) := rfl
theorem d43_10 : dec 43 10 = some (.invokevirtual 34, 3, [2, 40, 2, 8, 0, 422]) := rfl
theorem d43_13 : dec 43 13 = some (.iload_n 1, 1, []) := rfl
theorem d43_14 : dec 43 14 = some (.if_icmp .ne 16, 3, [30]) := rfl
theorem d43_17 : dec 43 17 = some (.aload_n 0, 1, []) := rfl
theorem d43_18 : dec 43 18 = some (.dup, 1, []) := rfl
theorem d43_19 : dec 43 19 = some (.getfield 24, 3, [1, 8, 2, 0, 0, 186]) := rfl
theorem d43_22 : dec 43 22 = some (.iconst 1, 1, [1]) := rfl
theorem d43_23 : dec 43 23 = some (.iadd, 1, []) := rfl
theorem d43_24 : dec 43 24 = some (.putfield 24, 3, [1, 8, 2, 0, 0, 186]) := rfl
theorem d43_27 : dec 43 27 = some (.goto 11, 3, [38]) := rfl
theorem d43_30 : dec 43 30 = some (.aload_n 0, 1, []) := rfl
theorem d43_31 : dec 43 31 = some (.aload_n 0, 1, []) := rfl
theorem d43_32 : dec 43 32 = some (.getfield 24, 3, [1, 8, 2, 0, 0, 186]) := rfl
theorem d43_35 : dec 43 35 = some (.putfield 27, 3, [1, 8, 3, 0, 0, 187]) := rfl
theorem d43_38 : dec 43 38 = some (.return_, 1, []) := rfl
theorem l43 : mL 43 = 2 := rfl
theorem c43 {d : Nat} {P : MP} {I : MI} {L : ML} {C : MC} {Q : QT} {len p c : Nat} {tx : Nat → Nat} (hX : XB P) (ht : TX I len tx) (hi' : ch tx len p c = true) (hd : 2 ≤ d) (hp : p < 1000) (hc : c < 128) : CT d 43 [.ref 112, .int (nI c)] P (tS I p (nI 4294967295)) L C Q = Q (.inl none) P (tS I (p + 1) (nI 4294967295)) L C := by
  have x0 := hX.2.2.2.2.2.1.1
  have q := pk_ch (p := p) ht.2.2 hc
  rw [CT_e (mj := 43) (e := [.ref 112, .int (nI c)]) (by omega) rfl (Nat.le_of_ble_eq_true rfl)]
  simp (disch := first | assumption | omega) only [Nat.reduceAdd, X_go, go2_some, stp, ldI, ldA, ldL, stI, stA, stL, o1I, o2I, o2L, brI, brII, gl, s1, s2, k1, sl, go_sN, go_sR, go_CT, go_sT, go_no, go_if, pops, bk_v, bk_0, d43_0, d43_1, d43_4, d43_5, d43_8, d43_9, d43_10, d43_13, d43_14, d43_17, d43_18, d43_19, d43_22, d43_23, d43_24, d43_27, d43_30, d43_31, d43_32, d43_35, d43_38, n_lt, n_le, n_eq, n_lt0, n_ge0, n_gt0, n_le0, n_eq0, m_lt, m_le, m_gt, m_ge, m_eq, m_eq', m_lt0, m_ge0, m_gt0, m_le0, m_ltm, m_lem, n_in, m_in, n_cl, n_ti, n_div, n_rem', n_dec, n_l, nI_add, pk_mul, an0, an1, decide_eq_true_eq, if_true, if_false, ite_true, ite_false, and_true, true_and, and_false, false_and, not_true, not_false_iff, or_false, false_or, or_true, true_or, eq_self, va_some, Bool.false_eq_true, reduceIte, catS_n, catS_i, catS_r, catS_l, catS_d, Nat.zero_add, Nat.add_zero, decide_true, decide_false, Nat.reduceLeDiff, cat_r, cat_i, cat_l, nle_T, nle_F, nlt_T, nlt_F, neq_T, neq_F, x0, tS_2, tS_3, tS_p, tS_f, c40 hX ht, q, hi']
  done
theorem c43n {d : Nat} {P : MP} {I : MI} {L : ML} {C : MC} {Q : QT} {len p c : Nat} {tx : Nat → Nat} (hX : XB P) (ht : TX I len tx) (hi' : ch tx len p c = false) (hd : 2 ≤ d) (hp : p < 1000) (hc : c < 128) : CT d 43 [.ref 112, .int (nI c)] P (tS I p (nI 4294967295)) L C Q = Q (.inl none) P (tS I p (nI p)) L C := by
  have x0 := hX.2.2.2.2.2.1.1
  have q := pk_ch (p := p) ht.2.2 hc
  rw [CT_e (mj := 43) (e := [.ref 112, .int (nI c)]) (by omega) rfl (Nat.le_of_ble_eq_true rfl)]
  simp (disch := first | assumption | omega) only [Nat.reduceAdd, X_go, go2_some, stp, ldI, ldA, ldL, stI, stA, stL, o1I, o2I, o2L, brI, brII, gl, s1, s2, k1, sl, go_sN, go_sR, go_CT, go_sT, go_no, go_if, pops, bk_v, bk_0, d43_0, d43_1, d43_4, d43_5, d43_8, d43_9, d43_10, d43_13, d43_14, d43_17, d43_18, d43_19, d43_22, d43_23, d43_24, d43_27, d43_30, d43_31, d43_32, d43_35, d43_38, n_lt, n_le, n_eq, n_lt0, n_ge0, n_gt0, n_le0, n_eq0, m_lt, m_le, m_gt, m_ge, m_eq, m_eq', m_lt0, m_ge0, m_gt0, m_le0, m_ltm, m_lem, n_in, m_in, n_cl, n_ti, n_div, n_rem', n_dec, n_l, nI_add, pk_mul, an0, an1, decide_eq_true_eq, if_true, if_false, ite_true, ite_false, and_true, true_and, and_false, false_and, not_true, not_false_iff, or_false, false_or, or_true, true_or, eq_self, va_some, Bool.false_eq_true, reduceIte, catS_n, catS_i, catS_r, catS_l, catS_d, Nat.zero_add, Nat.add_zero, decide_true, decide_false, Nat.reduceLeDiff, cat_r, cat_i, cat_l, nle_T, nle_F, nlt_T, nlt_F, neq_T, neq_F, x0, tS_2, tS_3, tS_p, tS_f, c40 hX ht, q, hi']
  done
theorem c43f {d : Nat} {P : MP} {I : MI} {L : ML} {C : MC} {Q : QT} {p f : Nat} {x : Int32} (hX : XB P) (hd : 2 ≤ d) (hf : f < 1000) : CT d 43 [.ref 112, .int x] P (tS I p (nI f)) L C Q = Q (.inl none) P (tS I p (nI f)) L C := by
  have x0 := hX.2.2.2.2.2.1.1
  rw [CT_e (mj := 43) (e := [.ref 112, .int x]) (by omega) rfl (Nat.le_of_ble_eq_true rfl)]
  simp (disch := first | assumption | omega) only [Nat.reduceAdd, X_go, go2_some, stp, ldI, ldA, ldL, stI, stA, stL, o1I, o2I, o2L, brI, brII, gl, s1, s2, k1, sl, go_sN, go_sR, go_CT, go_sT, go_no, go_if, pops, bk_v, bk_0, d43_0, d43_1, d43_4, d43_5, d43_8, d43_9, d43_10, d43_13, d43_14, d43_17, d43_18, d43_19, d43_22, d43_23, d43_24, d43_27, d43_30, d43_31, d43_32, d43_35, d43_38, n_lt, n_le, n_eq, n_lt0, n_ge0, n_gt0, n_le0, n_eq0, m_lt, m_le, m_gt, m_ge, m_eq, m_eq', m_lt0, m_ge0, m_gt0, m_le0, m_ltm, m_lem, n_in, m_in, n_cl, n_ti, n_div, n_rem', n_dec, n_l, nI_add, pk_mul, an0, an1, decide_eq_true_eq, if_true, if_false, ite_true, ite_false, and_true, true_and, and_false, false_and, not_true, not_false_iff, or_false, false_or, or_true, true_or, eq_self, va_some, Bool.false_eq_true, reduceIte, catS_n, catS_i, catS_r, catS_l, catS_d, Nat.zero_add, Nat.add_zero, decide_true, decide_false, Nat.reduceLeDiff, cat_r, cat_i, cat_l, nle_T, nle_F, nlt_T, nlt_F, neq_T, neq_F, x0, tS_3]
  done
theorem d54_0 : dec 54 0 = some (.aload_n 0, 1, []) := rfl
theorem d54_1 : dec 54 1 = some (.getfield 27, 3, [1, 8, 3, 0, 0, 187]) := rfl
theorem d54_4 : dec 54 4 = some (.iconst (-1), 1, [4294967295]) := rfl
theorem d54_5 : dec 54 5 = some (.if_icmp .ne 12, 3, [17]) := rfl
theorem d54_8 : dec 54 8 = some (.aload_n 0, 1, []) := rfl
theorem d54_9 : dec 54 9 = some (.invokevirtual 34, 3, [2, 40, 2, 8, 0, 422]) := rfl
theorem d54_12 : dec 54 12 = some (.bipush 111, 2, [111]) := rfl
theorem d54_14 : dec 54 14 = some (.if_icmp .eq 5, 3, [19]) := rfl
theorem d54_17 : dec 54 17 = some (.iconst 0, 1, [0]) := rfl
theorem d54_18 : dec 54 18 = some (.ireturn, 1, [1]) := rfl
theorem d54_19 : dec 54 19 = some (.aload_n 0, 1, []) := rfl
theorem d54_20 : dec 54 20 = some (.dup, 1, []) := rfl
theorem d54_21 : dec 54 21 = some (.getfield 24, 3, [1, 8, 2, 0, 0, 186]) := rfl
theorem d54_24 : dec 54 24 = some (.iconst 1, 1, [1]) := rfl
theorem d54_25 : dec 54 25 = some (.iadd, 1, []) := rfl
theorem d54_26 : dec 54 26 = some (.putfield 24, 3, [1, 8, 2, 0, 0, 186]) := rfl
theorem d54_29 : dec 54 29 = some (.iconst 1, 1, [1]) := rfl
theorem d54_30 : dec 54 30 = some (.ireturn, 1, [1]) := rfl
theorem l54 : mL 54 = 1 := rfl
theorem c54 {d : Nat} {P : MP} {I : MI} {L : ML} {C : MC} {Q : QT} {len p : Nat} {tx : Nat → Nat} (hX : XB P) (ht : TX I len tx) (hi' : ch tx len p 111 = true) (hd : 2 ≤ d) (hp : p < 1000) : CT d 54 [.ref 112] P (tS I p (nI 4294967295)) L C Q = Q (.inl (some (.int (nI 1)))) P (tS I (p + 1) (nI 4294967295)) L C := by
  have x0 := hX.2.2.2.2.2.1.1
  have q := pk_ch (p := p) (c := 111) ht.2.2 (by omega)
  rw [CT_e (mj := 54) (e := [.ref 112]) (by omega) rfl (Nat.le_of_ble_eq_true rfl)]
  simp (disch := first | assumption | omega) only [Nat.reduceAdd, X_go, go2_some, stp, ldI, ldA, ldL, stI, stA, stL, o1I, o2I, o2L, brI, brII, gl, s1, s2, k1, sl, go_sN, go_sR, go_CT, go_sT, go_no, go_if, pops, bk_v, bk_0, d54_0, d54_1, d54_4, d54_5, d54_8, d54_9, d54_12, d54_14, d54_17, d54_18, d54_19, d54_20, d54_21, d54_24, d54_25, d54_26, d54_29, d54_30, n_lt, n_le, n_eq, n_lt0, n_ge0, n_gt0, n_le0, n_eq0, m_lt, m_le, m_gt, m_ge, m_eq, m_eq', m_lt0, m_ge0, m_gt0, m_le0, m_ltm, m_lem, n_in, m_in, n_cl, n_ti, n_div, n_rem', n_dec, n_l, nI_add, pk_mul, an0, an1, decide_eq_true_eq, if_true, if_false, ite_true, ite_false, and_true, true_and, and_false, false_and, not_true, not_false_iff, or_false, false_or, or_true, true_or, eq_self, va_some, Bool.false_eq_true, reduceIte, catS_n, catS_i, catS_r, catS_l, catS_d, Nat.zero_add, Nat.add_zero, decide_true, decide_false, Nat.reduceLeDiff, cat_r, cat_i, cat_l, nle_T, nle_F, nlt_T, nlt_F, neq_T, neq_F, x0, tS_2, tS_3, tS_p, tS_f, c40 hX ht, q, hi']
  done
theorem c54n {d : Nat} {P : MP} {I : MI} {L : ML} {C : MC} {Q : QT} {len p : Nat} {tx : Nat → Nat} (hX : XB P) (ht : TX I len tx) (hi' : ch tx len p 111 = false) (hd : 2 ≤ d) (hp : p < 1000) : CT d 54 [.ref 112] P (tS I p (nI 4294967295)) L C Q = Q (.inl (some (.int (nI 0)))) P (tS I p (nI 4294967295)) L C := by
  have x0 := hX.2.2.2.2.2.1.1
  have q := pk_ch (p := p) (c := 111) ht.2.2 (by omega)
  rw [CT_e (mj := 54) (e := [.ref 112]) (by omega) rfl (Nat.le_of_ble_eq_true rfl)]
  simp (disch := first | assumption | omega) only [Nat.reduceAdd, X_go, go2_some, stp, ldI, ldA, ldL, stI, stA, stL, o1I, o2I, o2L, brI, brII, gl, s1, s2, k1, sl, go_sN, go_sR, go_CT, go_sT, go_no, go_if, pops, bk_v, bk_0, d54_0, d54_1, d54_4, d54_5, d54_8, d54_9, d54_12, d54_14, d54_17, d54_18, d54_19, d54_20, d54_21, d54_24, d54_25, d54_26, d54_29, d54_30, n_lt, n_le, n_eq, n_lt0, n_ge0, n_gt0, n_le0, n_eq0, m_lt, m_le, m_gt, m_ge, m_eq, m_eq', m_lt0, m_ge0, m_gt0, m_le0, m_ltm, m_lem, n_in, m_in, n_cl, n_ti, n_div, n_rem', n_dec, n_l, nI_add, pk_mul, an0, an1, decide_eq_true_eq, if_true, if_false, ite_true, ite_false, and_true, true_and, and_false, false_and, not_true, not_false_iff, or_false, false_or, or_true, true_or, eq_self, va_some, Bool.false_eq_true, reduceIte, catS_n, catS_i, catS_r, catS_l, catS_d, Nat.zero_add, Nat.add_zero, decide_true, decide_false, Nat.reduceLeDiff, cat_r, cat_i, cat_l, nle_T, nle_F, nlt_T, nlt_F, neq_T, neq_F, x0, tS_2, tS_3, tS_p, tS_f, c40 hX ht, q, hi']
  done
theorem c54f {d : Nat} {P : MP} {I : MI} {L : ML} {C : MC} {Q : QT} {p f : Nat} (hX : XB P) (hd : 2 ≤ d) (hf : f < 1000) : CT d 54 [.ref 112] P (tS I p (nI f)) L C Q = Q (.inl (some (.int (nI 0)))) P (tS I p (nI f)) L C := by
  have x0 := hX.2.2.2.2.2.1.1
  rw [CT_e (mj := 54) (e := [.ref 112]) (by omega) rfl (Nat.le_of_ble_eq_true rfl)]
  simp (disch := first | assumption | omega) only [Nat.reduceAdd, X_go, go2_some, stp, ldI, ldA, ldL, stI, stA, stL, o1I, o2I, o2L, brI, brII, gl, s1, s2, k1, sl, go_sN, go_sR, go_CT, go_sT, go_no, go_if, pops, bk_v, bk_0, d54_0, d54_1, d54_4, d54_5, d54_8, d54_9, d54_12, d54_14, d54_17, d54_18, d54_19, d54_20, d54_21, d54_24, d54_25, d54_26, d54_29, d54_30, n_lt, n_le, n_eq, n_lt0, n_ge0, n_gt0, n_le0, n_eq0, m_lt, m_le, m_gt, m_ge, m_eq, m_eq', m_lt0, m_ge0, m_gt0, m_le0, m_ltm, m_lem, n_in, m_in, n_cl, n_ti, n_div, n_rem', n_dec, n_l, nI_add, pk_mul, an0, an1, decide_eq_true_eq, if_true, if_false, ite_true, ite_false, and_true, true_and, and_false, false_and, not_true, not_false_iff, or_false, false_or, or_true, true_or, eq_self, va_some, Bool.false_eq_true, reduceIte, catS_n, catS_i, catS_r, catS_l, catS_d, Nat.zero_add, Nat.add_zero, decide_true, decide_false, Nat.reduceLeDiff, cat_r, cat_i, cat_l, nle_T, nle_F, nlt_T, nlt_F, neq_T, neq_F, x0, tS_3]
  done
