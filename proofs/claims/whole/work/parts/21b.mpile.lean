/-! THE MODEL: the pile -/
/-- a table on the pile at p -/
def FrS (I : MI) (L : ML) (p t e : Nat) (x : Int32) (sm s k : Nat) (xs ys its : Int32) (fd mn : Nat) : Prop := I 155 p = nI t ∧ I 156 p = nI e ∧ I 157 p = x ∧ I 158 p = nI sm ∧ L 159 p = lN s ∧ I 160 p = nI k ∧ I 161 p = xs ∧ I 162 p = ys ∧ I 163 p = its ∧ I 164 p = fI fd ∧ I 165 p = nI mn
/-- below p all stands -/
def pf (p k j : Nat) : Prop := ¬ (k = 150 ∧ j = 18) ∧ ¬ (155 ≤ k ∧ k ≤ 165 ∧ p ≤ j)
theorem d203_0 : dec 203 0 = some (.aload_n 0, 1, []) := rfl
theorem d203_1 : dec 203 1 = some (.getfield 22, 3, [1, 10, 7, 2, 0, 1001]) := rfl
theorem d203_4 : dec 203 4 = some (.aload_n 0, 1, []) := rfl
theorem d203_5 : dec 203 5 = some (.getfield 180, 3, [1, 10, 18, 0, 0, 1012]) := rfl
theorem d203_8 : dec 203 8 = some (.iload_n 1, 1, []) := rfl
theorem d203_9 : dec 203 9 = some (.iastore, 1, []) := rfl
theorem d203_10 : dec 203 10 = some (.aload_n 0, 1, []) := rfl
theorem d203_11 : dec 203 11 = some (.getfield 25, 3, [1, 10, 8, 2, 0, 1002]) := rfl
theorem d203_14 : dec 203 14 = some (.aload_n 0, 1, []) := rfl
theorem d203_15 : dec 203 15 = some (.getfield 180, 3, [1, 10, 18, 0, 0, 1012]) := rfl
theorem d203_18 : dec 203 18 = some (.iconst 0, 1, [0]) := rfl
theorem d203_19 : dec 203 19 = some (.iastore, 1, []) := rfl
theorem d203_20 : dec 203 20 = some (.aload_n 0, 1, []) := rfl
theorem d203_21 : dec 203 21 = some (.getfield 28, 3, [1, 10, 9, 2, 0, 1003]) := rfl
theorem d203_24 : dec 203 24 = some (.aload_n 0, 1, []) := rfl
theorem d203_25 : dec 203 25 = some (.getfield 180, 3, [1, 10, 18, 0, 0, 1012]) := rfl
theorem d203_28 : dec 203 28 = some (.iload_n 2, 1, []) := rfl
theorem d203_29 : dec 203 29 = some (.iastore, 1, []) := rfl
theorem d203_30 : dec 203 30 = some (.aload_n 0, 1, []) := rfl
theorem d203_31 : dec 203 31 = some (.getfield 31, 3, [1, 10, 10, 2, 0, 1004]) := rfl
theorem d203_34 : dec 203 34 = some (.aload_n 0, 1, []) := rfl
theorem d203_35 : dec 203 35 = some (.getfield 180, 3, [1, 10, 18, 0, 0, 1012]) := rfl
theorem d203_38 : dec 203 38 = some (.aload_n 0, 1, []) := rfl
theorem d203_39 : dec 203 39 = some (.iload_n 1, 1, []) := rfl
theorem d203_40 : dec 203 40 = some (.iload_n 2, 1, []) := rfl
theorem d203_41 : dec 203 41 = some (.invokevirtual 138, 3, [2, 180, 2, 10, 0, 1182, 0, 0]) := rfl
theorem d203_44 : dec 203 44 = some (.iastore, 1, []) := rfl
theorem d203_45 : dec 203 45 = some (.aload_n 0, 1, []) := rfl
theorem d203_46 : dec 203 46 = some (.getfield 34, 3, [1, 10, 11, 2, 0, 1005]) := rfl
theorem d203_49 : dec 203 49 = some (.aload_n 0, 1, []) := rfl
theorem d203_50 : dec 203 50 = some (.getfield 180, 3, [1, 10, 18, 0, 0, 1012]) := rfl
theorem d203_53 : dec 203 53 = some (.lload_n 3, 1, []) := rfl
theorem d203_54 : dec 203 54 = some (.lastore, 1, []) := rfl
theorem d203_55 : dec 203 55 = some (.aload_n 0, 1, []) := rfl
theorem d203_56 : dec 203 56 = some (.getfield 38, 3, [1, 10, 12, 2, 0, 1006]) := rfl
theorem d203_59 : dec 203 59 = some (.aload_n 0, 1, []) := rfl
theorem d203_60 : dec 203 60 = some (.getfield 180, 3, [1, 10, 18, 0, 0, 1012]) := rfl
theorem d203_63 : dec 203 63 = some (.iload 5, 2, []) := rfl
theorem d203_65 : dec 203 65 = some (.iastore, 1, []) := rfl
theorem d203_66 : dec 203 66 = some (.aload_n 0, 1, []) := rfl
theorem d203_67 : dec 203 67 = some (.dup, 1, []) := rfl
theorem d203_68 : dec 203 68 = some (.getfield 180, 3, [1, 10, 18, 0, 0, 1012]) := rfl
theorem d203_71 : dec 203 71 = some (.iconst 1, 1, [1]) := rfl
theorem d203_72 : dec 203 72 = some (.iadd, 1, []) := rfl
theorem d203_73 : dec 203 73 = some (.putfield 180, 3, [1, 10, 18, 0, 0, 1012]) := rfl
theorem d203_76 : dec 203 76 = some (.return_, 1, []) := rfl
theorem l203 : mL 203 = 6 := rfl
theorem c203 {d : Nat} {P : MP} {I : MI} {L : ML} {C : MC} {Q : QT} {p t k s : Nat} {x : Int32} {c : Nat → Nat → Bool} {g : GS} (hM : MB P) (hn : NR I g) (hv : TV g) (hl : LV g) (hp : I 150 18 = nI p) (hx : x = aset g c) (hd : 6 ≤ d) (ht : t < 3) (hp8 : p < 8) : CT d 203 [.ref 150, .int (nI t), .int x, .long (lN s), .int (nI k)] P I L C Q = Q (.inl none) P (xu (xu (xu (xu (xu (xu I 155 p (nI t)) 156 p (nI 0)) 157 p x) 158 p (nI (sm (g (3 + t)) (wS g c t)))) 160 p (nI k)) 150 18 (nI (p + 1))) (xu L 159 p (lN s)) C := by
  have hM' := hM
  obtain ⟨⟨k0, _⟩, ⟨a7, a8, a9, a10, a11, a12, a13, a14, a15, a16, a17⟩, ⟨b7, b8, b9, b10, b11, b12, b13, b14, b15, b16, b17⟩, _⟩ := hM'
  have h180 : ∀ Q, CT (d - 1) 180 [.ref 150, .int (nI t), .int x] P (xu (xu (xu I 155 p (nI t)) 156 p (nI 0)) 157 p x) L C Q = Q (.inl (some (.int (nI (sm (g (3 + t)) (wS g c t)))))) P (xu (xu (xu I 155 p (nI t)) 156 p (nI 0)) 157 p x) L C := fun Q => by
    rw [hx]
    exact c180 hM (NR_fr hn fun j => by rw [xu_n _ _ (by omega), xu_n _ _ (by omega), xu_n _ _ (by omega)]) hv hl (by omega) ht
  rw [CT_e (mj := 203) (e := [.ref 150, .int (nI t), .int x, .long (lN s), UN, .int (nI k)]) (by omega) rfl (Nat.le_of_ble_eq_true rfl)]
  simp (disch := first | assumption | omega) only [Nat.reduceAdd, X_go, go2_some, stp, ldI, ldA, ldL, stI, stA, stL, o1I, o2I, o2L, brI, brII, gl, s1, s2, k1, sl, go_sN, go_sR, go_CT, go_sT, go_no, go_if, pops, bk_v, bk_0, d203_0, d203_1, d203_4, d203_5, d203_8, d203_9, d203_10, d203_11, d203_14, d203_15, d203_18, d203_19, d203_20, d203_21, d203_24, d203_25, d203_28, d203_29, d203_30, d203_31, d203_34, d203_35, d203_38, d203_39, d203_40, d203_41, d203_44, d203_45, d203_46, d203_49, d203_50, d203_53, d203_54, d203_55, d203_56, d203_59, d203_60, d203_63, d203_65, d203_66, d203_67, d203_68, d203_71, d203_72, d203_73, d203_76, n_lt, n_le, n_eq, n_lt0, n_ge0, n_gt0, n_le0, n_eq0, m_lt, m_le, m_gt, m_ge, m_eq, m_eq', m_lt0, m_ge0, m_gt0, m_le0, m_ltm, m_lem, n_in, m_in, n_cl, n_ti, n_div, n_rem', n_dec, n_l, nI_add, pk_mul, an0, an1, decide_eq_true_eq, if_true, if_false, ite_true, ite_false, and_true, true_and, and_false, false_and, not_true, not_false_iff, or_false, false_or, or_true, true_or, eq_self, va_some, Bool.false_eq_true, reduceIte, catS_n, catS_i, catS_r, catS_l, catS_d, Nat.zero_add, Nat.add_zero, decide_true, decide_false, Nat.reduceLeDiff, cat_r, cat_i, cat_l, nle_T, nle_F, nlt_T, nlt_F, neq_T, neq_F, k0, a7, a8, a9, a10, a11, a12, b7, b8, b9, b10, b11, b12, hp, h180, xu_n]
  done
/-- the next of a set from e on -/
def nx (c : Nat → Bool) : Nat → Nat → Nat
  | 0, e => e
  | m + 1, e => if c e = true then e else nx c m (e + 1)
theorem nx_b {c : Nat → Bool} : ∀ m e, e ≤ nx c m e ∧ nx c m e ≤ e + m ∧ (nx c m e < e + m → c (nx c m e) = true) ∧ ∀ i, e ≤ i → i < nx c m e → c i = false := by
  intro m
  induction m with
  | zero => intro e; exact ⟨Nat.le_refl e, Nat.le_refl e, fun h => absurd h (Nat.lt_irrefl e), fun i h1 h2 => absurd h2 (Nat.not_lt.mpr h1)⟩
  | succ m ih =>
    intro e
    unfold nx
    by_cases z : c e = true
    · rw [if_pos z]
      exact ⟨Nat.le_refl e, by omega, fun _ => z, fun i h1 h2 => absurd h2 (Nat.not_lt.mpr h1)⟩
    · rw [if_neg z]
      obtain ⟨h1, h2, h3, h4⟩ := ih (e + 1)
      refine ⟨by omega, by omega, fun h => h3 (by omega), fun i q1 q2 => ?_⟩
      by_cases y : i = e
      · subst y; exact Bool.not_eq_true _ ▸ z
      · exact h4 i (by omega) q2
theorem sE_nx {f : Nat → CV} {c : Nat → Bool} (hf : ∀ i, c i = false → f i = cv0) : ∀ m e, sE f e m = sE f (nx c m e) (e + m - nx c m e) := by
  intro m
  induction m with
  | zero =>
    intro e
    show cv0 = sE f e (e + 0 - e)
    rw [show e + 0 - e = 0 by omega]
    rfl
  | succ m ih =>
    intro e
    unfold nx
    by_cases z : c e = true
    · rw [if_pos z, show e + (m + 1) - e = m + 1 by omega]
    · rw [if_neg z, sE_s, hf e (Bool.not_eq_true _ ▸ z), ih (e + 1), show e + 1 + m - nx c m (e + 1) = e + (m + 1) - nx c m (e + 1) by omega]
      funext i
      exact Int64.zero_add _
theorem d204_0 : dec 204 0 = some (.aload_n 0, 1, []) := rfl
theorem d204_1 : dec 204 1 = some (.getfield 180, 3, [1, 10, 18, 0, 0, 1012]) := rfl
theorem d204_4 : dec 204 4 = some (.iconst 1, 1, [1]) := rfl
theorem d204_5 : dec 204 5 = some (.isub, 1, []) := rfl
theorem d204_6 : dec 204 6 = some (.istore_n 1, 1, []) := rfl
theorem d204_7 : dec 204 7 = some (.aload_n 0, 1, []) := rfl
theorem d204_8 : dec 204 8 = some (.getfield 22, 3, [1, 10, 7, 2, 0, 1001]) := rfl
theorem d204_11 : dec 204 11 = some (.iload_n 1, 1, []) := rfl
theorem d204_12 : dec 204 12 = some (.iaload, 1, []) := rfl
theorem d204_13 : dec 204 13 = some (.istore_n 2, 1, []) := rfl
theorem d204_14 : dec 204 14 = some (.aload_n 0, 1, []) := rfl
theorem d204_15 : dec 204 15 = some (.getfield 25, 3, [1, 10, 8, 2, 0, 1002]) := rfl
theorem d204_18 : dec 204 18 = some (.iload_n 1, 1, []) := rfl
theorem d204_19 : dec 204 19 = some (.iaload, 1, []) := rfl
theorem d204_20 : dec 204 20 = some (.istore_n 3, 1, []) := rfl
theorem d204_21 : dec 204 21 = some (.iload_n 3, 1, []) := rfl
theorem d204_22 : dec 204 22 = some (.aload_n 0, 1, []) := rfl
theorem d204_23 : dec 204 23 = some (.getfield 7, 3, [1, 10, 0, 2, 0, 994]) := rfl
theorem d204_26 : dec 204 26 = some (.iconst 3, 1, [3]) := rfl
theorem d204_27 : dec 204 27 = some (.iload_n 2, 1, []) := rfl
theorem d204_28 : dec 204 28 = some (.iadd, 1, []) := rfl
theorem d204_29 : dec 204 29 = some (.iaload, 1, []) := rfl
theorem d204_30 : dec 204 30 = some (.if_icmp .ge 27, 3, [57]) := rfl
theorem d204_33 : dec 204 33 = some (.aload_n 0, 1, []) := rfl
theorem d204_34 : dec 204 34 = some (.getfield 28, 3, [1, 10, 9, 2, 0, 1003]) := rfl
theorem d204_37 : dec 204 37 = some (.iload_n 1, 1, []) := rfl
theorem d204_38 : dec 204 38 = some (.iaload, 1, []) := rfl
theorem d204_39 : dec 204 39 = some (.bipush 6, 2, [6]) := rfl
theorem d204_41 : dec 204 41 = some (.iload_n 2, 1, []) := rfl
theorem d204_42 : dec 204 42 = some (.imul, 1, []) := rfl
theorem d204_43 : dec 204 43 = some (.iload_n 3, 1, []) := rfl
theorem d204_44 : dec 204 44 = some (.iadd, 1, []) := rfl
theorem d204_45 : dec 204 45 = some (.ishr, 1, []) := rfl
theorem d204_46 : dec 204 46 = some (.iconst 1, 1, [1]) := rfl
theorem d204_47 : dec 204 47 = some (.iand, 1, []) := rfl
theorem d204_48 : dec 204 48 = some (.ifCond .ne 9, 3, [57]) := rfl
theorem d204_51 : dec 204 51 = some (.iinc 3 1, 3, [1]) := rfl
theorem d204_54 : dec 204 54 = some (.goto (-33), 3, [21]) := rfl
theorem d204_57 : dec 204 57 = some (.aload_n 0, 1, []) := rfl
theorem d204_58 : dec 204 58 = some (.getfield 25, 3, [1, 10, 8, 2, 0, 1002]) := rfl
theorem d204_61 : dec 204 61 = some (.iload_n 1, 1, []) := rfl
theorem d204_62 : dec 204 62 = some (.iload_n 3, 1, []) := rfl
theorem d204_63 : dec 204 63 = some (.iconst 1, 1, [1]) := rfl
theorem d204_64 : dec 204 64 = some (.iadd, 1, []) := rfl
theorem d204_65 : dec 204 65 = some (.iastore, 1, []) := rfl
theorem d204_66 : dec 204 66 = some (.iload_n 3, 1, []) := rfl
theorem d204_67 : dec 204 67 = some (.aload_n 0, 1, []) := rfl
theorem d204_68 : dec 204 68 = some (.getfield 7, 3, [1, 10, 0, 2, 0, 994]) := rfl
theorem d204_71 : dec 204 71 = some (.iconst 3, 1, [3]) := rfl
theorem d204_72 : dec 204 72 = some (.iload_n 2, 1, []) := rfl
theorem d204_73 : dec 204 73 = some (.iadd, 1, []) := rfl
theorem d204_74 : dec 204 74 = some (.iaload, 1, []) := rfl
theorem d204_75 : dec 204 75 = some (.if_icmp .ge 7, 3, [82]) := rfl
theorem d204_78 : dec 204 78 = some (.iload_n 3, 1, []) := rfl
theorem d204_79 : dec 204 79 = some (.goto 4, 3, [83]) := rfl
theorem d204_82 : dec 204 82 = some (.iconst (-1), 1, [4294967295]) := rfl
theorem d204_83 : dec 204 83 = some (.ireturn, 1, [0]) := rfl
theorem l204 : mL 204 = 4 := rfl
theorem f204 {d : Nat} {P : MP} {I : MI} {L : ML} {C : MC} {Q : QT} {p t : Nat} {x : Int32} {c : Nat → Nat → Bool} {g : GS} (hM : MB P) (hn : NR I g) (hv : TV g) (hx : x = aset g c) (h9 : I 157 p = x) (hd : 1 ≤ d) (ht : t < 3) (hp8 : p < 8) : ∀ m e, e + m = g (3 + t) → X d 204 21 [.ref 150, .int (nI p), .int (nI t), .int (nI e)] [] P I L C Q = X d 204 57 [.ref 150, .int (nI p), .int (nI t), .int (nI (nx (c t) m e))] [] P I L C Q := by
  have hM' := hM
  obtain ⟨⟨k0, p0, p1, p2, p5, y1, _⟩, ⟨a7, a8, a9, a10, a11, a12, a13, a14, a15, a16, a17⟩, ⟨b7, b8, b9, b10, b11, b12, b13, b14, b15, b16, b17⟩, _⟩ := hM'
  have hc := hv.2.1 t ht
  have hnc := hn (3 + t) (by omega)
  intro m
  induction m with
  | zero =>
    intro e h
    have : e = g (3 + t) := by omega
    subst this
    have e1 : nx (c t) 0 (g (3 + t)) = g (3 + t) := rfl
    rw [e1, X_go, d204_21]
    simp (disch := first | assumption | omega) only [Nat.reduceAdd, X_go, go2_some, stp, ldI, ldA, ldL, stI, stA, stL, o1I, o2I, o2L, brI, brII, gl, s1, s2, k1, sl, go_sN, go_sR, go_CT, go_sT, go_no, go_if, pops, bk_v, bk_0, d204_0, d204_1, d204_4, d204_5, d204_6, d204_7, d204_8, d204_11, d204_12, d204_13, d204_14, d204_15, d204_18, d204_19, d204_20, d204_22, d204_23, d204_26, d204_27, d204_28, d204_29, d204_30, d204_33, d204_34, d204_37, d204_38, d204_39, d204_41, d204_42, d204_43, d204_44, d204_45, d204_46, d204_47, d204_48, d204_51, d204_54, d204_58, d204_61, d204_62, d204_63, d204_64, d204_65, d204_66, d204_67, d204_68, d204_71, d204_72, d204_73, d204_74, d204_75, d204_78, d204_79, d204_82, d204_83, n_lt, n_le, n_eq, n_lt0, n_ge0, n_gt0, n_le0, n_eq0, m_lt, m_le, m_gt, m_ge, m_eq, m_eq', m_lt0, m_ge0, m_gt0, m_le0, m_ltm, m_lem, n_in, m_in, n_cl, n_ti, n_div, n_rem', n_dec, n_l, nI_add, pk_mul, an0, an1, decide_eq_true_eq, if_true, if_false, ite_true, ite_false, and_true, true_and, and_false, false_and, not_true, not_false_iff, or_false, false_or, or_true, true_or, eq_self, va_some, Bool.false_eq_true, reduceIte, catS_n, catS_i, catS_r, catS_l, catS_d, Nat.zero_add, Nat.add_zero, decide_true, decide_false, Nat.reduceLeDiff, cat_r, cat_i, cat_l, nle_T, nle_F, nlt_T, nlt_F, neq_T, neq_F, k0, p0, y1, hnc]
  | succ m ih =>
    intro e h
    have he : e < g (3 + t) := by omega
    have ht1 := b_tst (x := x) (n := 6 * t + e) (by omega)
    rw [hx, as_b ht (by omega), decide_eq_true he, Bool.true_and, ← hx] at ht1
    by_cases z : c t e = true
    · have e1 : nx (c t) (m + 1) e = e := if_pos z
      rw [if_pos z] at ht1
      rw [e1, X_go, d204_21]
      simp (disch := first | assumption | omega) only [Nat.reduceAdd, X_go, go2_some, stp, ldI, ldA, ldL, stI, stA, stL, o1I, o2I, o2L, brI, brII, gl, s1, s2, k1, sl, go_sN, go_sR, go_CT, go_sT, go_no, go_if, pops, bk_v, bk_0, d204_0, d204_1, d204_4, d204_5, d204_6, d204_7, d204_8, d204_11, d204_12, d204_13, d204_14, d204_15, d204_18, d204_19, d204_20, d204_22, d204_23, d204_26, d204_27, d204_28, d204_29, d204_30, d204_33, d204_34, d204_37, d204_38, d204_39, d204_41, d204_42, d204_43, d204_44, d204_45, d204_46, d204_47, d204_48, d204_51, d204_54, d204_58, d204_61, d204_62, d204_63, d204_64, d204_65, d204_66, d204_67, d204_68, d204_71, d204_72, d204_73, d204_74, d204_75, d204_78, d204_79, d204_82, d204_83, n_lt, n_le, n_eq, n_lt0, n_ge0, n_gt0, n_le0, n_eq0, m_lt, m_le, m_gt, m_ge, m_eq, m_eq', m_lt0, m_ge0, m_gt0, m_le0, m_ltm, m_lem, n_in, m_in, n_cl, n_ti, n_div, n_rem', n_dec, n_l, nI_add, pk_mul, an0, an1, decide_eq_true_eq, if_true, if_false, ite_true, ite_false, and_true, true_and, and_false, false_and, not_true, not_false_iff, or_false, false_or, or_true, true_or, eq_self, va_some, Bool.false_eq_true, reduceIte, catS_n, catS_i, catS_r, catS_l, catS_d, Nat.zero_add, Nat.add_zero, decide_true, decide_false, Nat.reduceLeDiff, cat_r, cat_i, cat_l, nle_T, nle_F, nlt_T, nlt_F, neq_T, neq_F, k0, p0, y1, hnc, a9, b9, h9, ht1]
    · have e1 : nx (c t) (m + 1) e = nx (c t) m (e + 1) := if_neg z
      rw [if_neg z] at ht1
      rw [e1, ← ih (e + 1) (by omega), X_go, d204_21]
      simp (disch := first | assumption | omega) only [Nat.reduceAdd, X_go, go2_some, stp, ldI, ldA, ldL, stI, stA, stL, o1I, o2I, o2L, brI, brII, gl, s1, s2, k1, sl, go_sN, go_sR, go_CT, go_sT, go_no, go_if, pops, bk_v, bk_0, d204_0, d204_1, d204_4, d204_5, d204_6, d204_7, d204_8, d204_11, d204_12, d204_13, d204_14, d204_15, d204_18, d204_19, d204_20, d204_22, d204_23, d204_26, d204_27, d204_28, d204_29, d204_30, d204_33, d204_34, d204_37, d204_38, d204_39, d204_41, d204_42, d204_43, d204_44, d204_45, d204_46, d204_47, d204_48, d204_51, d204_54, d204_58, d204_61, d204_62, d204_63, d204_64, d204_65, d204_66, d204_67, d204_68, d204_71, d204_72, d204_73, d204_74, d204_75, d204_78, d204_79, d204_82, d204_83, n_lt, n_le, n_eq, n_lt0, n_ge0, n_gt0, n_le0, n_eq0, m_lt, m_le, m_gt, m_ge, m_eq, m_eq', m_lt0, m_ge0, m_gt0, m_le0, m_ltm, m_lem, n_in, m_in, n_cl, n_ti, n_div, n_rem', n_dec, n_l, nI_add, pk_mul, an0, an1, decide_eq_true_eq, if_true, if_false, ite_true, ite_false, and_true, true_and, and_false, false_and, not_true, not_false_iff, or_false, false_or, or_true, true_or, eq_self, va_some, Bool.false_eq_true, reduceIte, catS_n, catS_i, catS_r, catS_l, catS_d, Nat.zero_add, Nat.add_zero, decide_true, decide_false, Nat.reduceLeDiff, cat_r, cat_i, cat_l, nle_T, nle_F, nlt_T, nlt_F, neq_T, neq_F, k0, p0, y1, hnc, a9, b9, h9, ht1]
      done
theorem c204 {d : Nat} {P : MP} {I : MI} {L : ML} {C : MC} {Q : QT} {p t e m : Nat} {x : Int32} {c : Nat → Nat → Bool} {g : GS} (hM : MB P) (hn : NR I g) (hv : TV g) (hp : I 150 18 = nI (p + 1)) (h7 : I 155 p = nI t) (h8 : I 156 p = nI e) (h9 : I 157 p = x) (hx : x = aset g c) (hm : e + m = g (3 + t)) (hd : 2 ≤ d) (ht : t < 3) (hp8 : p < 8) : CT d 204 [.ref 150] P I L C Q = Q (.inl (some (.int (if nx (c t) m e < g (3 + t) then nI (nx (c t) m e) else nI 4294967295)))) P (xu I 156 p (nI (nx (c t) m e + 1))) L C := by
  have hM' := hM
  obtain ⟨⟨k0, p0, p1, p2, p5, y1, _⟩, ⟨a7, a8, a9, a10, a11, a12, a13, a14, a15, a16, a17⟩, ⟨b7, b8, b9, b10, b11, b12, b13, b14, b15, b16, b17⟩, _⟩ := hM'
  have hc := hv.2.1 t ht
  have hnc := hn (3 + t) (by omega)
  have hb := (nx_b (c := c t) m e).2.1
  have h := f204 (d := d - 1) (L := L) (C := C) (Q := Q) hM hn hv hx h9 (by omega) ht hp8 m e hm
  rw [CT_e (mj := 204) (e := [.ref 150, UN, UN, UN]) (by omega) rfl (Nat.le_of_ble_eq_true rfl)]
  simp (disch := first | assumption | omega) only [Nat.reduceAdd, X_go, go2_some, stp, ldI, ldA, ldL, stI, stA, stL, o1I, o2I, o2L, brI, brII, gl, s1, s2, k1, sl, go_sN, go_sR, go_CT, go_sT, go_no, go_if, pops, bk_v, bk_0, d204_0, d204_1, d204_4, d204_5, d204_6, d204_7, d204_8, d204_11, d204_12, d204_13, d204_14, d204_15, d204_18, d204_19, d204_20, d204_22, d204_23, d204_26, d204_27, d204_28, d204_29, d204_30, d204_33, d204_34, d204_37, d204_38, d204_39, d204_41, d204_42, d204_43, d204_44, d204_45, d204_46, d204_47, d204_48, d204_51, d204_54, d204_58, d204_61, d204_62, d204_63, d204_64, d204_65, d204_66, d204_67, d204_68, d204_71, d204_72, d204_73, d204_74, d204_75, d204_78, d204_79, d204_82, d204_83, n_lt, n_le, n_eq, n_lt0, n_ge0, n_gt0, n_le0, n_eq0, m_lt, m_le, m_gt, m_ge, m_eq, m_eq', m_lt0, m_ge0, m_gt0, m_le0, m_ltm, m_lem, n_in, m_in, n_cl, n_ti, n_div, n_rem', n_dec, n_l, nI_add, pk_mul, an0, an1, decide_eq_true_eq, if_true, if_false, ite_true, ite_false, and_true, true_and, and_false, false_and, not_true, not_false_iff, or_false, false_or, or_true, true_or, eq_self, va_some, Bool.false_eq_true, reduceIte, catS_n, catS_i, catS_r, catS_l, catS_d, Nat.zero_add, Nat.add_zero, decide_true, decide_false, Nat.reduceLeDiff, cat_r, cat_i, cat_l, nle_T, nle_F, nlt_T, nlt_F, neq_T, neq_F, n_sub, Nat.add_sub_cancel, k0, a7, a8, b7, b8, hp, h7, h8]
  simp only [← X_go]
  rw [h, X_go, d204_57]
  by_cases z : nx (c t) m e < g (3 + t)
  · simp (disch := first | assumption | omega) only [Nat.reduceAdd, X_go, go2_some, stp, ldI, ldA, ldL, stI, stA, stL, o1I, o2I, o2L, brI, brII, gl, s1, s2, k1, sl, go_sN, go_sR, go_CT, go_sT, go_no, go_if, pops, bk_v, bk_0, d204_0, d204_1, d204_4, d204_5, d204_6, d204_7, d204_8, d204_11, d204_12, d204_13, d204_14, d204_15, d204_18, d204_19, d204_20, d204_22, d204_23, d204_26, d204_27, d204_28, d204_29, d204_30, d204_33, d204_34, d204_37, d204_38, d204_39, d204_41, d204_42, d204_43, d204_44, d204_45, d204_46, d204_47, d204_48, d204_51, d204_54, d204_58, d204_61, d204_62, d204_63, d204_64, d204_65, d204_66, d204_67, d204_68, d204_71, d204_72, d204_73, d204_74, d204_75, d204_78, d204_79, d204_82, d204_83, n_lt, n_le, n_eq, n_lt0, n_ge0, n_gt0, n_le0, n_eq0, m_lt, m_le, m_gt, m_ge, m_eq, m_eq', m_lt0, m_ge0, m_gt0, m_le0, m_ltm, m_lem, n_in, m_in, n_cl, n_ti, n_div, n_rem', n_dec, n_l, nI_add, pk_mul, an0, an1, decide_eq_true_eq, if_true, if_false, ite_true, ite_false, and_true, true_and, and_false, false_and, not_true, not_false_iff, or_false, false_or, or_true, true_or, eq_self, va_some, Bool.false_eq_true, reduceIte, catS_n, catS_i, catS_r, catS_l, catS_d, Nat.zero_add, Nat.add_zero, decide_true, decide_false, Nat.reduceLeDiff, cat_r, cat_i, cat_l, nle_T, nle_F, nlt_T, nlt_F, neq_T, neq_F, k0, p0, y1, a8, b8, hnc, xu_n, z]
    done
  · simp (disch := first | assumption | omega) only [Nat.reduceAdd, X_go, go2_some, stp, ldI, ldA, ldL, stI, stA, stL, o1I, o2I, o2L, brI, brII, gl, s1, s2, k1, sl, go_sN, go_sR, go_CT, go_sT, go_no, go_if, pops, bk_v, bk_0, d204_0, d204_1, d204_4, d204_5, d204_6, d204_7, d204_8, d204_11, d204_12, d204_13, d204_14, d204_15, d204_18, d204_19, d204_20, d204_22, d204_23, d204_26, d204_27, d204_28, d204_29, d204_30, d204_33, d204_34, d204_37, d204_38, d204_39, d204_41, d204_42, d204_43, d204_44, d204_45, d204_46, d204_47, d204_48, d204_51, d204_54, d204_58, d204_61, d204_62, d204_63, d204_64, d204_65, d204_66, d204_67, d204_68, d204_71, d204_72, d204_73, d204_74, d204_75, d204_78, d204_79, d204_82, d204_83, n_lt, n_le, n_eq, n_lt0, n_ge0, n_gt0, n_le0, n_eq0, m_lt, m_le, m_gt, m_ge, m_eq, m_eq', m_lt0, m_ge0, m_gt0, m_le0, m_ltm, m_lem, n_in, m_in, n_cl, n_ti, n_div, n_rem', n_dec, n_l, nI_add, pk_mul, an0, an1, decide_eq_true_eq, if_true, if_false, ite_true, ite_false, and_true, true_and, and_false, false_and, not_true, not_false_iff, or_false, false_or, or_true, true_or, eq_self, va_some, Bool.false_eq_true, reduceIte, catS_n, catS_i, catS_r, catS_l, catS_d, Nat.zero_add, Nat.add_zero, decide_true, decide_false, Nat.reduceLeDiff, cat_r, cat_i, cat_l, nle_T, nle_F, nlt_T, nlt_F, neq_T, neq_F, k0, p0, y1, a8, b8, hnc, xu_n, z]
    done
theorem ItR_0 {its : Int32} {k w0 w1 : Nat} (h : ItR its k w0 w1) (hk : k ≤ 1) : ItR its (k + 1) (if k = 0 then 0 else w0) (if k = 0 then w1 else 0) := by
  intro i hi
  rw [h i hi]
  by_cases z : k = 0
  · subst z
    rw [if_pos rfl, if_pos rfl]
    exact decide_eq_decide.mpr (by omega)
  · rw [if_neg z, if_neg z]
    exact decide_eq_decide.mpr (by omega)
theorem ItR_s {its : Int32} {k w0 w1 it : Nat} (h : ItR its k w0 w1) (hk : k ≤ 1) (hit : it < 16) : ItR (its ||| (nI 1 <<< (nI it &&& 31))) (k + 1) (if k = 0 then it + 1 else w0) (if k = 0 then w1 else it + 1) := by
  intro i hi
  rw [b_or, b_one (by omega) (by omega), h i hi]
  by_cases z : k = 0
  · subst z
    rw [if_pos rfl, if_pos rfl, ← Bool.decide_or]
    exact decide_eq_decide.mpr (by omega)
  · rw [if_neg z, if_neg z, ← Bool.decide_or]
    exact decide_eq_decide.mpr (by omega)
theorem mnV_0 {k w0 w1 : Nat} (hk : k ≤ 1) : mnV (k + 1) (if k = 0 then 0 else w0) (if k = 0 then w1 else 0) = mnV k w0 w1 := by
  unfold mnV
  by_cases z : k = 0
  · subst z
    rw [if_pos rfl, if_pos rfl, if_neg (by omega), if_neg (by omega), if_neg (by omega), if_neg (by omega)]
  · have : k = 1 := by omega
    subst this
    rw [if_neg (show ¬ (1 : Nat) = 0 by omega), if_neg (show ¬ (1 : Nat) = 0 by omega), if_neg (show ¬ (2 ≤ 1 + 1 ∧ 0 < 0) by omega), if_neg (show ¬ (2 ≤ 1 ∧ 0 < w1) by omega)]
    congr 1
    by_cases y : 0 < w0
    · rw [if_pos ⟨by omega, y⟩, if_pos ⟨by omega, y⟩]
    · rw [if_neg (fun q => y q.2), if_neg (fun q => y q.2)]
theorem mnV_s {k w0 w1 it : Nat} (hk : k ≤ 1) : mnV (k + 1) (if k = 0 then it + 1 else w0) (if k = 0 then w1 else it + 1) = mnV k w0 w1 + 1 := by
  unfold mnV
  by_cases z : k = 0
  · subst z
    rw [if_pos rfl, if_pos rfl, if_pos (by omega), if_neg (by omega), if_neg (by omega), if_neg (by omega)]
  · have : k = 1 := by omega
    subst this
    rw [if_neg (show ¬ (1 : Nat) = 0 by omega), if_neg (show ¬ (1 : Nat) = 0 by omega), if_pos (show (2 ≤ 1 + 1 ∧ 0 < it + 1) by omega), if_neg (show ¬ (2 ≤ 1 ∧ 0 < w1) by omega)]
    by_cases y : 0 < w0
    · rw [if_pos ⟨by omega, y⟩, if_pos ⟨by omega, y⟩]
    · rw [if_neg (fun q => y q.2), if_neg (fun q => y q.2)]
theorem mnV_b {k w0 w1 : Nat} : mnV k w0 w1 ≤ 2 := by
  unfold mnV
  split <;> split <;> omega
