/-! CALLS of the class: the share, the digest -/
def lsV (g : GS) : UInt64 := if g 122 = 0 then FP.dconst0 else FP.ddiv (FP.i2d (nI (difO g (g 140)))) (FP.i2d (nI (g 122)))
theorem difO_b {g : GS} {n : Nat} : difO g n ≤ n := by
  have := sm_le (n := n) (b := 1) (f := fun i => if i = 0 ∨ g (141 + 3 * i + 2) ≠ g (141 + 3 * (i - 1) + 2) then 1 else 0) (fun i hi => by split <;> omega)
  unfold difO
  omega
theorem d31_0 : dec 31 0 = some (.aload_n 0, 1, []) := rfl
theorem d31_1 : dec 31 1 = some (.getfield 12, 3, [1, 9, 0, 2, 0, 271]) := rfl
theorem d31_4 : dec 31 4 = some (.getfield 174, 3, [1, 6, 2, 2, 1, 149]) := rfl
theorem d31_7 : dec 31 7 = some (.getfield 216, 3, [1, 2, 4, 0, 1, 122]) := rfl
theorem d31_10 : dec 31 10 = some (.istore_n 1, 1, []) := rfl
theorem d31_11 : dec 31 11 = some (.iload_n 1, 1, []) := rfl
theorem d31_12 : dec 31 12 = some (.ifCond .gt 5, 3, [17]) := rfl
theorem d31_15 : dec 31 15 = some (.dconst 0, 1, []) := rfl
theorem d31_16 : dec 31 16 = some (.dreturn, 1, []) := rfl
theorem d31_17 : dec 31 17 = some (.aload_n 0, 1, []) := rfl
theorem d31_18 : dec 31 18 = some (.getfield 12, 3, [1, 9, 0, 2, 0, 271]) := rfl
theorem d31_21 : dec 31 21 = some (.getfield 174, 3, [1, 6, 2, 2, 1, 149]) := rfl
theorem d31_24 : dec 31 24 = some (.invokevirtual 219, 3, [2, 32, 2, 2, 0, 387]) := rfl
theorem d31_27 : dec 31 27 = some (.i2d, 1, []) := rfl
theorem d31_28 : dec 31 28 = some (.iload_n 1, 1, []) := rfl
theorem d31_29 : dec 31 29 = some (.i2d, 1, []) := rfl
theorem d31_30 : dec 31 30 = some (.ddiv, 1, []) := rfl
theorem d31_31 : dec 31 31 = some (.dreturn, 1, []) := rfl
theorem c31 {d : Nat} {P : MP} {I : MI} {L : ML} {C : MC} {Q : QT} {B n len : Nat} {g : GS} {ps : Nat → GS} {tx : Nat → Nat} (hX : XB P) (hR : XR I L g n ps len tx) (hA : AV B g n ps len tx) (hB : B ≤ 1000000) (hd : 6 ≤ d) : CT d 31 [.ref 1] P I L C Q = Q (.inl (some (.double (lsV g)))) P I L C := by
  have hX' := hX
  obtain ⟨k0, ⟨p0, p1, p2, p3, p4, p5, p6, p7, p8⟩, hS, hS2, hV, ⟨x0, x1, x2⟩, hT2, hO, hD, hH, hH2⟩ := hX'
  have hS' := hS
  obtain ⟨l0, r0, r1, r2, hT, hK, hF⟩ := hS'
  have hT' := hT
  have hK' := hK
  have hF' := hF
  have hR' := hR
  have hA' := hA
  obtain ⟨⟨m0, q0, q1, q2, q3, q4, q5, q6, q7⟩, z1, z2, z3, z4, z5, z6, z7, z8⟩ := hT'
  obtain ⟨w0, w1, w2, w3, w4⟩ := hK'
  obtain ⟨f0, f1, f2, f3, f4, f5, f6, f7, f8⟩ := hF'
  obtain ⟨hg, hVR, hXT, hCC⟩ := hR'
  obtain ⟨hGV, hps, hn4, hlen, htx⟩ := hA'
  have h140 := GV_140 hGV
  have hv := hGV.1
  have hl := hGV.2.1
  have hFv := hGV.2.2
  have e2 : I 15 4 = nI (g 122) := hg.2.2.2.1
  have hb := difO_b (g := g) (n := g 140)
  have hb2 := hFv.1
  unfold lsV
  rw [CT_e (mj := 31) (e := [.ref 1, UN]) (by omega) rfl (Nat.le_of_ble_eq_true rfl)]
  by_cases z : g 122 = 0
  · simp (disch := first | assumption | omega) only [Nat.reduceAdd, X_go, go2_some, stp, ldI, ldA, ldL, stI, stA, stL, o1I, o2I, o2L, brI, brII, gl, s1, s2, k1, sl, go_sN, go_sR, go_CT, go_sT, go_no, go_if, pops, bk_v, bk_0, d31_0, d31_1, d31_4, d31_7, d31_10, d31_11, d31_12, d31_15, d31_16, d31_17, d31_18, d31_21, d31_24, d31_27, d31_28, d31_29, d31_30, d31_31, n_lt, n_le, n_eq, n_lt0, n_ge0, n_gt0, n_le0, n_eq0, m_lt, m_le, m_gt, m_ge, m_eq, m_eq', m_lt0, m_ge0, m_gt0, m_le0, m_ltm, m_lem, n_in, m_in, n_cl, n_ti, n_div, n_rem', n_dec, n_l, nI_add, pk_mul, an0, an1, decide_eq_true_eq, if_true, if_false, ite_true, ite_false, and_true, true_and, and_false, false_and, not_true, not_false_iff, or_false, false_or, or_true, true_or, eq_self, va_some, Bool.false_eq_true, reduceIte, catS_n, catS_i, catS_r, catS_l, catS_d, Nat.zero_add, Nat.add_zero, decide_true, decide_false, Nat.reduceLeDiff, cat_r, cat_i, cat_l, nle_T, nle_F, nlt_T, nlt_F, neq_T, neq_F, k0, p0, p1, p2, p3, p4, p5, p6, p7, p8, x0, x1, x2, l0, r0, r1, r2, m0, q0, q1, q2, q3, q4, q5, q6, q7, w0, w1, w2, f0, f1, f2, f3, f4, e2, z]
  · have hnn := dd_ok (a := difO g (g 140)) (b := g 122) (by omega) (by omega) (by omega)
    simp (disch := first | assumption | omega) only [Nat.reduceAdd, X_go, go2_some, stp, ldI, ldA, ldL, stI, stA, stL, o1I, o2I, o2L, brI, brII, gl, s1, s2, k1, sl, go_sN, go_sR, go_CT, go_sT, go_no, go_if, pops, bk_v, bk_0, d31_0, d31_1, d31_4, d31_7, d31_10, d31_11, d31_12, d31_15, d31_16, d31_17, d31_18, d31_21, d31_24, d31_27, d31_28, d31_29, d31_30, d31_31, n_lt, n_le, n_eq, n_lt0, n_ge0, n_gt0, n_le0, n_eq0, m_lt, m_le, m_gt, m_ge, m_eq, m_eq', m_lt0, m_ge0, m_gt0, m_le0, m_ltm, m_lem, n_in, m_in, n_cl, n_ti, n_div, n_rem', n_dec, n_l, nI_add, pk_mul, an0, an1, decide_eq_true_eq, if_true, if_false, ite_true, ite_false, and_true, true_and, and_false, false_and, not_true, not_false_iff, or_false, false_or, or_true, true_or, eq_self, va_some, Bool.false_eq_true, reduceIte, catS_n, catS_i, catS_r, catS_l, catS_d, Nat.zero_add, Nat.add_zero, decide_true, decide_false, Nat.reduceLeDiff, cat_r, cat_i, cat_l, nle_T, nle_F, nlt_T, nlt_F, neq_T, neq_F, k0, p0, p1, p2, p3, p4, p5, p6, p7, p8, x0, x1, x2, l0, r0, r1, r2, m0, q0, q1, q2, q3, q4, q5, q6, q7, w0, w1, w2, f0, f1, f2, f3, f4, e2, z, c32 hF hg.2.2 hFv hB, hnn]
def mx (h v : Int64) : Int64 := lN 31 * h + v
def mxs (f : Nat → Int64) : Nat → Int64 → Int64
  | 0, h => h
  | n + 1, h => mx (mxs f n h) (f n)
theorem mxs_s {f : Nat → Int64} {n : Nat} {h : Int64} : mxs f (n + 1) h = lN 31 * mxs f n h + f n := rfl
theorem mxs_c {f f' : Nat → Int64} {h : Int64} : ∀ {n}, (∀ i, i < n → f i = f' i) → mxs f n h = mxs f' n h := by
  intro n
  induction n with
  | zero => intro _; rfl
  | succ n ih => intro q; rw [mxs_s, mxs_s, ih (fun i hi => q i (by omega)), q n (by omega)]
def tF (g : GS) (t w : Nat) : Int64 := (nI (tV g t w)).toInt64
def eF (g : GS) (t k : Nat) : Int64 := (nI (eV g t (k / 8) (k % 8))).toInt64
def tabM (g : GS) (t : Nat) (h : Int64) : Int64 := mxs (eF g t) (8 * g (3 + t)) (mxs (tF g t) 4 h)
def vF (g : GS) (w : Nat) : Int64 := (nI (vV g w)).toInt64
def coF (g : GS) (k : Nat) : Int64 := if k % 2 = 0 then (nI (g (114 + k / 2))).toInt64 else (nI (g (117 + k / 2))).toInt64
def dgT (g : GS) : Nat → Int64 → Int64
  | 0, h => h
  | t + 1, h => mxs (raV (chV g t)) 4 (tabM g t (dgT g t h))
def oF (g : GS) (i : Nat) : Int64 := (nI (g (124 + i))).toInt64
def kF (g : GS) (k : Nat) : Int64 := (nI (g (141 + k))).toInt64
def digV (g : GS) (n len : Nat) : Int64 := mx (mxs (kF g) (3 * g 140) (mxs (oF g) 16 (dgT g 3 (mxs (coF g) 6 (mxs (vF g) 8 (mx (lN 3361) (nI len).toInt64)))))) (nI n).toInt64
theorem d61_0 : dec 61 0 = some (.lload_n 1, 1, []) := rfl
theorem d61_1 : dec 61 1 = some (.lstore 4, 2, []) := rfl
theorem d61_3 : dec 61 3 = some (.iconst 0, 1, [0]) := rfl
theorem d61_4 : dec 61 4 = some (.istore 6, 2, []) := rfl
theorem d61_6 : dec 61 6 = some (.iload 6, 2, []) := rfl
theorem d61_8 : dec 61 8 = some (.iconst 4, 1, [4]) := rfl
theorem d61_9 : dec 61 9 = some (.if_icmp .ge 24, 3, [33]) := rfl
theorem d61_12 : dec 61 12 = some (.lload 4, 2, []) := rfl
theorem d61_14 : dec 61 14 = some (.aload_n 0, 1, []) := rfl
theorem d61_15 : dec 61 15 = some (.iload_n 3, 1, []) := rfl
theorem d61_16 : dec 61 16 = some (.iload 6, 2, []) := rfl
theorem d61_18 : dec 61 18 = some (.invokevirtual 135, 3, [2, 62, 2, 9, 0, 511, 0, 0]) := rfl
theorem d61_21 : dec 61 21 = some (.i2l, 1, []) := rfl
theorem d61_22 : dec 61 22 = some (.invokestatic 268, 3, [2, 58, 0, 9, 0, 492, 1, 1]) := rfl
theorem d61_25 : dec 61 25 = some (.lstore 4, 2, []) := rfl
theorem d61_27 : dec 61 27 = some (.iinc 6 1, 3, [1]) := rfl
theorem d61_30 : dec 61 30 = some (.goto (-24), 3, [6]) := rfl
theorem d61_33 : dec 61 33 = some (.iconst 0, 1, [0]) := rfl
theorem d61_34 : dec 61 34 = some (.istore 6, 2, []) := rfl
theorem d61_36 : dec 61 36 = some (.iload 6, 2, []) := rfl
theorem d61_38 : dec 61 38 = some (.aload_n 0, 1, []) := rfl
theorem d61_39 : dec 61 39 = some (.getfield 12, 3, [1, 9, 0, 2, 0, 271]) := rfl
theorem d61_42 : dec 61 42 = some (.getfield 75, 3, [1, 6, 0, 2, 1, 140]) := rfl
theorem d61_45 : dec 61 45 = some (.iload_n 3, 1, []) := rfl
theorem d61_46 : dec 61 46 = some (.invokevirtual 101, 3, [2, 25, 2, 7, 0, 515, 0]) := rfl
theorem d61_49 : dec 61 49 = some (.if_icmp .ge 42, 3, [91]) := rfl
theorem d61_52 : dec 61 52 = some (.iconst 0, 1, [0]) := rfl
theorem d61_53 : dec 61 53 = some (.istore 7, 2, []) := rfl
theorem d61_55 : dec 61 55 = some (.iload 7, 2, []) := rfl
theorem d61_57 : dec 61 57 = some (.bipush 8, 2, [8]) := rfl
theorem d61_59 : dec 61 59 = some (.if_icmp .ge 26, 3, [85]) := rfl
theorem d61_62 : dec 61 62 = some (.lload 4, 2, []) := rfl
theorem d61_64 : dec 61 64 = some (.aload_n 0, 1, []) := rfl
theorem d61_65 : dec 61 65 = some (.iload_n 3, 1, []) := rfl
theorem d61_66 : dec 61 66 = some (.iload 6, 2, []) := rfl
theorem d61_68 : dec 61 68 = some (.iload 7, 2, []) := rfl
theorem d61_70 : dec 61 70 = some (.invokevirtual 131, 3, [2, 73, 2, 9, 0, 562, 0, 0, 0]) := rfl
theorem d61_73 : dec 61 73 = some (.i2l, 1, []) := rfl
theorem d61_74 : dec 61 74 = some (.invokestatic 268, 3, [2, 58, 0, 9, 0, 492, 1, 1]) := rfl
theorem d61_77 : dec 61 77 = some (.lstore 4, 2, []) := rfl
theorem d61_79 : dec 61 79 = some (.iinc 7 1, 3, [1]) := rfl
theorem d61_82 : dec 61 82 = some (.goto (-27), 3, [55]) := rfl
theorem d61_85 : dec 61 85 = some (.iinc 6 1, 3, [1]) := rfl
theorem d61_88 : dec 61 88 = some (.goto (-52), 3, [36]) := rfl
theorem d61_91 : dec 61 91 = some (.lload 4, 2, []) := rfl
theorem d61_93 : dec 61 93 = some (.lreturn, 1, []) := rfl
theorem l61 : mL 61 = 8 := rfl
theorem f61a {d : Nat} {P : MP} {L : ML} {C : MC} {t : Nat} {h : Int64} {B n len : Nat} {g : GS} {ps : Nat → GS} {tx : Nat → Nat} {u : Value} (hX : XB P) (hA : AV B g n ps len tx) (hd : 11 ≤ d) (ht : t < 3) : ∀ m w (I : MI), w + m = 4 → XR I L g n ps len tx → ∃ I', XR I' L g n ps len tx ∧ fo I I' ∧ ∀ Q, X d 61 6 [.ref 1, .long h, UN, .int (nI t), .long (mxs (tF g t) w h), UN, .int (nI w), u] [] P I L C Q = X d 61 33 [.ref 1, .long h, UN, .int (nI t), .long (mxs (tF g t) 4 h), UN, .int (nI 4), u] [] P I' L C Q := by
  have k0 := hX.1
  intro m
  induction m with
  | zero =>
    intro w I hw hR
    have : w = 4 := by omega
    subst this
    refine ⟨I, hR, fo_r, fun Q => ?_⟩
    rw [X_go, d61_6]
    simp (disch := first | assumption | omega) only [Nat.reduceAdd, X_go, go2_some, stp, ldI, ldA, ldL, stI, stA, stL, o1I, o2I, o2L, brI, brII, gl, s1, s2, k1, sl, go_sN, go_sR, go_CT, go_sT, go_no, go_if, pops, bk_v, bk_0, d61_0, d61_1, d61_3, d61_4, d61_8, d61_9, d61_12, d61_14, d61_15, d61_16, d61_18, d61_21, d61_22, d61_25, d61_27, d61_30, d61_34, d61_36, d61_38, d61_39, d61_42, d61_45, d61_46, d61_49, d61_52, d61_53, d61_55, d61_57, d61_59, d61_62, d61_64, d61_65, d61_66, d61_68, d61_70, d61_73, d61_74, d61_77, d61_79, d61_82, d61_85, d61_88, d61_91, d61_93, n_lt, n_le, n_eq, n_lt0, n_ge0, n_gt0, n_le0, n_eq0, m_lt, m_le, m_gt, m_ge, m_eq, m_eq', m_lt0, m_ge0, m_gt0, m_le0, m_ltm, m_lem, n_in, m_in, n_cl, n_ti, n_div, n_rem', n_dec, n_l, nI_add, pk_mul, an0, an1, decide_eq_true_eq, if_true, if_false, ite_true, ite_false, and_true, true_and, and_false, false_and, not_true, not_false_iff, or_false, false_or, or_true, true_or, eq_self, va_some, Bool.false_eq_true, reduceIte, catS_n, catS_i, catS_r, catS_l, catS_d, Nat.zero_add, Nat.add_zero, decide_true, decide_false, Nat.reduceLeDiff, cat_r, cat_i, cat_l, nle_T, nle_F, nlt_T, nlt_F, neq_T, neq_F]
  | succ m ih =>
    intro w I hw hR
    obtain ⟨J, i1, i2, i3⟩ := c62 (d := d) (C := C) hX hR hA (by omega) ht (show w < 4 by omega)
    obtain ⟨I', a1, a2, a3⟩ := ih (w + 1) J (by omega) i1
    refine ⟨I', a1, fun k j q => by rw [a2 k j q, i2 k j q], fun Q => ?_⟩
    have e1 : (nI (tV g t w)).toInt64 = tF g t w := rfl
    rw [← a3, mxs_s, X_go, d61_6]
    simp (disch := first | assumption | omega) only [Nat.reduceAdd, X_go, go2_some, stp, ldI, ldA, ldL, stI, stA, stL, o1I, o2I, o2L, brI, brII, gl, s1, s2, k1, sl, go_sN, go_sR, go_CT, go_sT, go_no, go_if, pops, bk_v, bk_0, d61_0, d61_1, d61_3, d61_4, d61_8, d61_9, d61_12, d61_14, d61_15, d61_16, d61_18, d61_21, d61_22, d61_25, d61_27, d61_30, d61_34, d61_36, d61_38, d61_39, d61_42, d61_45, d61_46, d61_49, d61_52, d61_53, d61_55, d61_57, d61_59, d61_62, d61_64, d61_65, d61_66, d61_68, d61_70, d61_73, d61_74, d61_77, d61_79, d61_82, d61_85, d61_88, d61_91, d61_93, n_lt, n_le, n_eq, n_lt0, n_ge0, n_gt0, n_le0, n_eq0, m_lt, m_le, m_gt, m_ge, m_eq, m_eq', m_lt0, m_ge0, m_gt0, m_le0, m_ltm, m_lem, n_in, m_in, n_cl, n_ti, n_div, n_rem', n_dec, n_l, nI_add, pk_mul, an0, an1, decide_eq_true_eq, if_true, if_false, ite_true, ite_false, and_true, true_and, and_false, false_and, not_true, not_false_iff, or_false, false_or, or_true, true_or, eq_self, va_some, Bool.false_eq_true, reduceIte, catS_n, catS_i, catS_r, catS_l, catS_d, Nat.zero_add, Nat.add_zero, decide_true, decide_false, Nat.reduceLeDiff, cat_r, cat_i, cat_l, nle_T, nle_F, nlt_T, nlt_F, neq_T, neq_F, k0, i3, e1, c58]
    done
theorem f61c {d : Nat} {P : MP} {L : ML} {C : MC} {t e : Nat} {h h1 : Int64} {B n len : Nat} {g : GS} {ps : Nat → GS} {tx : Nat → Nat} (hX : XB P) (hA : AV B g n ps len tx) (hd : 11 ≤ d) (ht : t < 3) (he : e < g (3 + t)) : ∀ m w (I : MI), w + m = 8 → XR I L g n ps len tx → ∃ I', XR I' L g n ps len tx ∧ fo I I' ∧ ∀ Q, X d 61 55 [.ref 1, .long h, UN, .int (nI t), .long (mxs (eF g t) (8 * e + w) h1), UN, .int (nI e), .int (nI w)] [] P I L C Q = X d 61 85 [.ref 1, .long h, UN, .int (nI t), .long (mxs (eF g t) (8 * e + 8) h1), UN, .int (nI e), .int (nI 8)] [] P I' L C Q := by
  have k0 := hX.1
  have hc := hA.1.1.2.1 t ht
  intro m
  induction m with
  | zero =>
    intro w I hw hR
    have : w = 8 := by omega
    subst this
    refine ⟨I, hR, fo_r, fun Q => ?_⟩
    rw [X_go, d61_55]
    simp (disch := first | assumption | omega) only [Nat.reduceAdd, X_go, go2_some, stp, ldI, ldA, ldL, stI, stA, stL, o1I, o2I, o2L, brI, brII, gl, s1, s2, k1, sl, go_sN, go_sR, go_CT, go_sT, go_no, go_if, pops, bk_v, bk_0, d61_0, d61_1, d61_3, d61_4, d61_6, d61_8, d61_9, d61_12, d61_14, d61_15, d61_16, d61_18, d61_21, d61_22, d61_25, d61_27, d61_30, d61_33, d61_34, d61_38, d61_39, d61_42, d61_45, d61_46, d61_49, d61_52, d61_53, d61_57, d61_59, d61_62, d61_64, d61_65, d61_66, d61_68, d61_70, d61_73, d61_74, d61_77, d61_79, d61_82, d61_88, d61_91, d61_93, n_lt, n_le, n_eq, n_lt0, n_ge0, n_gt0, n_le0, n_eq0, m_lt, m_le, m_gt, m_ge, m_eq, m_eq', m_lt0, m_ge0, m_gt0, m_le0, m_ltm, m_lem, n_in, m_in, n_cl, n_ti, n_div, n_rem', n_dec, n_l, nI_add, pk_mul, an0, an1, decide_eq_true_eq, if_true, if_false, ite_true, ite_false, and_true, true_and, and_false, false_and, not_true, not_false_iff, or_false, false_or, or_true, true_or, eq_self, va_some, Bool.false_eq_true, reduceIte, catS_n, catS_i, catS_r, catS_l, catS_d, Nat.zero_add, Nat.add_zero, decide_true, decide_false, Nat.reduceLeDiff, cat_r, cat_i, cat_l, nle_T, nle_F, nlt_T, nlt_F, neq_T, neq_F]
  | succ m ih =>
    intro w I hw hR
    obtain ⟨J, i1, i2, i3⟩ := c73 (d := d) (C := C) hX hR hA (by omega) ht he (show w < 8 by omega)
    obtain ⟨I', a1, a2, a3⟩ := ih (w + 1) J (by omega) i1
    refine ⟨I', a1, fun k j q => by rw [a2 k j q, i2 k j q], fun Q => ?_⟩
    have e1 : (nI (eV g t e w)).toInt64 = eF g t (8 * e + w) := by
      unfold eF
      rw [show (8 * e + w) / 8 = e by omega, show (8 * e + w) % 8 = w by omega]
    rw [← a3, show 8 * e + (w + 1) = 8 * e + w + 1 by omega, mxs_s, X_go, d61_55]
    simp (disch := first | assumption | omega) only [Nat.reduceAdd, X_go, go2_some, stp, ldI, ldA, ldL, stI, stA, stL, o1I, o2I, o2L, brI, brII, gl, s1, s2, k1, sl, go_sN, go_sR, go_CT, go_sT, go_no, go_if, pops, bk_v, bk_0, d61_0, d61_1, d61_3, d61_4, d61_6, d61_8, d61_9, d61_12, d61_14, d61_15, d61_16, d61_18, d61_21, d61_22, d61_25, d61_27, d61_30, d61_33, d61_34, d61_38, d61_39, d61_42, d61_45, d61_46, d61_49, d61_52, d61_53, d61_57, d61_59, d61_62, d61_64, d61_65, d61_66, d61_68, d61_70, d61_73, d61_74, d61_77, d61_79, d61_82, d61_88, d61_91, d61_93, n_lt, n_le, n_eq, n_lt0, n_ge0, n_gt0, n_le0, n_eq0, m_lt, m_le, m_gt, m_ge, m_eq, m_eq', m_lt0, m_ge0, m_gt0, m_le0, m_ltm, m_lem, n_in, m_in, n_cl, n_ti, n_div, n_rem', n_dec, n_l, nI_add, pk_mul, an0, an1, decide_eq_true_eq, if_true, if_false, ite_true, ite_false, and_true, true_and, and_false, false_and, not_true, not_false_iff, or_false, false_or, or_true, true_or, eq_self, va_some, Bool.false_eq_true, reduceIte, catS_n, catS_i, catS_r, catS_l, catS_d, Nat.zero_add, Nat.add_zero, decide_true, decide_false, Nat.reduceLeDiff, cat_r, cat_i, cat_l, nle_T, nle_F, nlt_T, nlt_F, neq_T, neq_F, k0, i3, e1, c58]
    done
theorem f61b {d : Nat} {P : MP} {L : ML} {C : MC} {t : Nat} {h h1 : Int64} {B n len : Nat} {g : GS} {ps : Nat → GS} {tx : Nat → Nat} (hX : XB P) (hA : AV B g n ps len tx) (hd : 11 ≤ d) (ht : t < 3) : ∀ m e (I : MI) (u : Value), e + m = g (3 + t) → XR I L g n ps len tx → ∃ I', XR I' L g n ps len tx ∧ fo I I' ∧ ∀ Q, X d 61 36 [.ref 1, .long h, UN, .int (nI t), .long (mxs (eF g t) (8 * e) h1), UN, .int (nI e), u] [] P I L C Q = Q (.inl (some (.long (mxs (eF g t) (8 * g (3 + t)) h1)))) P I' L C := by
  have hX' := hX
  obtain ⟨k0, ⟨p0, _⟩, hS, _⟩ := hX'
  obtain ⟨l0, r0, r1, r2, hT, hK, hF⟩ := hS
  have m0 := hT.1.1
  have hc := hA.1.1.2.1 t ht
  intro m
  induction m with
  | zero =>
    intro e I u he hR
    have : e = g (3 + t) := by omega
    subst this
    refine ⟨I, hR, fo_r, fun Q => ?_⟩
    rw [X_go, d61_36]
    simp (disch := first | assumption | omega) only [Nat.reduceAdd, X_go, go2_some, stp, ldI, ldA, ldL, stI, stA, stL, o1I, o2I, o2L, brI, brII, gl, s1, s2, k1, sl, go_sN, go_sR, go_CT, go_sT, go_no, go_if, pops, bk_v, bk_0, d61_0, d61_1, d61_3, d61_4, d61_6, d61_8, d61_9, d61_12, d61_14, d61_15, d61_16, d61_18, d61_21, d61_22, d61_25, d61_27, d61_30, d61_33, d61_34, d61_38, d61_39, d61_42, d61_45, d61_46, d61_49, d61_52, d61_53, d61_57, d61_59, d61_62, d61_64, d61_65, d61_66, d61_68, d61_70, d61_73, d61_74, d61_77, d61_79, d61_82, d61_85, d61_88, d61_91, d61_93, n_lt, n_le, n_eq, n_lt0, n_ge0, n_gt0, n_le0, n_eq0, m_lt, m_le, m_gt, m_ge, m_eq, m_eq', m_lt0, m_ge0, m_gt0, m_le0, m_ltm, m_lem, n_in, m_in, n_cl, n_ti, n_div, n_rem', n_dec, n_l, nI_add, pk_mul, an0, an1, decide_eq_true_eq, if_true, if_false, ite_true, ite_false, and_true, true_and, and_false, false_and, not_true, not_false_iff, or_false, false_or, or_true, true_or, eq_self, va_some, Bool.false_eq_true, reduceIte, catS_n, catS_i, catS_r, catS_l, catS_d, Nat.zero_add, Nat.add_zero, decide_true, decide_false, Nat.reduceLeDiff, cat_r, cat_i, cat_l, nle_T, nle_F, nlt_T, nlt_F, neq_T, neq_F, k0, p0, l0, r0, m0, c25g hT hR.1.1]
  | succ m ih =>
    intro e I u he hR
    have hlt : e < g (3 + t) := by omega
    obtain ⟨J, i1, i2, i3⟩ := f61c (d := d) (C := C) (h := h) (h1 := h1) hX hA hd ht hlt 8 0 I (by omega) hR
    obtain ⟨I', a1, a2, a3⟩ := ih (e + 1) J (.int (nI 8)) (by omega) i1
    refine ⟨I', a1, fun k j q => by rw [a2 k j q, i2 k j q], fun Q => ?_⟩
    have i3 := i3 Q
    have a3 := a3 Q
    rw [show 8 * (e + 1) = 8 * e + 8 by omega] at a3
    rw [← a3]
    have q1 : X d 61 85 [.ref 1, .long h, UN, .int (nI t), .long (mxs (eF g t) (8 * e + 8) h1), UN, .int (nI e), .int (nI 8)] [] P J L C Q = X d 61 36 [.ref 1, .long h, UN, .int (nI t), .long (mxs (eF g t) (8 * e + 8) h1), UN, .int (nI (e + 1)), .int (nI 8)] [] P J L C Q := by
      rw [X_go, d61_85]
      simp (disch := first | assumption | omega) only [Nat.reduceAdd, X_go, go2_some, stp, ldI, ldA, ldL, stI, stA, stL, o1I, o2I, o2L, brI, brII, gl, s1, s2, k1, sl, go_sN, go_sR, go_CT, go_sT, go_no, go_if, pops, bk_v, bk_0, d61_0, d61_1, d61_3, d61_4, d61_6, d61_8, d61_9, d61_12, d61_14, d61_15, d61_16, d61_18, d61_21, d61_22, d61_25, d61_27, d61_30, d61_33, d61_34, d61_38, d61_39, d61_42, d61_45, d61_46, d61_49, d61_52, d61_53, d61_57, d61_59, d61_62, d61_64, d61_65, d61_66, d61_68, d61_70, d61_73, d61_74, d61_77, d61_79, d61_82, d61_88, d61_91, d61_93, n_lt, n_le, n_eq, n_lt0, n_ge0, n_gt0, n_le0, n_eq0, m_lt, m_le, m_gt, m_ge, m_eq, m_eq', m_lt0, m_ge0, m_gt0, m_le0, m_ltm, m_lem, n_in, m_in, n_cl, n_ti, n_div, n_rem', n_dec, n_l, nI_add, pk_mul, an0, an1, decide_eq_true_eq, if_true, if_false, ite_true, ite_false, and_true, true_and, and_false, false_and, not_true, not_false_iff, or_false, false_or, or_true, true_or, eq_self, va_some, Bool.false_eq_true, reduceIte, catS_n, catS_i, catS_r, catS_l, catS_d, Nat.zero_add, Nat.add_zero, decide_true, decide_false, Nat.reduceLeDiff, cat_r, cat_i, cat_l, nle_T, nle_F, nlt_T, nlt_F, neq_T, neq_F]
    rw [← q1, ← i3, X_go, d61_36]
    simp (disch := first | assumption | omega) only [Nat.reduceAdd, X_go, go2_some, stp, ldI, ldA, ldL, stI, stA, stL, o1I, o2I, o2L, brI, brII, gl, s1, s2, k1, sl, go_sN, go_sR, go_CT, go_sT, go_no, go_if, pops, bk_v, bk_0, d61_0, d61_1, d61_3, d61_4, d61_6, d61_8, d61_9, d61_12, d61_14, d61_15, d61_16, d61_18, d61_21, d61_22, d61_25, d61_27, d61_30, d61_33, d61_34, d61_38, d61_39, d61_42, d61_45, d61_46, d61_49, d61_52, d61_53, d61_57, d61_59, d61_62, d61_64, d61_65, d61_66, d61_68, d61_70, d61_73, d61_74, d61_77, d61_79, d61_82, d61_85, d61_88, d61_91, d61_93, n_lt, n_le, n_eq, n_lt0, n_ge0, n_gt0, n_le0, n_eq0, m_lt, m_le, m_gt, m_ge, m_eq, m_eq', m_lt0, m_ge0, m_gt0, m_le0, m_ltm, m_lem, n_in, m_in, n_cl, n_ti, n_div, n_rem', n_dec, n_l, nI_add, pk_mul, an0, an1, decide_eq_true_eq, if_true, if_false, ite_true, ite_false, and_true, true_and, and_false, false_and, not_true, not_false_iff, or_false, false_or, or_true, true_or, eq_self, va_some, Bool.false_eq_true, reduceIte, catS_n, catS_i, catS_r, catS_l, catS_d, Nat.zero_add, Nat.add_zero, decide_true, decide_false, Nat.reduceLeDiff, cat_r, cat_i, cat_l, nle_T, nle_F, nlt_T, nlt_F, neq_T, neq_F, k0, p0, l0, r0, m0, c25g hT hR.1.1]
    done
theorem c61 {d : Nat} {P : MP} {I : MI} {L : ML} {C : MC} {t : Nat} {h : Int64} {B n len : Nat} {g : GS} {ps : Nat → GS} {tx : Nat → Nat} (hX : XB P) (hR : XR I L g n ps len tx) (hA : AV B g n ps len tx) (hd : 12 ≤ d) (ht : t < 3) : ∃ I', XR I' L g n ps len tx ∧ fo I I' ∧ ∀ Q, CT d 61 [.ref 1, .long h, .int (nI t)] P I L C Q = Q (.inl (some (.long (tabM g t h)))) P I' L C := by
  obtain ⟨J, i1, i2, i3⟩ := f61a (d := d - 1) (C := C) (h := h) (u := UN) hX hA (by omega) ht 4 0 I (by omega) hR
  obtain ⟨I', a1, a2, a3⟩ := f61b (d := d - 1) (C := C) (h := h) (h1 := mxs (tF g t) 4 h) hX hA (by omega) ht (g (3 + t)) 0 J UN (by omega) i1
  refine ⟨I', a1, fun k j q => by rw [a2 k j q, i2 k j q], fun Q => ?_⟩
  have i3 := i3 Q
  have a3 := a3 Q
  have e0 : mxs (tF g t) 0 h = h := rfl
  have e1 : mxs (eF g t) (8 * 0) (mxs (tF g t) 4 h) = mxs (tF g t) 4 h := rfl
  rw [e0] at i3
  rw [e1] at a3
  unfold tabM
  rw [← a3]
  have q1 : X (d - 1) 61 33 [.ref 1, .long h, UN, .int (nI t), .long (mxs (tF g t) 4 h), UN, .int (nI 4), UN] [] P J L C Q = X (d - 1) 61 36 [.ref 1, .long h, UN, .int (nI t), .long (mxs (tF g t) 4 h), UN, .int (nI 0), UN] [] P J L C Q := by
    rw [X_go, d61_33]
    simp (disch := first | assumption | omega) only [Nat.reduceAdd, X_go, go2_some, stp, ldI, ldA, ldL, stI, stA, stL, o1I, o2I, o2L, brI, brII, gl, s1, s2, k1, sl, go_sN, go_sR, go_CT, go_sT, go_no, go_if, pops, bk_v, bk_0, d61_0, d61_1, d61_3, d61_4, d61_8, d61_9, d61_12, d61_14, d61_15, d61_16, d61_18, d61_21, d61_22, d61_25, d61_27, d61_30, d61_34, d61_38, d61_39, d61_42, d61_45, d61_46, d61_49, d61_52, d61_53, d61_55, d61_57, d61_59, d61_62, d61_64, d61_65, d61_66, d61_68, d61_70, d61_73, d61_74, d61_77, d61_79, d61_82, d61_85, d61_88, d61_91, d61_93, n_lt, n_le, n_eq, n_lt0, n_ge0, n_gt0, n_le0, n_eq0, m_lt, m_le, m_gt, m_ge, m_eq, m_eq', m_lt0, m_ge0, m_gt0, m_le0, m_ltm, m_lem, n_in, m_in, n_cl, n_ti, n_div, n_rem', n_dec, n_l, nI_add, pk_mul, an0, an1, decide_eq_true_eq, if_true, if_false, ite_true, ite_false, and_true, true_and, and_false, false_and, not_true, not_false_iff, or_false, false_or, or_true, true_or, eq_self, va_some, Bool.false_eq_true, reduceIte, catS_n, catS_i, catS_r, catS_l, catS_d, Nat.zero_add, Nat.add_zero, decide_true, decide_false, Nat.reduceLeDiff, cat_r, cat_i, cat_l, nle_T, nle_F, nlt_T, nlt_F, neq_T, neq_F]
  rw [← q1, ← i3]
  rw [CT_e (mj := 61) (e := [.ref 1, .long h, UN, .int (nI t), UN, UN, UN, UN]) (by omega) rfl (Nat.le_of_ble_eq_true rfl)]
  simp (disch := first | assumption | omega) only [Nat.reduceAdd, X_go, go2_some, stp, ldI, ldA, ldL, stI, stA, stL, o1I, o2I, o2L, brI, brII, gl, s1, s2, k1, sl, go_sN, go_sR, go_CT, go_sT, go_no, go_if, pops, bk_v, bk_0, d61_0, d61_1, d61_3, d61_4, d61_8, d61_9, d61_12, d61_14, d61_15, d61_16, d61_18, d61_21, d61_22, d61_25, d61_27, d61_30, d61_34, d61_38, d61_39, d61_42, d61_45, d61_46, d61_49, d61_52, d61_53, d61_55, d61_57, d61_59, d61_62, d61_64, d61_65, d61_66, d61_68, d61_70, d61_73, d61_74, d61_77, d61_79, d61_82, d61_85, d61_88, d61_91, d61_93, n_lt, n_le, n_eq, n_lt0, n_ge0, n_gt0, n_le0, n_eq0, m_lt, m_le, m_gt, m_ge, m_eq, m_eq', m_lt0, m_ge0, m_gt0, m_le0, m_ltm, m_lem, n_in, m_in, n_cl, n_ti, n_div, n_rem', n_dec, n_l, nI_add, pk_mul, an0, an1, decide_eq_true_eq, if_true, if_false, ite_true, ite_false, and_true, true_and, and_false, false_and, not_true, not_false_iff, or_false, false_or, or_true, true_or, eq_self, va_some, Bool.false_eq_true, reduceIte, catS_n, catS_i, catS_r, catS_l, catS_d, Nat.zero_add, Nat.add_zero, decide_true, decide_false, Nat.reduceLeDiff, cat_r, cat_i, cat_l, nle_T, nle_F, nlt_T, nlt_F, neq_T, neq_F]
  done
