/-! COUNTS of what is spent -/
theorem nx_and (a b : Nat) : nI a &&& nI b = nI (a &&& b) := by
  apply Int32.toBitVec_inj.1
  show BitVec.ofNat 32 a &&& BitVec.ofNat 32 b = BitVec.ofNat 32 (a &&& b)
  apply BitVec.eq_of_getLsbD_eq
  intro i hi
  simp [hi]
theorem nx_cnt : ∀ j : Fin 32, (UInt32.ofNat j.val &&& Int32.toUInt32 31).toNat % 32 = j.val := by decide +kernel
theorem n_ush {k j : Nat} (hk : k < 2147483648) (hj : j < 32) : ((nI k).toUInt32 >>> ((nI j).toUInt32 &&& Int32.toUInt32 31)).toInt32 = nI (k >>> j) := by
  have hs : k >>> j ≤ k := by
    rw [Nat.shiftRight_eq_div_pow]
    exact Nat.div_le_self _ _
  have e2 : UInt32.ofNat k >>> (UInt32.ofNat j &&& Int32.toUInt32 31) = UInt32.ofNat (k >>> j) := by
    apply UInt32.toNat_inj.1
    have h1 : (UInt32.ofNat k).toNat = k := Nat.mod_eq_of_lt (by omega)
    have h2 : (UInt32.ofNat (k >>> j)).toNat = k >>> j := Nat.mod_eq_of_lt (by omega)
    rw [UInt32.toNat_shiftRight, nx_cnt ⟨j, hj⟩, h1, h2]
  show (UInt32.ofNat k >>> (UInt32.ofNat j &&& Int32.toUInt32 31)).toInt32 = _
  rw [e2]
  rfl
theorem d29_0 : dec 29 0 = some (.iload_n 0, 1, []) := rfl
theorem d29_1 : dec 29 1 = some (.iload_n 0, 1, []) := rfl
theorem d29_2 : dec 29 2 = some (.iconst 1, 1, [1]) := rfl
theorem d29_3 : dec 29 3 = some (.iushr, 1, []) := rfl
theorem d29_4 : dec 29 4 = some (.ldc_w 265, 3, [8, 1431655765, 490]) := rfl
theorem d29_7 : dec 29 7 = some (.iand, 1, []) := rfl
theorem d29_8 : dec 29 8 = some (.isub, 1, []) := rfl
theorem d29_9 : dec 29 9 = some (.istore_n 0, 1, []) := rfl
theorem d29_10 : dec 29 10 = some (.iload_n 0, 1, []) := rfl
theorem d29_11 : dec 29 11 = some (.ldc_w 266, 3, [8, 858993459, 491]) := rfl
theorem d29_14 : dec 29 14 = some (.iand, 1, []) := rfl
theorem d29_15 : dec 29 15 = some (.iload_n 0, 1, []) := rfl
theorem d29_16 : dec 29 16 = some (.iconst 2, 1, [2]) := rfl
theorem d29_17 : dec 29 17 = some (.iushr, 1, []) := rfl
theorem d29_18 : dec 29 18 = some (.ldc_w 266, 3, [8, 858993459, 491]) := rfl
theorem d29_21 : dec 29 21 = some (.iand, 1, []) := rfl
theorem d29_22 : dec 29 22 = some (.iadd, 1, []) := rfl
theorem d29_23 : dec 29 23 = some (.istore_n 0, 1, []) := rfl
theorem d29_24 : dec 29 24 = some (.iload_n 0, 1, []) := rfl
theorem d29_25 : dec 29 25 = some (.iload_n 0, 1, []) := rfl
theorem d29_26 : dec 29 26 = some (.iconst 4, 1, [4]) := rfl
theorem d29_27 : dec 29 27 = some (.iushr, 1, []) := rfl
theorem d29_28 : dec 29 28 = some (.iadd, 1, []) := rfl
theorem d29_29 : dec 29 29 = some (.ldc_w 267, 3, [8, 252645135, 492]) := rfl
theorem d29_32 : dec 29 32 = some (.iand, 1, []) := rfl
theorem d29_33 : dec 29 33 = some (.istore_n 0, 1, []) := rfl
theorem d29_34 : dec 29 34 = some (.iload_n 0, 1, []) := rfl
theorem d29_35 : dec 29 35 = some (.iload_n 0, 1, []) := rfl
theorem d29_36 : dec 29 36 = some (.bipush 8, 2, [8]) := rfl
theorem d29_38 : dec 29 38 = some (.iushr, 1, []) := rfl
theorem d29_39 : dec 29 39 = some (.iadd, 1, []) := rfl
theorem d29_40 : dec 29 40 = some (.istore_n 0, 1, []) := rfl
theorem d29_41 : dec 29 41 = some (.iload_n 0, 1, []) := rfl
theorem d29_42 : dec 29 42 = some (.iload_n 0, 1, []) := rfl
theorem d29_43 : dec 29 43 = some (.bipush 16, 2, [16]) := rfl
theorem d29_45 : dec 29 45 = some (.iushr, 1, []) := rfl
theorem d29_46 : dec 29 46 = some (.iadd, 1, []) := rfl
theorem d29_47 : dec 29 47 = some (.istore_n 0, 1, []) := rfl
theorem d29_48 : dec 29 48 = some (.iload_n 0, 1, []) := rfl
theorem d29_49 : dec 29 49 = some (.bipush 63, 2, [63]) := rfl
theorem d29_51 : dec 29 51 = some (.iand, 1, []) := rfl
theorem d29_52 : dec 29 52 = some (.ireturn, 1, [0]) := rfl
theorem l29 : mL 29 = 1 := rfl
theorem bc_le {n : Nat} (h : n < 262144) : (n >>> 1) &&& 1431655765 ≤ n ∧ n - ((n >>> 1) &&& 1431655765) < 262144 := by
  have h1 : (n >>> 1) &&& 1431655765 ≤ n >>> 1 := Nat.and_le_left
  rw [Nat.shiftRight_eq_div_pow] at *
  omega
theorem land_le {a b : Nat} : a &&& b ≤ a := Nat.and_le_left
theorem shr_le {a b : Nat} : a >>> b ≤ a := by rw [Nat.shiftRight_eq_div_pow]; exact Nat.div_le_self _ _
theorem c29 {d : Nat} {P : MP} {I : MI} {L : ML} {C : MC} {Q : QT} {n : Nat} (hd : 1 ≤ d) (hn : n < 262144) : CT d 29 [.int (nI n)] P I L C Q = Q (.inl (some (.int (nI (pcn 18 n))))) P I L C := by
  rw [← pc_all hn]
  obtain ⟨h1, h2⟩ := bc_le hn
  rw [CT_e (mj := 29) (e := [.int (nI n)]) (by omega) rfl (Nat.le_of_ble_eq_true rfl)]
  unfold pcF
  generalize hA : n - ((n >>> 1) &&& 1431655765) = A at h2
  have l1 := @land_le A 858993459
  have l2 := @land_le (A >>> 2) 858993459
  have l3 := @shr_le A 2
  generalize hB : (A &&& 858993459) + ((A >>> 2) &&& 858993459) = B
  have l4 := @shr_le B 4
  unfold cF
  generalize hE : (B + (B >>> 4)) &&& 252645135 = E
  have l5 : E ≤ B + (B >>> 4) := by rw [← hE]; exact land_le
  have l6 := @shr_le E 8
  generalize hF : E + (E >>> 8) = F
  have l7 := @shr_le F 16
  simp (disch := first | assumption | omega) only [Nat.reduceAdd, X_go, go2_some, stp, ldI, ldA, ldL, stI, stA, stL, o1I, o2I, o2L, brI, brII, gl, s1, s2, k1, sl, go_sN, go_sR, go_CT, go_sT, go_no, go_if, pops, bk_v, bk_0, d29_0, d29_1, d29_2, d29_3, d29_4, d29_7, d29_8, d29_9, d29_10, d29_11, d29_14, d29_15, d29_16, d29_17, d29_18, d29_21, d29_22, d29_23, d29_24, d29_25, d29_26, d29_27, d29_28, d29_29, d29_32, d29_33, d29_34, d29_35, d29_36, d29_38, d29_39, d29_40, d29_41, d29_42, d29_43, d29_45, d29_46, d29_47, d29_48, d29_49, d29_51, d29_52, n_lt, n_le, n_eq, n_lt0, n_ge0, n_gt0, n_le0, n_eq0, m_lt, m_le, m_gt, m_ge, m_eq, m_eq', m_lt0, m_ge0, m_gt0, m_le0, m_ltm, m_lem, n_in, m_in, n_cl, n_ti, n_div, n_rem', n_dec, n_l, nI_add, pk_mul, an0, an1, decide_eq_true_eq, if_true, if_false, ite_true, ite_false, and_true, true_and, and_false, false_and, not_true, not_false_iff, or_false, false_or, or_true, true_or, eq_self, va_some, Bool.false_eq_true, reduceIte, catS_n, catS_i, catS_r, catS_l, catS_d, Nat.zero_add, Nat.add_zero, decide_true, decide_false, Nat.reduceLeDiff, cat_r, cat_i, cat_l, nle_T, nle_F, nlt_T, nlt_F, neq_T, neq_F, n_ush, nx_and, n_sub, hA, hB, hE, hF]
  done
theorem sm_0 {k : Nat} {f : Nat → Nat} : sm (k + 1) f = f 0 + sm k (fun i => f (i + 1)) := by
  induction k with
  | zero => unfold sm; unfold sm; omega
  | succ k ih => rw [sm, ih, sm]; omega
theorem pcn_sm {k : Nat} : ∀ n, pcn k n = sm k (fun i => if n.testBit i then 1 else 0) := by
  induction k with
  | zero => intro n; rfl
  | succ k ih =>
    intro n
    rw [sm_0, pcn, ih]
    congr 1
    · rw [Nat.testBit_zero]
      have : n % 2 = 0 ∨ n % 2 = 1 := by omega
      rcases this with z | z <;> rw [z] <;> rfl
    · exact sm_c fun i _ => by rw [Nat.testBit_succ]
theorem bset_n {p : Nat → Bool} {n : Nat} (hn : n ≤ 31) : ∃ m, m < 2 ^ n ∧ bset p n = nI m ∧ ∀ i, i < n → m.testBit i = p i := by
  refine ⟨(bset p n).toBitVec.toNat, ?_, ?_, fun i hi => ?_⟩
  · apply Nat.lt_pow_two_of_testBit
    intro i hi
    rcases Nat.lt_or_ge i 32 with z | z
    · have := b_set (p := p) (by omega : n ≤ 32) z
      rw [decide_eq_false (by omega : ¬ i < n), Bool.false_and] at this
      exact this
    · exact Nat.testBit_lt_two_pow (Nat.lt_of_lt_of_le (bset p n).toBitVec.isLt (Nat.pow_le_pow_right (by decide) z))
  · apply Int32.toBitVec_inj.mp
    show _ = BitVec.ofNat 32 _
    simp
  · have := b_set (p := p) (by omega : n ≤ 32) (show i < 32 by omega)
    rw [decide_eq_true hi, Bool.true_and] at this
    exact this
theorem sm_add {a b : Nat} {f : Nat → Nat} : sm (a + b) f = sm a f + sm b (fun i => f (a + i)) := by
  induction b with
  | zero => rfl
  | succ b ih => rw [← Nat.add_assoc, sm, ih, sm]; omega
theorem sm_cut {c n : Nat} {f f' : Nat → Nat} (h : c ≤ n) (h1 : ∀ i, i < c → f i = f' i) (h2 : ∀ i, c ≤ i → i < n → f i = 0) : sm n f = sm c f' := by
  obtain ⟨b, rfl⟩ : ∃ b, n = c + b := ⟨n - c, by omega⟩
  rw [sm_add, sm_c h1]
  have : sm b (fun i => f (c + i)) = 0 := by
    rw [sm_c (f' := fun _ => 0) (fun i hi => h2 (c + i) (by omega) (by omega))]
    clear h h2
    induction b with
    | zero => rfl
    | succ b ih => rw [sm, ih]
  omega
/-- how many are spent -/
def spc (g : GS) : Nat := sm (g 3) (fun e => g (cl 0 e 5)) + sm (g 4) (fun e => g (cl 1 e 5)) + sm (g 5) (fun e => g (cl 2 e 5))
theorem spc_one {g : GS} (hv : TV g) {t : Nat} (ht : t < 3) : sm 6 (fun e => if pb g (spG g) (6 * t + e) then 1 else 0) = sm (g (3 + t)) (fun e => g (cl t e 5)) := by
  refine sm_cut (hv.2.1 t ht) (fun e he => ?_) (fun e h1 h2 => ?_)
  · have hc := hv.2.1 t ht
    have h5 := (hv.2.2 t e ht he).2.2.2.2.2.2.2
    unfold pb spG
    rw [show (6 * t + e) % 6 = e by omega, show (6 * t + e) / 6 = t by omega, decide_eq_true he, Bool.true_and]
    by_cases z : g (cl t e 5) = 0
    · rw [if_neg (by simp [z]), z]
    · rw [if_pos (by simp [z])]; omega
  · unfold pb
    rw [show (6 * t + e) % 6 = e by omega, show (6 * t + e) / 6 = t by omega, decide_eq_false (by omega), Bool.false_and]
    rfl
theorem spc_eq {g : GS} (hv : TV g) : sm 18 (fun i => if pb g (spG g) i then 1 else 0) = spc g := by
  rw [show 18 = 6 + (6 + 6) from rfl, sm_add, sm_add]
  have e0 := spc_one hv (t := 0) (by omega)
  have e1 := spc_one hv (t := 1) (by omega)
  have e2 := spc_one hv (t := 2) (by omega)
  simp only [Nat.mul_zero, Nat.mul_one, Nat.zero_add, Nat.reduceAdd, Nat.reduceMul, Nat.add_zero] at e0 e1 e2
  have e3 : sm 6 (fun i => if pb g (spG g) (6 + (6 + i)) = true then 1 else 0) = sm (g 5) (fun e => g (cl 2 e 5)) := by
    rw [← e2]
    exact sm_c fun i _ => by rw [← Nat.add_assoc]
  unfold spc
  rw [e0, e1, e3]
  omega
theorem d23_0 : dec 23 0 = some (.aload_n 0, 1, []) := rfl
theorem d23_1 : dec 23 1 = some (.invokevirtual 66, 3, [2, 24, 2, 7, 0, 477]) := rfl
theorem d23_4 : dec 23 4 = some (.invokestatic 70, 3, [2, 29, 0, 11, 0, 487, 0]) := rfl
theorem d23_7 : dec 23 7 = some (.ireturn, 1, [0]) := rfl
theorem l23 : mL 23 = 1 := rfl
theorem c23 {d : Nat} {P : MP} {I : MI} {L : ML} {C : MC} {Q : QT} {T : Nat} {g : GS} (hT : TB P T) (hg : TR I T g) (hv : TV g) (hd : 5 ≤ d) : CT d 23 [.ref T] P I L C Q = Q (.inl (some (.int (nI (spc g))))) P I L C := by
  have k0 := hT.1.1
  obtain ⟨m, hm, e, hb⟩ := bset_n (p := pb g (spG g)) (n := 18) (by omega)
  have hm : m < 262144 := hm
  have hs : sbits g = nI m := e
  have hp : pcn 18 m = spc g := by
    rw [pcn_sm, ← spc_eq hv]
    exact sm_c fun i hi => by rw [hb i hi]
  rw [← hp]
  rw [CT_e (mj := 23) (e := [.ref T]) (by omega) rfl (Nat.le_of_ble_eq_true rfl)]
  simp (disch := first | assumption | omega) only [Nat.reduceAdd, X_go, go2_some, stp, ldI, ldA, ldL, stI, stA, stL, o1I, o2I, o2L, brI, brII, gl, s1, s2, k1, sl, go_sN, go_sR, go_CT, go_sT, go_no, go_if, pops, bk_v, bk_0, d23_0, d23_1, d23_4, d23_7, n_lt, n_le, n_eq, n_lt0, n_ge0, n_gt0, n_le0, n_eq0, m_lt, m_le, m_gt, m_ge, m_eq, m_eq', m_lt0, m_ge0, m_gt0, m_le0, m_ltm, m_lem, n_in, m_in, n_cl, n_ti, n_div, n_rem', n_dec, n_l, nI_add, pk_mul, an0, an1, decide_eq_true_eq, if_true, if_false, ite_true, ite_false, and_true, true_and, and_false, false_and, not_true, not_false_iff, or_false, false_or, or_true, true_or, eq_self, va_some, Bool.false_eq_true, reduceIte, catS_n, catS_i, catS_r, catS_l, catS_d, Nat.zero_add, Nat.add_zero, decide_true, decide_false, Nat.reduceLeDiff, cat_r, cat_i, cat_l, nle_T, nle_F, nlt_T, nlt_F, neq_T, neq_F, k0, c24 hT hg hv, hs, c29]
  done
theorem d22_0 : dec 22 0 = some (.aload_n 0, 1, []) := rfl
theorem d22_1 : dec 22 1 = some (.invokevirtual 78, 3, [2, 23, 2, 7, 0, 943]) := rfl
theorem d22_4 : dec 22 4 = some (.istore_n 1, 1, []) := rfl
theorem d22_5 : dec 22 5 = some (.aload_n 0, 1, []) := rfl
theorem d22_6 : dec 22 6 = some (.getfield 33, 3, [1, 7, 7, 2, 0, 64]) := rfl
theorem d22_9 : dec 22 9 = some (.iconst 0, 1, [0]) := rfl
theorem d22_10 : dec 22 10 = some (.invokestatic 36, 3, [2, 30, 0, 13, 0, 944, 0, 2]) := rfl
theorem d22_13 : dec 22 13 = some (.iload_n 1, 1, []) := rfl
theorem d22_14 : dec 22 14 = some (.ireturn, 1, [0]) := rfl
theorem l22 : mL 22 = 2 := rfl
theorem c22 {d : Nat} {P : MP} {I : MI} {L : ML} {C : MC} {Q : QT} {T : Nat} {g : GS} (hT : TB P T) (hg : TR I T g) (hv : TV g) (hd : 6 ≤ d) : CT d 22 [.ref T] P I L C Q = Q (.inl (some (.int (nI (spc g))))) P (xr I (T + 8) (fun j => if j < 18 then nI 0 else I (T + 8) j)) L C := by
  have k0 := hT.1.1
  have hT' := hT
  obtain ⟨⟨k0, p0, p1, p2, p3, p4, p5, p6, p7⟩, y1, y2, y3, y4, y5, y6, y7, y8⟩ := hT'
  rw [CT_e (mj := 22) (e := [.ref T, UN]) (by omega) rfl (Nat.le_of_ble_eq_true rfl)]
  simp (disch := first | assumption | omega) only [Nat.reduceAdd, X_go, go2_some, stp, ldI, ldA, ldL, stI, stA, stL, o1I, o2I, o2L, brI, brII, gl, s1, s2, k1, sl, go_sN, go_sR, go_CT, go_sT, go_no, go_if, pops, bk_v, bk_0, d22_0, d22_1, d22_4, d22_5, d22_6, d22_9, d22_10, d22_13, d22_14, n_lt, n_le, n_eq, n_lt0, n_ge0, n_gt0, n_le0, n_eq0, m_lt, m_le, m_gt, m_ge, m_eq, m_eq', m_lt0, m_ge0, m_gt0, m_le0, m_ltm, m_lem, n_in, m_in, n_cl, n_ti, n_div, n_rem', n_dec, n_l, nI_add, pk_mul, an0, an1, decide_eq_true_eq, if_true, if_false, ite_true, ite_false, and_true, true_and, and_false, false_and, not_true, not_false_iff, or_false, false_or, or_true, true_or, eq_self, va_some, Bool.false_eq_true, reduceIte, catS_n, catS_i, catS_r, catS_l, catS_d, Nat.zero_add, Nat.add_zero, decide_true, decide_false, Nat.reduceLeDiff, cat_r, cat_i, cat_l, nle_T, nle_F, nlt_T, nlt_F, neq_T, neq_F, k0, p7, c23 hT hg hv, c30 y8]
  done
