/-! THE START: the object -/
theorem d5_0 : dec 5 0 = some (.aload_n 0, 1, []) := rfl
theorem d5_1 : dec 5 1 = some (.invokespecial 3, 3, [4, 160]) := rfl
theorem d5_4 : dec 5 4 = some (.aload_n 0, 1, []) := rfl
theorem d5_5 : dec 5 5 = some (.iconst 4, 1, [4]) := rfl
theorem d5_6 : dec 5 6 = some (.anewarray 9, 3, [7, 161, 30]) := rfl
theorem d5_9 : dec 5 9 = some (.putfield 11, 3, [1, 5, 0, 2, 0, 164]) := rfl
theorem d5_12 : dec 5 12 = some (.iconst 0, 1, [0]) := rfl
theorem d5_13 : dec 5 13 = some (.istore_n 1, 1, []) := rfl
theorem d5_14 : dec 5 14 = some (.iload_n 1, 1, []) := rfl
theorem d5_15 : dec 5 15 = some (.aload_n 0, 1, []) := rfl
theorem d5_16 : dec 5 16 = some (.getfield 11, 3, [1, 5, 0, 2, 0, 164]) := rfl
theorem d5_19 : dec 5 19 = some (.arraylength, 1, []) := rfl
theorem d5_20 : dec 5 20 = some (.if_icmp .ge 22, 3, [42]) := rfl
theorem d5_23 : dec 5 23 = some (.aload_n 0, 1, []) := rfl
theorem d5_24 : dec 5 24 = some (.getfield 11, 3, [1, 5, 0, 2, 0, 164]) := rfl
theorem d5_27 : dec 5 27 = some (.iload_n 1, 1, []) := rfl
theorem d5_28 : dec 5 28 = some (.new 9, 3, [7, 161, 30]) := rfl
theorem d5_31 : dec 5 31 = some (.dup, 1, []) := rfl
theorem d5_32 : dec 5 32 = some (.invokespecial 17, 3, [2, 1, 1, 6, 1, 163]) := rfl
theorem d5_35 : dec 5 35 = some (.aastore, 1, []) := rfl
theorem d5_36 : dec 5 36 = some (.iinc 1 1, 3, [1]) := rfl
theorem d5_39 : dec 5 39 = some (.goto (-25), 3, [14]) := rfl
theorem d5_42 : dec 5 42 = some (.return_, 1, []) := rfl
theorem l5 : mL 5 = 2 := rfl
theorem x5 : (mG 5).2.2.2.2 = [] := rfl
theorem n5 {d : Nat} {P : MP} {I : MI} {L : ML} {C : MC} (hb : P.2.2 = 38) (hk : P.1 38 = (6, 0)) (hz : ∀ j, I 38 j = 0) (hd : 5 ≤ d) : ∃ P' I' L' C', NW 38 73 2000 P P' I I' L L' C C' ∧ VB P' ∧ I' 38 1 = nI 0 ∧ I' 38 2 = nI 0 ∧ ∀ Q, CT d 5 [.ref 38] P I L C Q = Q (.inl none) P' I' L' C' := by
  obtain ⟨P1, I1, L1, C1, ⟨a1, b1, c1, x1, y1⟩, sa1, ra1, q1⟩ := n1 (d := d - 1) (b := 40) (P := (xr (xr (P.1) (39) (23, 4)) (40) (7, 0), xr (xu (xr (P.2.1) (39) (fun _ => none)) 38 0 (some (39))) (40) (fun _ => none), 40)) (I := xr (xr (I) (39) (fun _ => 0)) (40) (fun _ => 0)) (L := xr (xr (L) (39) (fun _ => 0)) (40) (fun _ => 0)) (C := (C.1 + 1 + 1, C.2 + 4 + fN 6)) rfl (by dsimp only; rw [xr_e rfl]) (by omega)
  dsimp only at b1 c1 x1 y1
  have m1 : P1.2.2 = 57 := by omega
  have cr1 : ∀ k j, k < 40 → P1.2.1 k j = (xr (xu (xr (P.2.1) (39) (fun _ => none)) 38 0 (some (39))) (40) (fun _ => none)) k j := fun k j h => (c1 k j h).1
  have ci1 : ∀ k j, k < 40 → I1 k j = (xr (xr (I) (39) (fun _ => 0)) (40) (fun _ => 0)) k j := fun k j h => (c1 k j h).2.1
  have cl1 : ∀ k j, k < 40 → L1 k j = (xr (xr (L) (39) (fun _ => 0)) (40) (fun _ => 0)) k j := fun k j h => (c1 k j h).2.2
  have hk1 : P1.1 38 = (6, 0) := by simp (disch := omega) only [xr_e, xr_m, xu_e, xu_m, b1, cr1, ci1, cl1, hk]
  have hv1 : P1.1 40 = (7, 0) := by simp (disch := omega) only [xr_e, xr_m, xu_e, xu_m, b1, cr1, ci1, cl1]
  have ha1 : P1.1 39 = (23, 4) := by simp (disch := omega) only [xr_e, xr_m, xu_e, xu_m, b1, cr1, ci1, cl1]
  have hg1 : P1.2.1 38 0 = some 39 := by simp (disch := omega) only [xr_e, xr_m, xu_e, xu_m, b1, cr1, ci1, cl1]
  obtain ⟨P2, I2, L2, C2, ⟨a2, b2, c2, x2, y2⟩, sb2, rb2, q2⟩ := n1 (d := d - 1) (b := 58) (P := (xr (P1.1) (58) (7, 0), xr (xu (P1.2.1) 39 0 (some (40))) (58) (fun _ => none), 58)) (I := xr (I1) (58) (fun _ => 0)) (L := xr (L1) (58) (fun _ => 0)) (C := (C1.1 + 1, C1.2 + fN 6)) rfl (by dsimp only; rw [xr_e rfl]) (by omega)
  dsimp only at b2 c2 x2 y2
  have m2 : P2.2.2 = 75 := by omega
  have cr2 : ∀ k j, k < 58 → P2.2.1 k j = (xr (xu (P1.2.1) 39 0 (some (40))) (58) (fun _ => none)) k j := fun k j h => (c2 k j h).1
  have ci2 : ∀ k j, k < 58 → I2 k j = (xr (I1) (58) (fun _ => 0)) k j := fun k j h => (c2 k j h).2.1
  have cl2 : ∀ k j, k < 58 → L2 k j = (xr (L1) (58) (fun _ => 0)) k j := fun k j h => (c2 k j h).2.2
  have hk2 : P2.1 38 = (6, 0) := by simp (disch := omega) only [xr_e, xr_m, xu_e, xu_m, b1, cr1, ci1, cl1, b2, cr2, ci2, cl2, hk]
  have hv2 : P2.1 58 = (7, 0) := by simp (disch := omega) only [xr_e, xr_m, xu_e, xu_m, b1, cr1, ci1, cl1, b2, cr2, ci2, cl2]
  have ha2 : P2.1 39 = (23, 4) := by simp (disch := omega) only [xr_e, xr_m, xu_e, xu_m, b1, cr1, ci1, cl1, b2, cr2, ci2, cl2]
  have hg2 : P2.2.1 38 0 = some 39 := by simp (disch := omega) only [xr_e, xr_m, xu_e, xu_m, b1, cr1, ci1, cl1, b2, cr2, ci2, cl2]
  obtain ⟨P3, I3, L3, C3, ⟨a3, b3, c3, x3, y3⟩, sc3, rc3, q3⟩ := n1 (d := d - 1) (b := 76) (P := (xr (P2.1) (76) (7, 0), xr (xu (P2.2.1) 39 1 (some (58))) (76) (fun _ => none), 76)) (I := xr (I2) (76) (fun _ => 0)) (L := xr (L2) (76) (fun _ => 0)) (C := (C2.1 + 1, C2.2 + fN 6)) rfl (by dsimp only; rw [xr_e rfl]) (by omega)
  dsimp only at b3 c3 x3 y3
  have m3 : P3.2.2 = 93 := by omega
  have cr3 : ∀ k j, k < 76 → P3.2.1 k j = (xr (xu (P2.2.1) 39 1 (some (58))) (76) (fun _ => none)) k j := fun k j h => (c3 k j h).1
  have ci3 : ∀ k j, k < 76 → I3 k j = (xr (I2) (76) (fun _ => 0)) k j := fun k j h => (c3 k j h).2.1
  have cl3 : ∀ k j, k < 76 → L3 k j = (xr (L2) (76) (fun _ => 0)) k j := fun k j h => (c3 k j h).2.2
  have hk3 : P3.1 38 = (6, 0) := by simp (disch := omega) only [xr_e, xr_m, xu_e, xu_m, b1, cr1, ci1, cl1, b2, cr2, ci2, cl2, b3, cr3, ci3, cl3, hk]
  have hv3 : P3.1 76 = (7, 0) := by simp (disch := omega) only [xr_e, xr_m, xu_e, xu_m, b1, cr1, ci1, cl1, b2, cr2, ci2, cl2, b3, cr3, ci3, cl3]
  have ha3 : P3.1 39 = (23, 4) := by simp (disch := omega) only [xr_e, xr_m, xu_e, xu_m, b1, cr1, ci1, cl1, b2, cr2, ci2, cl2, b3, cr3, ci3, cl3]
  have hg3 : P3.2.1 38 0 = some 39 := by simp (disch := omega) only [xr_e, xr_m, xu_e, xu_m, b1, cr1, ci1, cl1, b2, cr2, ci2, cl2, b3, cr3, ci3, cl3]
  obtain ⟨P4, I4, L4, C4, ⟨a4, b4, c4, x4, y4⟩, se4, re4, q4⟩ := n1 (d := d - 1) (b := 94) (P := (xr (P3.1) (94) (7, 0), xr (xu (P3.2.1) 39 2 (some (76))) (94) (fun _ => none), 94)) (I := xr (I3) (94) (fun _ => 0)) (L := xr (L3) (94) (fun _ => 0)) (C := (C3.1 + 1, C3.2 + fN 6)) rfl (by dsimp only; rw [xr_e rfl]) (by omega)
  dsimp only at b4 c4 x4 y4
  have m4 : P4.2.2 = 111 := by omega
  have cr4 : ∀ k j, k < 94 → P4.2.1 k j = (xr (xu (P3.2.1) 39 2 (some (76))) (94) (fun _ => none)) k j := fun k j h => (c4 k j h).1
  have ci4 : ∀ k j, k < 94 → I4 k j = (xr (I3) (94) (fun _ => 0)) k j := fun k j h => (c4 k j h).2.1
  have cl4 : ∀ k j, k < 94 → L4 k j = (xr (L3) (94) (fun _ => 0)) k j := fun k j h => (c4 k j h).2.2
  have hk4 : P4.1 38 = (6, 0) := by simp (disch := omega) only [xr_e, xr_m, xu_e, xu_m, b1, cr1, ci1, cl1, b2, cr2, ci2, cl2, b3, cr3, ci3, cl3, b4, cr4, ci4, cl4, hk]
  have hv4 : P4.1 94 = (7, 0) := by simp (disch := omega) only [xr_e, xr_m, xu_e, xu_m, b1, cr1, ci1, cl1, b2, cr2, ci2, cl2, b3, cr3, ci3, cl3, b4, cr4, ci4, cl4]
  have ha4 : P4.1 39 = (23, 4) := by simp (disch := omega) only [xr_e, xr_m, xu_e, xu_m, b1, cr1, ci1, cl1, b2, cr2, ci2, cl2, b3, cr3, ci3, cl3, b4, cr4, ci4, cl4]
  have hg4 : P4.2.1 38 0 = some 39 := by simp (disch := omega) only [xr_e, xr_m, xu_e, xu_m, b1, cr1, ci1, cl1, b2, cr2, ci2, cl2, b3, cr3, ci3, cl3, b4, cr4, ci4, cl4]
  have hq : ∀ Q, CT d 5 [.ref 38] P I L C Q = Q (.inl none) (P4.1, xu (P4.2.1) 39 3 (some (94)), 111) (I4) (L4) (C4.1, C4.2) := fun Q => by
    rw [CT_e (mj := 5) (e := [.ref 38, UN]) (by omega) rfl (Nat.le_of_ble_eq_true rfl)]
    simp (disch := first | assumption | omega) only [Nat.reduceAdd, X_go, go2_some, stp, ldI, ldA, ldL, stI, stA, stL, o1I, o2I, o2L, brI, brII, gl, s1, s2, k1, sl, go_sN, go_sR, go_CT, go_sT, go_no, go_if, pops, bk_v, bk_0, d5_0, d5_1, d5_4, d5_5, d5_6, d5_9, d5_12, d5_13, d5_14, d5_15, d5_16, d5_19, d5_20, d5_23, d5_24, d5_27, d5_28, d5_31, d5_32, d5_35, d5_36, d5_39, d5_42, n_lt, n_le, n_eq, n_lt0, n_ge0, n_gt0, n_le0, n_eq0, m_lt, m_le, m_gt, m_ge, m_eq, m_eq', m_lt0, m_ge0, m_gt0, m_le0, m_ltm, m_lem, n_in, m_in, n_cl, n_ti, n_div, n_rem', n_dec, n_l, nI_add, pk_mul, an0, an1, decide_eq_true_eq, if_true, if_false, ite_true, ite_false, and_true, true_and, and_false, false_and, not_true, not_false_iff, or_false, false_or, or_true, true_or, eq_self, va_some, Bool.false_eq_true, reduceIte, catS_n, catS_i, catS_r, catS_l, catS_d, Nat.zero_add, Nat.add_zero, decide_true, decide_false, Nat.reduceLeDiff, cat_r, cat_i, cat_l, nle_T, nle_F, nlt_T, nlt_F, neq_T, neq_F, mk, mkP, xr_e, xr_m, le1, xu_e, xu_m, hb, hk, m1, q1, hk1, hv1, ha1, hg1, m2, q2, hk2, hv2, ha2, hg2, m3, q3, hk3, hv3, ha3, hg3, m4, q4, hk4, hv4, ha4, hg4]
    done
  have es1 : ES 40 57 P1 (P4.1, xu (P4.2.1) 39 3 (some (94)), 111) I1 (I4) := fun k h1 h2 => ⟨by simp (disch := omega) only [xr_e, xr_m, xu_e, xu_m, b1, cr1, ci1, cl1, b2, cr2, ci2, cl2, b3, cr3, ci3, cl3, b4, cr4, ci4, cl4], fun j => ⟨by simp (disch := omega) only [xr_e, xr_m, xu_e, xu_m, b1, cr1, ci1, cl1, b2, cr2, ci2, cl2, b3, cr3, ci3, cl3, b4, cr4, ci4, cl4], by simp (disch := omega) only [xr_e, xr_m, xu_e, xu_m, b1, cr1, ci1, cl1, b2, cr2, ci2, cl2, b3, cr3, ci3, cl3, b4, cr4, ci4, cl4]⟩⟩
  have es2 : ES 58 75 P2 (P4.1, xu (P4.2.1) 39 3 (some (94)), 111) I2 (I4) := fun k h1 h2 => ⟨by simp (disch := omega) only [xr_e, xr_m, xu_e, xu_m, b1, cr1, ci1, cl1, b2, cr2, ci2, cl2, b3, cr3, ci3, cl3, b4, cr4, ci4, cl4], fun j => ⟨by simp (disch := omega) only [xr_e, xr_m, xu_e, xu_m, b1, cr1, ci1, cl1, b2, cr2, ci2, cl2, b3, cr3, ci3, cl3, b4, cr4, ci4, cl4], by simp (disch := omega) only [xr_e, xr_m, xu_e, xu_m, b1, cr1, ci1, cl1, b2, cr2, ci2, cl2, b3, cr3, ci3, cl3, b4, cr4, ci4, cl4]⟩⟩
  have es3 : ES 76 93 P3 (P4.1, xu (P4.2.1) 39 3 (some (94)), 111) I3 (I4) := fun k h1 h2 => ⟨by simp (disch := omega) only [xr_e, xr_m, xu_e, xu_m, b1, cr1, ci1, cl1, b2, cr2, ci2, cl2, b3, cr3, ci3, cl3, b4, cr4, ci4, cl4], fun j => ⟨by simp (disch := omega) only [xr_e, xr_m, xu_e, xu_m, b1, cr1, ci1, cl1, b2, cr2, ci2, cl2, b3, cr3, ci3, cl3, b4, cr4, ci4, cl4], by simp (disch := omega) only [xr_e, xr_m, xu_e, xu_m, b1, cr1, ci1, cl1, b2, cr2, ci2, cl2, b3, cr3, ci3, cl3, b4, cr4, ci4, cl4]⟩⟩
  have es4 : ES 94 111 P4 (P4.1, xu (P4.2.1) 39 3 (some (94)), 111) I4 (I4) := fun k h1 h2 => ⟨by simp (disch := omega) only [xr_e, xr_m, xu_e, xu_m, b1, cr1, ci1, cl1, b2, cr2, ci2, cl2, b3, cr3, ci3, cl3, b4, cr4, ci4, cl4], fun j => ⟨by simp (disch := omega) only [xr_e, xr_m, xu_e, xu_m, b1, cr1, ci1, cl1, b2, cr2, ci2, cl2, b3, cr3, ci3, cl3, b4, cr4, ci4, cl4], by simp (disch := omega) only [xr_e, xr_m, xu_e, xu_m, b1, cr1, ci1, cl1, b2, cr2, ci2, cl2, b3, cr3, ci3, cl3, b4, cr4, ci4, cl4]⟩⟩
  have hfr : fN 0 = 7 ∧ fN 1 = 3 ∧ fN 2 = 6 ∧ fN 3 = 4 ∧ fN 4 = 4 ∧ fN 5 = 3 ∧ fN 6 = 3 ∧ fN 7 = 8 := ⟨rfl, rfl, rfl, rfl, rfl, rfl, rfl, rfl⟩
  have hf8 : fN 8 = 4 ∧ fN 9 = 9 := ⟨rfl, rfl⟩
  refine ⟨(P4.1, xu (P4.2.1) 39 3 (some (94)), 111), I4, L4, (C4.1, C4.2), ⟨by first | rfl | (dsimp only; omega), fun k h => ?_, fun k j h => ⟨?_, ?_, ?_⟩, by dsimp only; omega, by dsimp only; omega⟩, ?_, ?_, ?_, hq⟩
  · simp (disch := omega) only [xr_e, xr_m, xu_e, xu_m, b1, cr1, ci1, cl1, b2, cr2, ci2, cl2, b3, cr3, ci3, cl3, b4, cr4, ci4, cl4]
  · simp (disch := omega) only [xr_e, xr_m, xu_e, xu_m, b1, cr1, ci1, cl1, b2, cr2, ci2, cl2, b3, cr3, ci3, cl3, b4, cr4, ci4, cl4]
  · simp (disch := omega) only [xr_e, xr_m, xu_e, xu_m, b1, cr1, ci1, cl1, b2, cr2, ci2, cl2, b3, cr3, ci3, cl3, b4, cr4, ci4, cl4]
  · simp (disch := omega) only [xr_e, xr_m, xu_e, xu_m, b1, cr1, ci1, cl1, b2, cr2, ci2, cl2, b3, cr3, ci3, cl3, b4, cr4, ci4, cl4]
  · refine ⟨?_, ?_, ?_, fun i hi => ?_, fun i hi => ?_⟩
    · simp (disch := omega) only [xr_e, xr_m, xu_e, xu_m, b1, cr1, ci1, cl1, b2, cr2, ci2, cl2, b3, cr3, ci3, cl3, b4, cr4, ci4, cl4, hk]
    · simp (disch := omega) only [xr_e, xr_m, xu_e, xu_m, b1, cr1, ci1, cl1, b2, cr2, ci2, cl2, b3, cr3, ci3, cl3, b4, cr4, ci4, cl4]
    · simp (disch := omega) only [xr_e, xr_m, xu_e, xu_m, b1, cr1, ci1, cl1, b2, cr2, ci2, cl2, b3, cr3, ci3, cl3, b4, cr4, ci4, cl4]
    · rcases (by omega : i = 0 ∨ i = 1 ∨ i = 2 ∨ i = 3) with rfl | rfl | rfl | rfl
      · show _ = some 40
        simp (disch := omega) only [xr_e, xr_m, xu_e, xu_m, b1, cr1, ci1, cl1, b2, cr2, ci2, cl2, b3, cr3, ci3, cl3, b4, cr4, ci4, cl4]
      · show _ = some 58
        simp (disch := omega) only [xr_e, xr_m, xu_e, xu_m, b1, cr1, ci1, cl1, b2, cr2, ci2, cl2, b3, cr3, ci3, cl3, b4, cr4, ci4, cl4]
      · show _ = some 76
        simp (disch := omega) only [xr_e, xr_m, xu_e, xu_m, b1, cr1, ci1, cl1, b2, cr2, ci2, cl2, b3, cr3, ci3, cl3, b4, cr4, ci4, cl4]
      · show _ = some 94
        simp (disch := omega) only [xr_e, xr_m, xu_e, xu_m, b1, cr1, ci1, cl1, b2, cr2, ci2, cl2, b3, cr3, ci3, cl3, b4, cr4, ci4, cl4]
    · rcases (by omega : i = 0 ∨ i = 1 ∨ i = 2 ∨ i = 3) with rfl | rfl | rfl | rfl
      · exact SB_es sa1 es1
      · exact SB_es sb2 es2
      · exact SB_es sc3 es3
      · exact SB_es se4 es4
  · simp (disch := omega) only [xr_e, xr_m, xu_e, xu_m, b1, cr1, ci1, cl1, b2, cr2, ci2, cl2, b3, cr3, ci3, cl3, b4, cr4, ci4, cl4, hz, z_nI]
  · simp (disch := omega) only [xr_e, xr_m, xu_e, xu_m, b1, cr1, ci1, cl1, b2, cr2, ci2, cl2, b3, cr3, ci3, cl3, b4, cr4, ci4, cl4, hz, z_nI]
theorem d0_0 : dec 0 0 = some (.aload_n 0, 1, []) := rfl
theorem d0_1 : dec 0 1 = some (.invokespecial 3, 3, [4, 26]) := rfl
theorem d0_4 : dec 0 4 = some (.aload_n 0, 1, []) := rfl
theorem d0_5 : dec 0 5 = some (.new 9, 3, [5, 6, 29, 30, 2]) := rfl
theorem d0_8 : dec 0 8 = some (.dup, 1, []) := rfl
theorem d0_9 : dec 0 9 = some (.invokespecial 11, 3, [2, 1, 1, 6, 1, 31]) := rfl
theorem d0_12 : dec 0 12 = some (.putfield 12, 3, [1, 9, 0, 2, 0, 267]) := rfl
theorem d0_15 : dec 0 15 = some (.aload_n 0, 1, []) := rfl
theorem d0_16 : dec 0 16 = some (.new 9, 3, [5, 6, 29, 30, 2]) := rfl
theorem d0_19 : dec 0 19 = some (.dup, 1, []) := rfl
theorem d0_20 : dec 0 20 = some (.invokespecial 11, 3, [2, 1, 1, 6, 1, 31]) := rfl
theorem d0_23 : dec 0 23 = some (.putfield 16, 3, [1, 9, 1, 2, 0, 268]) := rfl
theorem d0_26 : dec 0 26 = some (.aload_n 0, 1, []) := rfl
theorem d0_27 : dec 0 27 = some (.new 19, 3, [5, 5, 155, 156, 6]) := rfl
theorem d0_30 : dec 0 30 = some (.dup, 1, []) := rfl
theorem d0_31 : dec 0 31 = some (.invokespecial 21, 3, [2, 5, 1, 5, 0, 157]) := rfl
theorem d0_34 : dec 0 34 = some (.putfield 22, 3, [1, 9, 2, 2, 0, 269]) := rfl
theorem d0_37 : dec 0 37 = some (.aload_n 0, 1, []) := rfl
theorem d0_38 : dec 0 38 = some (.new 26, 3, [5, 8, 175, 176, 7]) := rfl
theorem d0_41 : dec 0 41 = some (.dup, 1, []) := rfl
theorem d0_42 : dec 0 42 = some (.invokespecial 28, 3, [2, 6, 1, 8, 1, 177]) := rfl
theorem d0_45 : dec 0 45 = some (.putfield 29, 3, [1, 9, 3, 2, 0, 270]) := rfl
theorem d0_48 : dec 0 48 = some (.aload_n 0, 1, []) := rfl
theorem d0_49 : dec 0 49 = some (.new 33, 3, [5, 7, 194, 36, 3]) := rfl
theorem d0_52 : dec 0 52 = some (.dup, 1, []) := rfl
theorem d0_53 : dec 0 53 = some (.invokespecial 35, 3, [2, 2, 1, 7, 1, 195]) := rfl
theorem d0_56 : dec 0 56 = some (.putfield 36, 3, [1, 9, 4, 2, 0, 271]) := rfl
theorem d0_59 : dec 0 59 = some (.aload_n 0, 1, []) := rfl
theorem d0_60 : dec 0 60 = some (.new 40, 3, [5, 4, 196, 197, 8]) := rfl
theorem d0_63 : dec 0 63 = some (.dup, 1, []) := rfl
theorem d0_64 : dec 0 64 = some (.invokespecial 42, 3, [2, 7, 1, 4, 1, 198]) := rfl
theorem d0_67 : dec 0 67 = some (.putfield 43, 3, [1, 9, 5, 2, 0, 272]) := rfl
theorem d0_70 : dec 0 70 = some (.aload_n 0, 1, []) := rfl
theorem d0_71 : dec 0 71 = some (.new 47, 3, [5, 1, 233, 203, 9]) := rfl
theorem d0_74 : dec 0 74 = some (.dup, 1, []) := rfl
theorem d0_75 : dec 0 75 = some (.invokespecial 49, 3, [2, 8, 1, 1, 1, 234]) := rfl
theorem d0_78 : dec 0 78 = some (.putfield 50, 3, [1, 9, 6, 2, 0, 273]) := rfl
theorem d0_81 : dec 0 81 = some (.aload_n 0, 1, []) := rfl
theorem d0_82 : dec 0 82 = some (.new 54, 3, [5, 0, 235, 236, 10]) := rfl
theorem d0_85 : dec 0 85 = some (.dup, 1, []) := rfl
theorem d0_86 : dec 0 86 = some (.invokespecial 56, 3, [2, 9, 1, 0, 1, 237]) := rfl
theorem d0_89 : dec 0 89 = some (.putfield 57, 3, [1, 9, 7, 2, 0, 274]) := rfl
theorem d0_92 : dec 0 92 = some (.aload_n 0, 1, []) := rfl
theorem d0_93 : dec 0 93 = some (.new 54, 3, [5, 0, 235, 236, 10]) := rfl
theorem d0_96 : dec 0 96 = some (.dup, 1, []) := rfl
theorem d0_97 : dec 0 97 = some (.invokespecial 56, 3, [2, 9, 1, 0, 1, 237]) := rfl
theorem d0_100 : dec 0 100 = some (.putfield 61, 3, [1, 9, 8, 2, 0, 275]) := rfl
theorem d0_103 : dec 0 103 = some (.return_, 1, []) := rfl
theorem l0 : mL 0 = 1 := rfl
theorem x0 : (mG 0).2.2.2.2 = [] := rfl
theorem n0 {d : Nat} {P : MP} {I : MI} {L : ML} {C : MC} (hb : P.2.2 = 1) (hk : P.1 1 = (10, 0)) (hd : 8 ≤ d) : ∃ P' I' L' C', NW 1 148 6000 P P' I I' L L' C C' ∧ XB P' ∧ RC I' 2 g0 ∧ (I' 38 1 = nI 0 ∧ I' 38 2 = nI 0) ∧ I' 112 1 = nI 0 ∧ I' 130 6 = nI 4294967295 ∧ ∀ Q, CT d 0 [.ref 1] P I L C Q = Q (.inl none) P' I' L' C' := by
  obtain ⟨P1, I1, L1, C1, ⟨a1, b1, c1, x1, y1⟩, sa1, ra1, q1⟩ := n1 (d := d - 1) (b := 2) (P := (xr (P.1) (2) (7, 0), xr (P.2.1) (2) (fun _ => none), 2)) (I := xr (I) (2) (fun _ => 0)) (L := xr (L) (2) (fun _ => 0)) (C := (C.1 + 1, C.2 + fN 6)) rfl (by dsimp only; rw [xr_e rfl]) (by omega)
  dsimp only at b1 c1 x1 y1
  have m1 : P1.2.2 = 19 := by omega
  have cr1 : ∀ k j, k < 2 → P1.2.1 k j = (xr (P.2.1) (2) (fun _ => none)) k j := fun k j h => (c1 k j h).1
  have ci1 : ∀ k j, k < 2 → I1 k j = (xr (I) (2) (fun _ => 0)) k j := fun k j h => (c1 k j h).2.1
  have cl1 : ∀ k j, k < 2 → L1 k j = (xr (L) (2) (fun _ => 0)) k j := fun k j h => (c1 k j h).2.2
  have hk1 : P1.1 1 = (10, 0) := by simp (disch := omega) only [xr_e, xr_m, xu_e, xu_m, b1, cr1, ci1, cl1, hk]
  obtain ⟨P2, I2, L2, C2, ⟨a2, b2, c2, x2, y2⟩, sb2, rb2, q2⟩ := n1 (d := d - 1) (b := 20) (P := (xr (P1.1) (20) (7, 0), xr (xu (P1.2.1) 1 0 (some (2))) (20) (fun _ => none), 20)) (I := xr (I1) (20) (fun _ => 0)) (L := xr (L1) (20) (fun _ => 0)) (C := (C1.1 + 1, C1.2 + fN 6)) rfl (by dsimp only; rw [xr_e rfl]) (by omega)
  dsimp only at b2 c2 x2 y2
  have m2 : P2.2.2 = 37 := by omega
  have cr2 : ∀ k j, k < 20 → P2.2.1 k j = (xr (xu (P1.2.1) 1 0 (some (2))) (20) (fun _ => none)) k j := fun k j h => (c2 k j h).1
  have ci2 : ∀ k j, k < 20 → I2 k j = (xr (I1) (20) (fun _ => 0)) k j := fun k j h => (c2 k j h).2.1
  have cl2 : ∀ k j, k < 20 → L2 k j = (xr (L1) (20) (fun _ => 0)) k j := fun k j h => (c2 k j h).2.2
  have hk2 : P2.1 1 = (10, 0) := by simp (disch := omega) only [xr_e, xr_m, xu_e, xu_m, b1, cr1, ci1, cl1, b2, cr2, ci2, cl2, hk]
  obtain ⟨P3, I3, L3, C3, ⟨a3, b3, c3, x3, y3⟩, vc3, vo3, vn3, q3⟩ := n5 (d := d - 1) (P := (xr (P2.1) (38) (6, 0), xr (xu (P2.2.1) 1 1 (some (20))) (38) (fun _ => none), 38)) (I := xr (I2) (38) (fun _ => 0)) (L := xr (L2) (38) (fun _ => 0)) (C := (C2.1 + 1, C2.2 + fN 5)) rfl (by dsimp only; rw [xr_e rfl]) (fun j => by rw [xr_e rfl]) (by omega)
  dsimp only at b3 c3 x3 y3
  have m3 : P3.2.2 = 111 := by omega
  have cr3 : ∀ k j, k < 38 → P3.2.1 k j = (xr (xu (P2.2.1) 1 1 (some (20))) (38) (fun _ => none)) k j := fun k j h => (c3 k j h).1
  have ci3 : ∀ k j, k < 38 → I3 k j = (xr (I2) (38) (fun _ => 0)) k j := fun k j h => (c3 k j h).2.1
  have cl3 : ∀ k j, k < 38 → L3 k j = (xr (L2) (38) (fun _ => 0)) k j := fun k j h => (c3 k j h).2.2
  have hk3 : P3.1 1 = (10, 0) := by simp (disch := omega) only [xr_e, xr_m, xu_e, xu_m, b1, cr1, ci1, cl1, b2, cr2, ci2, cl2, b3, cr3, ci3, cl3, hk]
  obtain ⟨P4, I4, L4, C4, ⟨a4, b4, c4, x4, y4⟩, ⟨td4, te4⟩, tf4, q4⟩ := n6 (d := d - 1) (b := 112) (P := (xr (P3.1) (112) (9, 0), xr (xu (P3.2.1) 1 2 (some (38))) (112) (fun _ => none), 112)) (I := xr (I3) (112) (fun _ => 0)) (L := xr (L3) (112) (fun _ => 0)) (C := (C3.1 + 1, C3.2 + fN 8)) rfl (by dsimp only; rw [xr_e rfl]) (by omega)
  dsimp only at b4 c4 x4 y4
  have m4 : P4.2.2 = 113 := by omega
  have cr4 : ∀ k j, k < 112 → P4.2.1 k j = (xr (xu (P3.2.1) 1 2 (some (38))) (112) (fun _ => none)) k j := fun k j h => (c4 k j h).1
  have ci4 : ∀ k j, k < 112 → I4 k j = (xr (I3) (112) (fun _ => 0)) k j := fun k j h => (c4 k j h).2.1
  have cl4 : ∀ k j, k < 112 → L4 k j = (xr (L3) (112) (fun _ => 0)) k j := fun k j h => (c4 k j h).2.2
  have hk4 : P4.1 1 = (10, 0) := by simp (disch := omega) only [xr_e, xr_m, xu_e, xu_m, b1, cr1, ci1, cl1, b2, cr2, ci2, cl2, b3, cr3, ci3, cl3, b4, cr4, ci4, cl4, hk]
  obtain ⟨P5, I5, L5, C5, ⟨a5, b5, c5, x5, y5⟩, ta5, re5, q5⟩ := n2 (d := d - 1) (b := 114) (P := (xr (P4.1) (114) (8, 0), xr (xu (P4.2.1) 1 3 (some (112))) (114) (fun _ => none), 114)) (I := xr (I4) (114) (fun _ => 0)) (L := xr (L4) (114) (fun _ => 0)) (C := (C4.1 + 1, C4.2 + fN 7)) rfl (by dsimp only; rw [xr_e rfl]) (by omega)
  dsimp only at b5 c5 x5 y5
  have m5 : P5.2.2 = 122 := by omega
  have cr5 : ∀ k j, k < 114 → P5.2.1 k j = (xr (xu (P4.2.1) 1 3 (some (112))) (114) (fun _ => none)) k j := fun k j h => (c5 k j h).1
  have ci5 : ∀ k j, k < 114 → I5 k j = (xr (I4) (114) (fun _ => 0)) k j := fun k j h => (c5 k j h).2.1
  have cl5 : ∀ k j, k < 114 → L5 k j = (xr (L4) (114) (fun _ => 0)) k j := fun k j h => (c5 k j h).2.2
  have hk5 : P5.1 1 = (10, 0) := by simp (disch := omega) only [xr_e, xr_m, xu_e, xu_m, b1, cr1, ci1, cl1, b2, cr2, ci2, cl2, b3, cr3, ci3, cl3, b4, cr4, ci4, cl4, b5, cr5, ci5, cl5, hk]
  obtain ⟨P6, I6, L6, C6, ⟨a6, b6, c6, x6, y6⟩, ⟨oa6, ob6, oc6⟩, q6⟩ := n7 (d := d - 1) (b := 123) (P := (xr (P5.1) (123) (5, 0), xr (xu (P5.2.1) 1 4 (some (114))) (123) (fun _ => none), 123)) (I := xr (I5) (123) (fun _ => 0)) (L := xr (L5) (123) (fun _ => 0)) (C := (C5.1 + 1, C5.2 + fN 4)) rfl (by dsimp only; rw [xr_e rfl]) (by omega)
  dsimp only at b6 c6 x6 y6
  have m6 : P6.2.2 = 126 := by omega
  have cr6 : ∀ k j, k < 123 → P6.2.1 k j = (xr (xu (P5.2.1) 1 4 (some (114))) (123) (fun _ => none)) k j := fun k j h => (c6 k j h).1
  have ci6 : ∀ k j, k < 123 → I6 k j = (xr (I5) (123) (fun _ => 0)) k j := fun k j h => (c6 k j h).2.1
  have cl6 : ∀ k j, k < 123 → L6 k j = (xr (L5) (123) (fun _ => 0)) k j := fun k j h => (c6 k j h).2.2
  have hk6 : P6.1 1 = (10, 0) := by simp (disch := omega) only [xr_e, xr_m, xu_e, xu_m, b1, cr1, ci1, cl1, b2, cr2, ci2, cl2, b3, cr3, ci3, cl3, b4, cr4, ci4, cl4, b5, cr5, ci5, cl5, b6, cr6, ci6, cl6, hk]
  obtain ⟨P7, I7, L7, C7, ⟨a7, b7, c7, x7, y7⟩, da7, q7⟩ := n8 (d := d - 1) (b := 127) (P := (xr (P6.1) (127) (2, 0), xr (xu (P6.2.1) 1 5 (some (123))) (127) (fun _ => none), 127)) (I := xr (I6) (127) (fun _ => 0)) (L := xr (L6) (127) (fun _ => 0)) (C := (C6.1 + 1, C6.2 + fN 1)) rfl (by dsimp only; rw [xr_e rfl]) (by omega)
  dsimp only at b7 c7 x7 y7
  have m7 : P7.2.2 = 129 := by omega
  have cr7 : ∀ k j, k < 127 → P7.2.1 k j = (xr (xu (P6.2.1) 1 5 (some (123))) (127) (fun _ => none)) k j := fun k j h => (c7 k j h).1
  have ci7 : ∀ k j, k < 127 → I7 k j = (xr (I6) (127) (fun _ => 0)) k j := fun k j h => (c7 k j h).2.1
  have cl7 : ∀ k j, k < 127 → L7 k j = (xr (L6) (127) (fun _ => 0)) k j := fun k j h => (c7 k j h).2.2
  have hk7 : P7.1 1 = (10, 0) := by simp (disch := omega) only [xr_e, xr_m, xu_e, xu_m, b1, cr1, ci1, cl1, b2, cr2, ci2, cl2, b3, cr3, ci3, cl3, b4, cr4, ci4, cl4, b5, cr5, ci5, cl5, b6, cr6, ci6, cl6, b7, cr7, ci7, cl7, hk]
  obtain ⟨P8, I8, L8, C8, ⟨a8, b8, c8, x8, y8⟩, ha8, hc8, q8⟩ := n9 (d := d - 1) (b := 130) (P := (xr (P7.1) (130) (1, 0), xr (xu (P7.2.1) 1 6 (some (127))) (130) (fun _ => none), 130)) (I := xr (I7) (130) (fun _ => 0)) (L := xr (L7) (130) (fun _ => 0)) (C := (C7.1 + 1, C7.2 + fN 0)) rfl (by dsimp only; rw [xr_e rfl]) (by omega)
  dsimp only at b8 c8 x8 y8
  have m8 : P8.2.2 = 139 := by omega
  have cr8 : ∀ k j, k < 130 → P8.2.1 k j = (xr (xu (P7.2.1) 1 6 (some (127))) (130) (fun _ => none)) k j := fun k j h => (c8 k j h).1
  have ci8 : ∀ k j, k < 130 → I8 k j = (xr (I7) (130) (fun _ => 0)) k j := fun k j h => (c8 k j h).2.1
  have cl8 : ∀ k j, k < 130 → L8 k j = (xr (L7) (130) (fun _ => 0)) k j := fun k j h => (c8 k j h).2.2
  have hk8 : P8.1 1 = (10, 0) := by simp (disch := omega) only [xr_e, xr_m, xu_e, xu_m, b1, cr1, ci1, cl1, b2, cr2, ci2, cl2, b3, cr3, ci3, cl3, b4, cr4, ci4, cl4, b5, cr5, ci5, cl5, b6, cr6, ci6, cl6, b7, cr7, ci7, cl7, b8, cr8, ci8, cl8, hk]
  obtain ⟨P9, I9, L9, C9, ⟨a9, b9, c9, x9, y9⟩, hb9, he9, q9⟩ := n9 (d := d - 1) (b := 140) (P := (xr (P8.1) (140) (1, 0), xr (xu (P8.2.1) 1 7 (some (130))) (140) (fun _ => none), 140)) (I := xr (I8) (140) (fun _ => 0)) (L := xr (L8) (140) (fun _ => 0)) (C := (C8.1 + 1, C8.2 + fN 0)) rfl (by dsimp only; rw [xr_e rfl]) (by omega)
  dsimp only at b9 c9 x9 y9
  have m9 : P9.2.2 = 149 := by omega
  have cr9 : ∀ k j, k < 140 → P9.2.1 k j = (xr (xu (P8.2.1) 1 7 (some (130))) (140) (fun _ => none)) k j := fun k j h => (c9 k j h).1
  have ci9 : ∀ k j, k < 140 → I9 k j = (xr (I8) (140) (fun _ => 0)) k j := fun k j h => (c9 k j h).2.1
  have cl9 : ∀ k j, k < 140 → L9 k j = (xr (L8) (140) (fun _ => 0)) k j := fun k j h => (c9 k j h).2.2
  have hk9 : P9.1 1 = (10, 0) := by simp (disch := omega) only [xr_e, xr_m, xu_e, xu_m, b1, cr1, ci1, cl1, b2, cr2, ci2, cl2, b3, cr3, ci3, cl3, b4, cr4, ci4, cl4, b5, cr5, ci5, cl5, b6, cr6, ci6, cl6, b7, cr7, ci7, cl7, b8, cr8, ci8, cl8, b9, cr9, ci9, cl9, hk]
  have hq : ∀ Q, CT d 0 [.ref 1] P I L C Q = Q (.inl none) (P9.1, xu (P9.2.1) 1 8 (some (140)), 149) (I9) (L9) (C9.1, C9.2) := fun Q => by
    rw [CT_e (mj := 0) (e := [.ref 1]) (by omega) rfl (Nat.le_of_ble_eq_true rfl)]
    simp (disch := first | assumption | omega) only [Nat.reduceAdd, X_go, go2_some, stp, ldI, ldA, ldL, stI, stA, stL, o1I, o2I, o2L, brI, brII, gl, s1, s2, k1, sl, go_sN, go_sR, go_CT, go_sT, go_no, go_if, pops, bk_v, bk_0, d0_0, d0_1, d0_4, d0_5, d0_8, d0_9, d0_12, d0_15, d0_16, d0_19, d0_20, d0_23, d0_26, d0_27, d0_30, d0_31, d0_34, d0_37, d0_38, d0_41, d0_42, d0_45, d0_48, d0_49, d0_52, d0_53, d0_56, d0_59, d0_60, d0_63, d0_64, d0_67, d0_70, d0_71, d0_74, d0_75, d0_78, d0_81, d0_82, d0_85, d0_86, d0_89, d0_92, d0_93, d0_96, d0_97, d0_100, d0_103, n_lt, n_le, n_eq, n_lt0, n_ge0, n_gt0, n_le0, n_eq0, m_lt, m_le, m_gt, m_ge, m_eq, m_eq', m_lt0, m_ge0, m_gt0, m_le0, m_ltm, m_lem, n_in, m_in, n_cl, n_ti, n_div, n_rem', n_dec, n_l, nI_add, pk_mul, an0, an1, decide_eq_true_eq, if_true, if_false, ite_true, ite_false, and_true, true_and, and_false, false_and, not_true, not_false_iff, or_false, false_or, or_true, true_or, eq_self, va_some, Bool.false_eq_true, reduceIte, catS_n, catS_i, catS_r, catS_l, catS_d, Nat.zero_add, Nat.add_zero, decide_true, decide_false, Nat.reduceLeDiff, cat_r, cat_i, cat_l, nle_T, nle_F, nlt_T, nlt_F, neq_T, neq_F, mk, mkP, xr_e, xr_m, le1, hb, hk, m1, q1, hk1, m2, q2, hk2, m3, q3, hk3, m4, q4, hk4, m5, q5, hk5, m6, q6, hk6, m7, q7, hk7, m8, q8, hk8, m9, q9, hk9]
    done
  have es1 : ES 2 19 P1 (P9.1, xu (P9.2.1) 1 8 (some (140)), 149) I1 (I9) := fun k h1 h2 => ⟨by simp (disch := omega) only [xr_e, xr_m, xu_e, xu_m, b1, cr1, ci1, cl1, b2, cr2, ci2, cl2, b3, cr3, ci3, cl3, b4, cr4, ci4, cl4, b5, cr5, ci5, cl5, b6, cr6, ci6, cl6, b7, cr7, ci7, cl7, b8, cr8, ci8, cl8, b9, cr9, ci9, cl9], fun j => ⟨by simp (disch := omega) only [xr_e, xr_m, xu_e, xu_m, b1, cr1, ci1, cl1, b2, cr2, ci2, cl2, b3, cr3, ci3, cl3, b4, cr4, ci4, cl4, b5, cr5, ci5, cl5, b6, cr6, ci6, cl6, b7, cr7, ci7, cl7, b8, cr8, ci8, cl8, b9, cr9, ci9, cl9], by simp (disch := omega) only [xr_e, xr_m, xu_e, xu_m, b1, cr1, ci1, cl1, b2, cr2, ci2, cl2, b3, cr3, ci3, cl3, b4, cr4, ci4, cl4, b5, cr5, ci5, cl5, b6, cr6, ci6, cl6, b7, cr7, ci7, cl7, b8, cr8, ci8, cl8, b9, cr9, ci9, cl9]⟩⟩
  have es2 : ES 20 37 P2 (P9.1, xu (P9.2.1) 1 8 (some (140)), 149) I2 (I9) := fun k h1 h2 => ⟨by simp (disch := omega) only [xr_e, xr_m, xu_e, xu_m, b1, cr1, ci1, cl1, b2, cr2, ci2, cl2, b3, cr3, ci3, cl3, b4, cr4, ci4, cl4, b5, cr5, ci5, cl5, b6, cr6, ci6, cl6, b7, cr7, ci7, cl7, b8, cr8, ci8, cl8, b9, cr9, ci9, cl9], fun j => ⟨by simp (disch := omega) only [xr_e, xr_m, xu_e, xu_m, b1, cr1, ci1, cl1, b2, cr2, ci2, cl2, b3, cr3, ci3, cl3, b4, cr4, ci4, cl4, b5, cr5, ci5, cl5, b6, cr6, ci6, cl6, b7, cr7, ci7, cl7, b8, cr8, ci8, cl8, b9, cr9, ci9, cl9], by simp (disch := omega) only [xr_e, xr_m, xu_e, xu_m, b1, cr1, ci1, cl1, b2, cr2, ci2, cl2, b3, cr3, ci3, cl3, b4, cr4, ci4, cl4, b5, cr5, ci5, cl5, b6, cr6, ci6, cl6, b7, cr7, ci7, cl7, b8, cr8, ci8, cl8, b9, cr9, ci9, cl9]⟩⟩
  have es3 : ES 38 111 P3 (P9.1, xu (P9.2.1) 1 8 (some (140)), 149) I3 (I9) := fun k h1 h2 => ⟨by simp (disch := omega) only [xr_e, xr_m, xu_e, xu_m, b1, cr1, ci1, cl1, b2, cr2, ci2, cl2, b3, cr3, ci3, cl3, b4, cr4, ci4, cl4, b5, cr5, ci5, cl5, b6, cr6, ci6, cl6, b7, cr7, ci7, cl7, b8, cr8, ci8, cl8, b9, cr9, ci9, cl9], fun j => ⟨by simp (disch := omega) only [xr_e, xr_m, xu_e, xu_m, b1, cr1, ci1, cl1, b2, cr2, ci2, cl2, b3, cr3, ci3, cl3, b4, cr4, ci4, cl4, b5, cr5, ci5, cl5, b6, cr6, ci6, cl6, b7, cr7, ci7, cl7, b8, cr8, ci8, cl8, b9, cr9, ci9, cl9], by simp (disch := omega) only [xr_e, xr_m, xu_e, xu_m, b1, cr1, ci1, cl1, b2, cr2, ci2, cl2, b3, cr3, ci3, cl3, b4, cr4, ci4, cl4, b5, cr5, ci5, cl5, b6, cr6, ci6, cl6, b7, cr7, ci7, cl7, b8, cr8, ci8, cl8, b9, cr9, ci9, cl9]⟩⟩
  have es4 : ES 112 113 P4 (P9.1, xu (P9.2.1) 1 8 (some (140)), 149) I4 (I9) := fun k h1 h2 => ⟨by simp (disch := omega) only [xr_e, xr_m, xu_e, xu_m, b1, cr1, ci1, cl1, b2, cr2, ci2, cl2, b3, cr3, ci3, cl3, b4, cr4, ci4, cl4, b5, cr5, ci5, cl5, b6, cr6, ci6, cl6, b7, cr7, ci7, cl7, b8, cr8, ci8, cl8, b9, cr9, ci9, cl9], fun j => ⟨by simp (disch := omega) only [xr_e, xr_m, xu_e, xu_m, b1, cr1, ci1, cl1, b2, cr2, ci2, cl2, b3, cr3, ci3, cl3, b4, cr4, ci4, cl4, b5, cr5, ci5, cl5, b6, cr6, ci6, cl6, b7, cr7, ci7, cl7, b8, cr8, ci8, cl8, b9, cr9, ci9, cl9], by simp (disch := omega) only [xr_e, xr_m, xu_e, xu_m, b1, cr1, ci1, cl1, b2, cr2, ci2, cl2, b3, cr3, ci3, cl3, b4, cr4, ci4, cl4, b5, cr5, ci5, cl5, b6, cr6, ci6, cl6, b7, cr7, ci7, cl7, b8, cr8, ci8, cl8, b9, cr9, ci9, cl9]⟩⟩
  have es5 : ES 114 122 P5 (P9.1, xu (P9.2.1) 1 8 (some (140)), 149) I5 (I9) := fun k h1 h2 => ⟨by simp (disch := omega) only [xr_e, xr_m, xu_e, xu_m, b1, cr1, ci1, cl1, b2, cr2, ci2, cl2, b3, cr3, ci3, cl3, b4, cr4, ci4, cl4, b5, cr5, ci5, cl5, b6, cr6, ci6, cl6, b7, cr7, ci7, cl7, b8, cr8, ci8, cl8, b9, cr9, ci9, cl9], fun j => ⟨by simp (disch := omega) only [xr_e, xr_m, xu_e, xu_m, b1, cr1, ci1, cl1, b2, cr2, ci2, cl2, b3, cr3, ci3, cl3, b4, cr4, ci4, cl4, b5, cr5, ci5, cl5, b6, cr6, ci6, cl6, b7, cr7, ci7, cl7, b8, cr8, ci8, cl8, b9, cr9, ci9, cl9], by simp (disch := omega) only [xr_e, xr_m, xu_e, xu_m, b1, cr1, ci1, cl1, b2, cr2, ci2, cl2, b3, cr3, ci3, cl3, b4, cr4, ci4, cl4, b5, cr5, ci5, cl5, b6, cr6, ci6, cl6, b7, cr7, ci7, cl7, b8, cr8, ci8, cl8, b9, cr9, ci9, cl9]⟩⟩
  have es6 : ES 123 126 P6 (P9.1, xu (P9.2.1) 1 8 (some (140)), 149) I6 (I9) := fun k h1 h2 => ⟨by simp (disch := omega) only [xr_e, xr_m, xu_e, xu_m, b1, cr1, ci1, cl1, b2, cr2, ci2, cl2, b3, cr3, ci3, cl3, b4, cr4, ci4, cl4, b5, cr5, ci5, cl5, b6, cr6, ci6, cl6, b7, cr7, ci7, cl7, b8, cr8, ci8, cl8, b9, cr9, ci9, cl9], fun j => ⟨by simp (disch := omega) only [xr_e, xr_m, xu_e, xu_m, b1, cr1, ci1, cl1, b2, cr2, ci2, cl2, b3, cr3, ci3, cl3, b4, cr4, ci4, cl4, b5, cr5, ci5, cl5, b6, cr6, ci6, cl6, b7, cr7, ci7, cl7, b8, cr8, ci8, cl8, b9, cr9, ci9, cl9], by simp (disch := omega) only [xr_e, xr_m, xu_e, xu_m, b1, cr1, ci1, cl1, b2, cr2, ci2, cl2, b3, cr3, ci3, cl3, b4, cr4, ci4, cl4, b5, cr5, ci5, cl5, b6, cr6, ci6, cl6, b7, cr7, ci7, cl7, b8, cr8, ci8, cl8, b9, cr9, ci9, cl9]⟩⟩
  have es7 : ES 127 129 P7 (P9.1, xu (P9.2.1) 1 8 (some (140)), 149) I7 (I9) := fun k h1 h2 => ⟨by simp (disch := omega) only [xr_e, xr_m, xu_e, xu_m, b1, cr1, ci1, cl1, b2, cr2, ci2, cl2, b3, cr3, ci3, cl3, b4, cr4, ci4, cl4, b5, cr5, ci5, cl5, b6, cr6, ci6, cl6, b7, cr7, ci7, cl7, b8, cr8, ci8, cl8, b9, cr9, ci9, cl9], fun j => ⟨by simp (disch := omega) only [xr_e, xr_m, xu_e, xu_m, b1, cr1, ci1, cl1, b2, cr2, ci2, cl2, b3, cr3, ci3, cl3, b4, cr4, ci4, cl4, b5, cr5, ci5, cl5, b6, cr6, ci6, cl6, b7, cr7, ci7, cl7, b8, cr8, ci8, cl8, b9, cr9, ci9, cl9], by simp (disch := omega) only [xr_e, xr_m, xu_e, xu_m, b1, cr1, ci1, cl1, b2, cr2, ci2, cl2, b3, cr3, ci3, cl3, b4, cr4, ci4, cl4, b5, cr5, ci5, cl5, b6, cr6, ci6, cl6, b7, cr7, ci7, cl7, b8, cr8, ci8, cl8, b9, cr9, ci9, cl9]⟩⟩
  have es8 : ES 130 139 P8 (P9.1, xu (P9.2.1) 1 8 (some (140)), 149) I8 (I9) := fun k h1 h2 => ⟨by simp (disch := omega) only [xr_e, xr_m, xu_e, xu_m, b1, cr1, ci1, cl1, b2, cr2, ci2, cl2, b3, cr3, ci3, cl3, b4, cr4, ci4, cl4, b5, cr5, ci5, cl5, b6, cr6, ci6, cl6, b7, cr7, ci7, cl7, b8, cr8, ci8, cl8, b9, cr9, ci9, cl9], fun j => ⟨by simp (disch := omega) only [xr_e, xr_m, xu_e, xu_m, b1, cr1, ci1, cl1, b2, cr2, ci2, cl2, b3, cr3, ci3, cl3, b4, cr4, ci4, cl4, b5, cr5, ci5, cl5, b6, cr6, ci6, cl6, b7, cr7, ci7, cl7, b8, cr8, ci8, cl8, b9, cr9, ci9, cl9], by simp (disch := omega) only [xr_e, xr_m, xu_e, xu_m, b1, cr1, ci1, cl1, b2, cr2, ci2, cl2, b3, cr3, ci3, cl3, b4, cr4, ci4, cl4, b5, cr5, ci5, cl5, b6, cr6, ci6, cl6, b7, cr7, ci7, cl7, b8, cr8, ci8, cl8, b9, cr9, ci9, cl9]⟩⟩
  have es9 : ES 140 149 P9 (P9.1, xu (P9.2.1) 1 8 (some (140)), 149) I9 (I9) := fun k h1 h2 => ⟨by simp (disch := omega) only [xr_e, xr_m, xu_e, xu_m, b1, cr1, ci1, cl1, b2, cr2, ci2, cl2, b3, cr3, ci3, cl3, b4, cr4, ci4, cl4, b5, cr5, ci5, cl5, b6, cr6, ci6, cl6, b7, cr7, ci7, cl7, b8, cr8, ci8, cl8, b9, cr9, ci9, cl9], fun j => ⟨by simp (disch := omega) only [xr_e, xr_m, xu_e, xu_m, b1, cr1, ci1, cl1, b2, cr2, ci2, cl2, b3, cr3, ci3, cl3, b4, cr4, ci4, cl4, b5, cr5, ci5, cl5, b6, cr6, ci6, cl6, b7, cr7, ci7, cl7, b8, cr8, ci8, cl8, b9, cr9, ci9, cl9], by simp (disch := omega) only [xr_e, xr_m, xu_e, xu_m, b1, cr1, ci1, cl1, b2, cr2, ci2, cl2, b3, cr3, ci3, cl3, b4, cr4, ci4, cl4, b5, cr5, ci5, cl5, b6, cr6, ci6, cl6, b7, cr7, ci7, cl7, b8, cr8, ci8, cl8, b9, cr9, ci9, cl9]⟩⟩
  have hfr : fN 0 = 7 ∧ fN 1 = 3 ∧ fN 2 = 6 ∧ fN 3 = 4 ∧ fN 4 = 4 ∧ fN 5 = 3 ∧ fN 6 = 3 ∧ fN 7 = 8 := ⟨rfl, rfl, rfl, rfl, rfl, rfl, rfl, rfl⟩
  have hf8 : fN 8 = 4 ∧ fN 9 = 9 := ⟨rfl, rfl⟩
  refine ⟨(P9.1, xu (P9.2.1) 1 8 (some (140)), 149), I9, L9, (C9.1, C9.2), ⟨by first | rfl | (dsimp only; omega), fun k h => ?_, fun k j h => ⟨?_, ?_, ?_⟩, by dsimp only; omega, by dsimp only; omega⟩, ?_, ?_, ⟨?_, ?_⟩, ?_, ?_, hq⟩
  · simp (disch := omega) only [xr_e, xr_m, xu_e, xu_m, b1, cr1, ci1, cl1, b2, cr2, ci2, cl2, b3, cr3, ci3, cl3, b4, cr4, ci4, cl4, b5, cr5, ci5, cl5, b6, cr6, ci6, cl6, b7, cr7, ci7, cl7, b8, cr8, ci8, cl8, b9, cr9, ci9, cl9]
  · simp (disch := omega) only [xr_e, xr_m, xu_e, xu_m, b1, cr1, ci1, cl1, b2, cr2, ci2, cl2, b3, cr3, ci3, cl3, b4, cr4, ci4, cl4, b5, cr5, ci5, cl5, b6, cr6, ci6, cl6, b7, cr7, ci7, cl7, b8, cr8, ci8, cl8, b9, cr9, ci9, cl9]
  · simp (disch := omega) only [xr_e, xr_m, xu_e, xu_m, b1, cr1, ci1, cl1, b2, cr2, ci2, cl2, b3, cr3, ci3, cl3, b4, cr4, ci4, cl4, b5, cr5, ci5, cl5, b6, cr6, ci6, cl6, b7, cr7, ci7, cl7, b8, cr8, ci8, cl8, b9, cr9, ci9, cl9]
  · simp (disch := omega) only [xr_e, xr_m, xu_e, xu_m, b1, cr1, ci1, cl1, b2, cr2, ci2, cl2, b3, cr3, ci3, cl3, b4, cr4, ci4, cl4, b5, cr5, ci5, cl5, b6, cr6, ci6, cl6, b7, cr7, ci7, cl7, b8, cr8, ci8, cl8, b9, cr9, ci9, cl9]
  · have hVB := vc3
    obtain ⟨v1, v2, v3, v4, v5⟩ := hVB
    refine ⟨?_, ⟨?_, ?_, ?_, ?_, ?_, ?_, ?_, ?_, ?_⟩, SB_es sa1 es1, SB_es sb2 es2, ⟨?_, ?_, ?_, fun i hi => ?_, fun i hi => ?_⟩, ⟨?_, ?_, ?_⟩, TB_es ta5 es5, ⟨?_, ?_, DB_es oc6 (ES_w es6 (by omega) (by omega))⟩, DB_es da7 es7, HB_es ha8 es8, HB_es hb9 es9⟩
    · simp (disch := omega) only [xr_e, xr_m, xu_e, xu_m, b1, cr1, ci1, cl1, b2, cr2, ci2, cl2, b3, cr3, ci3, cl3, b4, cr4, ci4, cl4, b5, cr5, ci5, cl5, b6, cr6, ci6, cl6, b7, cr7, ci7, cl7, b8, cr8, ci8, cl8, b9, cr9, ci9, cl9, hk]
    · simp (disch := omega) only [xr_e, xr_m, xu_e, xu_m, b1, cr1, ci1, cl1, b2, cr2, ci2, cl2, b3, cr3, ci3, cl3, b4, cr4, ci4, cl4, b5, cr5, ci5, cl5, b6, cr6, ci6, cl6, b7, cr7, ci7, cl7, b8, cr8, ci8, cl8, b9, cr9, ci9, cl9]
    · simp (disch := omega) only [xr_e, xr_m, xu_e, xu_m, b1, cr1, ci1, cl1, b2, cr2, ci2, cl2, b3, cr3, ci3, cl3, b4, cr4, ci4, cl4, b5, cr5, ci5, cl5, b6, cr6, ci6, cl6, b7, cr7, ci7, cl7, b8, cr8, ci8, cl8, b9, cr9, ci9, cl9]
    · simp (disch := omega) only [xr_e, xr_m, xu_e, xu_m, b1, cr1, ci1, cl1, b2, cr2, ci2, cl2, b3, cr3, ci3, cl3, b4, cr4, ci4, cl4, b5, cr5, ci5, cl5, b6, cr6, ci6, cl6, b7, cr7, ci7, cl7, b8, cr8, ci8, cl8, b9, cr9, ci9, cl9]
    · simp (disch := omega) only [xr_e, xr_m, xu_e, xu_m, b1, cr1, ci1, cl1, b2, cr2, ci2, cl2, b3, cr3, ci3, cl3, b4, cr4, ci4, cl4, b5, cr5, ci5, cl5, b6, cr6, ci6, cl6, b7, cr7, ci7, cl7, b8, cr8, ci8, cl8, b9, cr9, ci9, cl9]
    · simp (disch := omega) only [xr_e, xr_m, xu_e, xu_m, b1, cr1, ci1, cl1, b2, cr2, ci2, cl2, b3, cr3, ci3, cl3, b4, cr4, ci4, cl4, b5, cr5, ci5, cl5, b6, cr6, ci6, cl6, b7, cr7, ci7, cl7, b8, cr8, ci8, cl8, b9, cr9, ci9, cl9]
    · simp (disch := omega) only [xr_e, xr_m, xu_e, xu_m, b1, cr1, ci1, cl1, b2, cr2, ci2, cl2, b3, cr3, ci3, cl3, b4, cr4, ci4, cl4, b5, cr5, ci5, cl5, b6, cr6, ci6, cl6, b7, cr7, ci7, cl7, b8, cr8, ci8, cl8, b9, cr9, ci9, cl9]
    · simp (disch := omega) only [xr_e, xr_m, xu_e, xu_m, b1, cr1, ci1, cl1, b2, cr2, ci2, cl2, b3, cr3, ci3, cl3, b4, cr4, ci4, cl4, b5, cr5, ci5, cl5, b6, cr6, ci6, cl6, b7, cr7, ci7, cl7, b8, cr8, ci8, cl8, b9, cr9, ci9, cl9]
    · simp (disch := omega) only [xr_e, xr_m, xu_e, xu_m, b1, cr1, ci1, cl1, b2, cr2, ci2, cl2, b3, cr3, ci3, cl3, b4, cr4, ci4, cl4, b5, cr5, ci5, cl5, b6, cr6, ci6, cl6, b7, cr7, ci7, cl7, b8, cr8, ci8, cl8, b9, cr9, ci9, cl9]
    · simp (disch := omega) only [xr_e, xr_m, xu_e, xu_m, b1, cr1, ci1, cl1, b2, cr2, ci2, cl2, b3, cr3, ci3, cl3, b4, cr4, ci4, cl4, b5, cr5, ci5, cl5, b6, cr6, ci6, cl6, b7, cr7, ci7, cl7, b8, cr8, ci8, cl8, b9, cr9, ci9, cl9]
    · rw [(es3 38 (by omega) (by omega)).1]; exact v1
    · rw [((es3 38 (by omega) (by omega)).2 _).1]; exact v2
    · rw [(es3 39 (by omega) (by omega)).1]; exact v3
    · rw [((es3 39 (by omega) (by omega)).2 _).1]; exact v4 i hi
    · exact SB_es (v5 i hi) (ES_w es3 (by unfold vb; omega) (by unfold vb; omega))
    · rw [(es4 112 (by omega) (by omega)).1]; simp (disch := omega) only [xr_e, xr_m, xu_e, xu_m, b1, cr1, ci1, cl1, b2, cr2, ci2, cl2, b3, cr3, ci3, cl3, b4, cr4, ci4, cl4, b5, cr5, ci5, cl5, b6, cr6, ci6, cl6, b7, cr7, ci7, cl7, b8, cr8, ci8, cl8, b9, cr9, ci9, cl9]
    · rw [((es4 112 (by omega) (by omega)).2 _).1]; exact td4
    · rw [(es4 113 (by omega) (by omega)).1]; exact te4
    · rw [(es6 123 (by omega) (by omega)).1]; exact oa6
    · rw [((es6 123 (by omega) (by omega)).2 _).1]; exact ob6
  · exact RC_es ra1 es1
  · rw [((es3 38 (by omega) (by omega)).2 _).2]; exact vo3
  · rw [((es3 38 (by omega) (by omega)).2 _).2]; exact vn3
  · rw [((es4 112 (by omega) (by omega)).2 _).2, tf4]; simp (disch := omega) only [xr_e, xr_m, xu_e, xu_m, b1, cr1, ci1, cl1, b2, cr2, ci2, cl2, b3, cr3, ci3, cl3, b4, cr4, ci4, cl4, b5, cr5, ci5, cl5, b6, cr6, ci6, cl6, b7, cr7, ci7, cl7, b8, cr8, ci8, cl8, b9, cr9, ci9, cl9, z_nI]
  · rw [((es8 130 (by omega) (by omega)).2 _).2]; exact hc8
