/-! THE START: what is made of parts -/
def ES (lo hi : Nat) (P P' : MP) (I I' : MI) : Prop := ∀ k, lo ≤ k → k ≤ hi → P'.1 k = P.1 k ∧ ∀ j, P'.2.1 k j = P.2.1 k j ∧ I' k j = I k j
theorem ES_w {lo hi lo' hi' : Nat} {P P' : MP} {I I' : MI} (e : ES lo hi P P' I I') (h1 : lo ≤ lo') (h2 : hi' ≤ hi) : ES lo' hi' P P' I I' := fun k q1 q2 => e k (by omega) (by omega)
theorem TB_es {T : Nat} {P P' : MP} {I I' : MI} (h : TB P T) (e : ES T (T + 8) P P' I I') : TB P' T := by
  have eK : ∀ k, T ≤ k → k ≤ T + 8 → P'.1 k = P.1 k := fun k h1 h2 => (e k h1 h2).1
  have eR : ∀ k j, T ≤ k → k ≤ T + 8 → P'.2.1 k j = P.2.1 k j := fun k j h1 h2 => ((e k h1 h2).2 j).1
  unfold TB at h ⊢
  simp (disch := omega) only [eK, eR]
  exact h
theorem LB_es {T : Nat} {P P' : MP} {I I' : MI} (h : LB P T) (e : ES T (T + 2) P P' I I') : LB P' T := by
  have eK : ∀ k, T ≤ k → k ≤ T + 2 → P'.1 k = P.1 k := fun k h1 h2 => (e k h1 h2).1
  have eR : ∀ k j, T ≤ k → k ≤ T + 2 → P'.2.1 k j = P.2.1 k j := fun k j h1 h2 => ((e k h1 h2).2 j).1
  unfold LB at h ⊢
  simp (disch := omega) only [eK, eR]
  exact h
theorem FB_es {T : Nat} {P P' : MP} {I I' : MI} (h : FB P T) (e : ES T (T + 4) P P' I I') : FB P' T := by
  have eK : ∀ k, T ≤ k → k ≤ T + 4 → P'.1 k = P.1 k := fun k h1 h2 => (e k h1 h2).1
  have eR : ∀ k j, T ≤ k → k ≤ T + 4 → P'.2.1 k j = P.2.1 k j := fun k j h1 h2 => ((e k h1 h2).2 j).1
  unfold FB at h ⊢
  simp (disch := omega) only [eK, eR]
  exact h
theorem DB_es {T : Nat} {P P' : MP} {I I' : MI} (h : DB P T) (e : ES T (T + 2) P P' I I') : DB P' T := by
  have eK : ∀ k, T ≤ k → k ≤ T + 2 → P'.1 k = P.1 k := fun k h1 h2 => (e k h1 h2).1
  have eR : ∀ k j, T ≤ k → k ≤ T + 2 → P'.2.1 k j = P.2.1 k j := fun k j h1 h2 => ((e k h1 h2).2 j).1
  unfold DB at h ⊢
  simp (disch := omega) only [eK, eR]
  exact h
theorem SB_es {T : Nat} {P P' : MP} {I I' : MI} (h : SB P T) (e : ES T (T + 17) P P' I I') : SB P' T := by
  obtain ⟨h1, h2, h3, h4, h5, h6, h7⟩ := h
  refine ⟨?_, ?_, ?_, ?_, TB_es h5 (ES_w e (by omega) (by omega)), LB_es h6 (ES_w e (by omega) (by omega)), FB_es h7 (ES_w e (by omega) (by omega))⟩
  · rw [(e T (by omega) (by omega)).1]; exact h1
  · rw [((e T (by omega) (by omega)).2 _).1]; exact h2
  · rw [((e T (by omega) (by omega)).2 _).1]; exact h3
  · rw [((e T (by omega) (by omega)).2 _).1]; exact h4
theorem HB_es {T : Nat} {P P' : MP} {I I' : MI} (h : HB P T) (e : ES T (T + 9) P P' I I') : HB P' T := by
  obtain ⟨h1, h2, h3, h4, h5, h6, h7, h8, h9, h10, h11⟩ := h
  refine ⟨?_, ?_, ?_, ?_, ?_, ?_, DB_es h7 (ES_w e (by omega) (by omega)), DB_es h8 (ES_w e (by omega) (by omega)), ?_, ?_, ?_⟩
  · rw [(e T (by omega) (by omega)).1]; exact h1
  · rw [((e T (by omega) (by omega)).2 _).1]; exact h2
  · rw [((e T (by omega) (by omega)).2 _).1]; exact h3
  · rw [((e T (by omega) (by omega)).2 _).1]; exact h4
  · rw [((e T (by omega) (by omega)).2 _).1]; exact h5
  · rw [((e T (by omega) (by omega)).2 _).1]; exact h6
  · rw [(e _ (by omega) (by omega)).1]; exact h9
  · rw [(e _ (by omega) (by omega)).1]; exact h10
  · rw [(e _ (by omega) (by omega)).1]; exact h11
theorem RC_es {T : Nat} {P P' : MP} {I I' : MI} {g : GS} (h : RC I T g) (e : ES T (T + 17) P P' I I') : RC I' T g := RC_fr h fun k j h1 h2 => ((e k h1 h2).2 j).2
theorem TR_es {T : Nat} {P P' : MP} {I I' : MI} {g : GS} (h : TR I T g) (e : ES T (T + 8) P P' I I') (h0 : ∀ t, t < 3 → g (3 + t) = 0) : TR I' T g := by
  obtain ⟨h1, h2, h3⟩ := h
  refine ⟨fun t ht => ?_, fun t ht => ?_, fun t e' ht he => ?_⟩
  · rw [((e _ (by omega) (by omega)).2 _).2]; exact h1 t ht
  · rw [((e _ (by omega) (by omega)).2 _).2]; exact h2 t ht
  · rw [h0 t ht] at he; omega
theorem LR_es {T : Nat} {P P' : MP} {I I' : MI} {g : GS} (h : LR I T g) (e : ES T (T + 2) P P' I I') : LR I' T g := by
  obtain ⟨h1, h2, h3⟩ := h
  refine ⟨fun r q1 q3 => ?_, ?_, ?_⟩
  · rw [((e _ (by omega) (by omega)).2 _).2, ((e _ (by omega) (by omega)).2 _).2]; exact h1 r q1 q3
  · rw [((e _ (by omega) (by omega)).2 _).2]; exact h2
  · rw [((e _ (by omega) (by omega)).2 _).2]; exact h3
theorem FR_es {T : Nat} {P P' : MP} {I I' : MI} {g : GS} (h : FR' I T g) (e : ES T (T + 4) P P' I I') (h0 : g 140 = 0) : FR' I' T g := by
  obtain ⟨h1, h2, h3, h4⟩ := h
  refine ⟨fun i hi => ?_, ?_, ?_, fun i hi => ?_⟩
  · rw [((e _ (by omega) (by omega)).2 _).2]; exact h1 i hi
  · rw [((e _ (by omega) (by omega)).2 _).2]; exact h2
  · rw [((e _ (by omega) (by omega)).2 _).2]; exact h3
  · rw [h0] at hi; omega

theorem d1_0 : dec 1 0 = some (.aload_n 0, 1, []) := rfl
theorem d1_1 : dec 1 1 = some (.invokespecial 3, 3, [4, 34]) := rfl
theorem d1_4 : dec 1 4 = some (.aload_n 0, 1, []) := rfl
theorem d1_5 : dec 1 5 = some (.new 9, 3, [5, 7, 35, 36, 3]) := rfl
theorem d1_8 : dec 1 8 = some (.dup, 1, []) := rfl
theorem d1_9 : dec 1 9 = some (.invokespecial 11, 3, [2, 2, 1, 7, 1, 37]) := rfl
theorem d1_12 : dec 1 12 = some (.putfield 12, 3, [1, 6, 0, 2, 0, 136]) := rfl
theorem d1_15 : dec 1 15 = some (.aload_n 0, 1, []) := rfl
theorem d1_16 : dec 1 16 = some (.new 18, 3, [5, 3, 84, 85, 4]) := rfl
theorem d1_19 : dec 1 19 = some (.dup, 1, []) := rfl
theorem d1_20 : dec 1 20 = some (.invokespecial 20, 3, [2, 3, 1, 3, 1, 86]) := rfl
theorem d1_23 : dec 1 23 = some (.putfield 21, 3, [1, 6, 1, 2, 0, 141]) := rfl
theorem d1_26 : dec 1 26 = some (.aload_n 0, 1, []) := rfl
theorem d1_27 : dec 1 27 = some (.new 25, 3, [5, 2, 107, 108, 5]) := rfl
theorem d1_30 : dec 1 30 = some (.dup, 1, []) := rfl
theorem d1_31 : dec 1 31 = some (.invokespecial 27, 3, [2, 4, 1, 2, 1, 109]) := rfl
theorem d1_34 : dec 1 34 = some (.putfield 28, 3, [1, 6, 2, 2, 0, 145]) := rfl
theorem d1_37 : dec 1 37 = some (.return_, 1, []) := rfl
theorem l1 : mL 1 = 1 := rfl
theorem x1 : (mG 1).2.2.2.2 = [] := rfl
theorem n1 {d b : Nat} {P : MP} {I : MI} {L : ML} {C : MC} (hb : P.2.2 = b) (hk : P.1 b = (7, 0)) (hd : 3 ≤ d) : ∃ P' I' L' C', NW b 17 400 P P' I I' L L' C C' ∧ SB P' b ∧ RC I' b g0 ∧ ∀ Q, CT d 1 [.ref b] P I L C Q = Q (.inl none) P' I' L' C' := by
  obtain ⟨P1, I1, L1, C1, ⟨a1, b1, c1, x1, y1⟩, ta1, ra1, q1⟩ := n2 (d := d - 1) (b := b + 1) (P := (xr (P.1) (b + 1) (8, 0), xr (P.2.1) (b + 1) (fun _ => none), b + 1)) (I := xr (I) (b + 1) (fun _ => 0)) (L := xr (L) (b + 1) (fun _ => 0)) (C := (C.1 + 1, C.2 + fN 7)) rfl (by dsimp only; rw [xr_e rfl]) (by omega)
  dsimp only at b1 c1 x1 y1
  have m1 : P1.2.2 = b + 9 := by omega
  have cr1 : ∀ k j, k < b + 1 → P1.2.1 k j = (xr (P.2.1) (b + 1) (fun _ => none)) k j := fun k j h => (c1 k j h).1
  have ci1 : ∀ k j, k < b + 1 → I1 k j = (xr (I) (b + 1) (fun _ => 0)) k j := fun k j h => (c1 k j h).2.1
  have cl1 : ∀ k j, k < b + 1 → L1 k j = (xr (L) (b + 1) (fun _ => 0)) k j := fun k j h => (c1 k j h).2.2
  have hk1 : P1.1 b = (7, 0) := by simp (disch := omega) only [xr_e, xr_m, xu_e, xu_m, b1, cr1, ci1, cl1, hk]
  obtain ⟨P2, I2, L2, C2, ⟨a2, b2, c2, x2, y2⟩, tb2, rb2, q2⟩ := n3 (d := d - 1) (b := b + 9 + 1) (P := (xr (P1.1) (b + 9 + 1) (4, 0), xr (xu (P1.2.1) b 0 (some (b + 1))) (b + 9 + 1) (fun _ => none), b + 9 + 1)) (I := xr (I1) (b + 9 + 1) (fun _ => 0)) (L := xr (L1) (b + 9 + 1) (fun _ => 0)) (C := (C1.1 + 1, C1.2 + fN 3)) rfl (by dsimp only; rw [xr_e rfl]) (fun j => by rw [xr_e rfl]) (by omega)
  dsimp only at b2 c2 x2 y2
  have m2 : P2.2.2 = b + 12 := by omega
  have cr2 : ∀ k j, k < b + 9 + 1 → P2.2.1 k j = (xr (xu (P1.2.1) b 0 (some (b + 1))) (b + 9 + 1) (fun _ => none)) k j := fun k j h => (c2 k j h).1
  have ci2 : ∀ k j, k < b + 9 + 1 → I2 k j = (xr (I1) (b + 9 + 1) (fun _ => 0)) k j := fun k j h => (c2 k j h).2.1
  have cl2 : ∀ k j, k < b + 9 + 1 → L2 k j = (xr (L1) (b + 9 + 1) (fun _ => 0)) k j := fun k j h => (c2 k j h).2.2
  have hk2 : P2.1 b = (7, 0) := by simp (disch := omega) only [xr_e, xr_m, xu_e, xu_m, b1, cr1, ci1, cl1, b2, cr2, ci2, cl2, hk]
  obtain ⟨P3, I3, L3, C3, ⟨a3, b3, c3, x3, y3⟩, tc3, rc3, q3⟩ := n4 (d := d - 1) (b := b + 12 + 1) (P := (xr (P2.1) (b + 12 + 1) (3, 0), xr (xu (P2.2.1) b 1 (some (b + 9 + 1))) (b + 12 + 1) (fun _ => none), b + 12 + 1)) (I := xr (I2) (b + 12 + 1) (fun _ => 0)) (L := xr (L2) (b + 12 + 1) (fun _ => 0)) (C := (C2.1 + 1, C2.2 + fN 2)) rfl (by dsimp only; rw [xr_e rfl]) (fun j => by rw [xr_e rfl]) (by omega)
  dsimp only at b3 c3 x3 y3
  have m3 : P3.2.2 = b + 17 := by omega
  have cr3 : ∀ k j, k < b + 12 + 1 → P3.2.1 k j = (xr (xu (P2.2.1) b 1 (some (b + 9 + 1))) (b + 12 + 1) (fun _ => none)) k j := fun k j h => (c3 k j h).1
  have ci3 : ∀ k j, k < b + 12 + 1 → I3 k j = (xr (I2) (b + 12 + 1) (fun _ => 0)) k j := fun k j h => (c3 k j h).2.1
  have cl3 : ∀ k j, k < b + 12 + 1 → L3 k j = (xr (L2) (b + 12 + 1) (fun _ => 0)) k j := fun k j h => (c3 k j h).2.2
  have hk3 : P3.1 b = (7, 0) := by simp (disch := omega) only [xr_e, xr_m, xu_e, xu_m, b1, cr1, ci1, cl1, b2, cr2, ci2, cl2, b3, cr3, ci3, cl3, hk]
  have hq : ∀ Q, CT d 1 [.ref b] P I L C Q = Q (.inl none) (P3.1, xu (P3.2.1) b 2 (some (b + 12 + 1)), b + 17) (I3) (L3) (C3.1, C3.2) := fun Q => by
    rw [CT_e (mj := 1) (e := [.ref b]) (by omega) rfl (Nat.le_of_ble_eq_true rfl)]
    simp (disch := first | assumption | omega) only [Nat.reduceAdd, X_go, go2_some, stp, ldI, ldA, ldL, stI, stA, stL, o1I, o2I, o2L, brI, brII, gl, s1, s2, k1, sl, go_sN, go_sR, go_CT, go_sT, go_no, go_if, pops, bk_v, bk_0, d1_0, d1_1, d1_4, d1_5, d1_8, d1_9, d1_12, d1_15, d1_16, d1_19, d1_20, d1_23, d1_26, d1_27, d1_30, d1_31, d1_34, d1_37, n_lt, n_le, n_eq, n_lt0, n_ge0, n_gt0, n_le0, n_eq0, m_lt, m_le, m_gt, m_ge, m_eq, m_eq', m_lt0, m_ge0, m_gt0, m_le0, m_ltm, m_lem, n_in, m_in, n_cl, n_ti, n_div, n_rem', n_dec, n_l, nI_add, pk_mul, an0, an1, decide_eq_true_eq, if_true, if_false, ite_true, ite_false, and_true, true_and, and_false, false_and, not_true, not_false_iff, or_false, false_or, or_true, true_or, eq_self, va_some, Bool.false_eq_true, reduceIte, catS_n, catS_i, catS_r, catS_l, catS_d, Nat.zero_add, Nat.add_zero, decide_true, decide_false, Nat.reduceLeDiff, cat_r, cat_i, cat_l, nle_T, nle_F, nlt_T, nlt_F, neq_T, neq_F, mk, mkP, xr_e, xr_m, le1, hb, hk, m1, q1, hk1, m2, q2, hk2, m3, q3, hk3]
    done
  have es1 : ES (b + 1) (b + 9) P1 (P3.1, xu (P3.2.1) b 2 (some (b + 12 + 1)), b + 17) I1 (I3) := fun k h1 h2 => ⟨by simp (disch := omega) only [xr_e, xr_m, xu_e, xu_m, b1, cr1, ci1, cl1, b2, cr2, ci2, cl2, b3, cr3, ci3, cl3], fun j => ⟨by simp (disch := omega) only [xr_e, xr_m, xu_e, xu_m, b1, cr1, ci1, cl1, b2, cr2, ci2, cl2, b3, cr3, ci3, cl3], by simp (disch := omega) only [xr_e, xr_m, xu_e, xu_m, b1, cr1, ci1, cl1, b2, cr2, ci2, cl2, b3, cr3, ci3, cl3]⟩⟩
  have es2 : ES (b + 10) (b + 12) P2 (P3.1, xu (P3.2.1) b 2 (some (b + 12 + 1)), b + 17) I2 (I3) := fun k h1 h2 => ⟨by simp (disch := omega) only [xr_e, xr_m, xu_e, xu_m, b1, cr1, ci1, cl1, b2, cr2, ci2, cl2, b3, cr3, ci3, cl3], fun j => ⟨by simp (disch := omega) only [xr_e, xr_m, xu_e, xu_m, b1, cr1, ci1, cl1, b2, cr2, ci2, cl2, b3, cr3, ci3, cl3], by simp (disch := omega) only [xr_e, xr_m, xu_e, xu_m, b1, cr1, ci1, cl1, b2, cr2, ci2, cl2, b3, cr3, ci3, cl3]⟩⟩
  have es3 : ES (b + 13) (b + 17) P3 (P3.1, xu (P3.2.1) b 2 (some (b + 12 + 1)), b + 17) I3 (I3) := fun k h1 h2 => ⟨by simp (disch := omega) only [xr_e, xr_m, xu_e, xu_m, b1, cr1, ci1, cl1, b2, cr2, ci2, cl2, b3, cr3, ci3, cl3], fun j => ⟨by simp (disch := omega) only [xr_e, xr_m, xu_e, xu_m, b1, cr1, ci1, cl1, b2, cr2, ci2, cl2, b3, cr3, ci3, cl3], by simp (disch := omega) only [xr_e, xr_m, xu_e, xu_m, b1, cr1, ci1, cl1, b2, cr2, ci2, cl2, b3, cr3, ci3, cl3]⟩⟩
  have hfr : fN 0 = 7 ∧ fN 1 = 3 ∧ fN 2 = 6 ∧ fN 3 = 4 ∧ fN 4 = 4 ∧ fN 5 = 3 ∧ fN 6 = 3 ∧ fN 7 = 8 := ⟨rfl, rfl, rfl, rfl, rfl, rfl, rfl, rfl⟩
  have hf8 : fN 8 = 4 ∧ fN 9 = 9 := ⟨rfl, rfl⟩
  refine ⟨(P3.1, xu (P3.2.1) b 2 (some (b + 12 + 1)), b + 17), I3, L3, (C3.1, C3.2), ⟨by first | rfl | (dsimp only; omega), fun k h => ?_, fun k j h => ⟨?_, ?_, ?_⟩, by dsimp only; omega, by dsimp only; omega⟩, ?_, ?_, hq⟩
  · simp (disch := omega) only [xr_e, xr_m, xu_e, xu_m, b1, cr1, ci1, cl1, b2, cr2, ci2, cl2, b3, cr3, ci3, cl3]
  · simp (disch := omega) only [xr_e, xr_m, xu_e, xu_m, b1, cr1, ci1, cl1, b2, cr2, ci2, cl2, b3, cr3, ci3, cl3]
  · simp (disch := omega) only [xr_e, xr_m, xu_e, xu_m, b1, cr1, ci1, cl1, b2, cr2, ci2, cl2, b3, cr3, ci3, cl3]
  · simp (disch := omega) only [xr_e, xr_m, xu_e, xu_m, b1, cr1, ci1, cl1, b2, cr2, ci2, cl2, b3, cr3, ci3, cl3]
  · refine ⟨?_, ?_, ?_, ?_, TB_es ta1 es1, LB_es tb2 es2, FB_es tc3 es3⟩
    · simp (disch := omega) only [xr_e, xr_m, xu_e, xu_m, b1, cr1, ci1, cl1, b2, cr2, ci2, cl2, b3, cr3, ci3, cl3, hk]
    · simp (disch := omega) only [xr_e, xr_m, xu_e, xu_m, b1, cr1, ci1, cl1, b2, cr2, ci2, cl2, b3, cr3, ci3, cl3]
    · simp (disch := omega) only [xr_e, xr_m, xu_e, xu_m, b1, cr1, ci1, cl1, b2, cr2, ci2, cl2, b3, cr3, ci3, cl3]
    · simp (disch := omega) only [xr_e, xr_m, xu_e, xu_m, b1, cr1, ci1, cl1, b2, cr2, ci2, cl2, b3, cr3, ci3, cl3]
  · exact ⟨TR_es ra1 es1 (fun t ht => g0_0 (by omega)), LR_es rb2 es2, FR_es rc3 es3 (g0_0 (by omega))⟩
theorem d7_0 : dec 7 0 = some (.aload_n 0, 1, []) := rfl
theorem d7_1 : dec 7 1 = some (.invokespecial 3, 3, [4, 201]) := rfl
theorem d7_4 : dec 7 4 = some (.aload_n 0, 1, []) := rfl
theorem d7_5 : dec 7 5 = some (.new 9, 3, [5, 1, 202, 203, 9]) := rfl
theorem d7_8 : dec 7 8 = some (.dup, 1, []) := rfl
theorem d7_9 : dec 7 9 = some (.invokespecial 11, 3, [2, 8, 1, 1, 1, 204]) := rfl
theorem d7_12 : dec 7 12 = some (.putfield 12, 3, [1, 4, 0, 2, 0, 220]) := rfl
theorem d7_15 : dec 7 15 = some (.return_, 1, []) := rfl
theorem l7 : mL 7 = 1 := rfl
theorem x7 : (mG 7).2.2.2.2 = [] := rfl
theorem n7 {d b : Nat} {P : MP} {I : MI} {L : ML} {C : MC} (hb : P.2.2 = b) (hk : P.1 b = (5, 0)) (hd : 3 ≤ d) : ∃ P' I' L' C', NW b 3 50 P P' I I' L L' C C' ∧ (P'.1 b = (5, 0) ∧ P'.2.1 b 0 = some (b + 1) ∧ DB P' (b + 1)) ∧ ∀ Q, CT d 7 [.ref b] P I L C Q = Q (.inl none) P' I' L' C' := by
  obtain ⟨P1, I1, L1, C1, ⟨a1, b1, c1, x1, y1⟩, ta1, q1⟩ := n8 (d := d - 1) (b := b + 1) (P := (xr (P.1) (b + 1) (2, 0), xr (P.2.1) (b + 1) (fun _ => none), b + 1)) (I := xr (I) (b + 1) (fun _ => 0)) (L := xr (L) (b + 1) (fun _ => 0)) (C := (C.1 + 1, C.2 + fN 1)) rfl (by dsimp only; rw [xr_e rfl]) (by omega)
  dsimp only at b1 c1 x1 y1
  have m1 : P1.2.2 = b + 3 := by omega
  have cr1 : ∀ k j, k < b + 1 → P1.2.1 k j = (xr (P.2.1) (b + 1) (fun _ => none)) k j := fun k j h => (c1 k j h).1
  have ci1 : ∀ k j, k < b + 1 → I1 k j = (xr (I) (b + 1) (fun _ => 0)) k j := fun k j h => (c1 k j h).2.1
  have cl1 : ∀ k j, k < b + 1 → L1 k j = (xr (L) (b + 1) (fun _ => 0)) k j := fun k j h => (c1 k j h).2.2
  have hk1 : P1.1 b = (5, 0) := by simp (disch := omega) only [xr_e, xr_m, xu_e, xu_m, b1, cr1, ci1, cl1, hk]
  have hq : ∀ Q, CT d 7 [.ref b] P I L C Q = Q (.inl none) (P1.1, xu (P1.2.1) b 0 (some (b + 1)), b + 3) (I1) (L1) (C1.1, C1.2) := fun Q => by
    rw [CT_e (mj := 7) (e := [.ref b]) (by omega) rfl (Nat.le_of_ble_eq_true rfl)]
    simp (disch := first | assumption | omega) only [Nat.reduceAdd, X_go, go2_some, stp, ldI, ldA, ldL, stI, stA, stL, o1I, o2I, o2L, brI, brII, gl, s1, s2, k1, sl, go_sN, go_sR, go_CT, go_sT, go_no, go_if, pops, bk_v, bk_0, d7_0, d7_1, d7_4, d7_5, d7_8, d7_9, d7_12, d7_15, n_lt, n_le, n_eq, n_lt0, n_ge0, n_gt0, n_le0, n_eq0, m_lt, m_le, m_gt, m_ge, m_eq, m_eq', m_lt0, m_ge0, m_gt0, m_le0, m_ltm, m_lem, n_in, m_in, n_cl, n_ti, n_div, n_rem', n_dec, n_l, nI_add, pk_mul, an0, an1, decide_eq_true_eq, if_true, if_false, ite_true, ite_false, and_true, true_and, and_false, false_and, not_true, not_false_iff, or_false, false_or, or_true, true_or, eq_self, va_some, Bool.false_eq_true, reduceIte, catS_n, catS_i, catS_r, catS_l, catS_d, Nat.zero_add, Nat.add_zero, decide_true, decide_false, Nat.reduceLeDiff, cat_r, cat_i, cat_l, nle_T, nle_F, nlt_T, nlt_F, neq_T, neq_F, mk, mkP, xr_e, xr_m, le1, hb, hk, m1, q1, hk1]
    done
  have es1 : ES (b + 1) (b + 3) P1 (P1.1, xu (P1.2.1) b 0 (some (b + 1)), b + 3) I1 (I1) := fun k h1 h2 => ⟨by simp (disch := omega) only [xr_e, xr_m, xu_e, xu_m, b1, cr1, ci1, cl1], fun j => ⟨by simp (disch := omega) only [xr_e, xr_m, xu_e, xu_m, b1, cr1, ci1, cl1], by simp (disch := omega) only [xr_e, xr_m, xu_e, xu_m, b1, cr1, ci1, cl1]⟩⟩
  have hfr : fN 0 = 7 ∧ fN 1 = 3 ∧ fN 2 = 6 ∧ fN 3 = 4 ∧ fN 4 = 4 ∧ fN 5 = 3 ∧ fN 6 = 3 ∧ fN 7 = 8 := ⟨rfl, rfl, rfl, rfl, rfl, rfl, rfl, rfl⟩
  have hf8 : fN 8 = 4 ∧ fN 9 = 9 := ⟨rfl, rfl⟩
  refine ⟨(P1.1, xu (P1.2.1) b 0 (some (b + 1)), b + 3), I1, L1, (C1.1, C1.2), ⟨by first | rfl | (dsimp only; omega), fun k h => ?_, fun k j h => ⟨?_, ?_, ?_⟩, by dsimp only; omega, by dsimp only; omega⟩, ?_, hq⟩
  · simp (disch := omega) only [xr_e, xr_m, xu_e, xu_m, b1, cr1, ci1, cl1]
  · simp (disch := omega) only [xr_e, xr_m, xu_e, xu_m, b1, cr1, ci1, cl1]
  · simp (disch := omega) only [xr_e, xr_m, xu_e, xu_m, b1, cr1, ci1, cl1]
  · simp (disch := omega) only [xr_e, xr_m, xu_e, xu_m, b1, cr1, ci1, cl1]
  · refine ⟨?_, ?_, DB_es ta1 es1⟩
    · simp (disch := omega) only [xr_e, xr_m, xu_e, xu_m, b1, cr1, ci1, cl1, hk]
    · simp (disch := omega) only [xr_e, xr_m, xu_e, xu_m, b1, cr1, ci1, cl1]
theorem d9_0 : dec 9 0 = some (.aload_n 0, 1, []) := rfl
theorem d9_1 : dec 9 1 = some (.invokespecial 3, 3, [4, 240]) := rfl
theorem d9_4 : dec 9 4 = some (.aload_n 0, 1, []) := rfl
theorem d9_5 : dec 9 5 = some (.new 9, 3, [5, 1, 241, 203, 9]) := rfl
theorem d9_8 : dec 9 8 = some (.dup, 1, []) := rfl
theorem d9_9 : dec 9 9 = some (.invokespecial 11, 3, [2, 8, 1, 1, 1, 242]) := rfl
theorem d9_12 : dec 9 12 = some (.putfield 12, 3, [1, 0, 0, 2, 0, 243]) := rfl
theorem d9_15 : dec 9 15 = some (.aload_n 0, 1, []) := rfl
theorem d9_16 : dec 9 16 = some (.new 9, 3, [5, 1, 241, 203, 9]) := rfl
theorem d9_19 : dec 9 19 = some (.dup, 1, []) := rfl
theorem d9_20 : dec 9 20 = some (.invokespecial 11, 3, [2, 8, 1, 1, 1, 242]) := rfl
theorem d9_23 : dec 9 23 = some (.putfield 18, 3, [1, 0, 1, 2, 0, 244]) := rfl
theorem d9_26 : dec 9 26 = some (.aload_n 0, 1, []) := rfl
theorem d9_27 : dec 9 27 = some (.iconst 2, 1, [2]) := rfl
theorem d9_28 : dec 9 28 = some (.newarray .int, 2, []) := rfl
theorem d9_30 : dec 9 30 = some (.putfield 21, 3, [1, 0, 2, 2, 0, 245]) := rfl
theorem d9_33 : dec 9 33 = some (.aload_n 0, 1, []) := rfl
theorem d9_34 : dec 9 34 = some (.bipush 16, 2, [16]) := rfl
theorem d9_36 : dec 9 36 = some (.newarray .long, 2, []) := rfl
theorem d9_38 : dec 9 38 = some (.putfield 25, 3, [1, 0, 3, 2, 0, 246]) := rfl
theorem d9_41 : dec 9 41 = some (.aload_n 0, 1, []) := rfl
theorem d9_42 : dec 9 42 = some (.iconst 4, 1, [4]) := rfl
theorem d9_43 : dec 9 43 = some (.newarray .long, 2, []) := rfl
theorem d9_45 : dec 9 45 = some (.putfield 29, 3, [1, 0, 4, 2, 0, 247]) := rfl
theorem d9_48 : dec 9 48 = some (.aload_n 0, 1, []) := rfl
theorem d9_49 : dec 9 49 = some (.iconst (-1), 1, [4294967295]) := rfl
theorem d9_50 : dec 9 50 = some (.putfield 32, 3, [1, 0, 6, 0, 0, 250]) := rfl
theorem d9_53 : dec 9 53 = some (.return_, 1, []) := rfl
theorem l9 : mL 9 = 1 := rfl
theorem x9 : (mG 9).2.2.2.2 = [] := rfl
theorem n9 {d b : Nat} {P : MP} {I : MI} {L : ML} {C : MC} (hb : P.2.2 = b) (hk : P.1 b = (1, 0)) (hd : 3 ≤ d) : ∃ P' I' L' C', NW b 9 150 P P' I I' L L' C C' ∧ HB P' b ∧ I' b 6 = nI 4294967295 ∧ ∀ Q, CT d 9 [.ref b] P I L C Q = Q (.inl none) P' I' L' C' := by
  obtain ⟨P1, I1, L1, C1, ⟨a1, b1, c1, x1, y1⟩, ta1, q1⟩ := n8 (d := d - 1) (b := b + 1) (P := (xr (P.1) (b + 1) (2, 0), xr (P.2.1) (b + 1) (fun _ => none), b + 1)) (I := xr (I) (b + 1) (fun _ => 0)) (L := xr (L) (b + 1) (fun _ => 0)) (C := (C.1 + 1, C.2 + fN 1)) rfl (by dsimp only; rw [xr_e rfl]) (by omega)
  dsimp only at b1 c1 x1 y1
  have m1 : P1.2.2 = b + 3 := by omega
  have cr1 : ∀ k j, k < b + 1 → P1.2.1 k j = (xr (P.2.1) (b + 1) (fun _ => none)) k j := fun k j h => (c1 k j h).1
  have ci1 : ∀ k j, k < b + 1 → I1 k j = (xr (I) (b + 1) (fun _ => 0)) k j := fun k j h => (c1 k j h).2.1
  have cl1 : ∀ k j, k < b + 1 → L1 k j = (xr (L) (b + 1) (fun _ => 0)) k j := fun k j h => (c1 k j h).2.2
  have hk1 : P1.1 b = (1, 0) := by simp (disch := omega) only [xr_e, xr_m, xu_e, xu_m, b1, cr1, ci1, cl1, hk]
  obtain ⟨P2, I2, L2, C2, ⟨a2, b2, c2, x2, y2⟩, tb2, q2⟩ := n8 (d := d - 1) (b := b + 3 + 1) (P := (xr (P1.1) (b + 3 + 1) (2, 0), xr (xu (P1.2.1) b 0 (some (b + 1))) (b + 3 + 1) (fun _ => none), b + 3 + 1)) (I := xr (I1) (b + 3 + 1) (fun _ => 0)) (L := xr (L1) (b + 3 + 1) (fun _ => 0)) (C := (C1.1 + 1, C1.2 + fN 1)) rfl (by dsimp only; rw [xr_e rfl]) (by omega)
  dsimp only at b2 c2 x2 y2
  have m2 : P2.2.2 = b + 6 := by omega
  have cr2 : ∀ k j, k < b + 3 + 1 → P2.2.1 k j = (xr (xu (P1.2.1) b 0 (some (b + 1))) (b + 3 + 1) (fun _ => none)) k j := fun k j h => (c2 k j h).1
  have ci2 : ∀ k j, k < b + 3 + 1 → I2 k j = (xr (I1) (b + 3 + 1) (fun _ => 0)) k j := fun k j h => (c2 k j h).2.1
  have cl2 : ∀ k j, k < b + 3 + 1 → L2 k j = (xr (L1) (b + 3 + 1) (fun _ => 0)) k j := fun k j h => (c2 k j h).2.2
  have hk2 : P2.1 b = (1, 0) := by simp (disch := omega) only [xr_e, xr_m, xu_e, xu_m, b1, cr1, ci1, cl1, b2, cr2, ci2, cl2, hk]
  have hq : ∀ Q, CT d 9 [.ref b] P I L C Q = Q (.inl none) (xr (xr (xr (P2.1) (b + 6 + 1) (20, 2)) (b + 6 + 1 + 1) (21, 16)) (b + 6 + 1 + 1 + 1) (21, 4), xu (xr (xu (xr (xu (xr (xu (P2.2.1) b 1 (some (b + 3 + 1))) (b + 6 + 1) (fun _ => none)) b 2 (some (b + 6 + 1))) (b + 6 + 1 + 1) (fun _ => none)) b 3 (some (b + 6 + 1 + 1))) (b + 6 + 1 + 1 + 1) (fun _ => none)) b 4 (some (b + 6 + 1 + 1 + 1)), b + 6 + 1 + 1 + 1) (xu (xr (xr (xr (I2) (b + 6 + 1) (fun _ => 0)) (b + 6 + 1 + 1) (fun _ => 0)) (b + 6 + 1 + 1 + 1) (fun _ => 0)) b 6 (nI 4294967295)) (xr (xr (xr (L2) (b + 6 + 1) (fun _ => 0)) (b + 6 + 1 + 1) (fun _ => 0)) (b + 6 + 1 + 1 + 1) (fun _ => 0)) (C2.1 + 1 + 1 + 1, C2.2 + 2 + 16 + 4) := fun Q => by
    rw [CT_e (mj := 9) (e := [.ref b]) (by omega) rfl (Nat.le_of_ble_eq_true rfl)]
    simp (disch := first | assumption | omega) only [Nat.reduceAdd, X_go, go2_some, stp, ldI, ldA, ldL, stI, stA, stL, o1I, o2I, o2L, brI, brII, gl, s1, s2, k1, sl, go_sN, go_sR, go_CT, go_sT, go_no, go_if, pops, bk_v, bk_0, d9_0, d9_1, d9_4, d9_5, d9_8, d9_9, d9_12, d9_15, d9_16, d9_19, d9_20, d9_23, d9_26, d9_27, d9_28, d9_30, d9_33, d9_34, d9_36, d9_38, d9_41, d9_42, d9_43, d9_45, d9_48, d9_49, d9_50, d9_53, n_lt, n_le, n_eq, n_lt0, n_ge0, n_gt0, n_le0, n_eq0, m_lt, m_le, m_gt, m_ge, m_eq, m_eq', m_lt0, m_ge0, m_gt0, m_le0, m_ltm, m_lem, n_in, m_in, n_cl, n_ti, n_div, n_rem', n_dec, n_l, nI_add, pk_mul, an0, an1, decide_eq_true_eq, if_true, if_false, ite_true, ite_false, and_true, true_and, and_false, false_and, not_true, not_false_iff, or_false, false_or, or_true, true_or, eq_self, va_some, Bool.false_eq_true, reduceIte, catS_n, catS_i, catS_r, catS_l, catS_d, Nat.zero_add, Nat.add_zero, decide_true, decide_false, Nat.reduceLeDiff, cat_r, cat_i, cat_l, nle_T, nle_F, nlt_T, nlt_F, neq_T, neq_F, mk, mkP, xr_e, xr_m, le1, hb, hk, m1, q1, hk1, m2, q2, hk2]
    done
  have es1 : ES (b + 1) (b + 3) P1 (xr (xr (xr (P2.1) (b + 6 + 1) (20, 2)) (b + 6 + 1 + 1) (21, 16)) (b + 6 + 1 + 1 + 1) (21, 4), xu (xr (xu (xr (xu (xr (xu (P2.2.1) b 1 (some (b + 3 + 1))) (b + 6 + 1) (fun _ => none)) b 2 (some (b + 6 + 1))) (b + 6 + 1 + 1) (fun _ => none)) b 3 (some (b + 6 + 1 + 1))) (b + 6 + 1 + 1 + 1) (fun _ => none)) b 4 (some (b + 6 + 1 + 1 + 1)), b + 6 + 1 + 1 + 1) I1 (xu (xr (xr (xr (I2) (b + 6 + 1) (fun _ => 0)) (b + 6 + 1 + 1) (fun _ => 0)) (b + 6 + 1 + 1 + 1) (fun _ => 0)) b 6 (nI 4294967295)) := fun k h1 h2 => ⟨by simp (disch := omega) only [xr_e, xr_m, xu_e, xu_m, b1, cr1, ci1, cl1, b2, cr2, ci2, cl2], fun j => ⟨by simp (disch := omega) only [xr_e, xr_m, xu_e, xu_m, b1, cr1, ci1, cl1, b2, cr2, ci2, cl2], by simp (disch := omega) only [xr_e, xr_m, xu_e, xu_m, b1, cr1, ci1, cl1, b2, cr2, ci2, cl2]⟩⟩
  have es2 : ES (b + 4) (b + 6) P2 (xr (xr (xr (P2.1) (b + 6 + 1) (20, 2)) (b + 6 + 1 + 1) (21, 16)) (b + 6 + 1 + 1 + 1) (21, 4), xu (xr (xu (xr (xu (xr (xu (P2.2.1) b 1 (some (b + 3 + 1))) (b + 6 + 1) (fun _ => none)) b 2 (some (b + 6 + 1))) (b + 6 + 1 + 1) (fun _ => none)) b 3 (some (b + 6 + 1 + 1))) (b + 6 + 1 + 1 + 1) (fun _ => none)) b 4 (some (b + 6 + 1 + 1 + 1)), b + 6 + 1 + 1 + 1) I2 (xu (xr (xr (xr (I2) (b + 6 + 1) (fun _ => 0)) (b + 6 + 1 + 1) (fun _ => 0)) (b + 6 + 1 + 1 + 1) (fun _ => 0)) b 6 (nI 4294967295)) := fun k h1 h2 => ⟨by simp (disch := omega) only [xr_e, xr_m, xu_e, xu_m, b1, cr1, ci1, cl1, b2, cr2, ci2, cl2], fun j => ⟨by simp (disch := omega) only [xr_e, xr_m, xu_e, xu_m, b1, cr1, ci1, cl1, b2, cr2, ci2, cl2], by simp (disch := omega) only [xr_e, xr_m, xu_e, xu_m, b1, cr1, ci1, cl1, b2, cr2, ci2, cl2]⟩⟩
  have hfr : fN 0 = 7 ∧ fN 1 = 3 ∧ fN 2 = 6 ∧ fN 3 = 4 ∧ fN 4 = 4 ∧ fN 5 = 3 ∧ fN 6 = 3 ∧ fN 7 = 8 := ⟨rfl, rfl, rfl, rfl, rfl, rfl, rfl, rfl⟩
  have hf8 : fN 8 = 4 ∧ fN 9 = 9 := ⟨rfl, rfl⟩
  refine ⟨(xr (xr (xr (P2.1) (b + 6 + 1) (20, 2)) (b + 6 + 1 + 1) (21, 16)) (b + 6 + 1 + 1 + 1) (21, 4), xu (xr (xu (xr (xu (xr (xu (P2.2.1) b 1 (some (b + 3 + 1))) (b + 6 + 1) (fun _ => none)) b 2 (some (b + 6 + 1))) (b + 6 + 1 + 1) (fun _ => none)) b 3 (some (b + 6 + 1 + 1))) (b + 6 + 1 + 1 + 1) (fun _ => none)) b 4 (some (b + 6 + 1 + 1 + 1)), b + 6 + 1 + 1 + 1), xu (xr (xr (xr (I2) (b + 6 + 1) (fun _ => 0)) (b + 6 + 1 + 1) (fun _ => 0)) (b + 6 + 1 + 1 + 1) (fun _ => 0)) b 6 (nI 4294967295), xr (xr (xr (L2) (b + 6 + 1) (fun _ => 0)) (b + 6 + 1 + 1) (fun _ => 0)) (b + 6 + 1 + 1 + 1) (fun _ => 0), (C2.1 + 1 + 1 + 1, C2.2 + 2 + 16 + 4), ⟨by first | rfl | (dsimp only; omega), fun k h => ?_, fun k j h => ⟨?_, ?_, ?_⟩, by dsimp only; omega, by dsimp only; omega⟩, ?_, ?_, hq⟩
  · simp (disch := omega) only [xr_e, xr_m, xu_e, xu_m, b1, cr1, ci1, cl1, b2, cr2, ci2, cl2]
  · simp (disch := omega) only [xr_e, xr_m, xu_e, xu_m, b1, cr1, ci1, cl1, b2, cr2, ci2, cl2]
  · simp (disch := omega) only [xr_e, xr_m, xu_e, xu_m, b1, cr1, ci1, cl1, b2, cr2, ci2, cl2]
  · simp (disch := omega) only [xr_e, xr_m, xu_e, xu_m, b1, cr1, ci1, cl1, b2, cr2, ci2, cl2]
  · refine ⟨?_, ?_, ?_, ?_, ?_, ?_, DB_es ta1 es1, DB_es tb2 es2, ?_, ?_, ?_⟩
    · simp (disch := omega) only [xr_e, xr_m, xu_e, xu_m, b1, cr1, ci1, cl1, b2, cr2, ci2, cl2, hk]
    all_goals simp (disch := omega) only [xr_e, xr_m, xu_e, xu_m, b1, cr1, ci1, cl1, b2, cr2, ci2, cl2]
  · simp (disch := omega) only [xr_e, xr_m, xu_e, xu_m, b1, cr1, ci1, cl1, b2, cr2, ci2, cl2]
