/-! CHANCES: what the ways of an opening add up to -/
abbrev CV : Type := Nat → Int64
def cv0 : CV := fun _ => 0
def cvA (a b : CV) : CV := fun i => a i + b i
def one (i s : Nat) : CV := fun j => if j = i then lN s else 0
def sE (f : Nat → CV) : Nat → Nat → CV
  | _, 0 => cv0
  | e, m + 1 => cvA (f e) (sE f (e + 1) m)
theorem sE_s {f : Nat → CV} {e m : Nat} : sE f e (m + 1) = cvA (f e) (sE f (e + 1) m) := rfl
theorem sE_c {f f' : Nat → CV} : ∀ m e, (∀ i, e ≤ i → i < e + m → f i = f' i) → sE f e m = sE f' e m := by
  intro m
  induction m with
  | zero => intro e _; rfl
  | succ m ih =>
    intro e h
    rw [sE_s, sE_s, h e (Nat.le_refl e) (by omega), ih (e + 1) (fun i h1 h2 => h i (by omega) (by omega))]
/-- added to the sums of the object H -/
def addL (H : Nat) (V : CV) (L : ML) : ML := fun k j => if k = H + 8 ∧ j < 16 then L k j + V j else if k = H + 9 ∧ j < 4 then L k j + V (16 + j) else if k = H ∧ j = 5 then L k j + V 20 else L k j
theorem addL_0 {H : Nat} {L : ML} : addL H cv0 L = L := by
  funext k j
  unfold addL cv0
  rw [Int64.add_zero]
  split
  · rfl
  · split
    · rfl
    · split <;> rfl
theorem addL_A {H : Nat} {V V' : CV} {L : ML} : addL H V' (addL H V L) = addL H (cvA V V') L := by
  funext k j
  unfold addL cvA
  split
  · exact Int64.add_assoc _ _ _
  · split
    · exact Int64.add_assoc _ _ _
    · split
      · exact Int64.add_assoc _ _ _
      · rfl
theorem addL_i {H i s : Nat} {L : ML} (hi : i < 16) : xu L (H + 8) i (L (H + 8) i + lN s) = addL H (one i s) L := by
  funext k j
  unfold addL one xu
  by_cases h : k = H + 8 ∧ j = i
  · rw [if_pos h, if_pos ⟨h.1, by omega⟩, if_pos h.2, h.1, h.2]
  · rw [if_neg h]
    split
    · rename_i q
      rw [if_neg (fun z => h ⟨q.1, z⟩), Int64.add_zero]
    · split
      · rw [if_neg (by omega), Int64.add_zero]
      · split
        · rw [if_neg (by omega), Int64.add_zero]
        · rfl
theorem addL_b {H i s : Nat} {L : ML} (hi : i < 4) : xu L (H + 9) i (L (H + 9) i + lN s) = addL H (one (16 + i) s) L := by
  funext k j
  unfold addL one xu
  by_cases h : k = H + 9 ∧ j = i
  · rw [if_pos h, if_neg (by omega), if_pos ⟨h.1, by omega⟩, if_pos (by omega), h.1, h.2]
  · rw [if_neg h]
    split
    · rw [if_neg (by omega), Int64.add_zero]
    · split
      · rename_i q
        rw [if_neg (fun z => h ⟨q.1, by omega⟩), Int64.add_zero]
      · split
        · rw [if_neg (by omega), Int64.add_zero]
        · rfl
theorem addL_m {H s : Nat} {L : ML} : xu L H 5 (L H 5 + lN s) = addL H (one 20 s) L := by
  funext k j
  unfold addL one xu
  by_cases h : k = H ∧ j = 5
  · rw [if_pos h, if_neg (by omega), if_neg (by omega), if_pos h, if_pos rfl, h.1, h.2]
  · rw [if_neg h]
    split
    · rw [if_neg (by omega), Int64.add_zero]
    · split
      · rw [if_neg (by omega), Int64.add_zero]
      · rfl
/-- what a draw is told to have brought: 0 nothing, else an item and one -/
def wV (w : Nat) (b : Bool) (s : Nat) : CV := if w = 0 then cv0 else cvA (one 20 s) (if b = true then one (w - 1) s else cv0)
def endV (n w0 w1 fd s : Nat) : CV := cvA (if 1 ≤ n then wV w0 true s else cv0) (cvA (if 2 ≤ n then wV w1 (decide (w0 ≠ w1)) s else cv0) (if fd = 0 then cv0 else one (16 + (fd - 1)) s))
def spW (g : GS) (sp : SP) (t e : Nat) : SP := fun t' e' => sp t' e' || (decide (t' = t ∧ e' = e) && decide (g (cl t e 4) ≠ 0))
def hE (g : GS) (W : Nat → Nat → Nat) (K : SP → SP → Nat → Nat → Nat → CV) (R : Nat → SP → SP → Nat → Nat → CV) (t : Nat) (sp gr : SP) (fd s e : Nat) : CV := if W t e = 0 then cv0 else if g (cl t e 0) < 16 then K (spW g sp t e) (grW gr t (g (cl t e 3))) (max fd (g (cl t e 2) + 1)) (g (cl t e 0) + 1) (s * W t e / sm (g (3 + t)) (W t)) else R (g (cl t e 0) - 16) (spW g sp t e) (grW gr t (g (cl t e 3))) fd (s * W t e / sm (g (3 + t)) (W t))
def hV (g : GS) (W : Nat → Nat → Nat) (K : SP → SP → Nat → Nat → Nat → CV) : Nat → Nat → SP → SP → Nat → Nat → CV
  | 0, _, _, _, _, _ => cv0
  | f + 1, t, sp, gr, fd, s => sE (hE g W K (hV g W K f) t sp gr fd s) 0 (g (3 + t))
def goV (g : GS) (top : Nat) : Nat → Nat → Nat → Nat → SP → SP → Nat → Nat → CV
  | 0, n, w0, w1, _, _, fd, s => endV n w0 w1 fd s
  | r + 1, n, w0, w1, sp, gr, fd, s => if 0 < sw g (wq g sp gr fd top) sp gr top then hV g (wt g (wq g sp gr fd top) sp gr) (fun sp' gr' fd' w s' => goV g top r (n + 1) (if n = 0 then w else w0) (if n = 0 then w1 else w) sp' gr' fd' s') 3 top sp gr fd s
    else goV g top r (n + 1) (if n = 0 then 0 else w0) (if n = 0 then w1 else 0) sp gr fd s
/-- all of them -/
def chV (g : GS) (top : Nat) : CV := goV g top (g top) 0 0 0 (spG g) noG 0 1000000000
def HB (P : MP) (H : Nat) : Prop := P.1 H = (1, 0) ∧ P.2.1 H 0 = some (H + 1) ∧ P.2.1 H 1 = some (H + 4) ∧ P.2.1 H 2 = some (H + 7) ∧ P.2.1 H 3 = some (H + 8) ∧ P.2.1 H 4 = some (H + 9) ∧ DB P (H + 1) ∧ DB P (H + 4) ∧ P.1 (H + 7) = (20, 2) ∧ P.1 (H + 8) = (21, 16) ∧ P.1 (H + 9) = (21, 4)
/-! CHANCES: the end of a way -/
theorem d78_0 : dec 78 0 = some (.iconst 0, 1, [0]) := rfl
theorem d78_1 : dec 78 1 = some (.istore 5, 2, []) := rfl
theorem d78_3 : dec 78 3 = some (.iload 5, 2, []) := rfl
theorem d78_5 : dec 78 5 = some (.iload_n 1, 1, []) := rfl
theorem d78_6 : dec 78 6 = some (.if_icmp .ge 79, 3, [85]) := rfl
theorem d78_9 : dec 78 9 = some (.iload 5, 2, []) := rfl
theorem d78_11 : dec 78 11 = some (.iconst 2, 1, [2]) := rfl
theorem d78_12 : dec 78 12 = some (.if_icmp .ge 73, 3, [85]) := rfl
theorem d78_15 : dec 78 15 = some (.aload_n 0, 1, []) := rfl
theorem d78_16 : dec 78 16 = some (.getfield 21, 3, [1, 0, 2, 2, 0, 245]) := rfl
theorem d78_19 : dec 78 19 = some (.iload 5, 2, []) := rfl
theorem d78_21 : dec 78 21 = some (.iaload, 1, []) := rfl
theorem d78_22 : dec 78 22 = some (.istore 6, 2, []) := rfl
theorem d78_24 : dec 78 24 = some (.iload 6, 2, []) := rfl
theorem d78_26 : dec 78 26 = some (.ifCond .lt 53, 3, [79]) := rfl
theorem d78_29 : dec 78 29 = some (.iload 6, 2, []) := rfl
theorem d78_31 : dec 78 31 = some (.bipush 16, 2, [16]) := rfl
theorem d78_33 : dec 78 33 = some (.if_icmp .lt 6, 3, [39]) := rfl
theorem d78_36 : dec 78 36 = some (.goto 43, 3, [79]) := rfl
theorem d78_39 : dec 78 39 = some (.aload_n 0, 1, []) := rfl
theorem d78_40 : dec 78 40 = some (.dup, 1, []) := rfl
theorem d78_41 : dec 78 41 = some (.getfield 36, 3, [1, 0, 5, 1, 0, 248]) := rfl
theorem d78_44 : dec 78 44 = some (.lload_n 3, 1, []) := rfl
theorem d78_45 : dec 78 45 = some (.ladd, 1, []) := rfl
theorem d78_46 : dec 78 46 = some (.putfield 36, 3, [1, 0, 5, 1, 0, 248]) := rfl
theorem d78_49 : dec 78 49 = some (.iload 5, 2, []) := rfl
theorem d78_51 : dec 78 51 = some (.ifCond .eq 17, 3, [68]) := rfl
theorem d78_54 : dec 78 54 = some (.aload_n 0, 1, []) := rfl
theorem d78_55 : dec 78 55 = some (.getfield 21, 3, [1, 0, 2, 2, 0, 245]) := rfl
theorem d78_58 : dec 78 58 = some (.iload 5, 2, []) := rfl
theorem d78_60 : dec 78 60 = some (.iconst 1, 1, [1]) := rfl
theorem d78_61 : dec 78 61 = some (.isub, 1, []) := rfl
theorem d78_62 : dec 78 62 = some (.iaload, 1, []) := rfl
theorem d78_63 : dec 78 63 = some (.iload 6, 2, []) := rfl
theorem d78_65 : dec 78 65 = some (.if_icmp .eq 14, 3, [79]) := rfl
theorem d78_68 : dec 78 68 = some (.aload_n 0, 1, []) := rfl
theorem d78_69 : dec 78 69 = some (.getfield 25, 3, [1, 0, 3, 2, 0, 246]) := rfl
theorem d78_72 : dec 78 72 = some (.iload 6, 2, []) := rfl
theorem d78_74 : dec 78 74 = some (.dup2, 1, []) := rfl
theorem d78_75 : dec 78 75 = some (.laload, 1, []) := rfl
theorem d78_76 : dec 78 76 = some (.lload_n 3, 1, []) := rfl
theorem d78_77 : dec 78 77 = some (.ladd, 1, []) := rfl
theorem d78_78 : dec 78 78 = some (.lastore, 1, []) := rfl
theorem d78_79 : dec 78 79 = some (.iinc 5 1, 3, [1]) := rfl
theorem d78_82 : dec 78 82 = some (.goto (-79), 3, [3]) := rfl
theorem d78_85 : dec 78 85 = some (.iload_n 2, 1, []) := rfl
theorem d78_86 : dec 78 86 = some (.ifCond .lt 18, 3, [104]) := rfl
theorem d78_89 : dec 78 89 = some (.iload_n 2, 1, []) := rfl
theorem d78_90 : dec 78 90 = some (.iconst 3, 1, [3]) := rfl
theorem d78_91 : dec 78 91 = some (.if_icmp .gt 13, 3, [104]) := rfl
theorem d78_94 : dec 78 94 = some (.aload_n 0, 1, []) := rfl
theorem d78_95 : dec 78 95 = some (.getfield 29, 3, [1, 0, 4, 2, 0, 247]) := rfl
theorem d78_98 : dec 78 98 = some (.iload_n 2, 1, []) := rfl
theorem d78_99 : dec 78 99 = some (.dup2, 1, []) := rfl
theorem d78_100 : dec 78 100 = some (.laload, 1, []) := rfl
theorem d78_101 : dec 78 101 = some (.lload_n 3, 1, []) := rfl
theorem d78_102 : dec 78 102 = some (.ladd, 1, []) := rfl
theorem d78_103 : dec 78 103 = some (.lastore, 1, []) := rfl
theorem d78_104 : dec 78 104 = some (.return_, 1, []) := rfl
theorem l78 : mL 78 = 7 := rfl
theorem f78 {d : Nat} {P : MP} {I : MI} {L : ML} {C : MC} {Q : QT} {H n fd s i w w' : Nat} {u : Value} (hH : HB P H) (hw : I (H + 7) i = fI w) (hp : i = 1 → I (H + 7) 0 = fI w') (hi : i < n) (hn : n ≤ 2) (h16 : w ≤ 16) (h16' : w' ≤ 16) : ∃ v, X d 78 3 [.ref H, .int (nI n), .int (fI fd), .long (lN s), UN, .int (nI i), u] [] P I L C Q = X d 78 3 [.ref H, .int (nI n), .int (fI fd), .long (lN s), UN, .int (nI (i + 1)), v] [] P I (addL H (wV w (decide (i = 0) || decide (w' ≠ w)) s) L) C Q := by
  obtain ⟨k0, p0, p1, p2, p3, p4, hD1, hD2, y7, y8, y9⟩ := hH
  refine ⟨.int (fI w), ?_⟩
  rw [X_go, d78_3]
  have e0 : i = 0 ∨ i = 1 := by omega
  have q8 : ∀ j, addL H (one 20 s) L (H + 8) j = L (H + 8) j := fun j => by
    unfold addL one
    split
    · rw [if_neg (by omega), Int64.add_zero]
    · rw [if_neg (by omega), if_neg (by omega)]
  rcases w with _ | a
  · have e1 : wV 0 (decide (i = 0) || decide (w' ≠ 0)) s = cv0 := rfl
    rw [e1, addL_0]
    rw [fI_0] at hw ⊢
    simp (disch := first | assumption | omega) only [Nat.reduceAdd, X_go, go2_some, stp, ldI, ldA, ldL, stI, stA, stL, o1I, o2I, o2L, brI, brII, gl, s1, s2, k1, sl, go_sN, go_sR, go_CT, go_sT, go_no, go_if, pops, bk_v, bk_0, d78_0, d78_1, d78_5, d78_6, d78_9, d78_11, d78_12, d78_15, d78_16, d78_19, d78_21, d78_22, d78_24, d78_26, d78_29, d78_31, d78_33, d78_36, d78_39, d78_40, d78_41, d78_44, d78_45, d78_46, d78_49, d78_51, d78_54, d78_55, d78_58, d78_60, d78_61, d78_62, d78_63, d78_65, d78_68, d78_69, d78_72, d78_74, d78_75, d78_76, d78_77, d78_78, d78_79, d78_82, d78_85, d78_86, d78_89, d78_90, d78_91, d78_94, d78_95, d78_98, d78_99, d78_100, d78_101, d78_102, d78_103, d78_104, n_lt, n_le, n_eq, n_lt0, n_ge0, n_gt0, n_le0, n_eq0, m_lt, m_le, m_gt, m_ge, m_eq, m_eq', m_lt0, m_ge0, m_gt0, m_le0, m_ltm, m_lem, n_in, m_in, n_cl, n_ti, n_div, n_rem', n_dec, n_l, nI_add, pk_mul, an0, an1, decide_eq_true_eq, if_true, if_false, ite_true, ite_false, and_true, true_and, and_false, false_and, not_true, not_false_iff, or_false, false_or, or_true, true_or, eq_self, va_some, Bool.false_eq_true, reduceIte, catS_n, catS_i, catS_r, catS_l, catS_d, Nat.zero_add, Nat.add_zero, decide_true, decide_false, Nat.reduceLeDiff, cat_r, cat_i, cat_l, nle_T, nle_F, nlt_T, nlt_F, neq_T, neq_F, k0, p2, y7, hw]
  · have e1 : fI (a + 1) = nI a := fI_s
    rw [e1] at hw ⊢
    rcases e0 with rfl | rfl
    · have e2 : wV (a + 1) (decide ((0 : Nat) = 0) || decide (w' ≠ a + 1)) s = cvA (one 20 s) (one a s) := rfl
      rw [e2, ← addL_A, ← addL_m, ← addL_i (by omega)]
      simp (disch := first | assumption | omega) only [Nat.reduceAdd, X_go, go2_some, stp, ldI, ldA, ldL, stI, stA, stL, o1I, o2I, o2L, brI, brII, gl, s1, s2, k1, sl, go_sN, go_sR, go_CT, go_sT, go_no, go_if, pops, bk_v, bk_0, d78_0, d78_1, d78_5, d78_6, d78_9, d78_11, d78_12, d78_15, d78_16, d78_19, d78_21, d78_22, d78_24, d78_26, d78_29, d78_31, d78_33, d78_36, d78_39, d78_40, d78_41, d78_44, d78_45, d78_46, d78_49, d78_51, d78_54, d78_55, d78_58, d78_60, d78_61, d78_62, d78_63, d78_65, d78_68, d78_69, d78_72, d78_74, d78_75, d78_76, d78_77, d78_78, d78_79, d78_82, d78_85, d78_86, d78_89, d78_90, d78_91, d78_94, d78_95, d78_98, d78_99, d78_100, d78_101, d78_102, d78_103, d78_104, n_lt, n_le, n_eq, n_lt0, n_ge0, n_gt0, n_le0, n_eq0, m_lt, m_le, m_gt, m_ge, m_eq, m_eq', m_lt0, m_ge0, m_gt0, m_le0, m_ltm, m_lem, n_in, m_in, n_cl, n_ti, n_div, n_rem', n_dec, n_l, nI_add, pk_mul, an0, an1, decide_eq_true_eq, if_true, if_false, ite_true, ite_false, and_true, true_and, and_false, false_and, not_true, not_false_iff, or_false, false_or, or_true, true_or, eq_self, va_some, Bool.false_eq_true, reduceIte, catS_n, catS_i, catS_r, catS_l, catS_d, Nat.zero_add, Nat.add_zero, decide_true, decide_false, Nat.reduceLeDiff, cat_r, cat_i, cat_l, nle_T, nle_F, nlt_T, nlt_F, neq_T, neq_F, k0, p2, p3, y7, y8, hw, addL_m]
    · have hp := hp rfl
      by_cases z : w' = a + 1
      · have e2 : wV (a + 1) (decide ((1 : Nat) = 0) || decide (w' ≠ a + 1)) s = one 20 s := by
          rw [decide_eq_false (show ¬ ((1 : Nat) = 0) by omega), decide_eq_false (fun q => q z)]
          unfold wV
          rw [if_neg (by omega), if_neg (by decide)]
          funext k; unfold cvA cv0; exact Int64.add_zero _
        subst z
        rw [e1] at hp
        rw [e2, ← addL_m]
        simp (disch := first | assumption | omega) only [Nat.reduceAdd, X_go, go2_some, stp, ldI, ldA, ldL, stI, stA, stL, o1I, o2I, o2L, brI, brII, gl, s1, s2, k1, sl, go_sN, go_sR, go_CT, go_sT, go_no, go_if, pops, bk_v, bk_0, d78_0, d78_1, d78_5, d78_6, d78_9, d78_11, d78_12, d78_15, d78_16, d78_19, d78_21, d78_22, d78_24, d78_26, d78_29, d78_31, d78_33, d78_36, d78_39, d78_40, d78_41, d78_44, d78_45, d78_46, d78_49, d78_51, d78_54, d78_55, d78_58, d78_60, d78_61, d78_62, d78_63, d78_65, d78_68, d78_69, d78_72, d78_74, d78_75, d78_76, d78_77, d78_78, d78_79, d78_82, d78_85, d78_86, d78_89, d78_90, d78_91, d78_94, d78_95, d78_98, d78_99, d78_100, d78_101, d78_102, d78_103, d78_104, n_lt, n_le, n_eq, n_lt0, n_ge0, n_gt0, n_le0, n_eq0, m_lt, m_le, m_gt, m_ge, m_eq, m_eq', m_lt0, m_ge0, m_gt0, m_le0, m_ltm, m_lem, n_in, m_in, n_cl, n_ti, n_div, n_rem', n_dec, n_l, nI_add, pk_mul, an0, an1, decide_eq_true_eq, if_true, if_false, ite_true, ite_false, and_true, true_and, and_false, false_and, not_true, not_false_iff, or_false, false_or, or_true, true_or, eq_self, va_some, Bool.false_eq_true, reduceIte, catS_n, catS_i, catS_r, catS_l, catS_d, Nat.zero_add, Nat.add_zero, decide_true, decide_false, Nat.reduceLeDiff, cat_r, cat_i, cat_l, nle_T, nle_F, nlt_T, nlt_F, neq_T, neq_F, k0, p2, p3, y7, y8, hw, hp, n_sub]
      · have e2 : wV (a + 1) (decide ((1 : Nat) = 0) || decide (w' ≠ a + 1)) s = cvA (one 20 s) (one a s) := by
          rw [decide_eq_true (show w' ≠ a + 1 from z), Bool.or_true]; rfl
        rw [e2, ← addL_A, ← addL_m, ← addL_i (by omega)]
        have hz : (fI w' = nI a) = False := by
          rcases w' with _ | b
          · rw [fI_0, m_eq' (by omega)]
          · rw [fI_s, n_eq (by omega) (by omega)]; exact eq_false (by omega)
        simp (disch := first | assumption | omega) only [Nat.reduceAdd, X_go, go2_some, stp, ldI, ldA, ldL, stI, stA, stL, o1I, o2I, o2L, brI, brII, gl, s1, s2, k1, sl, go_sN, go_sR, go_CT, go_sT, go_no, go_if, pops, bk_v, bk_0, d78_0, d78_1, d78_5, d78_6, d78_9, d78_11, d78_12, d78_15, d78_16, d78_19, d78_21, d78_22, d78_24, d78_26, d78_29, d78_31, d78_33, d78_36, d78_39, d78_40, d78_41, d78_44, d78_45, d78_46, d78_49, d78_51, d78_54, d78_55, d78_58, d78_60, d78_61, d78_62, d78_63, d78_65, d78_68, d78_69, d78_72, d78_74, d78_75, d78_76, d78_77, d78_78, d78_79, d78_82, d78_85, d78_86, d78_89, d78_90, d78_91, d78_94, d78_95, d78_98, d78_99, d78_100, d78_101, d78_102, d78_103, d78_104, n_lt, n_le, n_eq, n_lt0, n_ge0, n_gt0, n_le0, n_eq0, m_lt, m_le, m_gt, m_ge, m_eq, m_eq', m_lt0, m_ge0, m_gt0, m_le0, m_ltm, m_lem, n_in, m_in, n_cl, n_ti, n_div, n_rem', n_dec, n_l, nI_add, pk_mul, an0, an1, decide_eq_true_eq, if_true, if_false, ite_true, ite_false, and_true, true_and, and_false, false_and, not_true, not_false_iff, or_false, false_or, or_true, true_or, eq_self, va_some, Bool.false_eq_true, reduceIte, catS_n, catS_i, catS_r, catS_l, catS_d, Nat.zero_add, Nat.add_zero, decide_true, decide_false, Nat.reduceLeDiff, cat_r, cat_i, cat_l, nle_T, nle_F, nlt_T, nlt_F, neq_T, neq_F, k0, p2, p3, y7, y8, hw, hp, hz, n_sub, addL_m]
theorem c78 {d : Nat} {P : MP} {I : MI} {L : ML} {C : MC} {Q : QT} {H n w0 w1 fd s : Nat} (hH : HB P H) (h0 : 1 ≤ n → I (H + 7) 0 = fI w0) (h1 : 2 ≤ n → I (H + 7) 1 = fI w1) (hd : 2 ≤ d) (hn : n ≤ 2) (hw0 : w0 ≤ 16) (hw1 : w1 ≤ 16) (hf : fd ≤ 4) : CT d 78 [.ref H, .int (nI n), .int (fI fd), .long (lN s)] P I L C Q = Q (.inl none) P I (addL H (endV n w0 w1 fd s) L) C := by
  rw [CT_e (mj := 78) (e := [.ref H, .int (nI n), .int (fI fd), .long (lN s), UN, UN, UN]) (by omega) rfl (Nat.le_of_ble_eq_true rfl)]
  have tail : ∀ (L : ML) (u : Value), X (d - 1) 78 3 [.ref H, .int (nI n), .int (fI fd), .long (lN s), UN, .int (nI n), u] [] P I L C Q = Q (.inl none) P I (addL H (if fd = 0 then cv0 else one (16 + (fd - 1)) s) L) C := by
    intro L u
    obtain ⟨k0, p0, p1, p2, p3, p4, hD1, hD2, y7, y8, y9⟩ := hH
    rw [X_go, d78_3]
    rcases fd with _ | a
    · rw [if_pos rfl, addL_0, fI_0]
      simp (disch := first | assumption | omega) only [Nat.reduceAdd, X_go, go2_some, stp, ldI, ldA, ldL, stI, stA, stL, o1I, o2I, o2L, brI, brII, gl, s1, s2, k1, sl, go_sN, go_sR, go_CT, go_sT, go_no, go_if, pops, bk_v, bk_0, d78_0, d78_1, d78_5, d78_6, d78_9, d78_11, d78_12, d78_15, d78_16, d78_19, d78_21, d78_22, d78_24, d78_26, d78_29, d78_31, d78_33, d78_36, d78_39, d78_40, d78_41, d78_44, d78_45, d78_46, d78_49, d78_51, d78_54, d78_55, d78_58, d78_60, d78_61, d78_62, d78_63, d78_65, d78_68, d78_69, d78_72, d78_74, d78_75, d78_76, d78_77, d78_78, d78_79, d78_82, d78_85, d78_86, d78_89, d78_90, d78_91, d78_94, d78_95, d78_98, d78_99, d78_100, d78_101, d78_102, d78_103, d78_104, n_lt, n_le, n_eq, n_lt0, n_ge0, n_gt0, n_le0, n_eq0, m_lt, m_le, m_gt, m_ge, m_eq, m_eq', m_lt0, m_ge0, m_gt0, m_le0, m_ltm, m_lem, n_in, m_in, n_cl, n_ti, n_div, n_rem', n_dec, n_l, nI_add, pk_mul, an0, an1, decide_eq_true_eq, if_true, if_false, ite_true, ite_false, and_true, true_and, and_false, false_and, not_true, not_false_iff, or_false, false_or, or_true, true_or, eq_self, va_some, Bool.false_eq_true, reduceIte, catS_n, catS_i, catS_r, catS_l, catS_d, Nat.zero_add, Nat.add_zero, decide_true, decide_false, Nat.reduceLeDiff, cat_r, cat_i, cat_l, nle_T, nle_F, nlt_T, nlt_F, neq_T, neq_F, k0]
    · rw [if_neg (by omega), show 16 + (a + 1 - 1) = 16 + a by omega, ← addL_b (by omega), fI_s]
      simp (disch := first | assumption | omega) only [Nat.reduceAdd, X_go, go2_some, stp, ldI, ldA, ldL, stI, stA, stL, o1I, o2I, o2L, brI, brII, gl, s1, s2, k1, sl, go_sN, go_sR, go_CT, go_sT, go_no, go_if, pops, bk_v, bk_0, d78_0, d78_1, d78_5, d78_6, d78_9, d78_11, d78_12, d78_15, d78_16, d78_19, d78_21, d78_22, d78_24, d78_26, d78_29, d78_31, d78_33, d78_36, d78_39, d78_40, d78_41, d78_44, d78_45, d78_46, d78_49, d78_51, d78_54, d78_55, d78_58, d78_60, d78_61, d78_62, d78_63, d78_65, d78_68, d78_69, d78_72, d78_74, d78_75, d78_76, d78_77, d78_78, d78_79, d78_82, d78_85, d78_86, d78_89, d78_90, d78_91, d78_94, d78_95, d78_98, d78_99, d78_100, d78_101, d78_102, d78_103, d78_104, n_lt, n_le, n_eq, n_lt0, n_ge0, n_gt0, n_le0, n_eq0, m_lt, m_le, m_gt, m_ge, m_eq, m_eq', m_lt0, m_ge0, m_gt0, m_le0, m_ltm, m_lem, n_in, m_in, n_cl, n_ti, n_div, n_rem', n_dec, n_l, nI_add, pk_mul, an0, an1, decide_eq_true_eq, if_true, if_false, ite_true, ite_false, and_true, true_and, and_false, false_and, not_true, not_false_iff, or_false, false_or, or_true, true_or, eq_self, va_some, Bool.false_eq_true, reduceIte, catS_n, catS_i, catS_r, catS_l, catS_d, Nat.zero_add, Nat.add_zero, decide_true, decide_false, Nat.reduceLeDiff, cat_r, cat_i, cat_l, nle_T, nle_F, nlt_T, nlt_F, neq_T, neq_F, k0, p4, y9]
  simp (disch := first | assumption | omega) only [Nat.reduceAdd, X_go, go2_some, stp, ldI, ldA, ldL, stI, stA, stL, o1I, o2I, o2L, brI, brII, gl, s1, s2, k1, sl, go_sN, go_sR, go_CT, go_sT, go_no, go_if, pops, bk_v, bk_0, d78_0, d78_1, d78_5, d78_6, d78_9, d78_11, d78_12, d78_15, d78_16, d78_19, d78_21, d78_22, d78_24, d78_26, d78_29, d78_31, d78_33, d78_36, d78_39, d78_40, d78_41, d78_44, d78_45, d78_46, d78_49, d78_51, d78_54, d78_55, d78_58, d78_60, d78_61, d78_62, d78_63, d78_65, d78_68, d78_69, d78_72, d78_74, d78_75, d78_76, d78_77, d78_78, d78_79, d78_82, d78_85, d78_86, d78_89, d78_90, d78_91, d78_94, d78_95, d78_98, d78_99, d78_100, d78_101, d78_102, d78_103, d78_104, n_lt, n_le, n_eq, n_lt0, n_ge0, n_gt0, n_le0, n_eq0, m_lt, m_le, m_gt, m_ge, m_eq, m_eq', m_lt0, m_ge0, m_gt0, m_le0, m_ltm, m_lem, n_in, m_in, n_cl, n_ti, n_div, n_rem', n_dec, n_l, nI_add, pk_mul, an0, an1, decide_eq_true_eq, if_true, if_false, ite_true, ite_false, and_true, true_and, and_false, false_and, not_true, not_false_iff, or_false, false_or, or_true, true_or, eq_self, va_some, Bool.false_eq_true, reduceIte, catS_n, catS_i, catS_r, catS_l, catS_d, Nat.zero_add, Nat.add_zero, decide_true, decide_false, Nat.reduceLeDiff, cat_r, cat_i, cat_l, nle_T, nle_F, nlt_T, nlt_F, neq_T, neq_F]
  simp only [← X_go]
  unfold endV
  rw [← addL_A, ← addL_A]
  have e0 : n = 0 ∨ n = 1 ∨ n = 2 := by omega
  rcases e0 with rfl | rfl | rfl
  · rw [if_neg (show ¬ (1 ≤ 0) by omega), if_neg (show ¬ (2 ≤ 0) by omega), addL_0, addL_0]
    exact tail L UN
  · obtain ⟨v, e⟩ := f78 (d := d - 1) (L := L) (C := C) (Q := Q) (n := 1) (fd := fd) (s := s) (u := UN) (w' := 0) hH (h0 (by omega)) (fun q => by omega) (by omega) (by omega) hw0 (by omega)
    rw [e, if_pos (Nat.le_refl 1), if_neg (show ¬ (2 ≤ 1) by omega), addL_0]
    exact tail _ v
  · obtain ⟨v, e⟩ := f78 (d := d - 1) (L := L) (C := C) (Q := Q) (n := 2) (fd := fd) (s := s) (u := UN) (w' := 0) hH (h0 (by omega)) (fun q => by omega) (by omega) (by omega) hw0 (by omega)
    rw [e, if_pos (show 1 ≤ 2 by omega), if_pos (Nat.le_refl 2)]
    obtain ⟨v', e⟩ := f78 (d := d - 1) (I := I) (L := addL H (wV w0 (decide ((0 : Nat) = 0) || decide ((0 : Nat) ≠ w0)) s) L) (C := C) (Q := Q) (n := 2) (fd := fd) (s := s) (u := v) (w' := w0) hH (h1 (by omega)) (fun q => h0 (by omega)) (by omega) (by omega) hw1 hw0
    rw [e]
    exact tail _ v'
