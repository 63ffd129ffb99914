/-! OPENINGS: one draw of the class -/
theorem b_if {c n i : Nat} (hn : n < 32) (hi : i < 32) : bt (if c = 0 then nI 0 else nI 1 <<< (nI n &&& 31)) i = (decide (c ≠ 0) && decide (i = n)) := by
  by_cases z : c = 0
  · rw [if_pos z, show nI 0 = 0 from rfl, b_0, decide_eq_false (fun q => q z)]; rfl
  · rw [if_neg z, b_one hn hi, decide_eq_true z]; rfl
theorem CB_drawn {g : GS} {x : Int32} {gr : SP} {t e : Nat} (hx : CB g x (spG g) gr) (hv : TV g) (ht : t < 3) (he : e < g (3 + t)) (h5 : g (cl t e 5) = 0) : CB (spnG g t e) (x ||| ((if g (cl t e 4) = 0 then nI 0 else nI 1 <<< (nI (6 * t + e) &&& 31)) ||| (if g (cl t e 3) = 0 then nI 0 else nI 1 <<< (nI (18 + 4 * t + g (cl t e 3)) &&& 31)))) (spG (spnG g t e)) (grW gr t (g (cl t e 3))) := by
  have hc := hv.2.1 t ht
  have h3 := (hv.2.2 t e ht he).2.2.2.2.2.1
  have hcl := cl_lt (f := 5) ht (show e < 6 by omega) (by omega)
  refine ⟨fun t' e' h he' => ?_, fun t' k h h1 hk => ?_⟩
  · rw [spnG_o (by omega) (by omega)] at he'
    have hc' := hv.2.1 t' h
    rw [b_or, b_or, b_if (by omega) (by omega), b_if (by omega) (by omega), hx.1 t' e' h he', decide_eq_false (show ¬ 6 * t' + e' = 18 + 4 * t + g (cl t e 3) by omega), Bool.and_false, Bool.or_false]
    unfold spG
    by_cases z : t' = t ∧ e' = e
    · obtain ⟨rfl, rfl⟩ := z
      rw [h5, decide_eq_true (rfl : 6 * t' + e' = 6 * t' + e'), Bool.and_true]
      unfold spnG
      rw [ud_s]; rfl
    · rw [decide_eq_false (show ¬ 6 * t' + e' = 6 * t + e by omega), Bool.and_false, Bool.or_false, spnG_o (by unfold cl; omega) (cl_ne (by omega) (by omega) (by omega) (by omega) (by omega))]
  · rw [b_or, b_or, b_if (by omega) (by omega), b_if (by omega) (by omega), hx.2 t' k h h1 hk, decide_eq_false (show ¬ 18 + 4 * t' + k = 6 * t + e by omega), Bool.and_false, Bool.false_or]
    unfold grW
    rw [Bool.or_comm]
    congr 1
    rw [Bool.and_comm]
    congr 1
    exact decide_eq_decide.mpr ⟨fun q => by omega, fun q => by omega⟩
/-- what holds behind a draw -/
def DO (P : MP) (I I' : MI) (b B : Nat) (g : GS) (n : Nat) (s : OST) : Prop := RC I' b s.1 ∧ (TV s.1 ∧ LV s.1 ∧ FV B s.1) ∧ OR I' s.1 (spG s.1) s.2.1 s.2.2.1 s.2.2.2 ∧ (s.2.2.1 ≤ 4 ∧ s.2.2.2 ≤ n + 1 ∧ s.1 123 ≤ g 123 + 1 ∧ s.1 122 = g 122 ∧ ∀ k, k < 6 → s.1 k = g k) ∧ ∀ k j, k < b ∨ b + 17 < k → k < 123 ∨ 126 < k → I' k j = I k j
theorem d116_0 : dec 116 0 = some (.aload_n 0, 1, []) := rfl
theorem d116_1 : dec 116 1 = some (.getfield 12, 3, [1, 4, 0, 2, 0, 220]) := rfl
theorem d116_4 : dec 116 4 = some (.aload_n 1, 1, []) := rfl
theorem d116_5 : dec 116 5 = some (.iload_n 2, 1, []) := rfl
theorem d116_6 : dec 116 6 = some (.aload_n 0, 1, []) := rfl
theorem d116_7 : dec 116 7 = some (.getfield 30, 3, [1, 4, 1, 0, 0, 221]) := rfl
theorem d116_10 : dec 116 10 = some (.aload_n 0, 1, []) := rfl
theorem d116_11 : dec 116 11 = some (.getfield 34, 3, [1, 4, 2, 0, 0, 222]) := rfl
theorem d116_14 : dec 116 14 = some (.invokevirtual 71, 3, [2, 64, 2, 1, 0, 738, 0, 0, 0, 2]) := rfl
theorem d116_17 : dec 116 17 = some (.iload_n 2, 1, []) := rfl
theorem d116_18 : dec 116 18 = some (.istore_n 3, 1, []) := rfl
theorem d116_19 : dec 116 19 = some (.iconst 0, 1, [0]) := rfl
theorem d116_20 : dec 116 20 = some (.istore 4, 2, []) := rfl
theorem d116_22 : dec 116 22 = some (.iload 4, 2, []) := rfl
theorem d116_24 : dec 116 24 = some (.iconst 3, 1, [3]) := rfl
theorem d116_25 : dec 116 25 = some (.if_icmp .ge 148, 3, [173]) := rfl
theorem d116_28 : dec 116 28 = some (.aload_n 0, 1, []) := rfl
theorem d116_29 : dec 116 29 = some (.getfield 12, 3, [1, 4, 0, 2, 0, 220]) := rfl
theorem d116_32 : dec 116 32 = some (.iload_n 3, 1, []) := rfl
theorem d116_33 : dec 116 33 = some (.invokevirtual 75, 3, [2, 70, 2, 1, 0, 739, 0]) := rfl
theorem d116_36 : dec 116 36 = some (.ifCond .le 137, 3, [173]) := rfl
theorem d116_39 : dec 116 39 = some (.aload_n 1, 1, []) := rfl
theorem d116_40 : dec 116 40 = some (.getfield 61, 3, [1, 6, 1, 2, 1, 143]) := rfl
theorem d116_43 : dec 116 43 = some (.aload_n 0, 1, []) := rfl
theorem d116_44 : dec 116 44 = some (.getfield 12, 3, [1, 4, 0, 2, 0, 220]) := rfl
theorem d116_47 : dec 116 47 = some (.iload_n 3, 1, []) := rfl
theorem d116_48 : dec 116 48 = some (.invokevirtual 75, 3, [2, 70, 2, 1, 0, 739, 0]) := rfl
theorem d116_51 : dec 116 51 = some (.invokevirtual 79, 3, [2, 117, 2, 3, 0, 740, 0]) := rfl
theorem d116_54 : dec 116 54 = some (.istore 5, 2, []) := rfl
theorem d116_56 : dec 116 56 = some (.aload_n 0, 1, []) := rfl
theorem d116_57 : dec 116 57 = some (.getfield 12, 3, [1, 4, 0, 2, 0, 220]) := rfl
theorem d116_60 : dec 116 60 = some (.iload_n 3, 1, []) := rfl
theorem d116_61 : dec 116 61 = some (.iload 5, 2, []) := rfl
theorem d116_63 : dec 116 63 = some (.aload_n 1, 1, []) := rfl
theorem d116_64 : dec 116 64 = some (.getfield 18, 3, [1, 6, 0, 2, 1, 137]) := rfl
theorem d116_67 : dec 116 67 = some (.iload_n 3, 1, []) := rfl
theorem d116_68 : dec 116 68 = some (.invokevirtual 82, 3, [2, 25, 2, 7, 0, 748, 0]) := rfl
theorem d116_71 : dec 116 71 = some (.invokevirtual 85, 3, [2, 118, 2, 1, 0, 749, 0, 0, 0]) := rfl
theorem d116_74 : dec 116 74 = some (.istore 6, 2, []) := rfl
theorem d116_76 : dec 116 76 = some (.iload 6, 2, []) := rfl
theorem d116_78 : dec 116 78 = some (.iconst (-1), 1, [4294967295]) := rfl
theorem d116_79 : dec 116 79 = some (.if_icmp .ne 4, 3, [83]) := rfl
theorem d116_82 : dec 116 82 = some (.return_, 1, []) := rfl
theorem d116_83 : dec 116 83 = some (.iload_n 3, 1, []) := rfl
theorem d116_84 : dec 116 84 = some (.iload 6, 2, []) := rfl
theorem d116_86 : dec 116 86 = some (.invokestatic 89, 3, [2, 27, 0, 9, 1, 754, 0, 0]) := rfl
theorem d116_89 : dec 116 89 = some (.istore 7, 2, []) := rfl
theorem d116_91 : dec 116 91 = some (.aload_n 1, 1, []) := rfl
theorem d116_92 : dec 116 92 = some (.getfield 18, 3, [1, 6, 0, 2, 1, 137]) := rfl
theorem d116_95 : dec 116 95 = some (.getfield 93, 3, [1, 7, 2, 2, 1, 47]) := rfl
theorem d116_98 : dec 116 98 = some (.iload 7, 2, []) := rfl
theorem d116_100 : dec 116 100 = some (.invokestatic 53, 3, [2, 26, 0, 9, 1, 733, 0, 2]) := rfl
theorem d116_103 : dec 116 103 = some (.istore 8, 2, []) := rfl
theorem d116_105 : dec 116 105 = some (.aload_n 0, 1, []) := rfl
theorem d116_106 : dec 116 106 = some (.dup, 1, []) := rfl
theorem d116_107 : dec 116 107 = some (.getfield 30, 3, [1, 4, 1, 0, 0, 221]) := rfl
theorem d116_110 : dec 116 110 = some (.aload_n 1, 1, []) := rfl
theorem d116_111 : dec 116 111 = some (.getfield 18, 3, [1, 6, 0, 2, 1, 137]) := rfl
theorem d116_114 : dec 116 114 = some (.iload_n 3, 1, []) := rfl
theorem d116_115 : dec 116 115 = some (.iload 7, 2, []) := rfl
theorem d116_117 : dec 116 117 = some (.invokevirtual 96, 3, [2, 80, 2, 7, 0, 755, 0, 0]) := rfl
theorem d116_120 : dec 116 120 = some (.ior, 1, []) := rfl
theorem d116_121 : dec 116 121 = some (.putfield 30, 3, [1, 4, 1, 0, 0, 221]) := rfl
theorem d116_124 : dec 116 124 = some (.aload_n 1, 1, []) := rfl
theorem d116_125 : dec 116 125 = some (.getfield 18, 3, [1, 6, 0, 2, 1, 137]) := rfl
theorem d116_128 : dec 116 128 = some (.iload 7, 2, []) := rfl
theorem d116_130 : dec 116 130 = some (.invokevirtual 99, 3, [2, 119, 2, 7, 0, 759, 0]) := rfl
theorem d116_133 : dec 116 133 = some (.iload 8, 2, []) := rfl
theorem d116_135 : dec 116 135 = some (.invokestatic 102, 3, [2, 51, 0, 9, 1, 763, 0]) := rfl
theorem d116_138 : dec 116 138 = some (.ifCond .ne 23, 3, [161]) := rfl
theorem d116_141 : dec 116 141 = some (.aload_n 0, 1, []) := rfl
theorem d116_142 : dec 116 142 = some (.aload_n 1, 1, []) := rfl
theorem d116_143 : dec 116 143 = some (.iload 8, 2, []) := rfl
theorem d116_145 : dec 116 145 = some (.aload_n 1, 1, []) := rfl
theorem d116_146 : dec 116 146 = some (.getfield 18, 3, [1, 6, 0, 2, 1, 137]) := rfl
theorem d116_149 : dec 116 149 = some (.getfield 106, 3, [1, 7, 4, 2, 1, 56]) := rfl
theorem d116_152 : dec 116 152 = some (.iload 7, 2, []) := rfl
theorem d116_154 : dec 116 154 = some (.invokestatic 53, 3, [2, 26, 0, 9, 1, 733, 0, 2]) := rfl
theorem d116_157 : dec 116 157 = some (.invokevirtual 109, 3, [2, 120, 2, 4, 0, 764, 0, 0, 2]) := rfl
theorem d116_160 : dec 116 160 = some (.return_, 1, []) := rfl
theorem d116_161 : dec 116 161 = some (.iload 8, 2, []) := rfl
theorem d116_163 : dec 116 163 = some (.invokestatic 113, 3, [2, 52, 0, 9, 1, 776, 0]) := rfl
theorem d116_166 : dec 116 166 = some (.istore_n 3, 1, []) := rfl
theorem d116_167 : dec 116 167 = some (.iinc 4 1, 3, [1]) := rfl
theorem d116_170 : dec 116 170 = some (.goto (-148), 3, [22]) := rfl
theorem d116_173 : dec 116 173 = some (.return_, 1, []) := rfl
theorem l116 : mL 116 = 9 := rfl
theorem f116 {d : Nat} {P : MP} {L : ML} {C : MC} {b top B : Nat} {W : Nat → Nat → Nat} (hO : OB P) (hb : SB P b) (hbD : b + 17 < 123) (hB : B ≤ 1000000) (hd : 6 ≤ d) : ∀ f t (I : MI) (g : GS) (gr : SP) (fd n : Nat) (u5 u6 u7 u8 : Value), t < 3 → 3 ≤ t + f → f ≤ 3 → RC I b g → TV g → LV g → FV B g → g 123 + 1 ≤ 2 * B → OR I g (spG g) gr fd n → fd ≤ 4 → n < 100 → CI W t g → 0 < sm (g (3 + t)) (W t) → (∀ t', t ≤ t' → t' < 3 → I 126 t' = nI (sm (g (3 + t')) (W t')) ∧ ∀ e, e < g (3 + t') → I 125 (6 * t' + e) = nI (W t' e)) → ∃ I', DO P I I' b B g n (chn W f t (g, gr, fd, n)) ∧ ∀ Q, X d 116 22 [.ref 123, .ref b, .int (nI top), .int (nI t), .int (nI (3 - f)), u5, u6, u7, u8] [] P I L C Q = Q (.inl none) P I' L C := by
  have hO' := hO
  have hb' := hb
  obtain ⟨k0, p0, hD⟩ := hO'
  obtain ⟨l0, r0, r1, r2, hT, hK, hF⟩ := hb'
  have hD0 := hD.1
  have hK0 := hK.1
  have hT' := hT
  obtain ⟨⟨m0, q0, q1, q2, q3, q4, q5, q6, q7⟩, y1, y2, y3, y4, y5, y6, y7, y8⟩ := hT'
  intro f
  induction f with
  | zero => intro t I g gr fd n u5 u6 u7 u8 ht h3; omega
  | succ f ih =>
    intro t I g gr fd n u5 u6 u7 u8 ht h3 hf3 hg hv hl hF1 hFB hor hfd hn hci hpos hW
    have hc := hv.2.1 t ht
    obtain ⟨he, hwp⟩ := pick_p hpos
    have hst := (hW t (Nat.le_refl t) ht).1
    have hwt := (hW t (Nat.le_refl t) ht).2
    have hsm := sm_le (n := g (3 + t)) (b := 102000) (f := W t) (fun i hi => (hci t (Nat.le_refl t) ht i hi).1)
    have hsm2 : g (3 + t) * 102000 ≤ 6 * 102000 := Nat.mul_le_mul_right _ hc
    have hpk : pe (W t) (g (3 + t)) 0 (sd (g 121) / 65536 % sm (g (3 + t)) (W t)) = pick W g t := rfl
    have hmod := Nat.mod_lt (sd (g 121) / 65536) hpos
    have hs : chn W (f + 1) t (g, gr, fd, n) = if g (cl t (pick W g t) 0) < 16 then (recG (spnG g t (pick W g t)) (g (cl t (pick W g t) 0)) (g (cl t (pick W g t) 2)), grW gr t (g (cl t (pick W g t) 3)), max fd (g (cl t (pick W g t) 2) + 1), n + 1) else chn W f (g (cl t (pick W g t) 0) - 16) (spnG g t (pick W g t), grW gr t (g (cl t (pick W g t) 3)), fd, n) := rfl
    rw [hs]
    generalize pick W g t = e at he hwp hpk
    obtain ⟨_, hc5, hcl⟩ : W t e ≤ 102000 ∧ g (cl t e 5) = 0 ∧ (16 ≤ g (cl t e 0) → 0 < sm (g (3 + (g (cl t e 0) - 16))) (W (g (cl t e 0) - 16))) := by
      have := hci t (Nat.le_refl t) ht e he
      exact ⟨this.1, (this.2 hwp).1, (this.2 hwp).2⟩
    obtain ⟨E0, E1, E2, E3, E4, E5, E6, E7⟩ := hv.2.2 t e ht he
    obtain ⟨R0, R1, R2, R3, R4, R5⟩ := hg.1.2.2 t e ht he
    have hsd := sd_lt (g 121)
    -- the memories on the way
    have hJ1 : TR (xu I (b + 10) 3 (nI (sd (g 121)))) (b + 1) g := TR_fr hg.1 fun k j _ _ => xu_n _ _ (by omega)
    have hw1 : ∀ e, e < g (3 + t) → (xu I (b + 10) 3 (nI (sd (g 121)))) (124 + 1) (6 * t + e) = nI (W t e) := fun e he => by rw [xu_n _ _ (by omega)]; exact hwt e he
    have hbits := CB_drawn (gr := gr) hor.1 hv ht he hc5
    obtain ⟨_, ho2, ho3⟩ := hor
    generalize hX : (I 123 1 ||| ((if g (cl t e 4) = 0 then nI 0 else nI 1 <<< (nI (6 * t + e) &&& 31)) ||| (if g (cl t e 3) = 0 then nI 0 else nI 1 <<< (nI (18 + 4 * t + g (cl t e 3)) &&& 31)))) = X' at hbits
    generalize hJ : xu (xu (xu I (b + 10) 3 (nI (sd (g 121)))) 123 1 X') (b + 1 + 8) (6 * t + e) (nI (g (cl t e 4))) = J
    have hJo : ∀ k j, k < b ∨ b + 17 < k → (k ≠ 123 ∨ j ≠ 1) → J k j = I k j := fun k j h1 h2 => by
      rw [← hJ, xu_n _ _ (by omega), xu_n _ _ (by omega), xu_n _ _ (by omega)]
    have hJx : J 123 1 = X' := by rw [← hJ, xu_n _ _ (by omega), xu_s]
    have hv2 := TV_spn hv ht he
    have hl2 := LV_spn hl ht (show e < 6 by omega)
    have hcl5 := cl_lt (f := 5) ht (show e < 6 by omega) (by omega)
    have hF2 : FV B (spnG g t e) := FV_g (fun k h1 _ => spnG_o (by omega) (by omega)) hF1
    have hTR1 : TR I (b + 1) (ud g 121 (sd (g 121))) := TR_g hg.1 (fun k hk => ud_n (show k ≠ 121 by omega)) hv
    have hTV1 : TV (ud g 121 (sd (g 121))) := TV_g (g := g) (fun k hk => ud_n (show k ≠ 121 by omega)) hv
    have hTR2 : TR (xu (xu I (b + 10) 3 (nI (sd (g 121)))) 123 1 X') (b + 1) (ud g 121 (sd (g 121))) := TR_fr hTR1 fun k j h1 h2 => by rw [xu_n _ _ (show k ≠ 123 ∨ j ≠ 1 by omega), xu_n _ _ (show k ≠ b + 10 ∨ j ≠ 3 by omega)]
    have hJT : TR J (b + 1) (spnG g t e) := by
      rw [← hJ]
      exact TR_ud (f := 5) hTR2 hTV1 ht (show e < 6 by omega) (by omega)
    have hJr : J (b + 1 + 5) (6 * t + e) = nI (g (cl t e 2)) := by
      rw [← hJ]
      simp (disch := omega) only [xu_n]
      exact R2
    have hJL : LR J (b + 10) (spnG g t e) := by
      refine ⟨fun r h1 h3 => ?_, ?_, ?_⟩
      · rw [spnG_o (by omega) (by omega), spnG_o (by omega) (by omega), ← hJ]
        simp (disch := omega) only [xu_n]
        exact hg.2.1.1 r h1 h3
      · rw [spnG_o (by omega) (by omega), ← hJ]
        simp (disch := omega) only [xu_n]
        exact hg.2.1.2.1
      · rw [← hJ]
        unfold spnG
        rw [ud_n (by omega), ud_s]
        simp (disch := omega) only [xu_n, xu_s]
    have hJF : FR' J (b + 13) (spnG g t e) := by
      refine FR_g (FR_fr hg.2.2 fun k j _ _ => ?_) (fun k h1 _ => spnG_o (by omega) (by omega)) (by have := hF1.2.2.1; omega)
      rw [← hJ, xu_n _ _ (by omega), xu_n _ _ (by omega), xu_n _ _ (by omega)]
    have hJ2 : J 123 2 = fI fd := by rw [hJo _ _ (by omega) (by omega)]; exact ho2
    have hJ3 : J 123 3 = nI n := by rw [hJo _ _ (by omega) (by omega)]; exact ho3
    by_cases h16 : g (cl t e 0) < 16
    · rw [if_pos h16]
      have hr3 := E1 h16
      refine ⟨takI J b (spnG g t e) (g (cl t e 0)) (g (cl t e 2)) fd n, ⟨⟨?_, ?_, ?_⟩, ⟨?_, ?_, ?_⟩, ⟨?_, ?_, ?_⟩, ⟨?_, ?_, ?_, ?_, ?_⟩, ?_⟩, ?_⟩
      · refine TR_fr (TR_g hJT (fun k hk => recG_o h16 (by omega)) hv2) fun k j _ _ => ?_
        unfold takI
        rw [xu_n _ _ (by omega), xu_n _ _ (by omega), recI_n (by omega)]
      · refine LR_fr (LR_g hJL (fun k _ hk => recG_o h16 (by omega))) fun k j _ _ => ?_
        unfold takI
        rw [xu_n _ _ (by omega), xu_n _ _ (by omega), recI_n (by omega)]
      · refine FR_fr (FR_rec hJF hF2 h16) fun k j _ _ => ?_
        unfold takI
        rw [xu_n _ _ (by omega), xu_n _ _ (by omega)]
      · exact TV_g (fun k hk => recG_o h16 (by omega)) hv2
      · exact LV_g (fun k _ hk => recG_o h16 (by omega)) hl2
      · exact FV_rec hF2 h16 hr3 (by rw [spnG_o (by omega) (by omega)]; exact hFB)
      · unfold takI
        rw [xu_n _ _ (by omega), xu_n _ _ (by omega), recI_n (by omega), hJx]
        refine ⟨fun t' e' h he' => ?_, hbits.2⟩
        dsimp only at he' ⊢
        rw [recG_o h16 (by omega)] at he'
        have hc' := hv2.2.1 t' h
        rw [hbits.1 t' e' h he']
        unfold spG
        rw [recG_o h16 (by have := cl_lt (f := 5) h (show e' < 6 by omega) (by omega); omega)]
      · unfold takI
        rw [xu_n _ _ (by omega), xu_s]
      · exact xu_s _ _ _ _
      · show max fd (g (cl t e 2) + 1) ≤ 4
        omega
      · exact Nat.le_refl _
      · show recG (spnG g t e) _ _ 123 ≤ _
        unfold recG
        rw [if_neg (by omega), if_pos rfl, spnG_o (by omega) (by omega)]
        exact Nat.le_refl _
      · show recG (spnG g t e) _ _ 122 = _
        rw [recG_o h16 (by omega), spnG_o (by omega) (by omega)]
      · intro k hk
        show recG (spnG g t e) _ _ k = _
        rw [recG_o h16 (by omega), spnG_o (by omega) (by omega)]
      · intro k j h1 h2
        unfold takI
        rw [xu_n _ _ (by omega), xu_n _ _ (by omega), recI_n (by omega), hJo _ _ h1 (.inl (by omega))]
      · intro Q
        rw [X_go, d116_22]
        have hf : 3 - (f + 1) < 3 := by omega
        simp (disch := first | assumption | omega) only [Nat.reduceAdd, X_go, go2_some, stp, ldI, ldA, ldL, stI, stA, stL, o1I, o2I, o2L, brI, brII, gl, s1, s2, k1, sl, go_sN, go_sR, go_CT, go_sT, go_no, go_if, pops, bk_v, bk_0, d116_0, d116_1, d116_4, d116_5, d116_6, d116_7, d116_10, d116_11, d116_14, d116_17, d116_18, d116_19, d116_20, d116_24, d116_25, d116_28, d116_29, d116_32, d116_33, d116_36, d116_39, d116_40, d116_43, d116_44, d116_47, d116_48, d116_51, d116_54, d116_56, d116_57, d116_60, d116_61, d116_63, d116_64, d116_67, d116_68, d116_71, d116_74, d116_76, d116_78, d116_79, d116_82, d116_83, d116_84, d116_86, d116_89, d116_91, d116_92, d116_95, d116_98, d116_100, d116_103, d116_105, d116_106, d116_107, d116_110, d116_111, d116_114, d116_115, d116_117, d116_120, d116_121, d116_124, d116_125, d116_128, d116_130, d116_133, d116_135, d116_138, d116_141, d116_142, d116_143, d116_145, d116_146, d116_149, d116_152, d116_154, d116_157, d116_160, d116_161, d116_163, d116_166, d116_167, d116_170, d116_173, n_lt, n_le, n_eq, n_lt0, n_ge0, n_gt0, n_le0, n_eq0, m_lt, m_le, m_gt, m_ge, m_eq, m_eq', m_lt0, m_ge0, m_gt0, m_le0, m_ltm, m_lem, n_in, m_in, n_cl, n_ti, n_div, n_rem', n_dec, n_l, nI_add, pk_mul, an0, an1, decide_eq_true_eq, if_true, if_false, ite_true, ite_false, and_true, true_and, and_false, false_and, not_true, not_false_iff, or_false, false_or, or_true, true_or, eq_self, va_some, Bool.false_eq_true, reduceIte, catS_n, catS_i, catS_r, catS_l, catS_d, Nat.zero_add, Nat.add_zero, decide_true, decide_false, Nat.reduceLeDiff, cat_r, cat_i, cat_l, nle_T, nle_F, nlt_T, nlt_F, neq_T, neq_F, k0, p0, hD0, hK0, l0, r0, r1, m0, q2, q4, hst, c70 hD, c117 hK hg.2.1 hl, c25g hT hJ1, c118 hD hw1 (fun i hi => (hci t (Nat.le_refl t) ht i hi).1) hmod, hpk, c27, c26 y3, c26 y5, xu_n, R0, R2, R4, c80 hT hJ1 hv ht he, hX, c119 hT, xu_s, hJ, c51, h16, c120 hO hb hJF hF2 hB hJ2 hJ3, hJr]
        done
    · rw [if_neg h16]
      obtain ⟨hlk, hr0⟩ := E2 (by omega)
      have hlt : g (cl t e 0) - 16 < 3 := by omega
      have hgt : t < g (cl t e 0) - 16 := by omega
      have hcg : ∀ t', t' < 3 → spnG g t e (3 + t') = g (3 + t') := fun t' h => spnG_o (by omega) (by omega)
      have hce : ∀ t' e' f', t < t' → t' < 3 → e' < 6 → f' < 6 → spnG g t e (cl t' e' f') = g (cl t' e' f') := fun t' e' f' h1 h2 h3 h4 => spnG_o (by have := cl_lt h2 h3 h4; omega) (cl_ne h3 h4 (by omega) (by omega) (.inl (by omega)))
      have hci2 : CI W (g (cl t e 0) - 16) (spnG g t e) := by
        intro t' h1 h2 e' he'
        rw [hcg t' h2] at he'
        have hc' := hv.2.1 t' h2
        obtain ⟨z1, z2⟩ := hci t' (by omega) h2 e' he'
        refine ⟨z1, fun hw => ?_⟩
        rw [hce t' e' 5 (by omega) h2 (by omega) (by omega), hce t' e' 0 (by omega) h2 (by omega) (by omega)]
        refine ⟨(z2 hw).1, fun h16' => ?_⟩
        have := (hv.2.2 t' e' h2 he').1
        rw [hcg _ (by omega)]
        exact (z2 hw).2 h16'
      obtain ⟨I', hDO, hX2⟩ := ih (g (cl t e 0) - 16) J (spnG g t e) (grW gr t (g (cl t e 3))) fd n (.int (nI (sd (g 121) / 65536 % sm (g (3 + t)) (W t)))) (.int (nI e)) (.int (nI (6 * t + e))) (.int (nI (g (cl t e 0)))) hlt (by omega) (by omega) ⟨hJT, hJL, hJF⟩ hv2 hl2 hF2 (by rw [spnG_o (by omega) (by omega)]; exact hFB) ⟨by rw [hJx]; exact hbits, hJ2, hJ3⟩ hfd hn hci2 (by rw [hcg _ hlt]; exact hcl (by omega)) (fun t' h1 h2 => by
        rw [hcg t' h2, hJo _ _ (by omega) (by omega)]
        refine ⟨(hW t' (by omega) h2).1, fun e' he' => ?_⟩
        rw [hJo _ _ (by omega) (by omega)]
        exact (hW t' (by omega) h2).2 e' he')
      obtain ⟨d1, d2, d3, ⟨d4, d5, d6, d7, d8⟩, d9⟩ := hDO
      refine ⟨I', ⟨d1, d2, d3, ⟨d4, d5, ?_, ?_, fun k hk => ?_⟩, fun k j h1 h2 => ?_⟩, fun Q => ?_⟩
      · rw [spnG_o (by omega) (by omega)] at d6; exact d6
      · rw [d7, spnG_o (by omega) (by omega)]
      · rw [d8 k hk, spnG_o (by omega) (by omega)]
      · rw [d9 k j h1 h2, hJo k j h1 (.inl (by omega))]
      · rw [X_go, d116_22]
        have hf : 3 - (f + 1) < 3 := by omega
        have hf2 : 3 - (f + 1) + 1 = 3 - f := by omega
        simp (disch := first | assumption | omega) only [Nat.reduceAdd, X_go, go2_some, stp, ldI, ldA, ldL, stI, stA, stL, o1I, o2I, o2L, brI, brII, gl, s1, s2, k1, sl, go_sN, go_sR, go_CT, go_sT, go_no, go_if, pops, bk_v, bk_0, d116_0, d116_1, d116_4, d116_5, d116_6, d116_7, d116_10, d116_11, d116_14, d116_17, d116_18, d116_19, d116_20, d116_24, d116_25, d116_28, d116_29, d116_32, d116_33, d116_36, d116_39, d116_40, d116_43, d116_44, d116_47, d116_48, d116_51, d116_54, d116_56, d116_57, d116_60, d116_61, d116_63, d116_64, d116_67, d116_68, d116_71, d116_74, d116_76, d116_78, d116_79, d116_82, d116_83, d116_84, d116_86, d116_89, d116_91, d116_92, d116_95, d116_98, d116_100, d116_103, d116_105, d116_106, d116_107, d116_110, d116_111, d116_114, d116_115, d116_117, d116_120, d116_121, d116_124, d116_125, d116_128, d116_130, d116_133, d116_135, d116_138, d116_141, d116_142, d116_143, d116_145, d116_146, d116_149, d116_152, d116_154, d116_157, d116_160, d116_161, d116_163, d116_166, d116_167, d116_170, d116_173, n_lt, n_le, n_eq, n_lt0, n_ge0, n_gt0, n_le0, n_eq0, m_lt, m_le, m_gt, m_ge, m_eq, m_eq', m_lt0, m_ge0, m_gt0, m_le0, m_ltm, m_lem, n_in, m_in, n_cl, n_ti, n_div, n_rem', n_dec, n_l, nI_add, pk_mul, an0, an1, decide_eq_true_eq, if_true, if_false, ite_true, ite_false, and_true, true_and, and_false, false_and, not_true, not_false_iff, or_false, false_or, or_true, true_or, eq_self, va_some, Bool.false_eq_true, reduceIte, catS_n, catS_i, catS_r, catS_l, catS_d, Nat.zero_add, Nat.add_zero, decide_true, decide_false, Nat.reduceLeDiff, cat_r, cat_i, cat_l, nle_T, nle_F, nlt_T, nlt_F, neq_T, neq_F, k0, p0, hD0, hK0, l0, r0, r1, m0, q2, q4, hst, c70 hD, c117 hK hg.2.1 hl, c25g hT hJ1, c118 hD hw1 (fun i hi => (hci t (Nat.le_refl t) ht i hi).1) hmod, hpk, c27, c26 y3, c26 y5, xu_n, R0, R2, R4, c80 hT hJ1 hv ht he, hX, c119 hT, xu_s, hJ, c51, c52, h16, hf2]
        simp only [← X_go]
        exact hX2 Q
