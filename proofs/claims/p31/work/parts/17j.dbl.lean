/-! DOUBLES: a quotient of two counts is a number -/
theorem b_tl : FP.Core.Fmt.tails FP.Core.b64 = 4503599627370496 := by decide +kernel
theorem b_ex : FP.Core.Fmt.exps FP.Core.b64 = 2048 := by decide +kernel
theorem b_mi : FP.Core.Fmt.qmin FP.Core.b64 = -1074 := by decide +kernel
theorem b_mx : FP.Core.Fmt.qmax FP.Core.b64 = 971 := by decide +kernel
theorem b_p2 : 2 ^ FP.Core.Fmt.p FP.Core.b64 = 9007199254740992 := by decide +kernel
theorem asm_b {e t : Nat} : FP.Core.assemble FP.Core.b64 false e t = e * 4503599627370496 + t := by
  unfold FP.Core.assemble
  rw [b_tl, Bool.toNat_false, Nat.zero_mul, Nat.zero_add]
theorem enc_bnd {c : Nat} {q : Int} (hc : c < 9007199254740992) (hq : -1074 ≤ q) : FP.Core.encode FP.Core.b64 (FP.Core.bound FP.Core.b64 false c q) ≤ 9218868437227405312 := by
  unfold FP.Core.bound
  rw [b_mx]
  split
  · rename_i h
    unfold FP.Core.encode
    dsimp only
    rw [b_tl, b_mi]
    split
    · rw [asm_b]; omega
    · rw [asm_b]
      have : (q - -1074).toNat + 1 ≤ 2046 := by omega
      generalize (q - -1074).toNat + 1 = e at this ⊢
      omega
  · unfold FP.Core.encode
    dsimp only
    rw [b_ex, asm_b]
    omega
theorem enc_set {c : Nat} {q : Int} (hq : -1074 ≤ q) : FP.Core.encode FP.Core.b64 (FP.Core.settle FP.Core.b64 false c q) ≤ 9218868437227405312 := by
  unfold FP.Core.settle
  rw [b_p2]
  split
  · rename_i h
    exact enc_bnd h hq
  · rw [b_tl]
    exact enc_bnd (by omega) (by omega)
theorem div_ok {x y c d : Nat} {q r : Int} (hx : FP.Core.decode FP.Core.b64 x = .fin false c q) (hy : FP.Core.decode FP.Core.b64 y = .fin false d r) (hd : d ≠ 0) : FP.Core.div FP.Core.b64 x y ≤ 9218868437227405312 := by
  unfold FP.Core.div
  rw [hx, hy]
  unfold FP.Core.quotient
  dsimp only
  rw [if_neg hd]
  unfold FP.Core.roundRatio
  split
  · unfold FP.Core.encode
    dsimp only
    rw [b_tl, if_pos (by omega)]
    show FP.Core.assemble FP.Core.b64 false 0 0 ≤ _
    rw [asm_b]; omega
  · refine enc_set ?_
    unfold FP.Core.quantum
    rw [b_mi]
    exact Int.le_max_left _ _
theorem dec_asm {e t : Nat} (h1 : 1 ≤ e) (h2 : e ≤ 2046) (ht : t < 4503599627370496) : ∃ q, FP.Core.decode FP.Core.b64 (FP.Core.assemble FP.Core.b64 false e t) = .fin false (4503599627370496 + t) q := by
  unfold FP.Core.decode
  have hT : FP.Core.fieldT FP.Core.b64 (FP.Core.assemble FP.Core.b64 false e t) = t := by
    unfold FP.Core.fieldT
    rw [b_tl, asm_b]; omega
  have hE : FP.Core.fieldE FP.Core.b64 (FP.Core.assemble FP.Core.b64 false e t) = e := by
    unfold FP.Core.fieldE
    rw [b_tl, b_ex, asm_b]; omega
  have hS : FP.Core.fieldS FP.Core.b64 (FP.Core.assemble FP.Core.b64 false e t) = false := by
    unfold FP.Core.fieldS
    rw [b_tl, b_ex, asm_b, show (e * 4503599627370496 + t) / 4503599627370496 / 2048 % 2 = 0 by omega]
    rfl
  rw [hT, hE, hS, b_ex, b_tl, if_neg (by omega), if_neg (by omega)]
  exact ⟨_, rfl⟩
/-- a count as a double -/
theorem fi_dec {m : Nat} (h : m < 9007199254740992) : ∃ c q, FP.Core.decode FP.Core.b64 (FP.Core.fromInt FP.Core.b64 (m : Int)) = .fin false c q ∧ (0 < m → c ≠ 0) ∧ FP.Core.fromInt FP.Core.b64 (m : Int) < 18446744073709551616 := by
  rcases Nat.eq_zero_or_pos m with rfl | h0
  · exact ⟨0, -1074, by decide +kernel, fun q => absurd q (by omega), by decide +kernel⟩
  · have hl := Nat.log2_lt (k := 53) (by omega : m ≠ 0)
    have hl53 : m.log2 < 53 := hl.mpr h
    have hlo := Nat.log2_self_le (by omega : m ≠ 0)
    have hhi := Nat.lt_log2_self (n := m)
    have e1 : FP.Core.fromInt FP.Core.b64 (m : Int) = FP.Core.encode FP.Core.b64 (FP.Core.settle FP.Core.b64 false (m * 2 ^ (52 - m.log2)) ((m.log2 : Int) - 52)) := by
      unfold FP.Core.fromInt FP.Core.ofInt FP.Core.round FP.Core.roundRatio
      dsimp only
      rw [Int.natAbs_natCast, if_neg (by omega), decide_eq_false (by omega)]
      unfold FP.Core.roundAt
      have hq : FP.Core.quantum FP.Core.b64 m 1 0 = (m.log2 : Int) - 52 := by
        unfold FP.Core.quantum FP.Core.leading
        rw [b_mi]
        have hz : (1 : Nat).log2 = 0 := by decide
        rw [hz]
        dsimp only
        rw [if_pos]
        · show max (-1074) ((m.log2 : Int) - 0 + 0 - (((53 : Nat) : Int) - 1)) = _
          rw [Int.max_eq_right (by omega)]
          omega
        · rw [show ((m.log2 : Int) - ((0 : Nat) : Int)).toNat = m.log2 by omega, show (-((m.log2 : Int) - ((0 : Nat) : Int))).toNat = 0 by omega]
          omega
      rw [hq]
      unfold FP.Core.unitsNum FP.Core.unitsDen FP.Core.nearest
      rw [show ((0 : Int) - ((m.log2 : Int) - 52)).toNat = 52 - m.log2 by omega, show (((m.log2 : Int) - 52) - 0).toNat = 0 by omega, Nat.pow_zero, Nat.mul_one, Nat.mod_one, Nat.mul_zero, if_pos (by omega), Nat.div_one]
    have hp : 2 ^ m.log2 * 2 ^ (52 - m.log2) = 4503599627370496 := by
      rw [← Nat.pow_add, show m.log2 + (52 - m.log2) = 52 by omega]
    have hp2 : 2 ^ (m.log2 + 1) * 2 ^ (52 - m.log2) = 9007199254740992 := by
      rw [← Nat.pow_add, show m.log2 + 1 + (52 - m.log2) = 53 by omega]
    have hpos : 0 < 2 ^ (52 - m.log2) := Nat.pow_pos (by omega)
    have hge : 4503599627370496 ≤ m * 2 ^ (52 - m.log2) := by rw [← hp]; exact Nat.mul_le_mul_right _ hlo
    have hlt : m * 2 ^ (52 - m.log2) < 9007199254740992 := by rw [← hp2]; exact Nat.mul_lt_mul_of_pos_right hhi hpos
    have e2 : FP.Core.fromInt FP.Core.b64 (m : Int) = FP.Core.assemble FP.Core.b64 false (m.log2 + 1023) (m * 2 ^ (52 - m.log2) - 4503599627370496) := by
      rw [e1]
      unfold FP.Core.settle
      rw [b_p2, if_pos hlt]
      unfold FP.Core.bound
      rw [b_mx, if_pos (by omega)]
      unfold FP.Core.encode
      dsimp only
      rw [b_tl, b_mi, if_neg (by omega), show ((m.log2 : Int) - 52 - -1074).toNat + 1 = m.log2 + 1023 by omega]
    rw [e2]
    obtain ⟨q, hq⟩ := dec_asm (e := m.log2 + 1023) (t := m * 2 ^ (52 - m.log2) - 4503599627370496) (by omega) (by omega) (by omega)
    exact ⟨_, q, hq, fun _ => by omega, by rw [asm_b]; omega⟩
theorem i2d_n {m : Nat} (h : m < 2147483648) : (FP.i2d (nI m)).toNat = FP.Core.fromInt FP.Core.b64 (m : Int) := by
  obtain ⟨c, q, _, _, h3⟩ := fi_dec (m := m) (by omega)
  show (UInt64.ofNat (FP.Core.fromInt FP.Core.b64 (nI m).toInt)).toNat = _
  rw [n_ti h, UInt64.toNat_ofNat']
  exact Nat.mod_eq_of_lt h3
theorem dd_ok {a b : Nat} (ha : a < 2147483648) (hb : b < 2147483648) (h0 : 0 < b) : FP.ddiv (FP.i2d (nI a)) (FP.i2d (nI b)) &&& 0x7fffffffffffffff ≤ 0x7ff0000000000000 := by
  obtain ⟨c, q, h1, _, _⟩ := fi_dec (m := a) (by omega)
  obtain ⟨c', q', h1', h2', _⟩ := fi_dec (m := b) (by omega)
  have hd := div_ok h1 h1' (h2' h0)
  rw [UInt64.le_iff_toNat_le, UInt64.toNat_and]
  refine Nat.le_trans Nat.and_le_left ?_
  show (UInt64.ofNat (FP.Core.div FP.Core.b64 (FP.i2d (nI a)).toNat (FP.i2d (nI b)).toNat)).toNat ≤ 9218868437227405312
  rw [UInt64.toNat_ofNat', i2d_n ha, i2d_n hb]
  exact Nat.le_trans (Nat.mod_le _ _) hd
