/-! NUMBERS: ints that stand for naturals, bits -/
theorem n_lt {a b : Nat} (ha : a < 2147483648) (hb : b < 2147483648) : (nI a < nI b) = (a < b) := propext (nI_ltI ha hb)
theorem n_le {a b : Nat} (ha : a < 2147483648) (hb : b < 2147483648) : (nI a ≤ nI b) = (a ≤ b) := propext (nI_leI ha hb)
theorem n_eq {a b : Nat} (ha : a < 2147483648) (hb : b < 2147483648) : (nI a = nI b) = (a = b) := propext (nI_eq ha hb)
theorem n_lt0 {a : Nat} (ha : a < 2147483648) : (nI a < 0) = False := eq_false (nI_pos ha)
theorem n_ge0 {a : Nat} (ha : a < 2147483648) : (0 ≤ nI a) = True := eq_true (nI_pos' ha)
theorem n_gt0 {a : Nat} (ha : a < 2147483648) : (0 < nI a) = (0 < a) := n_lt (a := 0) (by omega) ha
theorem n_le0 {a : Nat} (ha : a < 2147483648) : (nI a ≤ 0) = (a = 0) := propext ((nI_leI (b := 0) ha (by omega)).trans Nat.le_zero)
theorem n_eq0 {a : Nat} (ha : a < 2147483648) : (nI a = 0) = (a = 0) := n_eq (b := 0) ha (by omega)
theorem m_toInt : (nI 4294967295).toInt = -1 := by decide
theorem m_lt {a : Nat} (ha : a < 2147483648) : (nI a < nI 4294967295) = False := eq_false (fun h => by rw [Int32.lt_iff_toInt_lt, nI_toInt ha, m_toInt] at h; omega)
theorem m_le {a : Nat} (ha : a < 2147483648) : (nI a ≤ nI 4294967295) = False := eq_false (fun h => by rw [Int32.le_iff_toInt_le, nI_toInt ha, m_toInt] at h; omega)
theorem m_gt {a : Nat} (ha : a < 2147483648) : (nI 4294967295 < nI a) = True := eq_true (by rw [Int32.lt_iff_toInt_lt, nI_toInt ha, m_toInt]; omega)
theorem m_ge {a : Nat} (ha : a < 2147483648) : (nI 4294967295 ≤ nI a) = True := eq_true (by rw [Int32.le_iff_toInt_le, nI_toInt ha, m_toInt]; omega)
theorem m_eq {a : Nat} (ha : a < 2147483648) : (nI a = nI 4294967295) = False := eq_false (fun h => by have h := congrArg Int32.toInt h; rw [nI_toInt ha, m_toInt] at h; omega)
theorem m_eq' {a : Nat} (ha : a < 2147483648) : (nI 4294967295 = nI a) = False := eq_false (fun h => by have h := congrArg Int32.toInt h; rw [nI_toInt ha, m_toInt] at h; omega)
theorem m_lt0 : (nI 4294967295 < 0) = True := eq_true (by decide)
theorem m_ge0 : (0 ≤ nI 4294967295) = False := eq_false (by decide)
theorem m_gt0 : (0 < nI 4294967295) = False := eq_false (by decide)
theorem m_le0 : (nI 4294967295 ≤ 0) = True := eq_true (by decide)
theorem m_ltm : (nI 4294967295 < nI 4294967295) = False := eq_false (by decide)
theorem m_lem : (nI 4294967295 ≤ nI 4294967295) = True := eq_true (by decide)
theorem n_in {a n : Nat} (ha : a < 2147483648) : inb (nI a) n = decide (a < n) := by
  unfold inb
  rw [decide_eq_false (nI_pos ha), nI_clamp ha]
  rfl
theorem m_in {n : Nat} : inb (nI 4294967295) n = false := rfl
theorem n_cl {a : Nat} (ha : a < 2147483648) : (nI a).toNatClampNeg = a := nI_clamp ha
theorem n_ti {a : Nat} (ha : a < 2147483648) : (nI a).toInt = (a : Int) := nI_toInt ha
theorem n_wrap (a : Nat) : nI (a + 4294967296) = nI a := by
  unfold nI
  apply Int32.toBitVec_inj.mp
  show BitVec.ofNat 32 _ = BitVec.ofNat 32 _
  apply BitVec.eq_of_toNat_eq
  rw [BitVec.toNat_ofNat, BitVec.toNat_ofNat]
  omega
theorem n_dec {a : Nat} (h : 1 ≤ a) : nI (a + 4294967295) = nI (a - 1) := by
  obtain ⟨b, rfl⟩ : ∃ b, a = b + 1 := ⟨a - 1, by omega⟩
  rw [show b + 1 + 4294967295 = b + 4294967296 by omega, n_wrap]; rfl
theorem n_sub {a b : Nat} (h : b ≤ a) : nI a - nI b = nI (a - b) := pk_sub h
theorem n_div {a d : Nat} (ha : a < 2147483648) (h0 : 0 < d) (hd : d < 2147483648) : nI a / nI d = nI (a / d) := pk_div ha h0 hd
theorem n_rem {a d : Nat} (ha : a < 2147483648) (h0 : 0 < d) (hd : d < 2147483648) : nI a - nI (a / d) * nI d = nI (a % d) := by rw [← pk_div ha h0 hd]; exact pk_rem ha h0 hd
theorem n_rem' {a d : Nat} (h0 : 0 < d) : nI a - nI (a / d * d) = nI (a % d) := by
  have h : a / d * d ≤ a := Nat.div_mul_le_self a d
  rw [pk_sub h]
  have e := Nat.div_add_mod a d
  rw [Nat.mul_comm] at e
  exact congrArg nI (by omega)
theorem n_l {a : Nat} (ha : a < 2147483648) : (nI a).toInt64 = lN a := nI_l ha
theorem nle_T {a b : Nat} (h : a ≤ b) : (a ≤ b) = True := eq_true h
theorem nle_F {a b : Nat} (h : b < a) : (a ≤ b) = False := eq_false (by omega)
theorem nlt_T {a b : Nat} (h : a < b) : (a < b) = True := eq_true h
theorem nlt_F {a b : Nat} (h : b ≤ a) : (a < b) = False := eq_false (by omega)
theorem neq_T {a b : Nat} (h : a = b) : (a = b) = True := eq_true h
theorem neq_F {a b : Nat} (h : a < b ∨ b < a) : (a = b) = False := eq_false (by omega)
theorem n_0 : (0 : Int32) = nI 0 := rfl
/-- an index of any kind: too small, too large, or in -/
theorem n_ix (x : Int32) (n : Nat) (hn : n < 2147483648) : x < 0 ∨ nI n ≤ x ∨ ∃ j : Nat, j < n ∧ x = nI j := pk_ix x hn
def bt (x : Int32) (i : Nat) : Bool := x.toBitVec.getLsbD i
theorem b_ext {x y : Int32} (h : ∀ i, i < 32 → bt x i = bt y i) : x = y := Int32.toBitVec_inj.mp (BitVec.eq_of_getLsbD_eq (fun i hi => h i hi))
theorem b_or (x y : Int32) (i : Nat) : bt (x ||| y) i = (bt x i || bt y i) := by unfold bt; rw [Int32.toBitVec_or, BitVec.getLsbD_or]
theorem b_and (x y : Int32) (i : Nat) : bt (x &&& y) i = (bt x i && bt y i) := by unfold bt; rw [Int32.toBitVec_and, BitVec.getLsbD_and]
theorem b_big {x : Int32} {i : Nat} (h : 32 ≤ i) : bt x i = false := BitVec.getLsbD_of_ge _ _ h
theorem b_m1 : ∀ i, i < 32 → bt (-1) i = true := by decide +kernel
theorem b_0 (i : Nat) : bt 0 i = false := BitVec.getLsbD_zero
theorem s_l : ∀ n, n < 32 → ((nI n &&& 31).toBitVec.smod 32).toNat = n := by decide +kernel
theorem s_u : ∀ n, n < 32 → (((nI n).toUInt32 &&& Int32.toUInt32 31).toBitVec % 32).toNat = n := by decide +kernel
theorem b_shl (n : Nat) (hn : n < 32) (x : Int32) {i : Nat} (hi : i < 32) : bt (x <<< (nI n &&& 31)) i = (decide (n ≤ i) && bt x (i - n)) := by
  unfold bt
  rw [Int32.toBitVec_shiftLeft]
  show (x.toBitVec <<< ((nI n &&& 31).toBitVec.smod 32).toNat).getLsbD i = _
  rw [s_l n hn, BitVec.getLsbD_shiftLeft]
  rcases Nat.lt_or_ge i n with h | h
  · simp [h, Nat.not_le.mpr h]
  · simp [hi, h, Nat.not_lt.mpr h]
theorem b_sshr (n : Nat) (hn : n < 32) (x : Int32) {i : Nat} (hi : i < 32) : bt (x >>> (nI n &&& 31)) i = if n + i < 32 then bt x (n + i) else bt x 31 := by
  unfold bt
  rw [Int32.toBitVec_shiftRight]
  show (x.toBitVec.sshiftRight ((nI n &&& 31).toBitVec.smod 32).toNat).getLsbD i = _
  rw [s_l n hn, BitVec.getLsbD_sshiftRight, BitVec.msb_eq_getLsbD_last]
  simp [hi]
theorem b_1 (i : Nat) : bt 1 i = decide (i = 0) := by
  rcases Nat.lt_or_ge i 32 with h | h
  · exact (by decide +kernel : ∀ i, i < 32 → bt 1 i = decide (i = 0)) i h
  · rw [b_big h, decide_eq_false (by omega)]
theorem b_63 (i : Nat) : bt 63 i = decide (i < 6) := by
  rcases Nat.lt_or_ge i 32 with h | h
  · exact (by decide +kernel : ∀ i, i < 32 → bt 63 i = decide (i < 6)) i h
  · rw [b_big h, decide_eq_false (by omega)]
theorem b_n1 : nI 1 = 1 := rfl
theorem b_eq0 {x : Int32} : (x = 0) ↔ ∀ i, i < 32 → bt x i = false := by
  constructor
  · rintro rfl i _; exact b_0 i
  · intro h; exact b_ext (fun i hi => (h i hi).trans (b_0 i).symm)
/-- one bit, shifted to the left -/
theorem b_one {n i : Nat} (hn : n < 32) (hi : i < 32) : bt (nI 1 <<< (nI n &&& 31)) i = decide (i = n) := by
  rw [b_n1, b_shl n hn _ hi, b_1]
  rcases Nat.lt_trichotomy i n with z | z | z
  · rw [decide_eq_false (by omega : ¬ n ≤ i), decide_eq_false (by omega : ¬ i = n)]; rfl
  · subst z; rw [decide_eq_true (Nat.le_refl i), Nat.sub_self, decide_eq_true (rfl : i = i)]; rfl
  · rw [decide_eq_false (by omega : ¬ i = n), decide_eq_false (by omega : ¬ i - n = 0), Bool.and_false]
/-- the test of one bit: and with 1 of a shift to the right -/
theorem b_tst {x : Int32} {n : Nat} (hn : n < 31) : (x >>> (nI n &&& 31)) &&& nI 1 = nI (if bt x n then 1 else 0) := by
  apply b_ext
  intro i hi
  rw [b_and, b_sshr n (by omega) x hi, b_n1, b_1]
  by_cases h0 : i = 0
  · subst h0
    rw [if_pos (by omega), Nat.add_zero]
    cases bt x n <;> rfl
  · rw [decide_eq_false h0, Bool.and_false]
    cases bt x n
    · exact (b_0 i).symm
    · show false = bt 1 i
      rw [b_1, decide_eq_false h0]
theorem b_six {x : Int32} {n : Nat} (hn : n + 6 ≤ 31) : ((x >>> (nI n &&& 31)) &&& nI 63 = 0) = ∀ e, e < 6 → bt x (n + e) = false := by
  apply propext
  rw [b_eq0]
  constructor
  · intro h e he
    have := h e (by omega)
    rw [b_and, b_sshr n (by omega) x (by omega), show nI 63 = 63 from rfl, b_63, decide_eq_true he, Bool.and_true, if_pos (by omega)] at this
    exact this
  · intro h i hi
    rw [b_and, show nI 63 = 63 from rfl, b_63]
    by_cases h6 : i < 6
    · rw [b_sshr n (by omega) x hi, if_pos (by omega), h i h6]; rfl
    · rw [decide_eq_false h6, Bool.and_false]
/-- a set against two bits -/
theorem b_two {x : Int32} {p q : Nat} (hp : p < 32) (hq : q < 32) : (x &&& ((nI 1 <<< (nI p &&& 31)) ||| (nI 1 <<< (nI q &&& 31))) = 0) = (bt x p = false ∧ bt x q = false) := by
  apply propext
  rw [b_eq0]
  constructor
  · intro h
    have h1 := h p hp
    have h2 := h q hq
    rw [b_and, b_or, b_one hp hp, decide_eq_true rfl, Bool.true_or, Bool.and_true] at h1
    rw [b_and, b_or, b_one hq hq, decide_eq_true rfl, Bool.or_true, Bool.and_true] at h2
    exact ⟨h1, h2⟩
  · rintro ⟨h1, h2⟩ i hi
    rw [b_and, b_or, b_one hp hi, b_one hq hi]
    by_cases a : i = p
    · rw [a, h1]; rfl
    · by_cases b : i = q
      · rw [b, h2]; rfl
      · rw [decide_eq_false a, decide_eq_false b]; exact Bool.and_false _
theorem b_onez {x : Int32} {p : Nat} (hp : p < 32) : (x &&& ((nI 1 <<< (nI p &&& 31)) ||| nI 0) = 0) = (bt x p = false) := by
  apply propext
  rw [b_eq0]
  constructor
  · intro h
    have h1 := h p hp
    rw [b_and, b_or, b_one hp hp, decide_eq_true rfl, Bool.true_or, Bool.and_true] at h1
    exact h1
  · rintro h1 i hi
    rw [b_and, b_or, b_one hp hi, show nI 0 = 0 from rfl, b_0, Bool.or_false]
    by_cases a : i = p
    · rw [a, h1]; rfl
    · rw [decide_eq_false a]; exact Bool.and_false _
