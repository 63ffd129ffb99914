/-! POP: counting the bits of an int of 18 bits -/
def m5 : Nat → Nat
  | 0 => 0
  | k + 1 => 5 + 16 * m5 k
def m3 : Nat → Nat
  | 0 => 0
  | k + 1 => 3 + 16 * m3 k
/-- the bits of each four, side by side -/
def bF (k n : Nat) : Nat := ((n - ((n / 2) &&& m5 k)) &&& m3 k) + (((n - ((n / 2) &&& m5 k)) / 4) &&& m3 k)
theorem land_split {x y p q : Nat} (hx : x < 16) (hp : p < 16) : (x + 16 * y) &&& (p + 16 * q) = (x &&& p) + 16 * (y &&& q) := by
  have h : x &&& p < 16 := Nat.lt_of_le_of_lt Nat.and_le_left hx
  have e1 : ((x + 16 * y) &&& (p + 16 * q)) % 2 ^ 4 = x &&& p := by
    rw [Nat.and_mod_two_pow, show (x + 16 * y) % 2 ^ 4 = x by omega, show (p + 16 * q) % 2 ^ 4 = p by omega]
  have e2 : ((x + 16 * y) &&& (p + 16 * q)) / 2 ^ 4 = y &&& q := by
    rw [Nat.and_div_two_pow, show (x + 16 * y) / 2 ^ 4 = y by omega, show (p + 16 * q) / 2 ^ 4 = q by omega]
  omega
theorem bF_a : ∀ x, x < 16 → ∀ b, b < 2 → (x / 2 + 8 * b) &&& 5 = (x / 2) &&& 5 := by decide +kernel
theorem bF_b : ∀ x, x < 16 → ∀ b, b < 4 → (x / 4 + 4 * b) &&& 3 = (x / 4) &&& 3 := by decide +kernel
theorem bF_c : ∀ x, x < 16 → (x / 2) &&& 5 ≤ x ∧ x - ((x / 2) &&& 5) < 16 := by decide +kernel
theorem bF_s {k x y : Nat} (hx : x < 16) : bF (k + 1) (x + 16 * y) = bF 1 x + 16 * bF k y := by
  have i1 : (x + 16 * y) / 2 = (x / 2 + 8 * (y % 2)) + 16 * (y / 2) := by omega
  have j1 : ((x + 16 * y) / 2) &&& m5 (k + 1) = ((x / 2) &&& 5) + 16 * ((y / 2) &&& m5 k) := by
    rw [i1]
    show _ &&& (5 + 16 * m5 k) = _
    rw [land_split (by omega) (by omega), bF_a x hx _ (Nat.mod_lt _ (by omega))]
  have hy : (y / 2) &&& m5 k ≤ y := Nat.le_trans Nat.and_le_left (by omega)
  have hc := bF_c x hx
  generalize hw : y - ((y / 2) &&& m5 k) = w
  generalize hv : x - ((x / 2) &&& 5) = v at hc
  have j2 : (x + 16 * y) - (((x + 16 * y) / 2) &&& m5 (k + 1)) = v + 16 * w := by rw [j1]; omega
  have j3 : ((v + 16 * w) &&& m3 (k + 1)) = (v &&& 3) + 16 * (w &&& m3 k) := land_split (by omega) (by omega)
  have j4 : (((v + 16 * w) / 4) &&& m3 (k + 1)) = ((v / 4) &&& 3) + 16 * ((w / 4) &&& m3 k) := by
    rw [show (v + 16 * w) / 4 = (v / 4 + 4 * (w % 4)) + 16 * (w / 4) by omega]
    show _ &&& (3 + 16 * m3 k) = _
    rw [land_split (by omega) (by omega), bF_b v (by omega) _ (Nat.mod_lt _ (by omega))]
  have z1 : bF 1 x = (v &&& 3) + ((v / 4) &&& 3) := by
    unfold bF
    show ((x - ((x / 2) &&& 5)) &&& 3) + (((x - ((x / 2) &&& 5)) / 4) &&& 3) = _
    rw [hv]
  have z2 : bF k y = (w &&& m3 k) + ((w / 4) &&& m3 k) := by
    unfold bF
    rw [hw]
  rw [z1, z2]
  unfold bF
  rw [j2, j3, j4]
  omega
def pc4 (x : Nat) : Nat := x % 2 + x / 2 % 2 + x / 4 % 2 + x / 8 % 2
theorem bF_1 : ∀ x, x < 16 → bF 1 x = pc4 x ∧ pc4 x ≤ 4 := by decide +kernel
theorem bF_0 (k : Nat) : bF k 0 = 0 := by
  unfold bF
  simp
def cF (b : Nat) : Nat :=
  let c := (b + (b >>> 4)) &&& 252645135
  let e := c + (c >>> 8)
  let f := e + (e >>> 16)
  f &&& 63
theorem cF_all : ∀ a, a < 5 → ∀ b, b < 5 → ∀ c, c < 5 → ∀ e, e < 5 → ∀ f, f < 5 → cF (a + 16 * (b + 16 * (c + 16 * (e + 16 * f)))) = a + b + c + e + f := by decide +kernel
def pcF (n : Nat) : Nat := cF (((n - ((n >>> 1) &&& 1431655765)) &&& 858993459) + (((n - ((n >>> 1) &&& 1431655765)) >>> 2) &&& 858993459))
def pcn : Nat → Nat → Nat
  | 0, _ => 0
  | k + 1, n => n % 2 + pcn k (n / 2)
theorem pcn_4 {k x y : Nat} (hx : x < 16) : pcn (k + 4) (x + 16 * y) = pc4 x + pcn k y := by
  show (x + 16 * y) % 2 + ((x + 16 * y) / 2 % 2 + ((x + 16 * y) / 2 / 2 % 2 + ((x + 16 * y) / 2 / 2 / 2 % 2 + pcn k ((x + 16 * y) / 2 / 2 / 2 / 2)))) = pc4 x + pcn k y
  rw [show (x + 16 * y) / 2 / 2 / 2 / 2 = y by omega]
  unfold pc4
  omega
theorem pcn_2 : ∀ f, f < 4 → pcn 2 f = pc4 f := by decide +kernel
theorem pc_all {n : Nat} (h : n < 262144) : pcF n = pcn 18 n := by
  obtain ⟨a, n1, ha, h1, rfl⟩ : ∃ a n1, a < 16 ∧ n1 < 16384 ∧ n = a + 16 * n1 := ⟨n % 16, n / 16, by omega, by omega, by omega⟩
  obtain ⟨b, n2, hb, h2, rfl⟩ : ∃ b n2, b < 16 ∧ n2 < 1024 ∧ n1 = b + 16 * n2 := ⟨n1 % 16, n1 / 16, by omega, by omega, by omega⟩
  obtain ⟨c, n3, hc, h3, rfl⟩ : ∃ c n3, c < 16 ∧ n3 < 64 ∧ n2 = c + 16 * n3 := ⟨n2 % 16, n2 / 16, by omega, by omega, by omega⟩
  obtain ⟨e, f, he, hf, rfl⟩ : ∃ e f, e < 16 ∧ f < 4 ∧ n3 = e + 16 * f := ⟨n3 % 16, n3 / 16, by omega, by omega, by omega⟩
  have hm5 : (1431655765 : Nat) = m5 8 := by decide +kernel
  have hm3 : (858993459 : Nat) = m3 8 := by decide +kernel
  have hbF : ((a + 16 * (b + 16 * (c + 16 * (e + 16 * f))) - ((a + 16 * (b + 16 * (c + 16 * (e + 16 * f)))) >>> 1 &&& 1431655765)) &&& 858993459) + (((a + 16 * (b + 16 * (c + 16 * (e + 16 * f))) - ((a + 16 * (b + 16 * (c + 16 * (e + 16 * f)))) >>> 1 &&& 1431655765)) >>> 2) &&& 858993459) = bF 8 (a + 16 * (b + 16 * (c + 16 * (e + 16 * (f + 16 * 0))))) := by
    unfold bF
    rw [Nat.mul_zero, Nat.add_zero, hm5, hm3, Nat.shiftRight_eq_div_pow, Nat.shiftRight_eq_div_pow, Nat.pow_one, show 2 ^ 2 = 4 from by decide]
  unfold pcF
  rw [hbF, bF_s ha, bF_s hb, bF_s hc, bF_s he, bF_s (by omega), bF_0, (bF_1 a ha).1, (bF_1 b hb).1, (bF_1 c hc).1, (bF_1 e he).1, (bF_1 f (by omega)).1]
  have q1 := (bF_1 a ha).2
  have q2 := (bF_1 b hb).2
  have q3 := (bF_1 c hc).2
  have q4 := (bF_1 e he).2
  have q5 := (bF_1 f (by omega)).2
  rw [Nat.mul_zero, Nat.add_zero, cF_all _ (by omega) _ (by omega) _ (by omega) _ (by omega) _ (by omega)]
  rw [pcn_4 ha, pcn_4 hb, pcn_4 hc, pcn_4 he, pcn_2 f hf]
  omega
