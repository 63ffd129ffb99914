/-! SHAPES: how the objects hang together, and what they hold -/
def TB (P : MP) (T : Nat) : Prop := (P.1 T = (8, 0) ∧ P.2.1 T 0 = some (T + 1) ∧ P.2.1 T 1 = some (T + 2) ∧ P.2.1 T 2 = some (T + 3) ∧ P.2.1 T 3 = some (T + 4) ∧ P.2.1 T 4 = some (T + 5) ∧ P.2.1 T 5 = some (T + 6) ∧ P.2.1 T 6 = some (T + 7) ∧ P.2.1 T 7 = some (T + 8)) ∧ P.1 (T + 1) = (20, 3) ∧ P.1 (T + 2) = (20, 3) ∧ P.1 (T + 3) = (20, 18) ∧ P.1 (T + 4) = (20, 18) ∧ P.1 (T + 5) = (20, 18) ∧ P.1 (T + 6) = (20, 18) ∧ P.1 (T + 7) = (20, 18) ∧ P.1 (T + 8) = (20, 18)
def LB (P : MP) (K : Nat) : Prop := P.1 K = (4, 0) ∧ P.2.1 K 0 = some (K + 1) ∧ P.2.1 K 1 = some (K + 2) ∧ P.1 (K + 1) = (20, 4) ∧ P.1 (K + 2) = (20, 4)
def FB (P : MP) (F : Nat) : Prop := P.1 F = (3, 0) ∧ P.2.1 F 0 = some (F + 1) ∧ P.2.1 F 1 = some (F + 2) ∧ P.2.1 F 2 = some (F + 3) ∧ P.2.1 F 3 = some (F + 4) ∧ P.1 (F + 1) = (20, 16) ∧ P.1 (F + 2) = (20, 20) ∧ P.1 (F + 3) = (20, 20) ∧ P.1 (F + 4) = (20, 20)
def SB (P : MP) (b : Nat) : Prop := P.1 b = (7, 0) ∧ P.2.1 b 0 = some (b + 1) ∧ P.2.1 b 1 = some (b + 10) ∧ P.2.1 b 2 = some (b + 13) ∧ TB P (b + 1) ∧ LB P (b + 10) ∧ FB P (b + 13)
def DB (P : MP) (D : Nat) : Prop := P.1 D = (2, 0) ∧ P.2.1 D 0 = some (D + 1) ∧ P.2.1 D 1 = some (D + 2) ∧ P.1 (D + 1) = (20, 18) ∧ P.1 (D + 2) = (20, 3)
/-- the tables at T hold the row's -/
def TR (I : MI) (T : Nat) (g : GS) : Prop := (∀ t, t < 3 → I (T + 1) t = nI (g t)) ∧ (∀ t, t < 3 → I (T + 2) t = nI (g (3 + t))) ∧ ∀ t e, t < 3 → e < g (3 + t) → I (T + 3) (6 * t + e) = nI (g (cl t e 0)) ∧ I (T + 4) (6 * t + e) = nI (g (cl t e 1)) ∧ I (T + 5) (6 * t + e) = nI (g (cl t e 2)) ∧ I (T + 6) (6 * t + e) = nI (g (cl t e 3)) ∧ I (T + 7) (6 * t + e) = nI (g (cl t e 4)) ∧ I (T + 8) (6 * t + e) = nI (g (cl t e 5))
def LR (I : MI) (K : Nat) (g : GS) : Prop := (∀ r, 1 ≤ r → r ≤ 3 → I (K + 1) r = nI (g (113 + r)) ∧ I (K + 2) r = nI (g (116 + r))) ∧ I K 2 = nI (g 120) ∧ I K 3 = nI (g 121)
def FR' (I : MI) (F : Nat) (g : GS) : Prop := (∀ i, i < 16 → I (F + 1) i = nI (g (124 + i))) ∧ I F 4 = nI (g 122) ∧ I F 5 = nI (g 123) ∧ ∀ i, i < g 140 → I (F + 2) ((g 123 - 1 - i) % 20) = nI (g (141 + 3 * i)) ∧ I (F + 3) ((g 123 - 1 - i) % 20) = nI (g (141 + 3 * i + 1)) ∧ I (F + 4) ((g 123 - 1 - i) % 20) = nI (g (141 + 3 * i + 2))
def RC (I : MI) (b : Nat) (g : GS) : Prop := TR I (b + 1) g ∧ LR I (b + 10) g ∧ FR' I (b + 13) g
/-- the bits of a predicate -/
def bset (p : Nat → Bool) : Nat → Int32
  | 0 => nI 0
  | n + 1 => if p n then bset p n ||| (nI 1 <<< (nI n &&& 31)) else bset p n
theorem b_set {p : Nat → Bool} {n i : Nat} (hn : n ≤ 32) (hi : i < 32) : bt (bset p n) i = (decide (i < n) && p i) := by
  induction n with
  | zero => exact (b_0 i).trans (by rw [decide_eq_false (by omega)]; rfl)
  | succ n ih =>
    unfold bset
    have ih := ih (by omega)
    cases hp : p n
    · rw [if_neg (by simp), ih]
      by_cases h : i = n
      · subst h; rw [hp, Bool.and_false, Bool.and_false]
      · congr 1; exact decide_eq_decide.mpr (by omega)
    · rw [if_pos rfl, b_or, ih, b_one (by omega) hi]
      by_cases h : i = n
      · subst h; rw [hp, decide_eq_true (rfl : i = i), decide_eq_true (by omega : i < i + 1), Bool.or_true]; rfl
      · rw [decide_eq_false h, Bool.or_false]; congr 1; exact decide_eq_decide.mpr (by omega)
theorem b_is {x : Int32} {p : Nat → Bool} {n : Nat} (hn : n ≤ 32) (h : ∀ i, i < 32 → bt x i = (decide (i < n) && p i)) : x = bset p n := b_ext fun i hi => (h i hi).trans (b_set hn hi).symm
theorem bset_c {p p' : Nat → Bool} {n : Nat} (hn : n ≤ 32) (h : ∀ i, i < n → p i = p' i) : bset p n = bset p' n := b_ext fun i hi => by
  rw [b_set hn hi, b_set hn hi]
  by_cases z : i < n
  · rw [h i z]
  · rw [decide_eq_false z]; rfl
/-- where an entry's bit stands -/
def pb (g : GS) (c : Nat → Nat → Bool) : Nat → Bool := fun i => decide (i % 6 < g (3 + i / 6)) && c (i / 6) (i % 6)
def sbits (g : GS) : Int32 := bset (pb g (spG g)) 18
