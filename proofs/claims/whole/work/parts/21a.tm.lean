/-! THE MODEL: chances, what they add up to -/
def TM (V : CV) : CV := fun i => if 16 ≤ i ∧ i < 20 then raV V (i - 16) else V i
theorem i4 {a b c d : Int64} : (a + b) + (c + d) = (a + c) + (b + d) := by
  rw [Int64.add_assoc, Int64.add_assoc, ← Int64.add_assoc b c d, Int64.add_comm b c, Int64.add_assoc c b d]
theorem sL_add {n : Nat} {f f' : Nat → Int64} : sL n (fun i => f i + f' i) = sL n f + sL n f' := by
  induction n with
  | zero => exact (Int64.add_zero 0).symm
  | succ n ih =>
    show sL n (fun i => f i + f' i) + (f n + f' n) = (sL n f + f n) + (sL n f' + f' n)
    rw [ih]
    exact i4
theorem sL_0 {n : Nat} {f : Nat → Int64} (h : ∀ i, i < n → f i = 0) : sL n f = 0 := by
  induction n with
  | zero => rfl
  | succ n ih =>
    show sL n f + f n = 0
    rw [ih (fun i hi => h i (by omega)), h n (by omega)]
    rfl
theorem TM_A {V V' : CV} : TM (cvA V V') = cvA (TM V) (TM V') := by
  funext i
  show TM (cvA V V') i = TM V i + TM V' i
  unfold TM
  by_cases h : 16 ≤ i ∧ i < 20
  · rw [if_pos h, if_pos h, if_pos h]
    exact sL_add
  · rw [if_neg h, if_neg h, if_neg h]
    rfl
theorem TM_0 : TM cv0 = cv0 := by
  funext i
  unfold TM cv0
  split
  · exact sL_0 fun _ _ => rfl
  · rfl
/-- the ways told as a set of items and how many -/
def ItR (its : Int32) (n w0 w1 : Nat) : Prop := ∀ i, i < 16 → bt its i = decide ((1 ≤ n ∧ w0 = i + 1) ∨ (2 ≤ n ∧ w1 = i + 1))
def mnV (n w0 w1 : Nat) : Nat := (if 1 ≤ n ∧ 0 < w0 then 1 else 0) + (if 2 ≤ n ∧ 0 < w1 then 1 else 0)
def eM (its : Int32) (fd mn s : Nat) : CV := fun i => if i < 16 then (if bt its i = true then lN s else lN 0) else if i < 20 then (if i - 16 < fd then lN s else lN 0) else lN (s * mn)
theorem one_s {i s : Nat} : one i s i = lN s := if_pos rfl
theorem one_n {i s j : Nat} (h : j ≠ i) : one i s j = 0 := if_neg h
theorem wV_i {w s i : Nat} {b : Bool} (hi : i < 16) : wV w b s i = if w = i + 1 ∧ b = true then lN s else 0 := by
  unfold wV
  by_cases z : w = 0
  · rw [if_pos z, if_neg (by omega)]; rfl
  · rw [if_neg z]
    unfold cvA
    rw [one_n (by omega), Int64.zero_add]
    cases b
    · rw [if_neg (by decide), if_neg (fun q => absurd q.2 (by decide))]; rfl
    · rw [if_pos rfl]
      by_cases y : w = i + 1
      · rw [if_pos ⟨y, rfl⟩, show w - 1 = i by omega, one_s]
      · rw [if_neg (fun q => y q.1), one_n (by omega)]
theorem wV_r {w s i : Nat} {b : Bool} (hi : 16 ≤ i) (h20 : i < 20) (hw : w ≤ 16) : wV w b s i = 0 := by
  unfold wV
  by_cases z : w = 0
  · rw [if_pos z]; rfl
  · rw [if_neg z]
    unfold cvA
    rw [one_n (by omega), Int64.zero_add]
    cases b
    · rw [if_neg (by decide)]; rfl
    · rw [if_pos rfl, one_n (by omega)]
theorem wV_m {w s : Nat} {b : Bool} (hw : w ≤ 16) : wV w b s 20 = if 0 < w then lN s else 0 := by
  unfold wV
  by_cases z : w = 0
  · rw [if_pos z, if_neg (by omega)]; rfl
  · rw [if_neg z, if_pos (show 0 < w by omega)]
    unfold cvA
    rw [one_s]
    cases b
    · rw [if_neg (by decide)]; exact Int64.add_zero _
    · rw [if_pos rfl, one_n (by omega), Int64.add_zero]
theorem end_r {n w0 w1 fd s i : Nat} (h0 : w0 ≤ 16) (h1 : w1 ≤ 16) (hi : 16 ≤ i) (h20 : i < 20) : endV n w0 w1 fd s i = if fd = i - 16 + 1 then lN s else 0 := by
  unfold endV cvA
  have e1 : (if 1 ≤ n then wV w0 true s else cv0) i = 0 := by
    split
    · exact wV_r hi h20 h0
    · rfl
  have e2 : (if 2 ≤ n then wV w1 (decide (w0 ≠ w1)) s else cv0) i = 0 := by
    split
    · exact wV_r hi h20 h1
    · rfl
  rw [e1, e2, Int64.zero_add, Int64.zero_add]
  by_cases z : fd = 0
  · rw [if_pos z, if_neg (by omega)]; rfl
  · rw [if_neg z]
    by_cases y : fd = i - 16 + 1
    · rw [if_pos y, show 16 + (fd - 1) = i by omega, one_s]
    · rw [if_neg y, one_n (by omega)]
theorem sL_one {r fd s : Nat} : ∀ n, sL n (fun i => if fd = r + i + 1 then lN s else 0) = if r < fd ∧ fd ≤ r + n then lN s else 0 := by
  intro n
  induction n with
  | zero =>
    rw [if_neg (by omega)]; rfl
  | succ n ih =>
    show sL n (fun i => if fd = r + i + 1 then lN s else 0) + (if fd = r + n + 1 then lN s else 0) = _
    rw [ih]
    by_cases z : fd = r + n + 1
    · rw [if_pos z, if_neg (by omega), if_pos (by omega), Int64.zero_add]
    · rw [if_neg z, Int64.add_zero]
      by_cases y : r < fd ∧ fd ≤ r + n
      · rw [if_pos y, if_pos (by omega)]
      · rw [if_neg y, if_neg (by omega)]
theorem TM_end {its : Int32} {n w0 w1 fd mn s : Nat} (hit : ItR its n w0 w1) (hmn : mn = mnV n w0 w1) (h0 : w0 ≤ 16) (h1 : w1 ≤ 16) (hf : fd ≤ 4) : ∀ i, i < 21 → TM (endV n w0 w1 fd s) i = eM its fd mn s i := by
  intro i hi
  unfold TM eM
  by_cases a : i < 16
  · rw [if_neg (by omega), if_pos a, hit i a]
    unfold endV cvA
    have e3 : (if fd = 0 then cv0 else one (16 + (fd - 1)) s) i = 0 := by
      split
      · rfl
      · exact one_n (by omega)
    rw [e3, Int64.add_zero]
    have e1 : (if 1 ≤ n then wV w0 true s else cv0) i = if 1 ≤ n ∧ w0 = i + 1 then lN s else 0 := by
      by_cases z : 1 ≤ n
      · rw [if_pos z, wV_i a]
        by_cases y : w0 = i + 1
        · rw [if_pos ⟨y, rfl⟩, if_pos ⟨z, y⟩]
        · rw [if_neg (fun q => y q.1), if_neg (fun q => y q.2)]
      · rw [if_neg z, if_neg (fun q => z q.1)]; rfl
    have e2 : (if 2 ≤ n then wV w1 (decide (w0 ≠ w1)) s else cv0) i = if 2 ≤ n ∧ w1 = i + 1 ∧ w0 ≠ w1 then lN s else 0 := by
      by_cases z : 2 ≤ n
      · rw [if_pos z, wV_i a]
        by_cases y : w1 = i + 1 ∧ w0 ≠ w1
        · rw [if_pos ⟨y.1, decide_eq_true y.2⟩, if_pos ⟨z, y⟩]
        · rw [if_neg (fun q => y ⟨q.1, of_decide_eq_true q.2⟩), if_neg (fun q => y q.2)]
      · rw [if_neg z, if_neg (fun q => z q.1)]; rfl
    rw [e1, e2]
    by_cases z : 1 ≤ n ∧ w0 = i + 1
    · rw [if_pos z, decide_eq_true (Or.inl z), if_pos rfl, if_neg (by omega), Int64.add_zero]
    · rw [if_neg z, Int64.zero_add]
      by_cases y : 2 ≤ n ∧ w1 = i + 1
      · rw [decide_eq_true (Or.inr y), if_pos rfl, if_pos ⟨y.1, y.2, by omega⟩]
      · rw [if_neg (fun q => y ⟨q.1, q.2.1⟩), decide_eq_false (fun q => q.elim z y)]; rfl
  · by_cases b : i < 20
    · rw [if_pos ⟨by omega, b⟩, if_neg a, if_pos b]
      unfold raV
      have e : ∀ j, j < 4 - (i - 16) → endV n w0 w1 fd s (16 + (i - 16) + j) = (fun j => if fd = (i - 16) + j + 1 then lN s else 0) j := fun j hj => by
        rw [end_r h0 h1 (by omega) (by omega), show 16 + (i - 16) + j - 16 + 1 = i - 16 + j + 1 by omega]
      rw [sL_c e, sL_one]
      by_cases z : i - 16 < fd
      · rw [if_pos z, if_pos (by omega)]
      · rw [if_neg z, if_neg (by omega)]; rfl
    · rw [if_neg (by omega), if_neg a, if_neg b, show i = 20 by omega, hmn]
      unfold endV cvA mnV
      have e3 : (if fd = 0 then cv0 else one (16 + (fd - 1)) s) 20 = 0 := by
        split
        · rfl
        · exact one_n (by omega)
      have e1 : (if 1 ≤ n then wV w0 true s else cv0) 20 = lN (s * (if 1 ≤ n ∧ 0 < w0 then 1 else 0)) := by
        by_cases z : 1 ≤ n
        · rw [if_pos z, wV_m h0]
          by_cases y : 0 < w0
          · rw [if_pos y, if_pos ⟨z, y⟩, Nat.mul_one]
          · rw [if_neg y, if_neg (fun q => y q.2), Nat.mul_zero]; rfl
        · rw [if_neg z, if_neg (fun q => z q.1), Nat.mul_zero]; rfl
      have e2 : (if 2 ≤ n then wV w1 (decide (w0 ≠ w1)) s else cv0) 20 = lN (s * (if 2 ≤ n ∧ 0 < w1 then 1 else 0)) := by
        by_cases z : 2 ≤ n
        · rw [if_pos z, wV_m h1]
          by_cases y : 0 < w1
          · rw [if_pos y, if_pos ⟨z, y⟩, Nat.mul_one]
          · rw [if_neg y, if_neg (fun q => y q.2), Nat.mul_zero]; rfl
        · rw [if_neg z, if_neg (fun q => z q.1), Nat.mul_zero]; rfl
      rw [e3, Int64.add_zero, e1, e2, lN_add, Nat.mul_add]
/-- of a share of nothing nothing comes -/
theorem one_0 {i : Nat} : one i 0 = cv0 := by
  funext j
  unfold one cv0
  split <;> rfl
theorem cvA_0 : cvA cv0 cv0 = cv0 := rfl
theorem endV_0 {n w0 w1 fd : Nat} : endV n w0 w1 fd 0 = cv0 := by
  have hw : ∀ w b, wV w b 0 = cv0 := fun w b => by
    unfold wV
    rw [one_0, one_0, ite_self, cvA_0, ite_self]
  unfold endV
  rw [hw, hw, one_0, ite_self, ite_self, ite_self]
  rfl
theorem sE_0 {f : Nat → CV} : ∀ m e, (∀ i, e ≤ i → i < e + m → f i = cv0) → sE f e m = cv0 := by
  intro m
  induction m with
  | zero => intro e _; rfl
  | succ m ih =>
    intro e h
    rw [sE_s, h e (Nat.le_refl e) (by omega), ih (e + 1) (fun i h1 h2 => h i (by omega) (by omega))]
    rfl
theorem hV_0 {g : GS} {W : Nat → Nat → Nat} {K : SP → SP → Nat → Nat → Nat → CV} (hK : ∀ sp gr fd w, K sp gr fd w 0 = cv0) : ∀ f t sp gr fd, hV g W K f t sp gr fd 0 = cv0 := by
  intro f
  induction f with
  | zero => intro t sp gr fd; rfl
  | succ f ih =>
    intro t sp gr fd
    refine sE_0 _ _ fun i _ _ => ?_
    unfold hE
    rw [Nat.zero_mul, Nat.zero_div, hK, ih, ite_self, ite_self]
theorem goV_0 {g : GS} {top : Nat} : ∀ r n w0 w1 sp gr fd, goV g top r n w0 w1 sp gr fd 0 = cv0 := by
  intro r
  induction r with
  | zero => intro n w0 w1 sp gr fd; exact endV_0
  | succ r ih =>
    intro n w0 w1 sp gr fd
    unfold goV
    split
    · exact hV_0 (fun _ _ _ _ => ih _ _ _ _ _ _) 3 top sp gr fd
    · exact ih _ _ _ _ _ _
def dM (V : CV) (k j : Nat) : Int64 := if k = 166 ∧ j < 16 then V j else if k = 167 ∧ j < 4 then V (16 + j) else if k = 150 ∧ j = 21 then V 20 else 0
theorem dM_A {V V' : CV} {k j : Nat} : dM (cvA V V') k j = dM V k j + dM V' k j := by
  unfold dM cvA
  split
  · rfl
  · split
    · rfl
    · split
      · rfl
      · exact (Int64.add_zero 0).symm
theorem dM_0 {k j : Nat} : dM cv0 k j = 0 := by
  unfold dM cv0
  split
  · rfl
  · split
    · rfl
    · split <;> rfl
theorem dM_o {V : CV} {k j : Nat} (h : k ≠ 166) (h2 : k ≠ 167) (h3 : k ≠ 150) : dM V k j = 0 := by
  unfold dM
  rw [if_neg (fun q => h q.1), if_neg (fun q => h2 q.1), if_neg (fun q => h3 q.1)]
