/-! SPEC: the state as one row of naturals, and what the calls do to it -/
abbrev GS : Type := Nat → Nat
def ud {α : Type} (g : Nat → α) (k : Nat) (v : α) : Nat → α := fun j => if j = k then v else g j
theorem ud_s {α : Type} {g : Nat → α} {k : Nat} {v : α} : ud g k v k = v := if_pos rfl
theorem ud_n {α : Type} {g : Nat → α} {k j : Nat} {v : α} (h : j ≠ k) : ud g k v j = g j := if_neg h
def cl (t e f : Nat) : Nat := 6 + 6 * (6 * t + e) + f
def EV (g : GS) (t e : Nat) : Prop := g (cl t e 0) ≤ 18 ∧ (g (cl t e 0) < 16 → g (cl t e 2) ≤ 3) ∧ (16 ≤ g (cl t e 0) → t + 16 < g (cl t e 0) ∧ g (cl t e 2) = 0) ∧ 1 ≤ g (cl t e 1) ∧ g (cl t e 1) ≤ 1000 ∧ g (cl t e 3) ≤ 3 ∧ g (cl t e 4) ≤ 1 ∧ g (cl t e 5) ≤ 1
/-- the tables stand -/
def TV (g : GS) : Prop := (∀ t, t < 3 → 1 ≤ g t ∧ g t ≤ 2) ∧ (∀ t, t < 3 → g (3 + t) ≤ 6) ∧ ∀ t e, t < 3 → e < g (3 + t) → EV g t e
def LV (g : GS) : Prop := (∀ r, 1 ≤ r → r ≤ 3 → g (113 + r) ≤ 200 ∧ g (116 + r) ≤ 200) ∧ g 120 ≤ 50 ∧ g 121 < 2147483648
def FV (B : Nat) (g : GS) : Prop := g 122 ≤ B ∧ g 123 ≤ 2 * B ∧ g 140 = min 20 (g 123) ∧ (∀ i, i < 16 → g (124 + i) ≤ g 123) ∧ ∀ i, i < g 140 → g (141 + 3 * i) < 16 ∧ g (141 + 3 * i + 1) ≤ 3 ∧ g (141 + 3 * i + 2) ≤ g 122
def GV (B : Nat) (g : GS) : Prop := TV g ∧ LV g ∧ FV B g
abbrev SP : Type := Nat → Nat → Bool
def anyB : Nat → (Nat → Bool) → Bool
  | 0, _ => false
  | n + 1, p => anyB n p || p n
def sm : Nat → (Nat → Nat) → Nat
  | 0, _ => 0
  | n + 1, f => sm n f + f n
def sL : Nat → (Nat → Int64) → Int64
  | 0, _ => 0
  | n + 1, f => sL n f + f n
/-- the present weight -/
def pw (g : GS) (t e : Nat) : Nat := if g (cl t e 2) = 0 then g (cl t e 1) else g (cl t e 1) * (100 + g 120 * g (113 + g (cl t e 2))) / 100
/-- not spent, its group not drawn -/
def fre (g : GS) (sp gr : SP) (t e : Nat) : Bool := !sp t e && (decide (g (cl t e 3) = 0) || !gr t (g (cl t e 3)))
def ca (g : GS) (q : Nat) (sp gr : SP) (h : Nat → Bool) (t e : Nat) : Bool := fre g sp gr t e && (if g (cl t e 0) < 16 then decide (q ≤ g (cl t e 2)) else h (g (cl t e 0) - 16))
def h2 (g : GS) (q : Nat) (sp gr : SP) (t : Nat) : Bool := if t = 2 then anyB (g 5) (ca g q sp gr (fun _ => false) 2) else false
def h1 (g : GS) (q : Nat) (sp gr : SP) (t : Nat) : Bool := if t = 1 then anyB (g 4) (ca g q sp gr (h2 g q sp gr) 1) else h2 g q sp gr t
def has (g : GS) (q : Nat) (sp gr : SP) (t : Nat) : Bool := if t = 0 then anyB (g 3) (ca g q sp gr (h1 g q sp gr) 0) else h1 g q sp gr t
def can (g : GS) (q : Nat) (sp gr : SP) (t e : Nat) : Bool := ca g q sp gr (has g q sp gr) t e
/-- the weight with which an entry is drawn -/
def wt (g : GS) (q : Nat) (sp gr : SP) (t e : Nat) : Nat := if can g q sp gr t e then pw g t e else 0
def sw (g : GS) (q : Nat) (sp gr : SP) (t : Nat) : Nat := sm (g (3 + t)) (wt g q sp gr t)
def due (g : GS) (r : Nat) : Bool := decide (0 < g (116 + r)) && decide (g (116 + r) ≤ g (113 + r) + 1)
/-- the wanted rarity; fd is one more than the greatest rarity found -/
def wq (g : GS) (sp gr : SP) (fd t : Nat) : Nat := if (due g 3 && decide (fd ≤ 3) && has g 3 sp gr t) = true then 3 else if (due g 2 && decide (fd ≤ 2) && has g 2 sp gr t) = true then 2 else if (due g 1 && decide (fd ≤ 1) && has g 1 sp gr t) = true then 1 else 0
def spG (g : GS) : SP := fun t e => decide (g (cl t e 5) ≠ 0)
def noG : SP := fun _ _ => false
theorem sm_c {n : Nat} {f f' : Nat → Nat} (h : ∀ i, i < n → f i = f' i) : sm n f = sm n f' := by
  induction n with
  | zero => rfl
  | succ n ih => unfold sm; rw [ih (fun i hi => h i (by omega)), h n (by omega)]
theorem sL_c {n : Nat} {f f' : Nat → Int64} (h : ∀ i, i < n → f i = f' i) : sL n f = sL n f' := by
  induction n with
  | zero => rfl
  | succ n ih => unfold sL; rw [ih (fun i hi => h i (by omega)), h n (by omega)]
theorem any_c {n : Nat} {p p' : Nat → Bool} (h : ∀ i, i < n → p i = p' i) : anyB n p = anyB n p' := by
  induction n with
  | zero => rfl
  | succ n ih => unfold anyB; rw [ih (fun i hi => h i (by omega)), h n (by omega)]
theorem any_t {n : Nat} {p : Nat → Bool} : anyB n p = true ↔ ∃ i, i < n ∧ p i = true := by
  induction n with
  | zero => exact ⟨fun h => (nomatch h), fun ⟨i, h, _⟩ => absurd h (Nat.not_lt_zero i)⟩
  | succ n ih =>
    unfold anyB
    rw [Bool.or_eq_true, ih]
    constructor
    · rintro (⟨i, h, hp⟩ | h)
      · exact ⟨i, by omega, hp⟩
      · exact ⟨n, by omega, h⟩
    · rintro ⟨i, h, hp⟩
      rcases Nat.lt_or_ge i n with z | z
      · exact .inl ⟨i, z, hp⟩
      · exact .inr (by rw [show n = i by omega]; exact hp)
theorem sm_pos {n : Nat} {f : Nat → Nat} : 0 < sm n f ↔ ∃ i, i < n ∧ 0 < f i := by
  induction n with
  | zero => exact ⟨fun h => absurd h (Nat.lt_irrefl 0), fun ⟨i, h, _⟩ => absurd h (Nat.not_lt_zero i)⟩
  | succ n ih =>
    unfold sm
    constructor
    · intro h
      rcases Nat.eq_zero_or_pos (f n) with z | z
      · obtain ⟨i, hi, hp⟩ := ih.mp (by omega)
        exact ⟨i, by omega, hp⟩
      · exact ⟨n, by omega, z⟩
    · rintro ⟨i, h, hp⟩
      rcases Nat.lt_or_ge i n with z | z
      · have := ih.mpr ⟨i, z, hp⟩; omega
      · have : n = i := by omega
        subst this; omega
theorem sm_le {n b : Nat} {f : Nat → Nat} (h : ∀ i, i < n → f i ≤ b) : sm n f ≤ n * b := by
  induction n with
  | zero => exact Nat.zero_le _
  | succ n ih =>
    unfold sm
    have h1 := ih (fun i hi => h i (by omega))
    have h2 := h n (by omega)
    rw [Nat.succ_mul]; omega
theorem sm_split {n : Nat} {f : Nat → Nat} {i : Nat} (h : i < n) : f i ≤ sm n f := by
  induction n with
  | zero => omega
  | succ n ih =>
    unfold sm
    rcases Nat.lt_or_ge i n with z | z
    · have := ih z; omega
    · have : n = i := by omega
      subst this; omega
theorem ca_c {g : GS} {q : Nat} {sp gr : SP} {h h' : Nat → Bool} {t e : Nat} (hh : 16 ≤ g (cl t e 0) → h (g (cl t e 0) - 16) = h' (g (cl t e 0) - 16)) : ca g q sp gr h t e = ca g q sp gr h' t e := by
  unfold ca
  by_cases hc : g (cl t e 0) < 16
  · rw [if_pos hc, if_pos hc]
  · rw [if_neg hc, if_neg hc, hh (by omega)]
/-- a table can be drawn from where one of its entries can -/
theorem has_eq {g : GS} (hv : TV g) {q : Nat} {sp gr : SP} {t : Nat} (ht : t < 3) : has g q sp gr t = anyB (g (3 + t)) (can g q sp gr t) := by
  obtain ⟨_, hc, he⟩ := hv
  have e0 : t = 0 ∨ t = 1 ∨ t = 2 := by omega
  rcases e0 with rfl | rfl | rfl
  · have : has g q sp gr 0 = anyB (g 3) (ca g q sp gr (h1 g q sp gr) 0) := rfl
    rw [this]
    refine any_c fun e hi => ca_c fun h16 => ?_
    have hE := (he 0 e (by omega) hi).2.2.1 h16
    have e1 := (he 0 e (by omega) hi).1
    unfold has
    rw [if_neg (by omega)]
  · have : has g q sp gr 1 = anyB (g 4) (ca g q sp gr (h2 g q sp gr) 1) := rfl
    rw [this]
    refine any_c fun e hi => ca_c fun h16 => ?_
    have hE := (he 1 e (by omega) hi).2.2.1 h16
    have e1 := (he 1 e (by omega) hi).1
    unfold has h1
    rw [if_neg (by omega), if_neg (by omega)]
  · have : has g q sp gr 2 = anyB (g 5) (ca g q sp gr (fun _ => false) 2) := rfl
    rw [this]
    refine any_c fun e hi => ca_c fun h16 => ?_
    have hE := (he 2 e (by omega) hi).2.2.1 h16
    have e1 := (he 2 e (by omega) hi).1
    omega
theorem pw_b {g : GS} (hv : TV g) (hl : LV g) {t e : Nat} (ht : t < 3) (he : e < g (3 + t)) : 1 ≤ pw g t e ∧ pw g t e ≤ 102000 := by
  obtain ⟨h0, h1, h2, h3, h4, h5, _⟩ := hv.2.2 t e ht he
  unfold pw
  by_cases hr : g (cl t e 2) = 0
  · rw [if_pos hr]; omega
  · rw [if_neg hr]
    have hr3 : g (cl t e 2) ≤ 3 := by
      rcases Nat.lt_or_ge (g (cl t e 0)) 16 with z | z
      · exact h1 z
      · exact absurd (h2 z).2 hr
    have hc := (hl.1 (g (cl t e 2)) (by omega) hr3).1
    have hri := hl.2.1
    have m1 : g 120 * g (113 + g (cl t e 2)) ≤ 50 * 200 := Nat.mul_le_mul hri hc
    have m2 : g (cl t e 1) * (100 + g 120 * g (113 + g (cl t e 2))) ≤ 1000 * 10100 := Nat.mul_le_mul h4 (by omega)
    have m3 : 1 * 100 ≤ g (cl t e 1) * (100 + g 120 * g (113 + g (cl t e 2))) := Nat.mul_le_mul h3 (by omega)
    omega
theorem wt_b {g : GS} (hv : TV g) (hl : LV g) {q : Nat} {sp gr : SP} {t e : Nat} (ht : t < 3) (he : e < g (3 + t)) : wt g q sp gr t e ≤ 102000 := by
  unfold wt
  split
  · exact (pw_b hv hl ht he).2
  · omega
theorem wt_p {g : GS} (hv : TV g) (hl : LV g) {q : Nat} {sp gr : SP} {t e : Nat} (ht : t < 3) (he : e < g (3 + t)) : 0 < wt g q sp gr t e ↔ can g q sp gr t e = true := by
  unfold wt
  have := pw_b hv hl ht he
  split <;> simp_all <;> omega
theorem sw_b {g : GS} (hv : TV g) (hl : LV g) {q : Nat} {sp gr : SP} {t : Nat} (ht : t < 3) : sw g q sp gr t ≤ 612000 := by
  have h := sm_le (n := g (3 + t)) (b := 102000) (f := wt g q sp gr t) (fun e he => wt_b hv hl ht he)
  have hc := hv.2.1 t ht
  have : g (3 + t) * 102000 ≤ 6 * 102000 := Nat.mul_le_mul_right _ hc
  unfold sw
  omega
theorem sw_p {g : GS} (hv : TV g) (hl : LV g) {q : Nat} {sp gr : SP} {t : Nat} (ht : t < 3) : 0 < sw g q sp gr t ↔ has g q sp gr t = true := by
  rw [has_eq hv ht, any_t]
  unfold sw
  rw [sm_pos]
  constructor
  · rintro ⟨i, hi, h⟩; exact ⟨i, hi, (wt_p hv hl ht hi).mp h⟩
  · rintro ⟨i, hi, h⟩; exact ⟨i, hi, (wt_p hv hl ht hi).mpr h⟩
theorem wq_b (g : GS) (sp gr : SP) (fd t : Nat) : wq g sp gr fd t ≤ 3 := by
  unfold wq
  split
  · omega
  · split
    · omega
    · split <;> omega
