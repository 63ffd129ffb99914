/-! SOUND, first part: worlds, values, locals -/
def conc (ad : Nat → Nat) (v : Value) : Value := match v with
  | .ref k => .ref (ad k)
  | w => w
def cv (ad : Nat → Nat) (vs : List Value) : List Value := vs.map (conc ad)
abbrev CY : Type := ClassId × ClassId × ClassId × ClassId
def fval (ad : Nat → Nat) (P : MP) (I : MI) (L : ML) (ty : FieldType) (k f : Nat) : Value := match ty with
  | .int => .int (I k f)
  | .long => .long (L k f)
  | _ => va_re ad (P.2.1 k f)
def flds (ad : Nat → Nat) (P : MP) (I : MI) (L : ML) (ci k : Nat) : List Value := (List.range (fN ci)).map (fun f => fval ad P I L (fY ci f) k f)
def elt (cy : CY) (ad : Nat → Nat) (P : MP) (I : MI) (L : ML) (k : Nat) : va_E :=
  if (P.1 k).1 = 20 then .inl (cy.1, (P.1 k).2, .inl (I k))
  else if (P.1 k).1 = 21 then .inl (cy.2.1, (P.1 k).2, .inr (.inl (L k)))
  else if (P.1 k).1 = 22 then .inl (cy.2.2.1, (P.1 k).2, .inl (I k))
  else if (P.1 k).1 = 23 then .inl (cy.2.2.2, (P.1 k).2, .inr (.inr (.inr (.inr (fun i => (P.2.1 k i).map ad)))))
  else .inr ((P.1 k).1 - 1, flds ad P I L ((P.1 k).1 - 1) k)
def wl (cy : CY) (ad : Nat → Nat) (P : MP) (I : MI) (L : ML) : va_W := (List.range P.2.2).map (fun j => (ad (j + 1), elt cy ad P I L (j + 1)))
def wf (P : MP) : Prop := (∀ k, (P.1 k).1 ≠ 0 → (k = 0 ∧ (P.1 k).1 = 30) ∨ (1 ≤ k ∧ k ≤ P.2.2 ∧ ((1 ≤ (P.1 k).1 ∧ (P.1 k).1 ≤ 10) ∨ (20 ≤ (P.1 k).1 ∧ (P.1 k).1 ≤ 23)))) ∧ ∀ k f a, P.2.1 k f = some a → 1 ≤ a ∧ a ≤ P.2.2
def vk (P : MP) (v : Value) : Prop := ∀ k, v = .ref k → k ≤ P.2.2
theorem wl_get {cy : CY} {ad : Nat → Nat} {P : MP} {I : MI} {L : ML} {k : Nat} (h1 : 1 ≤ k) (h2 : k ≤ P.2.2) : (wl cy ad P I L)[k - 1]? = some (ad k, elt cy ad P I L k) := by
  unfold wl
  rw [List.getElem?_map, List.getElem?_range (by omega)]
  simp only [Option.map_some]
  rw [show k - 1 + 1 = k by omega]
theorem wl_len {cy : CY} {ad : Nat → Nat} {P : MP} {I : MI} {L : ML} : (wl cy ad P I L).length = P.2.2 := by
  unfold wl; rw [List.length_map, List.length_range]
theorem wl_set {cy : CY} {ad : Nat → Nat} {P P' : MP} {I I' : MI} {L L' : ML} {k : Nat} {e : va_E} (h1 : 1 ≤ k) (h2 : k ≤ P.2.2) (hn : P'.2.2 = P.2.2) (he : elt cy ad P' I' L' k = e)
    (ho : ∀ j, j ≠ k → elt cy ad P' I' L' j = elt cy ad P I L j) : (wl cy ad P I L).set (k - 1) (ad k, e) = wl cy ad P' I' L' := by
  apply List.ext_getElem?
  intro i
  by_cases hi : i = k - 1
  · subst hi
    rw [List.getElem?_set_self (by rw [wl_len]; omega), wl_get h1 (by omega), he]
  · rw [List.getElem?_set_ne (Ne.symm hi)]
    by_cases hl : i < P.2.2
    · have g1 := wl_get (cy := cy) (ad := ad) (P := P) (I := I) (L := L) (k := i + 1) (by omega) (by omega)
      have g2 := wl_get (cy := cy) (ad := ad) (P := P') (I := I') (L := L') (k := i + 1) (by omega) (by omega)
      rw [Nat.add_sub_cancel] at g1 g2
      rw [g1, g2, ho (i + 1) (by omega)]
    · rw [List.getElem?_eq_none (by rw [wl_len]; omega), List.getElem?_eq_none (by rw [wl_len]; omega)]
theorem xr_s {α : Type} (f : Nat → α) (k : Nat) (r : α) : xr f k r k = r := if_pos rfl
theorem xr_n {α : Type} (f : Nat → α) {k j : Nat} (r : α) (h : j ≠ k) : xr f k r j = f j := if_neg h
theorem xu_s {α : Type} (f : Nat → Nat → α) (k j : Nat) (v : α) : xu f k j v k j = v := if_pos ⟨rfl, rfl⟩
theorem xu_n {α : Type} (f : Nat → Nat → α) {k j a b : Nat} (v : α) (h : a ≠ k ∨ b ≠ j) : xu f k j v a b = f a b := if_neg (fun q => h.elim (fun z => z q.1) (fun z => z q.2))
theorem xu_row {α : Type} (f : Nat → Nat → α) {k j a : Nat} (v : α) (h : a ≠ k) : xu f k j v a = f a := funext fun b => xu_n f v (Or.inl h)
theorem fval_ext {ad ad' : Nat → Nat} {P P' : MP} {I I' : MI} {L L' : ML} {ty : FieldType} {k f : Nat} (hI : I' k f = I k f) (hL : L' k f = L k f) (hp : (P'.2.1 k f).map ad' = (P.2.1 k f).map ad) : fval ad' P' I' L' ty k f = fval ad P I L ty k f := by
  unfold fval
  split
  · rw [hI]
  · rw [hL]
  · unfold va_re; rw [hp]
theorem elt_ext {cy : CY} {ad ad' : Nat → Nat} {P P' : MP} {I I' : MI} {L L' : ML} {k : Nat} (hk : P'.1 k = P.1 k) (hI : I' k = I k) (hL : L' k = L k) (hp : ∀ f, (P'.2.1 k f).map ad' = (P.2.1 k f).map ad) : elt cy ad' P' I' L' k = elt cy ad P I L k := by
  unfold elt flds
  rw [hk, hI, hL, show (fun i => (P'.2.1 k i).map ad') = (fun i => (P.2.1 k i).map ad) from funext hp]
  rw [show (fun f => fval ad' P' I' L' (fY ((P.1 k).1 - 1) f) k f) = (fun f => fval ad P I L (fY ((P.1 k).1 - 1) f) k f) from funext fun f => fval_ext (congrFun hI f) (congrFun hL f) (hp f)]
theorem wl_push {cy : CY} {ad : Nat → Nat} {P : MP} {I : MI} {L : ML} {t len q : Nat} {e : va_E} (hw : wf P)
    (he : elt cy (xr ad (P.2.2 + 1) q) (mkP P t len) (xr I (P.2.2 + 1) (fun _ => 0)) (xr L (P.2.2 + 1) (fun _ => 0)) (P.2.2 + 1) = e) :
    wl cy ad P I L ++ [(q, e)] = wl cy (xr ad (P.2.2 + 1) q) (mkP P t len) (xr I (P.2.2 + 1) (fun _ => 0)) (xr L (P.2.2 + 1) (fun _ => 0)) := by
  unfold wl
  show _ = List.map _ (List.range (P.2.2 + 1))
  rw [List.range_succ, List.map_append, List.map_singleton, he, xr_s]
  congr 1
  apply List.map_congr_left
  intro j hj
  have hj := List.mem_range.mp hj
  rw [xr_n _ _ (by omega)]
  congr 1
  symm
  refine elt_ext (xr_n _ _ (by omega)) (xr_n _ _ (by omega)) (xr_n _ _ (by omega)) fun f => ?_
  show ((xr P.2.1 (P.2.2 + 1) (fun _ => none)) (j + 1) f).map _ = _
  rw [xr_n _ _ (by omega)]
  cases hp : P.2.1 (j + 1) f with
  | none => rfl
  | some a =>
    have := (hw.2 _ _ _ hp).2
    simp only [Option.map_some]
    rw [xr_n _ _ (by omega)]
theorem wf_put {P : MP} (h : wf P) {k f v : Nat} (hv : 1 ≤ v ∧ v ≤ P.2.2) : wf (P.1, xu P.2.1 k f (some v), P.2.2) := by
  refine ⟨h.1, fun a b c hc => ?_⟩
  by_cases hab : a = k ∧ b = f
  · have h2 : xu P.2.1 k f (some v) a b = some v := if_pos hab
    have h3 : some v = some c := h2.symm.trans hc
    cases h3
    exact hv
  · have h2 : xu P.2.1 k f (some v) a b = P.2.1 a b := if_neg hab
    exact h.2 a b c (h2.symm.trans hc)
theorem wf_mk {P : MP} (h : wf P) {t len : Nat} (ht : (1 ≤ t ∧ t ≤ 10) ∨ (20 ≤ t ∧ t ≤ 23)) : wf (mkP P t len) := by
  refine ⟨fun k hk => ?_, fun k f a hf => ?_⟩
  · show (_ ∧ (xr P.1 (P.2.2 + 1) (t, len) k).1 = 30) ∨ (1 ≤ k ∧ k ≤ P.2.2 + 1 ∧ ((1 ≤ (xr P.1 (P.2.2 + 1) (t, len) k).1 ∧ (xr P.1 (P.2.2 + 1) (t, len) k).1 ≤ 10) ∨ (20 ≤ (xr P.1 (P.2.2 + 1) (t, len) k).1 ∧ (xr P.1 (P.2.2 + 1) (t, len) k).1 ≤ 23)))
    have hk' : (xr P.1 (P.2.2 + 1) (t, len) k).1 ≠ 0 := hk
    by_cases e : k = P.2.2 + 1
    · subst e
      rw [xr_s]
      exact Or.inr ⟨by omega, by omega, ht⟩
    · rw [xr_n _ _ e] at hk' ⊢
      rcases h.1 k hk' with g | ⟨g1, g2, g3⟩
      · exact Or.inl g
      · exact Or.inr ⟨g1, by omega, g3⟩
  · have hf' : (xr P.2.1 (P.2.2 + 1) (fun _ => none)) k f = some a := hf
    show 1 ≤ a ∧ a ≤ P.2.2 + 1
    by_cases e : k = P.2.2 + 1
    · subst e
      rw [xr_s] at hf'
      cases hf'
    · rw [xr_n _ _ e] at hf'
      have := h.2 k f a hf'
      omega
/-! values -/
theorem conc_cat (ad : Nat → Nat) (v : Value) : (conc ad v).category = v.category := by cases v <;> rfl
theorem catS_cv (ad : Nat → Nat) (st : List Value) : ((cv ad st).map fun v => v.category).sum = catS st := by
  unfold cv catS
  rw [List.map_map]
  congr 1
  exact List.map_congr_left fun v _ => conc_cat ad v
theorem conc_rf {ad : Nat → Nat} {r : Option Nat} : conc ad (va_rf r) = va_re ad r := by cases r <;> rfl
theorem conc_eq {ad ad' : Nat → Nat} {P : MP} (h : ∀ k, k ≤ P.2.2 → ad' k = ad k) {v : Value} (hv : vk P v) : conc ad' v = conc ad v := by
  cases v <;> first | rfl | skip
  rename_i k
  show Value.ref (ad' k) = Value.ref (ad k)
  rw [h k (hv k rfl)]
theorem cv_eq {ad ad' : Nat → Nat} {P : MP} (h : ∀ k, k ≤ P.2.2 → ad' k = ad k) {vs : List Value} (hv : ∀ v ∈ vs, vk P v) : cv ad' vs = cv ad vs :=
  List.map_congr_left fun v hm => conc_eq h (hv v hm)
theorem vk_mono {P P' : MP} (h : P.2.2 ≤ P'.2.2) {v : Value} (hv : vk P v) : vk P' v := fun k hk => Nat.le_trans (hv k hk) h
theorem vk_i (P : MP) (x : Int32) : vk P (.int x) := fun _ h => by cases h
theorem vk_l (P : MP) (x : Int64) : vk P (.long x) := fun _ h => by cases h
theorem vk_d (P : MP) (x : UInt64) : vk P (.double x) := fun _ h => by cases h
theorem vk_0 (P : MP) : vk P .null := fun _ h => by cases h
theorem vk_u (P : MP) : vk P UN := fun _ h => by cases h
theorem vk_rf {P : MP} (h : wf P) (k f : Nat) : vk P (va_rf (P.2.1 k f)) := by
  intro a ha
  cases hp : P.2.1 k f with
  | none => rw [hp] at ha; cases ha
  | some b => rw [hp] at ha; cases ha; exact (h.2 _ _ _ hp).2
/-! locals -/
def lh (lsA : Array Slot) (n : Nat) (ad : Nat → Nat) (ls : List Value) : Prop := lsA.size = n ∧ lv_wf lsA ∧ ls.length = n ∧ ∀ i v, gl ls i = some v → (∀ a, v ≠ .retAddr a) → lsA[i]? = some (.val (conc ad v))
theorem gl_eq (ls : List Value) (i : Nat) : gl ls i = ls[i]? := by
  induction ls generalizing i with
  | nil => cases i <;> rfl
  | cons v r ih =>
    cases i with
    | zero => rfl
    | succ n => exact ih n
theorem sl_eq (ls : List Value) (i : Nat) (w : Value) : sl ls i w = ls.set i w := by
  induction ls generalizing i with
  | nil => cases i <;> rfl
  | cons v r ih =>
    cases i with
    | zero => rfl
    | succ n => exact congrArg (v :: ·) (ih n)
theorem sl_len (ls : List Value) (i : Nat) (w : Value) : (sl ls i w).length = ls.length := by rw [sl_eq, List.length_set]
theorem k1_len (ls : List Value) (n : Nat) : (k1 ls n).length = ls.length := by
  unfold k1
  split
  · rfl
  · split
    · exact sl_len _ _ _
    · exact sl_len _ _ _
    · rfl
theorem s1_len (ls : List Value) (n : Nat) (v : Value) : (s1 ls n v).length = ls.length := by unfold s1; rw [sl_len, k1_len]
theorem s2_len (ls : List Value) (n : Nat) (v : Value) : (s2 ls n v).length = ls.length := by unfold s2; rw [sl_len, sl_len, k1_len]
theorem mem_sl {ls : List Value} {i : Nat} {w v : Value} (h : v ∈ sl ls i w) : v ∈ ls ∨ v = w := by
  rw [sl_eq] at h
  exact List.mem_or_eq_of_mem_set h
theorem mem_k1 {ls : List Value} {n : Nat} {v : Value} (h : v ∈ k1 ls n) : v ∈ ls ∨ v = UN := by
  unfold k1 at h
  split at h
  · exact Or.inl h
  · split at h
    · exact mem_sl h
    · exact mem_sl h
    · exact Or.inl h
theorem mem_s1 {ls : List Value} {n : Nat} {w v : Value} (h : v ∈ s1 ls n w) : v ∈ ls ∨ v = w ∨ v = UN := by
  rcases mem_sl h with h | h
  · rcases mem_k1 h with h | h
    · exact Or.inl h
    · exact Or.inr (Or.inr h)
  · exact Or.inr (Or.inl h)
theorem mem_s2 {ls : List Value} {n : Nat} {w v : Value} (h : v ∈ s2 ls n w) : v ∈ ls ∨ v = w ∨ v = UN := by
  rcases mem_sl h with h | h
  · rcases mem_sl h with h | h
    · rcases mem_k1 h with h | h
      · exact Or.inl h
      · exact Or.inr (Or.inr h)
    · exact Or.inr (Or.inl h)
  · exact Or.inr (Or.inr h)
/-- what is known behind the killing -/
theorem k1_get {ls : List Value} {n j : Nat} {w : Value} (h : gl (k1 ls n) j = some w) (hu : ∀ a, w ≠ .retAddr a) : gl ls j = some w ∧ ¬ (j + 1 = n ∧ w.category = 2) := by
  unfold k1 at h
  split at h
  · exact ⟨h, fun q => by omega⟩
  · rename_i i
    have key : ∀ x, gl ls i = some x → gl (sl ls i UN) j = some w → gl ls j = some w ∧ ¬ (j + 1 = i + 1 ∧ w.category = 2) := by
      intro x hx hh
      rw [sl_eq, gl_eq] at hh
      by_cases e : j = i
      · subst e
        have hl : j < ls.length := by rw [gl_eq] at hx; exact (List.getElem?_eq_some_iff.mp hx).1
        rw [List.getElem?_set_self hl] at hh
        cases hh
        exact absurd rfl (hu 0)
      · rw [List.getElem?_set_ne (Ne.symm e)] at hh
        rw [gl_eq]
        exact ⟨hh, fun q => e (by omega)⟩
    split at h
    · rename_i hx; exact key _ hx h
    · rename_i hx; exact key _ hx h
    · rename_i h1 h2
      refine ⟨h, fun q => ?_⟩
      have e : j = i := by omega
      subst e
      cases w <;> simp [Value.category] at q
      · exact h1 _ h
      · exact h2 _ h
def prs (ad : Nat → Nat) (ls : List Value) : List (Nat × Value) := (List.range ls.length).filterMap fun i => match gl ls i with
  | some (.retAddr _) => none
  | some v => some (i, conc ad v)
  | none => none
theorem mem_prs {ad : Nat → Nat} {ls : List Value} {q : Nat × Value} : q ∈ prs ad ls ↔ ∃ v, gl ls q.1 = some v ∧ (∀ a, v ≠ .retAddr a) ∧ q.2 = conc ad v := by
  unfold prs
  rw [List.mem_filterMap]
  constructor
  · rintro ⟨i, hi, h⟩
    cases hg : gl ls i with
    | none => rw [hg] at h; cases h
    | some v =>
      rw [hg] at h
      cases v <;> dsimp only at h <;> cases h <;> (refine ⟨_, hg, ?_, rfl⟩; intro a z; cases z)
  · rintro ⟨v, h1, h2, h3⟩
    have hl : q.1 < ls.length := by rw [gl_eq] at h1; exact (List.getElem?_eq_some_iff.mp h1).1
    refine ⟨q.1, List.mem_range.mpr hl, ?_⟩
    rw [h1]
    cases v <;> first | exact absurd rfl (h2 _) | (show some (q.1, _) = some q; rw [← h3])
theorem lh_has {lsA : Array Slot} {n : Nat} {ad : Nat → Nat} {ls : List Value} (h : lh lsA n ad ls) : lv_has lsA n (prs ad ls) := by
  refine ⟨h.1, h.2.1, fun q hq => ?_⟩
  obtain ⟨v, h1, h2, h3⟩ := mem_prs.mp hq
  rw [h3]
  exact h.2.2.2 _ _ h1 h2
theorem lh_at {lsA : Array Slot} {n : Nat} {ad : Nat → Nat} {ls : List Value} (h : lh lsA n ad ls) {i : Nat} {v : Value} (hg : gl ls i = some v) (hu : ∀ a, v ≠ .retAddr a) : lsA[i]? = some (.val (conc ad v)) := h.2.2.2 i v hg hu
theorem lh_s1 {lsA : Array Slot} {n : Nat} {ad : Nat → Nat} {ls : List Value} {i : Nat} {v : Value} (hlen : ls.length = n) (h : lv_has lsA n ((i, conc ad v) :: (prs ad ls).filter (fun q => !(q.1 == i) && !(q.1 + 1 == i && q.2.category == 2)))) : lh lsA n ad (s1 ls i v) := by
  refine ⟨h.1, h.2.1, by rw [s1_len]; exact hlen, fun j w hj hu => ?_⟩
  unfold s1 at hj
  rw [sl_eq, gl_eq] at hj
  by_cases e : j = i
  · subst e
    have hl : j < (k1 ls j).length := by
      have := (List.getElem?_eq_some_iff.mp hj).1
      rw [List.length_set] at this
      exact this
    rw [List.getElem?_set_self hl] at hj
    cases hj
    exact h.2.2 (j, conc ad v) List.mem_cons_self
  · rw [List.getElem?_set_ne (Ne.symm e), ← gl_eq] at hj
    obtain ⟨g1, g2⟩ := k1_get hj hu
    refine h.2.2 (j, conc ad w) (List.mem_cons_of_mem _ (List.mem_filter.mpr ⟨mem_prs.mpr ⟨w, g1, hu, rfl⟩, ?_⟩))
    rw [conc_cat]
    have e1 : (j == i) = false := by simpa using e
    rw [e1]
    by_cases e2 : j + 1 = i
    · have e3 : ¬ w.category = 2 := fun z => g2 ⟨e2, z⟩
      simp [e3]
    · simp [e2]
theorem lh_s2 {lsA : Array Slot} {n : Nat} {ad : Nat → Nat} {ls : List Value} {i : Nat} {v : Value} (hlen : ls.length = n) (h : lv_has lsA n ((i, conc ad v) :: (prs ad ls).filter (fun q => !(q.1 == i) && (!(q.1 == i + 1) && !(q.1 + 1 == i && q.2.category == 2))))) : lh lsA n ad (s2 ls i v) := by
  refine ⟨h.1, h.2.1, by rw [s2_len]; exact hlen, fun j w hj hu => ?_⟩
  unfold s2 at hj
  rw [sl_eq, sl_eq, gl_eq] at hj
  by_cases e9 : j = i + 1
  · subst e9
    have hl : i + 1 < ((k1 ls i).set i v).length := by
      have := (List.getElem?_eq_some_iff.mp hj).1
      rw [List.length_set] at this
      exact this
    rw [List.getElem?_set_self hl] at hj
    cases hj
    exact absurd rfl (hu 0)
  · rw [List.getElem?_set_ne (Ne.symm e9)] at hj
    by_cases e : j = i
    · subst e
      have hl : j < (k1 ls j).length := by
        have := (List.getElem?_eq_some_iff.mp hj).1
        rw [List.length_set] at this
        exact this
      rw [List.getElem?_set_self hl] at hj
      cases hj
      exact h.2.2 (j, conc ad v) List.mem_cons_self
    · rw [List.getElem?_set_ne (Ne.symm e), ← gl_eq] at hj
      obtain ⟨g1, g2⟩ := k1_get hj hu
      refine h.2.2 (j, conc ad w) (List.mem_cons_of_mem _ (List.mem_filter.mpr ⟨mem_prs.mpr ⟨w, g1, hu, rfl⟩, ?_⟩))
      rw [conc_cat]
      have e1 : (j == i) = false := by simpa using e
      have e4 : (j == i + 1) = false := by simpa using e9
      rw [e1, e4]
      by_cases e2 : j + 1 = i
      · have e3 : ¬ w.category = 2 := fun z => g2 ⟨e2, z⟩
        simp [e3]
      · simp [e2]
theorem lh_ad {lsA : Array Slot} {n : Nat} {ad ad' : Nat → Nat} {P : MP} {ls : List Value} (h : lh lsA n ad ls) (he : ∀ k, k ≤ P.2.2 → ad' k = ad k) (hv : ∀ v ∈ ls, vk P v) : lh lsA n ad' ls := by
  refine ⟨h.1, h.2.1, h.2.2.1, fun i v hg hu => ?_⟩
  rw [conc_eq he (hv v (by rw [gl_eq] at hg; exact List.mem_of_getElem? hg))]
  exact h.2.2.2 i v hg hu
