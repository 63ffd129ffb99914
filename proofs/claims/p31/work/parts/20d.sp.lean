/-! TWO: the calls of the class do what the function says -/
/-- the memory holds the state; c: how much was made at first -/
def OKM (z : SX) (c : MC) (P : MP) (I : MI) (L : ML) (C : MC) (S : LW) : Prop := XB P ∧ (P.1 0 = (30, z.1) ∧ ∀ j, I 0 j = z.2 j) ∧ XR I L S.1 S.2.1 S.2.2.1 0 (fun _ => 0) ∧ AV S.2.2.2 S.1 S.2.1 S.2.2.1 0 (fun _ => 0) ∧ C.1 ≤ c.1 + S.2.2.2 ∧ C.2 ≤ c.2 + 6 * S.2.2.2
def SO (z : SX) (c : MC) (d mj : Nat) (as : List Value) (S : LW) (r : RV) (S' : LW) : Prop := ∀ (P : MP) (I : MI) (L : ML) (C : MC), OKM z c P I L C S → ∃ (I' : MI) (L' : ML) (C' : MC), OKM z c P I' L' C' S' ∧ ∀ Q, CT d mj as P I L C Q = Q r P I' L' C'
theorem AV_B {B B' n len : Nat} {g : GS} {ps : Nat → GS} {tx : Nat → Nat} (h : AV B g n ps len tx) (hB : B ≤ B') : AV B' g n ps len tx := ⟨GV_B h.1 hB, fun i hi => GV_B (h.2.1 i hi) hB, h.2.2⟩
theorem GV_add {B t w we ra gr on : Nat} {g : GS} (h : GV B g) (ht : t < 3) (hc : g (3 + t) < 6) (h0 : w ≤ 18) (h1 : w < 16 → ra ≤ 3) (h2 : 16 ≤ w → t + 16 < w ∧ ra = 0) (h3 : 1 ≤ we) (h4 : we ≤ 1000) (h5 : gr ≤ 3) (h6 : on ≤ 1) : GV B (addG g t w we ra gr on) := ⟨TV_add h.1 ht hc h0 h1 h2 h3 h4 h5 h6, LV_g (fun k q _ => addG_o ht hc (.inr q)) h.2.1, FV_g (fun k q _ => addG_o ht hc (.inr (by omega))) h.2.2⟩
theorem GV_rem {B t e : Nat} {g : GS} (h : GV B g) (ht : t < 3) (he : e < g (3 + t)) : GV B (remG g t e) := ⟨TV_rem h.1 ht he, LV_g (fun k q _ => remG_o ht (h.1.2.1 t ht) (.inr q)) h.2.1, FV_g (fun k q _ => remG_o ht (h.1.2.1 t ht) (.inr (by omega))) h.2.2⟩
theorem GV_res {B : Nat} {g : GS} (h : GV B g) : GV B (resG g) := ⟨TV_res h.1, LV_g (fun k q _ => resG_o (.inr q)) h.2.1, FV_g (fun k q _ => resG_o (.inr (by omega))) h.2.2⟩
theorem SO_x {z : SX} {c : MC} {d mj E : Nat} {as : List Value} {S : LW} (h : ∀ P I L C Q, OKM z c P I L C S → CT d mj as P I L C Q = Q (.inr E) P I L (C.1 + 1, C.2 + 6)) : SO z c d mj as S (.inr E) (S.1, S.2.1, S.2.2.1, S.2.2.2 + 1) := by
  intro P I L C hO
  refine ⟨I, L, (C.1 + 1, C.2 + 6), ⟨hO.1, hO.2.1, hO.2.2.1, AV_B hO.2.2.2.1 (Nat.le_succ _), ?_, ?_⟩, fun Q => h P I L C Q hO⟩
  · have := hO.2.2.2.2.1
    dsimp only
    omega
  · have := hO.2.2.2.2.2
    dsimp only
    omega
theorem SO_r {z : SX} {c : MC} {d mj : Nat} {as : List Value} {S : LW} {v : Value} (h : ∀ P I L C, OKM z c P I L C S → ∃ (I' : MI) (L' : ML), XR I' L' S.1 S.2.1 S.2.2.1 0 (fun _ => 0) ∧ fo I I' ∧ ∀ Q, CT d mj as P I L C Q = Q (.inl (some v)) P I' L' C) : SO z c d mj as S (.inl (some v)) S := by
  intro P I L C hO
  obtain ⟨I', L', h1, h2, h3⟩ := h P I L C hO
  exact ⟨I', L', C, ⟨hO.1, ⟨hO.2.1.1, fun j => (h2 0 j (.inl (by omega))).trans (hO.2.1.2 j)⟩, h1, hO.2.2.2.1, hO.2.2.2.2⟩, h3⟩
theorem SO_w {z : SX} {c : MC} {d mj w : Nat} {as : List Value} {S : LW} {v : Value} {g' : GS} (h : ∀ P I L C, OKM z c P I L C S → ∃ I', XR I' L g' (puN S.2.1) (puS S.2.1 S.2.2.1 S.1) 0 (fun _ => 0) ∧ fo I I' ∧ GV (S.2.2.2 + w) g' ∧ ∀ Q, CT d mj as P I L C Q = Q (.inl (some v)) P I' L C) : SO z c d mj as S (.inl (some v)) (sav g' S w) := by
  intro P I L C hO
  obtain ⟨I', h1, h2, h4, h3⟩ := h P I L C hO
  refine ⟨I', L, C, ⟨hO.1, ⟨hO.2.1.1, fun j => (h2 0 j (.inl (by omega))).trans (hO.2.1.2 j)⟩, h1, AV_push hO.2.2.2.1 h4 (Nat.le_add_right _ _), ?_, ?_⟩, h3⟩
  · have := hO.2.2.2.2.1
    unfold sav
    dsimp only
    omega
  · have := hO.2.2.2.2.2
    unfold sav
    dsimp only
    omega
/-- in its range, or not -/
theorem in_n {x : Int32} {a b : Nat} (h : nI a ≤ x ∧ x ≤ nI b) (hb : b < 2147483647) (hab : a ≤ b) : ∃ t, a ≤ t ∧ t ≤ b ∧ x = nI t ∧ cm x = t := by
  rcases n_ix x (b + 1) (by omega) with q | q | ⟨j, q1, q2⟩
  · exact absurd h.1 (Int32.not_le.mpr (Int32.lt_of_lt_of_le q (nI_pos' (by omega))))
  · have h3 := h.2
    rw [Int32.le_iff_toInt_le] at q h3
    rw [n_ti (by omega)] at q h3
    omega
  · subst q2
    have h1 := h.1
    rw [n_le (by omega) (by omega)] at h1
    exact ⟨j, h1, by omega, rfl, n_cl (by omega)⟩
theorem in_o {x : Int32} {a b : Nat} (h : ¬ (nI a ≤ x ∧ x ≤ nI b)) : x < nI a ∨ nI b < x := by
  by_cases h1 : nI a ≤ x
  · exact .inr (Int32.not_le.mp fun q => h ⟨h1, q⟩)
  · exact .inl (Int32.not_le.mp h1)
theorem in_3 {x : Int32} {b : Nat} (hb : b < 2147483646) (h : ¬ (nI 0 ≤ x ∧ x ≤ nI b)) : x < 0 ∨ nI (b + 1) ≤ x := by
  rcases in_o h with q | q
  · exact .inl q
  · refine .inr ?_
    rw [Int32.lt_iff_toInt_lt, n_ti (by omega)] at q
    rw [Int32.le_iff_toInt_le, n_ti (by omega)]
    omega
theorem in_e {x : Int32} {b : Nat} (hb : b < 2147483647) (h : nI 0 ≤ x ∧ x < nI b) : ∃ t, t < b ∧ x = nI t ∧ cm x = t := by
  rcases n_ix x b (by omega) with q | q | ⟨j, q1, q2⟩
  · exact absurd h.1 (Int32.not_le.mpr q)
  · exact absurd h.2 (Int32.not_lt.mpr q)
  · subst q2
    exact ⟨j, q1, rfl, n_cl (by omega)⟩
theorem in_f {x : Int32} {b : Nat} (h : ¬ (nI 0 ≤ x ∧ x < nI b)) : x < 0 ∨ nI b ≤ x := by
  by_cases h1 : nI 0 ≤ x
  · exact .inr (Int32.not_lt.mp fun q => h ⟨h1, q⟩)
  · exact .inl (Int32.not_le.mp h1)
theorem in_p {x : Int32} (h : nI 0 ≤ x) : ∃ t, t < 2147483648 ∧ x = nI t ∧ cm x = t := by
  rcases n_ix x 2147483647 (by omega) with q | q | ⟨j, q1, q2⟩
  · exact absurd h (Int32.not_le.mpr q)
  · have e1 : x = nI 2147483647 := by
      apply Int32.toInt_inj.1
      have := Int32.toInt_lt x
      rw [Int32.le_iff_toInt_le, n_ti (by omega)] at q
      rw [n_ti (by omega)]
      omega
    subst e1
    exact ⟨2147483647, by omega, rfl, n_cl (by omega)⟩
  · subst q2
    exact ⟨j, by omega, rfl, n_cl (by omega)⟩
section SPK
variable {z : SX} {c : MC} {d : Nat} {S S' : LW} {r : RV}
theorem k85 {a b : Int32} (h : q85 a b S = some (r, S')) (hd : 30 ≤ d) : SO z c d 85 [.ref 1, .int a, .int b] S r S' := by
  unfold q85 at h
  split at h
  · rename_i h1
    obtain ⟨t, -, ht, rfl, e1⟩ := in_n h1 (by omega) (by omega)
    rw [e1] at h
    split at h
    · rename_i h2
      obtain ⟨v, hv1, hv2, rfl, e2⟩ := in_n h2 (by omega) (by omega)
      rw [e2] at h
      cases h
      refine SO_w fun P I L C hO => ?_
      obtain ⟨I', i1, i2, i3⟩ := c85 (d := d) (C := C) hO.1 hO.2.2.1 hO.2.2.2.1 (by omega) (show t < 3 by omega) hv1 hv2
      exact ⟨I', i1, i2, GV_dr hO.2.2.2.1.1 (by omega) hv1 hv2, i3⟩
    · rename_i h2
      cases h
      exact SO_x fun P I L C Q hO => c85c hO.1 (by omega) (by omega) (in_o h2)
  · rename_i h1
    cases h
    exact SO_x fun P I L C Q hO => c85b hO.1 (by omega) (in_3 (by omega) h1)
theorem k97 {a e w : Int32} (h : q97 a e w S = some (r, S')) (hd : 30 ≤ d) : SO z c d 97 [.ref 1, .int a, .int e, .int w] S r S' := by
  intro P I L C hO
  revert P I L C
  unfold q97 at h
  by_cases h1 : nI 0 ≤ a ∧ a ≤ nI 2
  · obtain ⟨t, -, ht, rfl, e1⟩ := in_n h1 (by omega) (by omega)
    rw [e1] at h
    by_cases h2 : nI 0 ≤ e ∧ e < nI (S.1 (3 + t))
    · rw [if_pos ⟨h1, h2⟩] at h
      by_cases h6 : S.1 (3 + t) ≤ 6
      · obtain ⟨j, hj, rfl, e2⟩ := in_e (by omega) h2
        rw [e2] at h
        split at h
        · rename_i h3
          obtain ⟨v, hv1, hv2, rfl, e3⟩ := in_n h3 (by omega) (by omega)
          rw [e3] at h
          cases h
          refine SO_w fun P I L C hO => ?_
          obtain ⟨I', i1, i2, i3⟩ := c97 (d := d) (C := C) hO.1 hO.2.2.1 hO.2.2.2.1 (by omega) (show t < 3 by omega) hj hv1 hv2
          exact ⟨I', i1, i2, GV_wt hO.2.2.2.1.1 (by omega) (by omega) hv1 hv2, i3⟩
        · rename_i h3
          cases h
          exact SO_x fun P I L C Q hO => c97d hO.1 hO.2.2.1.1 hO.2.2.2.1.1.1 (by omega) (by omega) hj (in_o h3)
      · intro P I L C hO
        exact absurd (hO.2.2.2.1.1.1.2.1 t (by omega)) h6
    · rw [if_neg (fun q => h2 q.2)] at h
      cases h
      exact SO_x fun P I L C Q hO => c97c hO.1 hO.2.2.1.1 hO.2.2.2.1.1.1 (by omega) (by omega) (in_f h2)
  · rw [if_neg (fun q => h1 q.1)] at h
    cases h
    exact SO_x fun P I L C Q hO => c97b hO.1 (by omega) (in_3 (by omega) h1)
theorem k92 {a e : Int32} (h : q92 a e S = some (r, S')) (hd : 30 ≤ d) : SO z c d 92 [.ref 1, .int a, .int e] S r S' := by
  intro P I L C hO
  revert P I L C
  unfold q92 at h
  by_cases h1 : nI 0 ≤ a ∧ a ≤ nI 2
  · obtain ⟨t, -, ht, rfl, e1⟩ := in_n h1 (by omega) (by omega)
    rw [e1] at h
    by_cases h2 : nI 0 ≤ e ∧ e < nI (S.1 (3 + t))
    · rw [if_pos ⟨h1, h2⟩] at h
      by_cases h6 : S.1 (3 + t) ≤ 6
      · obtain ⟨j, hj, rfl, e2⟩ := in_e (by omega) h2
        rw [e2] at h
        cases h
        refine SO_w fun P I L C hO => ?_
        obtain ⟨I', i1, i2, i3⟩ := c92 (d := d) (C := C) hO.1 hO.2.2.1 hO.2.2.2.1 (by omega) (show t < 3 by omega) hj
        exact ⟨I', i1, i2, GV_rem hO.2.2.2.1.1 (by omega) hj, i3⟩
      · intro P I L C hO
        exact absurd (hO.2.2.2.1.1.1.2.1 t (by omega)) h6
    · rw [if_neg (fun q => h2 q.2)] at h
      cases h
      exact SO_x fun P I L C Q hO => c92c hO.1 hO.2.2.1.1 hO.2.2.2.1.1.1 (by omega) (by omega) (in_f h2)
  · rw [if_neg (fun q => h1 q.1)] at h
    cases h
    exact SO_x fun P I L C Q hO => c92b hO.1 (by omega) (in_3 (by omega) h1)
theorem k99 {a e w : Int32} (h : q99 a e w S = some (r, S')) (hd : 30 ≤ d) : SO z c d 99 [.ref 1, .int a, .int e, .int w] S r S' := by
  intro P I L C hO
  revert P I L C
  unfold q99 at h
  by_cases h1 : nI 0 ≤ a ∧ a ≤ nI 2
  · obtain ⟨t, -, ht, rfl, e1⟩ := in_n h1 (by omega) (by omega)
    rw [e1] at h
    by_cases h2 : nI 0 ≤ e ∧ e < nI (S.1 (3 + t))
    · rw [if_pos ⟨h1, h2⟩] at h
      by_cases h6 : S.1 (3 + t) ≤ 6
      · obtain ⟨j, hj, rfl, e2⟩ := in_e (by omega) h2
        rw [e2] at h
        split at h
        · rename_i h3
          obtain ⟨v, -, hv2, rfl, e3⟩ := in_n h3 (by omega) (by omega)
          rw [e3] at h
          cases h
          refine SO_r fun P I L C hO => ?_
          obtain ⟨I', i1, i2, i3⟩ := c99 (d := d) (C := C) hO.1 hO.2.2.1 hO.2.2.2.1 (by omega) (show t < 3 by omega) hj (show v < 8 by omega)
          exact ⟨I', L, i1, i2, i3⟩
        · rename_i h3
          cases h
          exact SO_x fun P I L C Q hO => c99d hO.1 hO.2.2.1.1 hO.2.2.2.1.1.1 (by omega) (by omega) hj (in_o h3)
      · intro P I L C hO
        exact absurd (hO.2.2.2.1.1.1.2.1 t (by omega)) h6
    · rw [if_neg (fun q => h2 q.2)] at h
      cases h
      exact SO_x fun P I L C Q hO => c99c hO.1 hO.2.2.1.1 hO.2.2.2.1.1.1 (by omega) (by omega) (in_f h2)
  · rw [if_neg (fun q => h1 q.1)] at h
    cases h
    exact SO_x fun P I L C Q hO => c99b hO.1 (by omega) (in_3 (by omega) h1)
theorem k131 {a e b : Int32} (h : q131 a e b S = some (r, S')) (hd : 30 ≤ d) : SO z c d 131 [.ref 1, .int a, .int e, .int b] S r S' := by
  intro P I L C hO
  revert P I L C
  unfold q131 at h
  split at h
  · rename_i hb
    obtain ⟨v, hv, rfl, e3⟩ : ∃ v, v ≤ 1 ∧ b = nI v ∧ cm b = v := by
      rcases hb with rfl | rfl
      · exact ⟨0, by omega, rfl, n_cl (by omega)⟩
      · exact ⟨1, by omega, rfl, n_cl (by omega)⟩
    rw [e3] at h
    by_cases h1 : nI 0 ≤ a ∧ a ≤ nI 2
    · obtain ⟨t, -, ht, rfl, e1⟩ := in_n h1 (by omega) (by omega)
      rw [e1] at h
      by_cases h2 : nI 0 ≤ e ∧ e < nI (S.1 (3 + t))
      · rw [if_pos ⟨h1, h2⟩] at h
        by_cases h6 : S.1 (3 + t) ≤ 6
        · obtain ⟨j, hj, rfl, e2⟩ := in_e (by omega) h2
          rw [e2] at h
          cases h
          refine SO_r fun P I L C hO => ?_
          obtain ⟨I', i1, i2, i3⟩ := c131 (d := d) (C := C) hO.1 hO.2.2.1 hO.2.2.2.1 (by omega) (show t < 3 by omega) hj hv
          exact ⟨I', L, i1, i2, i3⟩
        · intro P I L C hO
          exact absurd (hO.2.2.2.1.1.1.2.1 t (by omega)) h6
      · rw [if_neg (fun q => h2 q.2)] at h
        cases h
        exact SO_x fun P I L C Q hO => c131c hO.1 hO.2.2.1.1 hO.2.2.2.1.1.1 (by omega) (by omega) (in_f h2)
    · rw [if_neg (fun q => h1 q.1)] at h
      cases h
      exact SO_x fun P I L C Q hO => c131b hO.1 (by omega) (in_3 (by omega) h1)
  · cases h
theorem k10 (h : q10 S = some (r, S')) (hd : 30 ≤ d) : SO z c d 10 [.ref 1] S r S' := by
  unfold q10 at h
  cases h
  refine SO_w fun P I L C hO => ?_
  obtain ⟨I', i1, i2, i3⟩ := c10 (d := d) (C := C) hO.1 hO.2.2.1 hO.2.2.2.1 (by omega)
  exact ⟨I', i1, i2, GV_res hO.2.2.2.1.1, i3⟩
theorem k101 {a w : Int32} (h : q101 a w S = some (r, S')) (hd : 30 ≤ d) : SO z c d 101 [.ref 1, .int a, .int w] S r S' := by
  unfold q101 at h
  split at h
  · rename_i h1
    obtain ⟨t, -, ht, rfl, e1⟩ := in_n h1 (by omega) (by omega)
    rw [e1] at h
    split at h
    · rename_i h2
      obtain ⟨v, -, hv2, rfl, e2⟩ := in_n h2 (by omega) (by omega)
      rw [e2] at h
      cases h
      refine SO_r fun P I L C hO => ?_
      obtain ⟨I', i1, i2, i3⟩ := c101 (d := d) (C := C) hO.1 hO.2.2.1 hO.2.2.2.1 (by omega) (show t < 3 by omega) (show v < 4 by omega)
      exact ⟨I', L, i1, i2, i3⟩
    · rename_i h2
      cases h
      exact SO_x fun P I L C Q hO => c101c (by omega) (by omega) (in_o h2)
  · rename_i h1
    cases h
    exact SO_x fun P I L C Q hO => c101b (by omega) (in_3 (by omega) h1)
theorem k103 {a b : Int32} (h : q103 a b S = some (r, S')) (hd : 30 ≤ d) : SO z c d 103 [.ref 1, .int a, .int b] S r S' := by
  unfold q103 at h
  split at h
  · rename_i h1
    obtain ⟨t, ht1, ht, rfl, e1⟩ := in_n h1 (by omega) (by omega)
    rw [e1] at h
    split at h
    · rename_i h2
      obtain ⟨v, hv1, hv2, rfl, e2⟩ := in_n h2 (by omega) (by omega)
      rw [e2] at h
      cases h
      refine SO_w fun P I L C hO => ?_
      obtain ⟨I', i1, i2, i3⟩ := c103 (d := d) (C := C) hO.1 hO.2.2.1 hO.2.2.2.1 (by omega) ht1 ht hv2
      exact ⟨I', i1, i2, GV_l hO.2.2.2.1.1 (by omega) (by omega) hv2 (fun q => by omega), i3⟩
    · rename_i h2
      cases h
      exact SO_x fun P I L C Q hO => c103c (by omega) ht1 ht (in_o h2)
  · rename_i h1
    cases h
    exact SO_x fun P I L C Q hO => c103b (by omega) (in_o h1)
theorem k106 {a b : Int32} (h : q106 a b S = some (r, S')) (hd : 30 ≤ d) : SO z c d 106 [.ref 1, .int a, .int b] S r S' := by
  unfold q106 at h
  split at h
  · rename_i h1
    obtain ⟨t, ht1, ht, rfl, e1⟩ := in_n h1 (by omega) (by omega)
    rw [e1] at h
    split at h
    · rename_i h2
      obtain ⟨v, hv1, hv2, rfl, e2⟩ := in_n h2 (by omega) (by omega)
      rw [e2] at h
      cases h
      refine SO_w fun P I L C hO => ?_
      obtain ⟨I', i1, i2, i3⟩ := c106 (d := d) (C := C) hO.1 hO.2.2.1 hO.2.2.2.1 (by omega) ht1 ht hv2
      exact ⟨I', i1, i2, GV_l hO.2.2.2.1.1 (by omega) (by omega) hv2 (fun q => by omega), i3⟩
    · rename_i h2
      cases h
      exact SO_x fun P I L C Q hO => c106c (by omega) ht1 ht (in_o h2)
  · rename_i h1
    cases h
    exact SO_x fun P I L C Q hO => c106b (by omega) (in_o h1)
theorem k108 {x s : Int32} (h : q108 x s S = some (r, S')) (hd : 30 ≤ d) : SO z c d 108 [.ref 1, .int x, .int s] S r S' := by
  unfold q108 at h
  split at h
  · rename_i h1
    obtain ⟨t, ht1, ht, rfl, e1⟩ := in_n h1 (by omega) (by omega)
    rw [e1] at h
    split at h
    · rename_i h2
      subst h2
      cases h
      refine SO_w fun P I L C hO => ?_
      obtain ⟨I', i1, i2, i3⟩ := c108n (d := d) (C := C) hO.1 hO.2.2.1 hO.2.2.2.1 (by omega) ht
      exact ⟨I', i1, i2, GV_l hO.2.2.2.1.1 (by omega) (by omega) (by omega) (fun _ => ht), i3⟩
    · rename_i hn
      split at h
      · rename_i h2
        obtain ⟨v, hv1, hv2, rfl, e2⟩ := in_n h2 (by omega) (by omega)
        rw [e2] at h
        cases h
        refine SO_w fun P I L C hO => ?_
        obtain ⟨I', i1, i2, i3⟩ := c108 (d := d) (C := C) hO.1 hO.2.2.1 hO.2.2.2.1 (by omega) ht hv2
        exact ⟨I', i1, i2, GV_se (GV_l hO.2.2.2.1.1 (by omega) (by omega) (by omega) (fun _ => ht)) (by omega), i3⟩
      · rename_i h2
        cases h
        exact SO_x fun P I L C Q hO => c108c (by omega) ht hn (in_o h2)
  · rename_i h1
    cases h
    exact SO_x fun P I L C Q hO => c108b (by omega) (in_o h1)
theorem k110 {a b : Int32} (h : q110 a b S = some (r, S')) (hd : 30 ≤ d) : SO z c d 110 [.ref 1, .int a, .int b] S r S' := by
  unfold q110 at h
  split at h
  · rename_i h1
    obtain ⟨t, ht1, ht, rfl, e1⟩ := in_n h1 (by omega) (by omega)
    rw [e1] at h
    split at h
    · rename_i h2
      subst h2
      cases h
      exact SO_r fun P I L C hO => ⟨I, L, hO.2.2.1, fo_r, fun Q => c110 (b := 0) hO.1 hO.2.2.1 hO.2.2.2.1 (by omega) ht1 ht (by omega)⟩
    · split at h
      · rename_i h2
        subst h2
        cases h
        exact SO_r fun P I L C hO => ⟨I, L, hO.2.2.1, fo_r, fun Q => c110 (b := 1) hO.1 hO.2.2.1 hO.2.2.2.1 (by omega) ht1 ht (by omega)⟩
      · cases h
  · rename_i h1
    cases h
    exact SO_x fun P I L C Q hO => c110b (by omega) (in_o h1)
theorem k112 {w : Int32} (h : q112 w S = some (r, S')) (hk : S'.2.2.2 ≤ 999000) (hd : 30 ≤ d) : SO z c d 112 [.ref 1, .int w] S r S' := by
  unfold q112 at h
  split at h
  · rename_i h1
    obtain ⟨t, ht1, ht, rfl, e1⟩ := in_n h1 (by omega) (by omega)
    rw [e1] at h
    cases h
    exact SO_r fun P I L C hO => ⟨I, L, hO.2.2.1, fo_r, fun Q => c112 hO.1 hO.2.2.1 hO.2.2.2.1 (by omega) (by omega) (by omega)⟩
  · rename_i h1
    cases h
    exact SO_x fun P I L C Q hO => c112b (by omega) (in_o h1)
theorem k114 {a : Int32} (h : q114 a S = some (r, S')) (hk : S'.2.2.2 ≤ 999000) (hd : 30 ≤ d) : SO z c d 114 [.ref 1, .int a] S r S' := by
  unfold q114 at h
  split at h
  · rename_i h1
    obtain ⟨t, ht1, ht, rfl, e1⟩ := in_n h1 (by omega) (by omega)
    rw [e1] at h
    cases h
    unfold sav at hk
    dsimp only at hk
    refine SO_w fun P I L C hO => ?_
    obtain ⟨I', i1, i2, i3⟩ := c114 (d := d) (C := C) hO.1 hO.2.2.1 hO.2.2.2.1 (by omega) (by omega) (show t < 3 by omega)
    obtain ⟨J, j1, j2, j3, j4, j5⟩ := c115 (d := d) (L := L) (C := C) hO.1.2.2.2.2.2.2.2.1 hO.1.2.2.1 (by omega) hO.2.2.1.1 hO.2.2.2.1.1.1 hO.2.2.2.1.1.2.1 hO.2.2.2.1.1.2.2 (by omega) (by omega) (show t < 3 by omega)
    exact ⟨I', i1, i2, j2, i3⟩
  · rename_i h1
    cases h
    exact SO_x fun P I L C Q hO => c114b (by omega) (in_3 (by omega) h1)
theorem k124 {a m : Int32} (h : q124 a m S = some (r, S')) (hk : S'.2.2.2 ≤ 999000) (hd : 30 ≤ d) : SO z c d 124 [.ref 1, .int a, .int m] S r S' := by
  unfold q124 at h
  split at h
  · rename_i h1
    obtain ⟨t, -, ht, rfl, e1⟩ := in_n h1 (by omega) (by omega)
    rw [e1] at h
    split at h
    · rename_i h2
      obtain ⟨v, hv1, hv2, rfl, e2⟩ := in_n h2 (by omega) (by omega)
      rw [e2] at h
      cases h
      unfold sav at hk
      dsimp only at hk
      refine SO_w fun P I L C hO => ?_
      obtain ⟨I', i1, i2, i3, i4⟩ := c124 (d := d) (C := C) hO.1 hO.2.2.1 hO.2.2.2.1 (by omega) (by omega) (show t < 3 by omega) hv1 hv2
      exact ⟨I', i1, i3, i2, i4⟩
    · rename_i h2
      cases h
      exact SO_x fun P I L C Q hO => c124c (by omega) (by omega) (in_o h2)
  · rename_i h1
    cases h
    exact SO_x fun P I L C Q hO => c124b (by omega) (in_3 (by omega) h1)
theorem k126 {i w : Int32} (h : q126 i w S = some (r, S')) (hk : S'.2.2.2 ≤ 999000) (hd : 30 ≤ d) : SO z c d 126 [.ref 1, .int i, .int w] S r S' := by
  unfold q126 at h
  split at h
  · rename_i h1
    obtain ⟨t, ht, rfl, e1⟩ := in_p h1
    rw [e1] at h
    split at h
    · rename_i h2
      obtain ⟨v, hv1, hv2, rfl, e2⟩ := in_n h2 (by omega) (by omega)
      rw [e2] at h
      cases h
      exact SO_r fun P I L C hO => ⟨I, L, hO.2.2.1, fo_r, fun Q => c126 hO.1 hO.2.2.1 hO.2.2.2.1 (by omega) (by omega) ht (by omega)⟩
    · rename_i h2
      cases h
      exact SO_x fun P I L C Q hO => c126c (by omega) ht (in_o h2)
  · rename_i h1
    cases h
    exact SO_x fun P I L C Q hO => c126b (by omega) (Int32.not_le.mp h1)
theorem k128 {i : Int32} (h : q128 i S = some (r, S')) (hd : 30 ≤ d) : SO z c d 128 [.ref 1, .int i] S r S' := by
  unfold q128 at h
  split at h
  · rename_i h1
    obtain ⟨t, ht1, ht, rfl, e1⟩ := in_n h1 (by omega) (by omega)
    rw [e1] at h
    cases h
    exact SO_r fun P I L C hO => ⟨I, L, hO.2.2.1, fo_r, fun Q => c128 hO.1 hO.2.2.1 hO.2.2.2.1 (by omega) (by omega)⟩
  · rename_i h1
    cases h
    exact SO_x fun P I L C Q hO => c128b (by omega) (in_3 (by omega) h1)
theorem k134 {a i : Int32} (h : q134 a i S = some (r, S')) (hd : 30 ≤ d) : SO z c d 134 [.ref 1, .int a, .int i] S r S' := by
  unfold q134 at h
  split at h
  · rename_i h1
    obtain ⟨t, -, ht, rfl, e1⟩ := in_n h1 (by omega) (by omega)
    rw [e1] at h
    split at h
    · rename_i h2
      obtain ⟨v, hv1, hv2, rfl, e2⟩ := in_n h2 (by omega) (by omega)
      rw [e2] at h
      cases h
      refine SO_r fun P I L C hO => ?_
      obtain ⟨I', L', i1, i2, i3, i4⟩ := c134 (d := d) (C := C) hO.1 hO.2.2.1 hO.2.2.2.1 (by omega) (show t < 3 by omega) (show v < 16 by omega)
      exact ⟨I', L', i1, i2, i4⟩
    · rename_i h2
      cases h
      exact SO_x fun P I L C Q hO => c134c (by omega) (by omega) (in_3 (by omega) h2)
  · rename_i h1
    cases h
    exact SO_x fun P I L C Q hO => c134b (by omega) (in_3 (by omega) h1)
theorem k137 {a i : Int32} (h : q137 a i S = some (r, S')) (hd : 30 ≤ d) : SO z c d 137 [.ref 1, .int a, .int i] S r S' := by
  unfold q137 at h
  split at h
  · rename_i h1
    obtain ⟨t, -, ht, rfl, e1⟩ := in_n h1 (by omega) (by omega)
    rw [e1] at h
    split at h
    · rename_i h2
      obtain ⟨v, hv1, hv2, rfl, e2⟩ := in_n h2 (by omega) (by omega)
      rw [e2] at h
      cases h
      refine SO_r fun P I L C hO => ?_
      obtain ⟨I', L', i1, i2, i3, i4⟩ := c137 (d := d) (C := C) hO.1 hO.2.2.1 hO.2.2.2.1 (by omega) (show t < 3 by omega) hv2
      exact ⟨I', L', i1, i2, i4⟩
    · rename_i h2
      cases h
      exact SO_x fun P I L C Q hO => c137c (by omega) (by omega) (in_o h2)
  · rename_i h1
    cases h
    exact SO_x fun P I L C Q hO => c137b (by omega) (in_3 (by omega) h1)
theorem k139 {a : Int32} (h : q139 a S = some (r, S')) (hd : 30 ≤ d) : SO z c d 139 [.ref 1, .int a] S r S' := by
  unfold q139 at h
  split at h
  · rename_i h1
    obtain ⟨t, -, ht, rfl, e1⟩ := in_n h1 (by omega) (by omega)
    rw [e1] at h
    cases h
    refine SO_r fun P I L C hO => ?_
    obtain ⟨I', L', i1, i2, i3, i4⟩ := c139 (d := d) (C := C) hO.1 hO.2.2.1 hO.2.2.2.1 (by omega) (show t < 3 by omega)
    exact ⟨I', L', i1, i2, i4⟩
  · rename_i h1
    cases h
    exact SO_x fun P I L C Q hO => c139b (by omega) (in_3 (by omega) h1)
theorem k31 (h : q31 S = some (r, S')) (hk : S'.2.2.2 ≤ 999000) (hd : 30 ≤ d) : SO z c d 31 [.ref 1] S r S' := by
  unfold q31 at h
  cases h
  exact SO_r fun P I L C hO => ⟨I, L, hO.2.2.1, fo_r, fun Q => c31 hO.1 hO.2.2.1 hO.2.2.2.1 (by omega) (by omega)⟩
theorem k141 {a i : Int32} (h : q141 a i S = some (r, S')) (hk : S'.2.2.2 ≤ 999000) (hd : 30 ≤ d) : SO z c d 141 [.ref 1, .int a, .int i] S r S' := by
  unfold q141 at h
  split at h
  · rename_i h1
    obtain ⟨t, -, ht, rfl, e1⟩ := in_n h1 (by omega) (by omega)
    rw [e1] at h
    split at h
    · rename_i h2
      obtain ⟨v, hv1, hv2, rfl, e2⟩ := in_n h2 (by omega) (by omega)
      rw [e2] at h
      cases h
      refine SO_r fun P I L C hO => ?_
      obtain ⟨I', i1, i2, i3⟩ := c141 (d := d) (C := C) hO.1 hO.2.2.1 hO.2.2.2.1 (by omega) (by omega) (show t < 3 by omega) (show v < 16 by omega)
      exact ⟨I', L, i1, i2, i3⟩
    · rename_i h2
      cases h
      exact SO_x fun P I L C Q hO => c141c (by omega) (by omega) (in_3 (by omega) h2)
  · rename_i h1
    cases h
    exact SO_x fun P I L C Q hO => c141b (by omega) (in_3 (by omega) h1)
theorem k143 {a i : Int32} (h : q143 a i S = some (r, S')) (hd : 30 ≤ d) : SO z c d 143 [.ref 1, .int a, .int i] S r S' := by
  unfold q143 at h
  split at h
  · rename_i h1
    obtain ⟨t, -, ht, rfl, e1⟩ := in_n h1 (by omega) (by omega)
    rw [e1] at h
    split at h
    · rename_i h2
      obtain ⟨v, hv1, hv2, rfl, e2⟩ := in_n h2 (by omega) (by omega)
      rw [e2] at h
      cases h
      refine SO_r fun P I L C hO => ?_
      obtain ⟨I', L', i1, i2, i3, i4⟩ := c143 (d := d) (C := C) hO.1 hO.2.2.1 hO.2.2.2.1 (by omega) (show t < 3 by omega) (show v < 16 by omega)
      exact ⟨I', L', i1, i2, i4⟩
    · rename_i h2
      cases h
      exact SO_x fun P I L C Q hO => c143c (by omega) (by omega) (in_3 (by omega) h2)
  · rename_i h1
    cases h
    exact SO_x fun P I L C Q hO => c143b (by omega) (in_3 (by omega) h1)
theorem k145 {v : Int32} (h : q145 v S = some (r, S')) (hd : 30 ≤ d) : SO z c d 145 [.ref 1, .int v] S r S' := by
  unfold q145 at h
  split at h
  · cases h
  · rename_i h1
    cases h
    exact SO_x fun P I L C Q hO => c145b (by omega) (in_o h1)
theorem k148 (h : q148 S = some (r, S')) (hd : 30 ≤ d) : SO z c d 148 [.ref 1] S r S' := by
  unfold q148 at h
  split at h
  · rename_i h1
    cases h
    exact SO_x fun P I L C Q hO => c148b hO.1 hO.2.2.1 hO.2.2.2.1 (by omega) h1
  · rename_i h1
    cases h
    intro P I L C hO
    obtain ⟨I', i1, i2, i3⟩ := c148 (d := d) (C := C) hO.1 hO.2.2.1 hO.2.2.2.1 (by omega) (by omega)
    have hA := hO.2.2.2.1
    exact ⟨I', L, C, ⟨hO.1, ⟨hO.2.1.1, fun j => (i2 0 j (.inl (by omega))).trans (hO.2.1.2 j)⟩, i1, ⟨hA.2.1 _ (by omega), fun i hi => hA.2.1 i (by dsimp only at hi; omega), by have := hA.2.2.1; dsimp only; omega, hA.2.2.2⟩, hO.2.2.2.2⟩, i3⟩
theorem k90 {a w we ra gr on : Int32} (h : q90 a w we ra gr on S = some (r, S')) (hd : 30 ≤ d) : SO z c d 90 [.ref 1, .int a, .int w, .int we, .int ra, .int gr, .int on] S r S' := by
  intro P I L C hO
  revert P I L C
  unfold q90 at h
  split at h
  · rename_i hb
    obtain ⟨o, ho, rfl, e9⟩ : ∃ v, v ≤ 1 ∧ on = nI v ∧ cm on = v := by
      rcases hb with rfl | rfl
      · exact ⟨0, by omega, rfl, n_cl (by omega)⟩
      · exact ⟨1, by omega, rfl, n_cl (by omega)⟩
    rw [e9] at h
    by_cases h1 : nI 0 ≤ a ∧ a ≤ nI 2
    · obtain ⟨t, -, ht, rfl, e1⟩ := in_n h1 (by omega) (by omega)
      rw [e1, if_pos h1] at h
      by_cases h2 : nI 0 ≤ w ∧ w ≤ nI 18
      · obtain ⟨v, -, hv, rfl, e2⟩ := in_n h2 (by omega) (by omega)
        rw [e2] at h
        by_cases h3 : 16 ≤ v ∧ v ≤ t + 16
        · rw [if_neg (fun q => q.2.1 h3)] at h
          cases h
          exact SO_x fun P I L C Q hO => c90l (by omega) (by omega) hv h3
        · by_cases h4 : nI 1 ≤ we ∧ we ≤ nI 1000
          · obtain ⟨x, hx1, hx, rfl, e4⟩ := in_n h4 (by omega) (by omega)
            rw [e4] at h
            have hmx : (if v < 16 then 3 else 0) < 2147483647 := by split <;> omega
            by_cases h5 : nI 0 ≤ ra ∧ ra ≤ nI (if v < 16 then 3 else 0)
            · obtain ⟨y, -, hy, rfl, e5⟩ := in_n h5 hmx (by omega)
              rw [e5] at h
              have hy3 : y ≤ 3 := by split at hy <;> omega
              have hy0 : 16 ≤ v → y = 0 := fun q => by rw [if_neg (by omega)] at hy; omega
              by_cases h6 : nI 0 ≤ gr ∧ gr ≤ nI 3
              · obtain ⟨u, -, hu, rfl, e6⟩ := in_n h6 (by omega) (by omega)
                rw [e6, if_pos ⟨h2, h3, h4, h5, h6⟩] at h
                split at h
                · rename_i h7
                  cases h
                  refine SO_w fun P I L C hO => ?_
                  obtain ⟨I', i1, i2, i3⟩ := c90 (d := d) (C := C) hO.1 hO.2.2.1 hO.2.2.2.1 (by omega) (show t < 3 by omega) hv (by omega) hx1 hx hy3 hy0 hu ho h7
                  exact ⟨I', i1, i2, GV_add hO.2.2.2.1.1 (by omega) h7 hv (fun _ => hy3) (fun q => ⟨by omega, hy0 q⟩) hx1 hx hu ho, i3⟩
                · rename_i h7
                  cases h
                  exact SO_x fun P I L C Q hO => c90f hO.1 hO.2.2.1 hO.2.2.2.1 (by omega) (by omega) hv (by omega) hx1 hx hy3 hy0 hu (by have := hO.2.2.2.1.1.1.2.1 t (by omega); omega)
              · rw [if_neg (fun q => h6 q.2.2.2.2)] at h
                cases h
                exact SO_x fun P I L C Q hO => c90u (by omega) (by omega) hv (by omega) hx1 hx hy3 hy0 (in_o h6)
            · rw [if_neg (fun q => h5 q.2.2.2.1)] at h
              cases h
              exact SO_x fun P I L C Q hO => c90r (by omega) (by omega) hv (by omega) hx1 hx (in_o h5)
          · rw [if_neg (fun q => h4 q.2.2.1)] at h
            cases h
            exact SO_x fun P I L C Q hO => c90g (by omega) (by omega) hv (by omega) (in_o h4)
      · rw [if_neg (fun q => h2 q.1)] at h
        cases h
        exact SO_x fun P I L C Q hO => c90w (by omega) (by omega) (in_o h2)
    · rw [if_neg h1] at h
      cases h
      exact SO_x fun P I L C Q hO => c90t (by omega) (in_3 (by omega) h1)
  · cases h
end SPK
