/-! OPENINGS: down the links of one draw -/
abbrev OST : Type := GS × SP × Nat × Nat
def grW (gr : SP) (t k : Nat) : SP := fun t' k' => (decide (t' = t ∧ k' = k) && decide (k ≠ 0)) || gr t' k'
def spnG (g : GS) (t e : Nat) : GS := ud (ud g 121 (sd (g 121))) (cl t e 5) (g (cl t e 4))
/-- the entry that is drawn -/
def pick (W : Nat → Nat → Nat) (g : GS) (t : Nat) : Nat := pe (W t) (g (3 + t)) 0 (sd (g 121) / 65536 % sm (g (3 + t)) (W t))
def chn (W : Nat → Nat → Nat) : Nat → Nat → OST → OST
  | 0, _, s => s
  | f + 1, t, s => if s.1 (cl t (pick W s.1 t) 0) < 16 then (recG (spnG s.1 t (pick W s.1 t)) (s.1 (cl t (pick W s.1 t) 0)) (s.1 (cl t (pick W s.1 t) 2)), grW s.2.1 t (s.1 (cl t (pick W s.1 t) 3)), max s.2.2.1 (s.1 (cl t (pick W s.1 t) 2) + 1), s.2.2.2 + 1)
    else chn W f (s.1 (cl t (pick W s.1 t) 0) - 16) (spnG s.1 t (pick W s.1 t), grW s.2.1 t (s.1 (cl t (pick W s.1 t) 3)), s.2.2.1, s.2.2.2)
/-- the weights stand for the tables from t on -/
def CI (W : Nat → Nat → Nat) (t : Nat) (g : GS) : Prop := ∀ t', t ≤ t' → t' < 3 → ∀ e, e < g (3 + t') → W t' e ≤ 102000 ∧ (0 < W t' e → g (cl t' e 5) = 0 ∧ (16 ≤ g (cl t' e 0) → 0 < sm (g (3 + (g (cl t' e 0) - 16))) (W (g (cl t' e 0) - 16))))
theorem spnG_o {g : GS} {t e k : Nat} (h1 : k ≠ 121) (h2 : k ≠ cl t e 5) : spnG g t e k = g k := by
  unfold spnG
  rw [ud_n h2, ud_n h1]
theorem cl_lt {t e f : Nat} (ht : t < 3) (he : e < 6) (hf : f < 6) : 6 ≤ cl t e f ∧ cl t e f < 114 := by unfold cl; omega
theorem cl_ne {t e f t' e' f' : Nat} (he : e < 6) (hf : f < 6) (he' : e' < 6) (hf' : f' < 6) (h : t ≠ t' ∨ e ≠ e' ∨ f ≠ f') : cl t e f ≠ cl t' e' f' := by unfold cl; omega
theorem TV_spn {g : GS} {t e : Nat} (hv : TV g) (ht : t < 3) (he : e < g (3 + t)) : TV (spnG g t e) := by
  have hc := hv.2.1 t ht
  have hcl := cl_lt (f := 5) ht (show e < 6 by omega) (by omega)
  refine ⟨fun t' h => ?_, fun t' h => ?_, fun t' e' h he' => ?_⟩
  · rw [spnG_o (by omega) (by omega)]; exact hv.1 t' h
  · rw [spnG_o (by omega) (by omega)]; exact hv.2.1 t' h
  · rw [spnG_o (by omega) (by omega)] at he'
    have hc' := hv.2.1 t' h
    have hE := hv.2.2 t' e' h he'
    have o : ∀ f, f < 5 → spnG g t e (cl t' e' f) = g (cl t' e' f) := fun f hf => spnG_o (by unfold cl; omega) (cl_ne (by omega) (by omega) (by omega) (by omega) (by omega))
    unfold EV
    rw [o 0 (by omega), o 1 (by omega), o 2 (by omega), o 3 (by omega), o 4 (by omega)]
    refine ⟨hE.1, hE.2.1, hE.2.2.1, hE.2.2.2.1, hE.2.2.2.2.1, hE.2.2.2.2.2.1, hE.2.2.2.2.2.2.1, ?_⟩
    unfold spnG
    by_cases z : cl t' e' 5 = cl t e 5
    · rw [z, ud_s]
      exact (hv.2.2 t e ht he).2.2.2.2.2.2.1
    · rw [ud_n z, ud_n (by unfold cl; omega)]
      exact hE.2.2.2.2.2.2.2
theorem LV_spn {g : GS} {t e : Nat} (hl : LV g) (ht : t < 3) (he : e < 6) : LV (spnG g t e) := by
  have hcl := cl_lt (f := 5) ht he (by omega)
  refine ⟨fun r h1 h3 => ?_, ?_, ?_⟩
  · rw [spnG_o (by omega) (by omega), spnG_o (by omega) (by omega)]; exact hl.1 r h1 h3
  · rw [spnG_o (by omega) (by omega)]; exact hl.2.1
  · unfold spnG
    rw [ud_n (by omega), ud_s]; exact sd_lt _
theorem FV_g {B : Nat} {g g' : GS} (h : ∀ k, 122 ≤ k → k < 201 → g' k = g k) (hv : FV B g) : FV B g' := by
  obtain ⟨v1, v2, v3, v4, v5⟩ := hv
  have h140 := h 140 (by omega) (by omega)
  refine ⟨by rw [h _ (by omega) (by omega)]; exact v1, by rw [h _ (by omega) (by omega)]; exact v2, by rw [h140, h 123 (by omega) (by omega)]; exact v3, fun i hi => ?_, fun i hi => ?_⟩
  · rw [h _ (by omega) (by omega), h 123 (by omega) (by omega)]; exact v4 i hi
  · rw [h140] at hi
    rw [h _ (by omega) (by omega), h _ (by omega) (by omega), h _ (by omega) (by omega), h 122 (by omega) (by omega)]; exact v5 i hi
theorem TV_g {g g' : GS} (h : ∀ k, k < 114 → g' k = g k) (hv : TV g) : TV g' := by
  refine ⟨fun t ht => ?_, fun t ht => ?_, fun t e ht he => ?_⟩
  · rw [h _ (by omega)]; exact hv.1 t ht
  · rw [h _ (by omega)]; exact hv.2.1 t ht
  · rw [h _ (by omega)] at he
    have := hv.2.1 t ht
    exact EV_g (fun f hf => h _ (cl_lt ht (by omega) hf).2) (hv.2.2 t e ht he)
theorem LV_g {g g' : GS} (h : ∀ k, 114 ≤ k → k < 122 → g' k = g k) (hl : LV g) : LV g' := by
  refine ⟨fun r h1 h3 => ?_, ?_, ?_⟩
  · rw [h _ (by omega) (by omega), h _ (by omega) (by omega)]; exact hl.1 r h1 h3
  · rw [h _ (by omega) (by omega)]; exact hl.2.1
  · rw [h _ (by omega) (by omega)]; exact hl.2.2
/-- a cell of an entry, changed -/
theorem TR_ud {I : MI} {T : Nat} {g : GS} {t e f v : Nat} (hg : TR I T g) (hv : TV g) (ht : t < 3) (he : e < 6) (hf : f < 6) : TR (xu I (T + 3 + f) (6 * t + e) (nI v)) T (ud g (cl t e f) v) := by
  have hcl := cl_lt ht he hf
  refine ⟨fun t' h => ?_, fun t' h => ?_, fun t' e' h he' => ?_⟩
  · rw [ud_n (by omega), xu_n _ _ (by omega)]; exact hg.1 t' h
  · rw [ud_n (by omega), xu_n _ _ (by omega)]; exact hg.2.1 t' h
  · rw [ud_n (by omega)] at he'
    have hc' := hv.2.1 t' h
    obtain ⟨q0, q1, q2, q3, q4, q5⟩ := hg.2.2 t' e' h he'
    have key : ∀ f', f' < 6 → I (T + 3 + f') (6 * t' + e') = nI (g (cl t' e' f')) → (xu I (T + 3 + f) (6 * t + e) (nI v)) (T + 3 + f') (6 * t' + e') = nI (ud g (cl t e f) v (cl t' e' f')) := by
      intro f' hf' hq
      by_cases z : t' = t ∧ e' = e ∧ f' = f
      · obtain ⟨rfl, rfl, rfl⟩ := z
        rw [xu_s, ud_s]
      · rw [xu_n _ _ (by omega), ud_n (by unfold cl; omega)]
        exact hq
    exact ⟨key 0 (by omega) q0, key 1 (by omega) q1, key 2 (by omega) q2, key 3 (by omega) q3, key 4 (by omega) q4, key 5 (by omega) q5⟩
theorem pick_p {W : Nat → Nat → Nat} {g : GS} {t : Nat} (h : 0 < sm (g (3 + t)) (W t)) : pick W g t < g (3 + t) ∧ 0 < W t (pick W g t) := by
  have h1 := Nat.mod_lt (sd (g 121) / 65536) h
  have h2 := pe_p (w := W t) (g (3 + t)) 0 (sd (g 121) / 65536 % sm (g (3 + t)) (W t)) (by rw [Nat.zero_add, show sm 0 (W t) = 0 from rfl]; omega)
  unfold pick
  omega
