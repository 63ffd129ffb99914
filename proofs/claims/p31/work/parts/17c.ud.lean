/-! ONE CELL of the state changed -/
def fo {α : Type} (I I' : Nat → Nat → α) : Prop := ∀ k j, k < 1 ∨ 149 < k → I' k j = I k j
theorem fo_r {α : Type} {I : Nat → Nat → α} : fo I I := fun _ _ _ => rfl
theorem XR_mk {I I' : MI} {L L' : ML} {g g' : GS} {n n' len : Nat} {ps ps' : Nat → GS} {tx : Nat → Nat} (hR : XR I L g n ps len tx) (h1 : RC I' 2 g') (h2 : VR I' n' ps') (h6 : I' 130 6 = nI 4294967295) (hf : ∀ k j, k = 112 ∨ k = 113 → I' k j = I k j) : XR I' L' g' n' ps' len tx := ⟨h1, h2, XT_fr hR.2.2.1 hf, CC_no h6⟩
theorem RC_dr {I : MI} {b t v : Nat} {g : GS} (hg : RC I b g) (ht : t < 3) (hc : g 140 ≤ 20) : RC (xu I (b + 2) t (nI v)) b (ud g t v) := by
  refine ⟨⟨fun t' h => ?_, fun t' h => ?_, fun t' e h he => ?_⟩, LR_g (LR_fr hg.2.1 fun k j h h' => xu_n _ _ (by omega)) fun k h h' => ud_n (by omega), FR_g (FR_fr hg.2.2 fun k j h h' => xu_n _ _ (by omega)) (fun k h h' => ud_n (by omega)) hc⟩
  · by_cases z : t' = t
    · subst z; rw [ud_s, xu_s]
    · rw [ud_n z, xu_n _ _ (by omega)]; exact hg.1.1 t' h
  · rw [ud_n (by omega), xu_n _ _ (by omega)]; exact hg.1.2.1 t' h
  · rw [ud_n (by omega)] at he
    have := hg.1.2.2 t' e h he
    unfold cl at *
    simp (disch := omega) only [ud_n, xu_n]
    exact this
theorem RC_wt {I : MI} {b t e v : Nat} {g : GS} (hg : RC I b g) (hv : TV g) (ht : t < 3) (he : e < 6) (hc : g 140 ≤ 20) : RC (xu I (b + 5) (6 * t + e) (nI v)) b (ud g (cl t e 1) v) := by
  have hcl := cl_lt (f := 1) ht he (by omega)
  exact ⟨TR_ud (T := b + 1) (f := 1) hg.1 hv ht he (by omega), LR_g (LR_fr hg.2.1 fun k j h h' => xu_n _ _ (by omega)) fun k h h' => ud_n (by omega), FR_g (FR_fr hg.2.2 fun k j h h' => xu_n _ _ (by omega)) (fun k h h' => ud_n (by omega)) hc⟩
theorem RC_co {I : MI} {b r v : Nat} {g : GS} (hg : RC I b g) (hv : TV g) (h1 : 1 ≤ r) (h3 : r ≤ 3) (hc : g 140 ≤ 20) : RC (xu I (b + 11) r (nI v)) b (ud g (113 + r) v) := by
  refine ⟨TR_g (TR_fr hg.1 fun k j h h' => xu_n _ _ (by omega)) (fun k h => ud_n (by omega)) hv, ⟨fun r' q1 q3 => ⟨?_, ?_⟩, ?_, ?_⟩, FR_g (FR_fr hg.2.2 fun k j h h' => xu_n _ _ (by omega)) (fun k h h' => ud_n (by omega)) hc⟩
  · by_cases z : r' = r
    · subst z; rw [ud_s, xu_s]
    · rw [ud_n (by omega), xu_n _ _ (by omega)]; exact (hg.2.1.1 r' q1 q3).1
  · rw [ud_n (by omega), xu_n _ _ (by omega)]; exact (hg.2.1.1 r' q1 q3).2
  · rw [ud_n (by omega), xu_n _ _ (by omega)]; exact hg.2.1.2.1
  · rw [ud_n (by omega), xu_n _ _ (by omega)]; exact hg.2.1.2.2
theorem RC_li {I : MI} {b r v : Nat} {g : GS} (hg : RC I b g) (hv : TV g) (h1 : 1 ≤ r) (h3 : r ≤ 3) (hc : g 140 ≤ 20) : RC (xu I (b + 12) r (nI v)) b (ud g (116 + r) v) := by
  refine ⟨TR_g (TR_fr hg.1 fun k j h h' => xu_n _ _ (by omega)) (fun k h => ud_n (by omega)) hv, ⟨fun r' q1 q3 => ⟨?_, ?_⟩, ?_, ?_⟩, FR_g (FR_fr hg.2.2 fun k j h h' => xu_n _ _ (by omega)) (fun k h h' => ud_n (by omega)) hc⟩
  · rw [ud_n (by omega), xu_n _ _ (by omega)]; exact (hg.2.1.1 r' q1 q3).1
  · by_cases z : r' = r
    · subst z; rw [ud_s, xu_s]
    · rw [ud_n (by omega), xu_n _ _ (by omega)]; exact (hg.2.1.1 r' q1 q3).2
  · rw [ud_n (by omega), xu_n _ _ (by omega)]; exact hg.2.1.2.1
  · rw [ud_n (by omega), xu_n _ _ (by omega)]; exact hg.2.1.2.2
theorem RC_ri {I : MI} {b v : Nat} {g : GS} (hg : RC I b g) (hv : TV g) (hc : g 140 ≤ 20) : RC (xu I (b + 10) 2 (nI v)) b (ud g 120 v) := by
  refine ⟨TR_g (TR_fr hg.1 fun k j h h' => xu_n _ _ (by omega)) (fun k h => ud_n (by omega)) hv, ⟨fun r' q1 q3 => ⟨?_, ?_⟩, ?_, ?_⟩, FR_g (FR_fr hg.2.2 fun k j h h' => xu_n _ _ (by omega)) (fun k h h' => ud_n (by omega)) hc⟩
  · rw [ud_n (by omega), xu_n _ _ (by omega)]; exact (hg.2.1.1 r' q1 q3).1
  · rw [ud_n (by omega), xu_n _ _ (by omega)]; exact (hg.2.1.1 r' q1 q3).2
  · rw [ud_s, xu_s]
  · rw [ud_n (by omega), xu_n _ _ (by omega)]; exact hg.2.1.2.2
theorem RC_se {I : MI} {b v : Nat} {g : GS} (hg : RC I b g) (hv : TV g) (hc : g 140 ≤ 20) : RC (xu I (b + 10) 3 (nI v)) b (ud g 121 v) := by
  refine ⟨TR_g (TR_fr hg.1 fun k j h h' => xu_n _ _ (by omega)) (fun k h => ud_n (by omega)) hv, ⟨fun r' q1 q3 => ⟨?_, ?_⟩, ?_, ?_⟩, FR_g (FR_fr hg.2.2 fun k j h h' => xu_n _ _ (by omega)) (fun k h h' => ud_n (by omega)) hc⟩
  · rw [ud_n (by omega), xu_n _ _ (by omega)]; exact (hg.2.1.1 r' q1 q3).1
  · rw [ud_n (by omega), xu_n _ _ (by omega)]; exact (hg.2.1.1 r' q1 q3).2
  · rw [ud_n (by omega), xu_n _ _ (by omega)]; exact hg.2.1.2.1
  · rw [ud_s, xu_s]
theorem GV_dr {B t v : Nat} {g : GS} (h : GV B g) (ht : t < 3) (h1 : 1 ≤ v) (h2 : v ≤ 2) : GV B (ud g t v) := by
  refine ⟨⟨fun t' h' => ?_, fun t' h' => ?_, fun t' e h' he => ?_⟩, LV_g (fun k _ _ => ud_n (by omega)) h.2.1, FV_g (fun k _ _ => ud_n (by omega)) h.2.2⟩
  · by_cases z : t' = t
    · subst z; rw [ud_s]; exact ⟨h1, h2⟩
    · rw [ud_n z]; exact h.1.1 t' h'
  · rw [ud_n (by omega)]; exact h.1.2.1 t' h'
  · rw [ud_n (by omega)] at he
    exact EV_g (fun f hf => ud_n (by unfold cl; omega)) (h.1.2.2 t' e h' he)
theorem GV_wt {B t e v : Nat} {g : GS} (h : GV B g) (ht : t < 3) (he : e < 6) (h1 : 1 ≤ v) (h2 : v ≤ 1000) : GV B (ud g (cl t e 1) v) := by
  have hcl := cl_lt (f := 1) ht he (by omega)
  refine ⟨⟨fun t' h' => ?_, fun t' h' => ?_, fun t' e' h' he' => ?_⟩, LV_g (fun k _ _ => ud_n (by omega)) h.2.1, FV_g (fun k _ _ => ud_n (by omega)) h.2.2⟩
  · rw [ud_n (by omega)]; exact h.1.1 t' h'
  · rw [ud_n (by omega)]; exact h.1.2.1 t' h'
  · rw [ud_n (by omega)] at he'
    have hc := h.1.2.1 t' h'
    obtain ⟨E0, E1, E2, E3, E4, E5, E6, E7⟩ := h.1.2.2 t' e' h' he'
    have o : ∀ f, f < 6 → f ≠ 1 → ud g (cl t e 1) v (cl t' e' f) = g (cl t' e' f) := fun f hf hn => ud_n (cl_ne (by omega) hf he (by omega) (by omega))
    unfold EV
    rw [o 0 (by omega) (by omega), o 2 (by omega) (by omega), o 3 (by omega) (by omega), o 4 (by omega) (by omega), o 5 (by omega) (by omega)]
    by_cases z : cl t' e' 1 = cl t e 1
    · rw [z, ud_s]; exact ⟨E0, E1, E2, h1, h2, E5, E6, E7⟩
    · rw [ud_n z]; exact ⟨E0, E1, E2, E3, E4, E5, E6, E7⟩
theorem GV_l {B c v : Nat} {g : GS} (h : GV B g) (h1 : 114 ≤ c) (h2 : c < 122) (hv : v ≤ 200) (h120 : c = 120 → v ≤ 50) : GV B (ud g c v) := by
  refine ⟨TV_g (fun k hk => ud_n (by omega)) h.1, ⟨fun r q1 q3 => ?_, ?_, ?_⟩, FV_g (fun k _ _ => ud_n (by omega)) h.2.2⟩
  · have := h.2.1.1 r q1 q3
    constructor
    · unfold ud; split <;> omega
    · unfold ud; split <;> omega
  · have := h.2.1.2.1
    unfold ud; split
    · exact h120 (by omega)
    · exact this
  · have := h.2.1.2.2
    unfold ud; split <;> omega
theorem GV_se {B v : Nat} {g : GS} (h : GV B g) (hv : v < 2147483648) : GV B (ud g 121 v) := by
  refine ⟨TV_g (fun k hk => ud_n (by omega)) h.1, ⟨fun r q1 q3 => ?_, ?_, ?_⟩, FV_g (fun k _ _ => ud_n (by omega)) h.2.2⟩
  · rw [ud_n (by omega), ud_n (by omega)]; exact h.2.1.1 r q1 q3
  · rw [ud_n (by omega)]; exact h.2.1.2.1
  · rw [ud_s]; exact hv
theorem GV_140 {B : Nat} {g : GS} (h : GV B g) : g 140 ≤ 20 := by have := h.2.2.2.2.1; omega
