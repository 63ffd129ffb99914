/-! OPENINGS: what an opening does to the state -/
/-- the two states agree on what a draw looks at -/
def AG (g' g : GS) : Prop := ∀ k, k < 122 → g' k = g k
theorem cl_122 {t e f : Nat} (ht : t < 3) (he : e < 6) (hf : f < 6) : cl t e f < 122 := by unfold cl; omega
theorem ca_g {g g' : GS} {q t e : Nat} {sp sp' gr : SP} {h h' : Nat → Bool} (hk : AG g' g) (ht : t < 3) (he : e < 6) (hs : sp' t e = sp t e) (hh : ∀ t, h' t = h t) : ca g' q sp' gr h' t e = ca g q sp gr h t e := by
  unfold ca fre
  rw [hs, hk _ (cl_122 ht he (show 0 < 6 by omega)), hk _ (cl_122 ht he (show 2 < 6 by omega)), hk _ (cl_122 ht he (show 3 < 6 by omega)), hh]
theorem h2_g {g g' : GS} {q : Nat} {sp sp' gr : SP} (hk : AG g' g) (hv : TV g) (hs : ∀ t e, t < 3 → e < 6 → sp' t e = sp t e) (t : Nat) : h2 g' q sp' gr t = h2 g q sp gr t := by
  unfold h2
  split
  · rw [hk 5 (by omega)]
    have : g 5 ≤ 6 := hv.2.1 2 (by omega)
    exact any_c fun e he => ca_g hk (by omega) (by omega) (hs _ _ (by omega) (by omega)) fun _ => rfl
  · rfl
theorem h1_g {g g' : GS} {q : Nat} {sp sp' gr : SP} (hk : AG g' g) (hv : TV g) (hs : ∀ t e, t < 3 → e < 6 → sp' t e = sp t e) (t : Nat) : h1 g' q sp' gr t = h1 g q sp gr t := by
  unfold h1
  split
  · rw [hk 4 (by omega)]
    have : g 4 ≤ 6 := hv.2.1 1 (by omega)
    exact any_c fun e he => ca_g hk (by omega) (by omega) (hs _ _ (by omega) (by omega)) (h2_g hk hv hs)
  · exact h2_g hk hv hs t
theorem has_g {g g' : GS} {q : Nat} {sp sp' gr : SP} (hk : AG g' g) (hv : TV g) (hs : ∀ t e, t < 3 → e < 6 → sp' t e = sp t e) (t : Nat) : has g' q sp' gr t = has g q sp gr t := by
  unfold has
  split
  · rw [hk 3 (by omega)]
    have : g 3 ≤ 6 := hv.2.1 0 (by omega)
    exact any_c fun e he => ca_g hk (by omega) (by omega) (hs _ _ (by omega) (by omega)) (h1_g hk hv hs)
  · exact h1_g hk hv hs t
theorem pw_g {g g' : GS} {t e : Nat} (hk : AG g' g) (hv : TV g) (ht : t < 3) (he : e < g (3 + t)) : pw g' t e = pw g t e := by
  have h6 := hv.2.1 t ht
  have hr : g (cl t e 2) ≤ 3 := by
    have hE := hv.2.2 t e ht he
    rcases Nat.lt_or_ge (g (cl t e 0)) 16 with z | z
    · exact hE.2.1 z
    · have := (hE.2.2.1 z).2; omega
  unfold pw
  rw [hk _ (cl_122 ht (show e < 6 by omega) (show 1 < 6 by omega)), hk _ (cl_122 ht (show e < 6 by omega) (show 2 < 6 by omega)), hk 120 (by omega), hk (113 + g (cl t e 2)) (by omega)]
theorem wt_g {g g' : GS} {q t e : Nat} {sp sp' gr : SP} (hk : AG g' g) (hv : TV g) (hs : ∀ t e, t < 3 → e < 6 → sp' t e = sp t e) (ht : t < 3) (he : e < g (3 + t)) : wt g' q sp' gr t e = wt g q sp gr t e := by
  have h6 := hv.2.1 t ht
  unfold wt can
  rw [pw_g hk hv ht he, ca_g hk ht (show e < 6 by omega) (hs _ _ ht (by omega)) (has_g hk hv hs)]
theorem sw_g {g g' : GS} {q t : Nat} {sp sp' gr : SP} (hk : AG g' g) (hv : TV g) (hs : ∀ t e, t < 3 → e < 6 → sp' t e = sp t e) (ht : t < 3) : sw g' q sp' gr t = sw g q sp gr t := by
  unfold sw
  rw [hk (3 + t) (by omega)]
  exact sm_c fun e he => wt_g hk hv hs ht he
theorem wq_g {g g' : GS} {fd t : Nat} {sp sp' gr : SP} (hk : AG g' g) (hv : TV g) (hs : ∀ t e, t < 3 → e < 6 → sp' t e = sp t e) : wq g' sp' gr fd t = wq g sp gr fd t := by
  have hd : ∀ r, 1 ≤ r → r ≤ 3 → due g' r = due g r := fun r h1 h3 => by
    unfold due
    rw [hk _ (by omega), hk _ (by omega)]
  unfold wq
  rw [hd 3 (by omega) (by omega), hd 2 (by omega) (by omega), hd 1 (by omega) (by omega), has_g hk hv hs, has_g hk hv hs, has_g hk hv hs]
theorem spG_g {g g' : GS} (hk : AG g' g) (t e : Nat) (ht : t < 3) (he : e < 6) : spG g' t e = spG g t e := by
  unfold spG
  rw [hk _ (cl_122 ht he (by omega))]
/-! WHAT THE FINDS KEEP -/
/-- spent marks stand where entries come once -/
def TP (g : GS) : Prop := ∀ t e, t < 3 → e < g (3 + t) → g (cl t e 5) ≤ g (cl t e 4)
/-- how often, in all; what is kept was found -/
def FP0 (g : GS) : Prop := sm 16 (fun i => g (124 + i)) = g 123 ∧ ∀ i, i < g 140 → 0 < g (124 + g (141 + 3 * i))
/-- the openings of the finds fall, at most two of one -/
def OD (g : GS) : Prop := ∀ i, i < g 140 → 0 < g (141 + 3 * i + 2) ∧ g (141 + 3 * i + 2) ≤ g 122 ∧ (1 ≤ i → g (141 + 3 * i + 2) ≤ g (141 + 3 * (i - 1) + 2)) ∧ (2 ≤ i → g (141 + 3 * i + 2) < g (141 + 3 * (i - 2) + 2))
/-- but for the first n, the finds are of openings before -/
def CU (n : Nat) (g : GS) : Prop := ∀ i, i < g 140 → n ≤ i → g (141 + 3 * i + 2) < g 122
def PV (g : GS) : Prop := TP g ∧ FP0 g ∧ OD g ∧ g 123 ≤ 2 * g 122
/-- in an opening, n found -/
def MS (B : Nat) (g : GS) (n : Nat) : Prop := (TV g ∧ LV g ∧ FV B g) ∧ TP g ∧ FP0 g ∧ OD g ∧ CU n g ∧ 1 ≤ g 122 ∧ g 122 ≤ B ∧ g 123 + 2 ≤ 2 * g 122 + n
theorem FP0_g {g g' : GS} (hk : ∀ k, 122 ≤ k → k < 201 → g' k = g k) (hc : g 140 ≤ 20) (hi : ∀ i, i < g 140 → g (141 + 3 * i) < 16) (h : FP0 g) : FP0 g' := by
  refine ⟨?_, fun i h' => ?_⟩
  · rw [hk 123 (by omega) (by omega), ← h.1]
    exact sm_c fun i hi => hk _ (by omega) (by omega)
  · rw [hk 140 (by omega) (by omega)] at h'
    have := hi i h'
    rw [hk (141 + 3 * i) (by omega) (by omega), hk _ (by omega) (by omega)]
    exact h.2 i h'
theorem OD_g {g g' : GS} (hk : ∀ k, 123 ≤ k → k < 201 → g' k = g k) (h122 : g 122 ≤ g' 122) (hc : g 140 ≤ 20) (h : OD g) : OD g' := by
  intro i h'
  rw [hk 140 (by omega) (by omega)] at h'
  obtain ⟨a, b, c, d⟩ := h i h'
  rw [hk (141 + 3 * i + 2) (by omega) (by omega), hk (141 + 3 * (i - 1) + 2) (by omega) (by omega), hk (141 + 3 * (i - 2) + 2) (by omega) (by omega)]
  exact ⟨a, by omega, c, d⟩
theorem CU_g {g g' : GS} {n : Nat} (hk : ∀ k, 122 ≤ k → k < 201 → g' k = g k) (hc : g 140 ≤ 20) (h : CU n g) : CU n g' := by
  intro i h' hn
  rw [hk 140 (by omega) (by omega)] at h'
  rw [hk (141 + 3 * i + 2) (by omega) (by omega), hk 122 (by omega) (by omega)]
  exact h i h' hn
theorem FV_140 {B : Nat} {g : GS} (h : FV B g) : g 140 ≤ 20 := by have := h.2.2.1; omega
theorem TP_g {g g' : GS} (hk : ∀ k, k < 114 → g' k = g k) (hv : TV g) (h : TP g) : TP g' := by
  intro t e ht he
  rw [hk _ (by omega)] at he
  have h6 := hv.2.1 t ht
  have c5 := cl_lt (f := 5) ht (show e < 6 by omega) (by omega)
  have c4 := cl_lt (f := 4) ht (show e < 6 by omega) (by omega)
  rw [hk _ (by omega), hk _ (by omega)]
  exact h t e ht he
theorem TP_spn {g : GS} {t e : Nat} (hv : TV g) (ht : t < 3) (he : e < g (3 + t)) (h : TP g) : TP (spnG g t e) := by
  intro t' e' ht' he'
  have h6 := hv.2.1 t ht
  have hcl := cl_lt (f := 5) ht (show e < 6 by omega) (by omega)
  rw [spnG_o (by omega) (by omega)] at he'
  have h6' := hv.2.1 t' ht'
  have c4 := cl_lt (f := 4) ht' (show e' < 6 by omega) (by omega)
  have e4 : spnG g t e (cl t' e' 4) = g (cl t' e' 4) := spnG_o (by omega) (cl_ne (by omega) (by omega) (by omega) (by omega) (by omega))
  rw [e4]
  by_cases z : cl t' e' 5 = cl t e 5
  · have : t' = t ∧ e' = e := by unfold cl at z; omega
    obtain ⟨rfl, rfl⟩ := this
    have : spnG g t' e' (cl t' e' 5) = g (cl t' e' 4) := by unfold spnG; rw [ud_s]
    omega
  · have c5 := cl_lt (f := 5) ht' (show e' < 6 by omega) (by omega)
    rw [spnG_o (by omega) z]
    exact h t' e' ht' he'
theorem MS_spn {B n t e : Nat} {g : GS} (h : MS B g n) (ht : t < 3) (he : e < g (3 + t)) : MS B (spnG g t e) n := by
  obtain ⟨⟨hv, hl, hF⟩, h1, h2, h3, h4, h5, h7, h8⟩ := h
  have h6 := hv.2.1 t ht
  have hcl := cl_lt (f := 5) ht (show e < 6 by omega) (by omega)
  have o : ∀ k, 122 ≤ k → spnG g t e k = g k := fun k hk => spnG_o (by omega) (by omega)
  have hc := FV_140 hF
  refine ⟨⟨TV_spn hv ht he, LV_spn hl ht (by omega), FV_g (fun k q _ => o k q) hF⟩, TP_spn hv ht he h1, FP0_g (fun k q _ => o k q) hc (fun i hi => (hF.2.2.2.2 i hi).1) h2, OD_g (fun k q _ => o k (by omega)) (by rw [o 122 (by omega)]; exact Nat.le_refl _) hc h3, CU_g (fun k q _ => o k q) hc h4, ?_, ?_, ?_⟩
  · rw [o 122 (by omega)]; exact h5
  · rw [o 122 (by omega)]; exact h7
  · rw [o 122 (by omega), o 123 (by omega)]; exact h8
theorem rec_140 {g : GS} {it ra : Nat} (hi : it < 16) : recG g it ra 140 = min 20 (g 123 + 1) := by
  unfold recG
  rw [if_neg (by omega), if_neg (by omega), if_pos rfl]
theorem rec_123 {g : GS} {it ra : Nat} : recG g it ra 123 = if 123 = 124 + it then g 123 + 1 else g 123 + 1 := by
  unfold recG
  rw [if_neg (by omega), if_pos rfl, if_neg (by omega)]
theorem rec_t {g : GS} {it ra i : Nat} (hi : i < 16) : recG g it ra (124 + i) = if i = it then g (124 + i) + 1 else g (124 + i) := by
  unfold recG
  by_cases z : i = it
  · subst z; rw [if_pos rfl, if_pos rfl]
  · rw [if_neg (by omega), if_neg z, if_neg (by omega), if_neg (by omega), if_neg (by omega), if_neg (by omega), if_neg (by omega), if_neg (by omega)]
theorem rec_0 {g : GS} {it ra : Nat} (hi : it < 16) : recG g it ra 141 = it ∧ recG g it ra 142 = ra ∧ recG g it ra 143 = g 122 := by
  unfold recG
  refine ⟨?_, ?_, ?_⟩
  · rw [if_neg (by omega), if_neg (by omega), if_neg (by omega), if_pos rfl]
  · rw [if_neg (by omega), if_neg (by omega), if_neg (by omega), if_neg (by omega), if_pos rfl]
  · rw [if_neg (by omega), if_neg (by omega), if_neg (by omega), if_neg (by omega), if_neg (by omega), if_pos rfl]
theorem rec_s {g : GS} {it ra i f : Nat} (hi : it < 16) (h1 : 1 ≤ i) (h20 : i < 20) (hf : f < 3) : recG g it ra (141 + 3 * i + f) = g (141 + 3 * (i - 1) + f) := by
  unfold recG
  rw [if_neg (by omega), if_neg (by omega), if_neg (by omega), if_neg (by omega), if_neg (by omega), if_neg (by omega), if_pos (by omega)]
  congr 1; omega
theorem MS_rec {B n it ra : Nat} {g : GS} (h : MS B g n) (hn : n ≤ 1) (hi : it < 16) (hr : ra ≤ 3) : MS B (recG g it ra) (n + 1) := by
  obtain ⟨⟨hv, hl, hF⟩, h1, h2, h3, h4, h5, h7, h8⟩ := h
  have h123 : recG g it ra 123 = g 123 + 1 := by rw [rec_123]; split <;> rfl
  have h122 : recG g it ra 122 = g 122 := recG_o hi (by omega)
  have h140 := rec_140 (g := g) (ra := ra) hi
  have hc := hF.2.2.1
  have hnum : ∀ i, 1 ≤ i → i < 20 → recG g it ra (141 + 3 * i + 2) = g (141 + 3 * (i - 1) + 2) := fun i a b => rec_s hi a b (by omega)
  have h0 : recG g it ra (141 + 3 * 0 + 2) = g 122 := (rec_0 (g := g) (ra := ra) hi).2.2
  refine ⟨⟨TV_g (fun k hk => recG_o hi (by omega)) hv, LV_g (fun k _ hk => recG_o hi (by omega)) hl, FV_rec hF hi hr (by omega)⟩, TP_g (fun k hk => recG_o hi (by omega)) hv h1, ⟨?_, fun i hii => ?_⟩, fun i hii => ?_, fun i hii hni => ?_, by rw [h122]; exact h5, by rw [h122]; exact h7, by rw [h122, h123]; omega⟩
  · rw [h123, ← h2.1]
    have e : sm 16 (fun i => recG g it ra (124 + i)) = sm 16 (fun i => g (124 + i) + nOne it 1 i) := sm_c fun i hi' => by
      rw [rec_t hi']
      unfold nOne
      split <;> rfl
    rw [e, sm_pl, sm_one, if_pos hi]
  · rw [h140] at hii
    by_cases z : i = 0
    · subst z
      have e : recG g it ra (141 + 3 * 0) = it := (rec_0 (g := g) (ra := ra) hi).1
      rw [e, rec_t hi, if_pos rfl]; omega
    · have e : recG g it ra (141 + 3 * i) = g (141 + 3 * (i - 1)) := rec_s (f := 0) hi (by omega) (by omega) (by omega)
      have h16 := (hF.2.2.2.2 (i - 1) (by omega)).1
      have hp := h2.2 (i - 1) (by omega)
      rw [e, rec_t h16]
      split <;> omega
  · rw [h140] at hii
    rw [h122]
    by_cases z : i = 0
    · subst z
      rw [h0]
      exact ⟨by omega, Nat.le_refl _, fun q => by omega, fun q => by omega⟩
    · obtain ⟨a, b, c, d⟩ := h3 (i - 1) (by omega)
      rw [hnum i (by omega) (by omega)]
      refine ⟨a, b, fun _ => ?_, fun q => ?_⟩
      · by_cases y : i = 1
        · subst y; rw [show 141 + 3 * (1 - 1) + 2 = 141 + 3 * 0 + 2 from rfl, h0]; exact b
        · rw [hnum (i - 1) (by omega) (by omega)]
          exact c (by omega)
      · by_cases y : i = 2
        · subst y
          rw [show 141 + 3 * (2 - 2) + 2 = 141 + 3 * 0 + 2 from rfl, h0]
          exact h4 1 (by omega) (by omega)
        · rw [hnum (i - 2) (by omega) (by omega)]
          have := d (by omega)
          rw [show i - 1 - 2 = i - 2 - 1 by omega] at this
          exact this
  · rw [h140] at hii
    rw [h122, hnum i (by omega) (by omega)]
    exact h4 (i - 1) (by omega) (by omega)
/-- one draw finds one item -/
theorem chn_p {W : Nat → Nat → Nat} {B : Nat} : ∀ f t g gr fd n, MS B g n → n ≤ 1 → t < 3 → 3 ≤ t + f → CI W t g → 0 < sm (g (3 + t)) (W t) → ∃ g1 it ra gr', chn W f t (g, gr, fd, n) = (recG g1 it ra, gr', max fd (ra + 1), n + 1) ∧ MS B g1 n ∧ it < 16 ∧ ra ≤ 3 ∧ (∀ k, k < 6 ∨ 114 ≤ k → k ≠ 121 → g1 k = g k) ∧ ∀ q, (∀ t' e, t ≤ t' → t' < 3 → e < g (3 + t') → 0 < W t' e → g (cl t' e 0) < 16 → q ≤ g (cl t' e 2)) → q ≤ ra := by
  intro f
  induction f with
  | zero => intro t g gr fd n _ _ ht htf; omega
  | succ f ih =>
    intro t g gr fd n hM hn ht htf hci hpos
    have hv := hM.1.1
    have hc := hv.2.1 t ht
    obtain ⟨he, hwp⟩ := pick_p hpos
    have hs : chn W (f + 1) t (g, gr, fd, n) = if g (cl t (pick W g t) 0) < 16 then (recG (spnG g t (pick W g t)) (g (cl t (pick W g t) 0)) (g (cl t (pick W g t) 2)), grW gr t (g (cl t (pick W g t) 3)), max fd (g (cl t (pick W g t) 2) + 1), n + 1) else chn W f (g (cl t (pick W g t) 0) - 16) (spnG g t (pick W g t), grW gr t (g (cl t (pick W g t) 3)), fd, n) := rfl
    rw [hs]
    generalize pick W g t = e at he hwp
    have hE := hv.2.2 t e ht he
    have hM1 := MS_spn hM ht he
    have hcl := cl_lt (f := 5) ht (show e < 6 by omega) (by omega)
    have o1 : ∀ k, k < 6 ∨ 114 ≤ k → k ≠ 121 → spnG g t e k = g k := fun k h1 h2 => spnG_o h2 (by omega)
    by_cases h16 : g (cl t e 0) < 16
    · rw [if_pos h16]
      exact ⟨_, _, _, _, rfl, hM1, h16, hE.2.1 h16, o1, fun q hq => hq t e (Nat.le_refl t) ht he hwp h16⟩
    · rw [if_neg h16]
      obtain ⟨hlk, _⟩ := hE.2.2.1 (by omega)
      have hlt : g (cl t e 0) - 16 < 3 := by have := hE.1; omega
      have hcg : ∀ t', t' < 3 → spnG g t e (3 + t') = g (3 + t') := fun t' h => o1 _ (by omega) (by omega)
      have hce : ∀ t' e' f', t < t' → t' < 3 → e' < 6 → f' < 6 → spnG g t e (cl t' e' f') = g (cl t' e' f') := fun t' e' f' h1 h2 h3 h4 => spnG_o (by have := cl_lt h2 h3 h4; omega) (cl_ne h3 h4 (by omega) (by omega) (.inl (by omega)))
      have hci2 : CI W (g (cl t e 0) - 16) (spnG g t e) := by
        intro t' h1 h2 e' he'
        rw [hcg t' h2] at he'
        have hc' := hv.2.1 t' h2
        obtain ⟨z1, z2⟩ := hci t' (by omega) h2 e' he'
        refine ⟨z1, fun hw => ?_⟩
        rw [hce t' e' 5 (by omega) h2 (by omega) (by omega), hce t' e' 0 (by omega) h2 (by omega) (by omega)]
        refine ⟨(z2 hw).1, fun h16' => ?_⟩
        have := (hv.2.2 t' e' h2 he').1
        rw [hcg _ (by omega)]
        exact (z2 hw).2 h16'
      have hpos2 : 0 < sm (spnG g t e (3 + (g (cl t e 0) - 16))) (W (g (cl t e 0) - 16)) := by
        rw [hcg _ hlt]
        exact (((hci t (Nat.le_refl t) ht e he).2 hwp).2) (by omega)
      obtain ⟨g1, it, ra, gr', a1, a2, a3, a4, a5, a6⟩ := ih (g (cl t e 0) - 16) (spnG g t e) (grW gr t (g (cl t e 3))) fd n hM1 hn hlt (by omega) hci2 hpos2
      refine ⟨g1, it, ra, gr', a1, a2, a3, a4, fun k h1 h2 => by rw [a5 k h1 h2, o1 k h1 h2], fun q hq => a6 q fun t' e' q1 q2 q3 q4 q5 => ?_⟩
      rw [hcg t' q2] at q3
      have hc' := hv.2.1 t' q2
      rw [hce t' e' 0 (by omega) q2 (by omega) (by omega)] at q5
      rw [hce t' e' 2 (by omega) q2 (by omega) (by omega)]
      exact hq t' e' (by omega) q2 q3 q4 q5
/-- a draw of an opening: nothing, or one item -/
theorem drw_p {B top n fd : Nat} {g : GS} {gr : SP} (hM : MS B g n) (hn : n ≤ 1) (ht : top < 3) : (sw g (wq g (spG g) gr fd top) (spG g) gr top = 0 ∧ drw top (g, gr, fd, n) = (g, gr, fd, n)) ∨ (0 < sw g (wq g (spG g) gr fd top) (spG g) gr top ∧ ∃ g1 it ra gr', drw top (g, gr, fd, n) = (recG g1 it ra, gr', max fd (ra + 1), n + 1) ∧ MS B g1 n ∧ it < 16 ∧ ra ≤ 3 ∧ (∀ k, k < 6 ∨ 114 ≤ k → k ≠ 121 → g1 k = g k) ∧ wq g (spG g) gr fd top ≤ ra) := by
  have hv := hM.1.1
  have hl := hM.1.2.1
  rcases Nat.eq_zero_or_pos (sw g (wq g (spG g) gr fd top) (spG g) gr top) with z | z
  · refine .inl ⟨z, ?_⟩
    unfold drw
    exact if_neg (by unfold sw at z; show ¬ 0 < sm (g (3 + top)) (wt g (wq g (spG g) gr fd top) (spG g) gr top); omega)
  · refine .inr ⟨z, ?_⟩
    have e : drw top (g, gr, fd, n) = chn (wt g (wq g (spG g) gr fd top) (spG g) gr) 3 top (g, gr, fd, n) := if_pos z
    rw [e]
    obtain ⟨g1, it, ra, gr', a1, a2, a3, a4, a5, a6⟩ := chn_p 3 top g gr fd n hM hn ht (by omega) (CI_wt hv hl) z
    refine ⟨g1, it, ra, gr', a1, a2, a3, a4, a5, a6 _ fun t' e _ q2 q3 q4 q5 => ?_⟩
    have hcan := (wt_p hv hl q2 q3).mp q4
    unfold can ca at hcan
    have h4 := ((Bool.and_eq_true _ _).mp hcan).2
    rw [if_pos q5] at h4
    exact of_decide_eq_true h4
/-- what an opening leaves: g' after, n found, one more than the best rarity fd -/
def OP (t : Nat) (g g' : GS) (n fd : Nat) : Prop := (n ≤ g t ∧ (0 < n ↔ 0 < fs g t)) ∧ (g' 123 = g 123 + n ∧ g' 122 = g 122 + 1 ∧ n ≤ g' 140) ∧ (∀ i, i < n → g' (141 + 3 * i + 2) = g 122 + 1) ∧ ((n = 0 → fd = 0 ∧ fq g t = 0) ∧ (n = 1 → fd = g' 142 + 1) ∧ (n = 2 → fd = max (g' 142 + 1) (g' 145 + 1)) ∧ (0 < n → fq g t < fd)) ∧ (∀ r, 1 ≤ r → r ≤ 3 → g' (113 + r) = if r < fd then 0 else min 200 (g (113 + r) + 1)) ∧ (∀ i, i < 16 → g (124 + i) ≤ g' (124 + i) ∧ (n = 0 → g' (124 + i) = g (124 + i))) ∧ (∀ k, k < 6 → g' k = g k)
theorem sw_pos_wq {g : GS} {sp gr : SP} {fd t : Nat} (hv : TV g) (hl : LV g) (ht : t < 3) (h : sw g (wq g sp gr fd t) sp gr t = 0) : wq g sp gr fd t = 0 := by
  rcases Nat.eq_zero_or_pos (wq g sp gr fd t) with z | z
  · exact z
  · have hpos : 0 < sw g (wq g sp gr fd t) sp gr t := by
      refine (sw_p hv hl ht).mpr ?_
      unfold wq at z ⊢
      split
      · rename_i h
        simp only [Bool.and_eq_true] at h
        exact h.2
      · rename_i h3
        rw [if_neg h3] at z
        split
        · rename_i h
          simp only [Bool.and_eq_true] at h
          exact h.2
        · rename_i h2
          rw [if_neg h2] at z
          split
          · rename_i h
            simp only [Bool.and_eq_true] at h
            exact h.2
          · rename_i h1
            rw [if_neg h1] at z
            omega
    omega
theorem MS_cou {B n fd : Nat} {g : GS} (hM : MS B g n) (hn : n ≤ 2) : GV B (couG g fd) ∧ PV (couG g fd) := by
  obtain ⟨⟨hv, hl, hF⟩, h1, h2, h3, h4, h5, h7, h8⟩ := hM
  have hc := FV_140 hF
  refine ⟨⟨TV_g (fun k hk => couG_o (by omega)) hv, LV_cou hl, FV_g (fun k h h' => couG_o (by omega)) hF⟩, TP_g (fun k hk => couG_o (by omega)) hv h1, FP0_g (fun k h h' => couG_o (by omega)) hc (fun i hi => (hF.2.2.2.2 i hi).1) h2, OD_g (fun k h h' => couG_o (by omega)) (by rw [couG_o (by omega)]; exact Nat.le_refl _) hc h3, ?_⟩
  rw [couG_o (by omega), couG_o (by omega)]
  omega
theorem cou_r {g : GS} {fd r : Nat} (h1 : 1 ≤ r) (h3 : r ≤ 3) : couG g fd (113 + r) = if r < fd then 0 else min 200 (g (113 + r) + 1) := by
  unfold couG
  rw [if_pos (by omega), show 113 + r - 113 = r by omega]
theorem opn_p {B t : Nat} {g : GS} (hG : GV B g) (hP : PV g) (ht : t < 3) : GV (B + 1) (opn t g) ∧ PV (opn t g) ∧ ∃ fd, OP t g (opn t g) (opN t g) fd := by
  obtain ⟨hv, hl, hF⟩ := hG
  obtain ⟨p1, p2, p3, p4⟩ := hP
  have hc := FV_140 hF
  have hdr := hv.1 t ht
  obtain ⟨g0, hg0⟩ : ∃ g0 : GS, g0 = ud g 122 (g 122 + 1) := ⟨_, rfl⟩
  have h2 : ∀ k, k ≠ 122 → g0 k = g k := fun k h => by rw [hg0]; exact ud_n h
  have h122 : g0 122 = g 122 + 1 := by rw [hg0]; exact ud_s
  have hag : AG g0 g := fun k hk => h2 k (by omega)
  have hop : op2 t g = if g t = 1 then drw t (g0, noG, 0, 0) else drw t (drw t (g0, noG, 0, 0)) := by rw [hg0]; rfl
  have hM0 : MS (B + 1) g0 0 := by
    obtain ⟨v1, v2, v3, v4, v5⟩ := hF
    refine ⟨⟨TV_g (fun k hk => h2 k (by omega)) hv, LV_g (fun k h h' => h2 k (by omega)) hl, ⟨by rw [h122]; omega, by rw [h2 _ (by omega)]; omega, by rw [h2 _ (by omega), h2 _ (by omega)]; exact v3, fun i hi => by rw [h2 _ (by omega), h2 _ (by omega)]; exact v4 i hi, fun i hi => ?_⟩⟩, TP_g (fun k hk => h2 k (by omega)) hv p1, ⟨?_, fun i hi => ?_⟩, OD_g (fun k q _ => h2 k (by omega)) (by rw [h122]; omega) hc p3, fun i hi _ => ?_, by rw [h122]; omega, by rw [h122]; omega, by rw [h122, h2 _ (by omega)]; omega⟩
    · rw [h2 _ (by omega)] at hi
      rw [h2 _ (by omega), h2 _ (by omega), h2 _ (by omega), h122]
      have := v5 i hi
      omega
    · rw [h2 123 (by omega), ← p2.1]
      exact sm_c fun i hi => h2 _ (by omega)
    · rw [h2 140 (by omega)] at hi
      have := (v5 i hi).1
      rw [h2 (141 + 3 * i) (by omega), h2 _ (by omega)]
      exact p2.2 i hi
    · rw [h2 140 (by omega)] at hi
      rw [h122, h2 _ (by omega)]
      have := (p3 i hi).2.1
      omega
  have hsp : ∀ t e, t < 3 → e < 6 → spG g0 t e = spG g t e := spG_g hag
  have hwq : wq g0 (spG g0) noG 0 t = fq g t := wq_g hag hv hsp
  have hfs : ∀ q, sw g0 q (spG g0) noG t = sw g q (spG g) noG t := fun q => sw_g hag hv hsp ht
  unfold opn opN
  rw [hop]
  rcases drw_p (fd := 0) (gr := noG) hM0 (by omega) ht with ⟨z, e⟩ | ⟨z, g1, it, ra, gr1, e, hM1, hit, hra, ho, hq⟩
  · rw [hwq, hfs] at z
    have e2 : (if g t = 1 then drw t (g0, noG, 0, 0) else drw t (drw t (g0, noG, 0, 0))) = (g0, noG, 0, 0) := by
      rw [e, e]; split <;> rfl
    rw [e2]
    dsimp only
    obtain ⟨a1, a2⟩ := MS_cou (fd := 0) hM0 (by omega)
    have hz : fs g t = 0 := z
    have hq0 : fq g t = 0 := sw_pos_wq hv hl ht z
    refine ⟨a1, a2, 0, ⟨by omega, by omega⟩, ⟨?_, ?_, Nat.zero_le _⟩, fun i hi => absurd hi (Nat.not_lt_zero i), ⟨fun _ => ⟨rfl, hq0⟩, fun q => by simp at q, fun q => by simp at q, fun q => absurd q (Nat.lt_irrefl 0)⟩, fun r r1 r3 => ?_, fun i hi => ?_, fun k hk => by rw [couG_o (by omega), h2 _ (by omega)]⟩
    · rw [couG_o (by omega), h2 _ (by omega)]; rfl
    · rw [couG_o (by omega), h122]
    · rw [cou_r r1 r3, h2 _ (by omega)]
    · rw [couG_o (by omega), h2 _ (by omega)]; exact ⟨Nat.le_refl _, fun _ => rfl⟩
  · rw [hwq, hfs] at z
    rw [hwq] at hq
    have hzp : 0 < fs g t := z
    have hMr := MS_rec hM1 (by omega) hit hra
    have f0 := rec_0 (g := g1) (ra := ra) hit
    have f140 := rec_140 (g := g1) (ra := ra) hit
    have f123 : recG g1 it ra 123 = g 123 + 1 := by rw [rec_123, ho 123 (by omega) (by omega), h2 _ (by omega)]; split <;> rfl
    have f122 : recG g1 it ra 122 = g 122 + 1 := by rw [recG_o hit (by omega), ho 122 (by omega) (by omega), h122]
    have fr : ∀ r, 1 ≤ r → r ≤ 3 → recG g1 it ra (113 + r) = g (113 + r) := fun r r1 r3 => by rw [recG_o hit (by omega), ho _ (by omega) (by omega), h2 _ (by omega)]
    have ft : ∀ i, i < 16 → g (124 + i) ≤ recG g1 it ra (124 + i) := fun i hi => by
      rw [rec_t hi, ho _ (by omega) (by omega), h2 _ (by omega)]; split <;> omega
    have hf1 : max 0 (ra + 1) = ra + 1 := by omega
    rw [hf1] at e
    -- one found
    have one : GV (B + 1) (couG (recG g1 it ra) (ra + 1)) ∧ PV (couG (recG g1 it ra) (ra + 1)) ∧ ∃ fd, OP t g (couG (recG g1 it ra) (ra + 1)) 1 fd := by
      obtain ⟨a1, a2⟩ := MS_cou (fd := ra + 1) hMr (by omega)
      refine ⟨a1, a2, ra + 1, ⟨by omega, by omega⟩, ⟨?_, ?_, ?_⟩, fun i hi => ?_, ⟨fun q => by omega, fun _ => ?_, fun q => by omega, fun _ => by omega⟩, fun r r1 r3 => ?_, fun i hi => ?_, fun k hk => by rw [couG_o (by omega), recG_o hit (by omega), ho _ (.inl hk) (by omega), h2 _ (by omega)]⟩
      · rw [couG_o (by omega), f123]
      · rw [couG_o (by omega), f122]
      · rw [couG_o (by omega), f140]; omega
      · have : i = 0 := by omega
        subst this
        rw [couG_o (by omega)]
        show recG g1 it ra 143 = _
        rw [f0.2.2, ho 122 (by omega) (by omega), h122]
      · rw [couG_o (by omega), f0.2.1]
      · rw [cou_r r1 r3, fr r r1 r3]
      · rw [couG_o (by omega)]; exact ⟨ft i hi, fun q => by omega⟩
    by_cases hd1 : g t = 1
    · rw [if_pos hd1, e]
      exact one
    · rw [if_neg hd1, e]
      have hd2 : g t = 2 := by omega
      rcases drw_p (fd := ra + 1) (gr := gr1) hMr (by omega) ht with ⟨z2, e2⟩ | ⟨z2, g2, it2, ra2, gr2, e2, hM2, hit2, hra2, ho2, hq2⟩
      · rw [e2]
        exact one
      · rw [e2]
        dsimp only
        have hMr2 := MS_rec hM2 (by omega) hit2 hra2
        obtain ⟨a1, a2⟩ := MS_cou (fd := max (ra + 1) (ra2 + 1)) hMr2 (by omega)
        have b0 := rec_0 (g := g2) (ra := ra2) hit2
        have b140 := rec_140 (g := g2) (ra := ra2) hit2
        have b123 : recG g2 it2 ra2 123 = g 123 + 2 := by rw [rec_123, ho2 123 (by omega) (by omega), f123]; split <;> rfl
        have b122 : recG g2 it2 ra2 122 = g 122 + 1 := by rw [recG_o hit2 (by omega), ho2 122 (by omega) (by omega), f122]
        have b145 : recG g2 it2 ra2 145 = ra := by
          have := rec_s (g := g2) (ra := ra2) (i := 1) (f := 1) hit2 (by omega) (by omega) (by omega)
          rw [show 141 + 3 * 1 + 1 = 145 from rfl, show 141 + 3 * (1 - 1) + 1 = 142 from rfl, ho2 142 (by omega) (by omega), f0.2.1] at this
          exact this
        have b146 : recG g2 it2 ra2 146 = g 122 + 1 := by
          have := rec_s (g := g2) (ra := ra2) (i := 1) (f := 2) hit2 (by omega) (by omega) (by omega)
          rw [show 141 + 3 * 1 + 2 = 146 from rfl, show 141 + 3 * (1 - 1) + 2 = 143 from rfl, ho2 143 (by omega) (by omega), f0.2.2, ho 122 (by omega) (by omega), h122] at this
          exact this
        refine ⟨a1, a2, max (ra + 1) (ra2 + 1), ⟨by omega, by omega⟩, ⟨?_, ?_, ?_⟩, fun i hi => ?_, ⟨fun q => by simp at q, fun q => by simp at q, fun _ => ?_, fun _ => by omega⟩, fun r r1 r3 => ?_, fun i hi => ?_, fun k hk => by rw [couG_o (by omega), recG_o hit2 (by omega), ho2 _ (.inl hk) (by omega), recG_o hit (by omega), ho _ (.inl hk) (by omega), h2 _ (by omega)]⟩
        · rw [couG_o (by omega), b123]
        · rw [couG_o (by omega), b122]
        · rw [couG_o (by omega), b140, ho2 123 (by omega) (by omega), f123]; omega
        · have hi : i < 2 := hi
          rw [couG_o (by omega)]
          have : i = 0 ∨ i = 1 := by omega
          rcases this with rfl | rfl
          · show recG g2 it2 ra2 143 = _
            rw [b0.2.2, ho2 122 (by omega) (by omega), f122]
          · exact b146
        · rw [couG_o (by omega), couG_o (by omega), b0.2.1, b145]; omega
        · rw [cou_r r1 r3, recG_o hit2 (by omega), ho2 _ (by omega) (by omega), fr r r1 r3]
        · rw [couG_o (by omega), rec_t hi, ho2 _ (by omega) (by omega)]
          have := ft i hi
          refine ⟨by split <;> omega, fun q => by simp at q⟩
