/-! CLASS AND MODEL TOGETHER -/
def FP (P : MP) : Prop := XB P ∧ MB P ∧ P.1 169 = (21, 1)
def GG (B : Nat) (I : MI) (L : ML) : Prop := ∃ n len g ps tx, XR I L g n ps len tx ∧ ZR I g n ps len tx ∧ AV B g n ps len tx
def JN {α : Type} (cc : α → Value) (ww : α → Int64) (d wid mid : Nat) (wa ma : List Value) (P : MP) (I : MI) (L : ML) (C : MC) (B : Nat) : Prop := ∃ k I1 L1 C1 y I2 L2, k ≤ 3 ∧ (∀ Q, CT d wid wa P I L C Q = Q (.inl (some (.int (nI k)))) P I1 L1 C1) ∧ (∀ Q, CT d mid ma P I1 L1 C1 Q = Q (.inl (some (cc y))) P I2 L2 C1) ∧ I2 150 4 = nI k ∧ (∀ j, I1 0 j = I 0 j) ∧ (∀ j, I2 0 j = I 0 j) ∧ (k = 0 → L2 169 0 = ww y) ∧ (C1.1 ≤ C.1 + 1 ∧ C1.2 ≤ C.2 + 6) ∧ GG (B + 200) I2 L2
def JD {α : Type} (cc : α → Value) (d cid mid : Nat) (P : MP) (I : MI) (L : ML) (C : MC) (B : Nat) : Prop := ∃ y I1 L1 I2 L2, (∀ Q, CT d cid [.ref 1] P I L C Q = Q (.inl (some (cc y))) P I1 L1 C) ∧ (∀ Q, CT d mid [.ref 150] P I1 L1 C Q = Q (.inl (some (cc y))) P I2 L2 C) ∧ (∀ j, I1 0 j = I 0 j) ∧ (∀ j, I2 0 j = I 0 j) ∧ GG (B + 200) I2 L2
theorem AV_B {B B' n len : Nat} {g : GS} {ps : Nat → GS} {tx : Nat → Nat} (h : AV B g n ps len tx) (hB : B ≤ B') : AV B' g n ps len tx := ⟨GV_B h.1 hB, fun i hi => GV_B (h.2.1 i hi) hB, h.2.2⟩
theorem ZR_fo {I I' : MI} {n len : Nat} {g : GS} {ps : Nat → GS} {tx : Nat → Nat} (h : ZR I g n ps len tx) (hf : fo I I') : ZR I' g n ps len tx := by
  obtain ⟨h1, h2, h3, h4, h5⟩ := h
  exact ⟨NR_fr h1 fun j => hf _ _ (.inr (by omega)), by rw [hf _ _ (.inr (by omega))]; exact h2, fun i k hi hk => by rw [hf _ _ (.inr (by omega))]; exact h3 i k hi hk, by rw [hf _ _ (.inr (by omega))]; exact h4, fun i hi => by rw [hf _ _ (.inr (by omega))]; exact h5 i hi⟩
theorem fml_r {L : ML} : fml L L := fun _ _ _ => rfl
theorem fm_rr {I : MI} : fm I (xu I 150 4 (nI 0)) := fun k j h => xu_n _ _ (by omega)
theorem JN_ok {α : Type} {cc : α → Value} {ww : α → Int64} {d wid mid B n len : Nat} {wa ma : List Value} {P : MP} {I I1 I2 : MI} {L L1 L2 : ML} {C : MC} {y : α} {g : GS} {ps : Nat → GS} {tx : Nat → Nat} (hw : ∀ Q, CT d wid wa P I L C Q = Q (.inl (some (.int (nI 0)))) P I1 (xu L1 169 0 (ww y)) C) (hm : ∀ Q, CT d mid ma P I1 (xu L1 169 0 (ww y)) C Q = Q (.inl (some (cc y))) P I2 L2 C) (h4 : I2 150 4 = nI 0) (f1 : fo I I1) (f2 : fm I1 I2) (f3 : fml (xu L1 169 0 (ww y)) L2) (hX : XR I1 L1 g n ps len tx) (hZ : ZR I2 g n ps len tx) (hA : AV (B + 200) g n ps len tx) : JN cc ww d wid mid wa ma P I L C B := by
  refine ⟨0, I1, xu L1 169 0 (ww y), C, y, I2, L2, by omega, hw, hm, h4, fun j => f1 _ _ (.inl (by omega)), fun j => ?_, fun _ => ?_, ⟨by omega, by omega⟩, n, len, g, ps, tx, XR_fr hX (fun k j h => f2 _ _ (.inl (by omega))) (fun k j h h' => ?_), hZ, hA⟩
  · rw [f2 _ _ (.inl (by omega)), f1 _ _ (.inl (by omega))]
  · rw [f3 _ _ (.inr (by omega)), xu_s]
  · rw [f3 _ _ (.inl (by omega)), xu_n _ _ (by omega)]
theorem JN_no {α : Type} {cc : α → Value} {ww : α → Int64} {d wid mid B n len k : Nat} {wa ma : List Value} {P : MP} {I : MI} {L : ML} {C : MC} {y : α} {g : GS} {ps : Nat → GS} {tx : Nat → Nat} (h0 : 1 ≤ k) (hk : k ≤ 3) (hw : ∀ Q, CT d wid wa P I L C Q = Q (.inl (some (.int (nI k)))) P I L (C.1 + 1, C.2 + 6)) (hm : ∀ Q, CT d mid ma P I L (C.1 + 1, C.2 + 6) Q = Q (.inl (some (cc y))) P (xu I 150 4 (nI k)) L (C.1 + 1, C.2 + 6)) (hX : XR I L g n ps len tx) (hZ : ZR I g n ps len tx) (hA : AV B g n ps len tx) : JN cc ww d wid mid wa ma P I L C B := by
  refine ⟨k, I, L, (C.1 + 1, C.2 + 6), y, xu I 150 4 (nI k), L, hk, hw, hm, xu_s _ _ _ _, fun j => rfl, fun j => xu_n _ _ (by omega), fun h => by omega, ⟨Nat.le_refl _, Nat.le_refl _⟩, n, len, g, ps, tx, XR_fr hX (fun k j h => xu_n _ _ (by omega)) (fun k j h h' => rfl), ZR_4 hZ, AV_B hA (by omega)⟩
theorem JD_ok {α : Type} {cc : α → Value} {d cid mid B n len : Nat} {P : MP} {I I1 I2 : MI} {L L1 L2 : ML} {C : MC} {y : α} {g : GS} {ps : Nat → GS} {tx : Nat → Nat} (hw : ∀ Q, CT d cid [.ref 1] P I L C Q = Q (.inl (some (cc y))) P I1 L1 C) (hm : ∀ Q, CT d mid [.ref 150] P I1 L1 C Q = Q (.inl (some (cc y))) P I2 L2 C) (f1 : fo I I1) (f2 : fm I1 I2) (f3 : fml L1 L2) (hX : XR I1 L1 g n ps len tx) (hZ : ZR I2 g n ps len tx) (hA : AV (B + 200) g n ps len tx) : JD cc d cid mid P I L C B := by
  refine ⟨y, I1, L1, I2, L2, hw, hm, fun j => f1 _ _ (.inl (by omega)), fun j => ?_, n, len, g, ps, tx, XR_fr hX (fun k j h => f2 _ _ (.inl (by omega))) (fun k j h h' => ?_), hZ, hA⟩
  · rw [f2 _ _ (.inl (by omega)), f1 _ _ (.inl (by omega))]
  · rw [f3 _ _ (.inl (by omega))]
theorem spn (x : Int32) (n : Nat) (hn : n < 2147483648) : (x < 0 ∨ nI n ≤ x) ∨ ∃ j, j < n ∧ x = nI j := by
  rcases n_ix x n hn with q | q | q
  · exact .inl (.inl q)
  · exact .inl (.inr q)
  · exact .inr q
theorem spz (x : Int32) (m : Nat) (hm : m + 1 < 2147483648) : (x < 0 ∨ nI m < x) ∨ ∃ j, j ≤ m ∧ x = nI j := by
  by_cases h : x < 0 ∨ nI m < x
  · exact .inl h
  · exact .inr (pos_ix hm h)
theorem spr (x : Int32) (m : Nat) (hm : m + 1 < 2147483648) : (x < nI 1 ∨ nI m < x) ∨ ∃ j, 1 ≤ j ∧ j ≤ m ∧ x = nI j := by
  rcases spz x m hm with (q | q) | ⟨j, q1, q2⟩
  · refine .inl (.inl ?_)
    rw [Int32.lt_iff_toInt_lt] at q ⊢
    have e1 : (nI 1).toInt = 1 := by decide
    have e0 : (0 : Int32).toInt = 0 := by decide
    omega
  · exact .inl (.inr q)
  · by_cases z : j = 0
    · subst z; subst q2; exact .inl (.inl (by decide))
    · exact .inr ⟨j, by omega, q1, q2⟩
theorem spi (x : Int32) : x < 0 ∨ ∃ j, j < 2147483648 ∧ x = nI j := by
  rcases n_ix x 2147483647 (by omega) with q | q | ⟨j, q1, q2⟩
  · exact .inl q
  · refine .inr ⟨2147483647, by omega, Int32.toInt_inj.1 ?_⟩
    have e1 : (nI 2147483647).toInt = 2147483647 := by decide
    have := Int32.toInt_lt x
    rw [Int32.le_iff_toInt_le] at q
    omega
  · exact .inr ⟨j, by omega, q2⟩
theorem GV_add {B t w we ra gr on : Nat} {g : GS} (h : GV B g) (ht : t < 3) (hc : g (3 + t) < 6) (h0 : w ≤ 18) (h1 : w < 16 → ra ≤ 3) (h2 : 16 ≤ w → t + 16 < w ∧ ra = 0) (h3 : 1 ≤ we) (h4 : we ≤ 1000) (h5 : gr ≤ 3) (h6 : on ≤ 1) : GV B (addG g t w we ra gr on) := ⟨TV_add h.1 ht hc h0 h1 h2 h3 h4 h5 h6, LV_g (fun k q _ => addG_o ht hc (.inr q)) h.2.1, FV_g (fun k q _ => addG_o ht hc (.inr (by omega))) h.2.2⟩
theorem GV_rem {B t e : Nat} {g : GS} (h : GV B g) (ht : t < 3) (he : e < g (3 + t)) : GV B (remG g t e) := ⟨TV_rem h.1 ht he, LV_g (fun k q _ => remG_o ht (h.1.2.1 t ht) (.inr q)) h.2.1, FV_g (fun k q _ => remG_o ht (h.1.2.1 t ht) (.inr (by omega))) h.2.2⟩
theorem GV_res {B : Nat} {g : GS} (h : GV B g) : GV B (resG g) := ⟨TV_res h.1, LV_g (fun k q _ => resG_o (.inr q)) h.2.1, FV_g (fun k q _ => resG_o (.inr (by omega))) h.2.2⟩
theorem GV_new {B : Nat} {g g' : GS} (h : GV B g) (ht : TV g') (hk : ∀ k, 114 ≤ k → g' k = g k) : GV B g' := ⟨ht, LV_g (fun k q _ => hk k q) h.2.1, FV_g (fun k q _ => hk k (by omega)) h.2.2⟩
theorem AV_tx {B n len v : Nat} {g : GS} {ps : Nat → GS} {tx : Nat → Nat} (h : AV B g n ps len tx) (h1 : len < 160) (hv : v ≤ 127) : AV B g n ps (len + 1) (ud tx len v) := by
  refine ⟨h.1, h.2.1, h.2.2.1, by omega, fun i hi => ?_⟩
  by_cases z : i = len
  · subst z; rw [ud_s]; exact hv
  · rw [ud_n z]; exact h.2.2.2.2 i (by omega)
theorem AV_0 {B n len : Nat} {g : GS} {ps : Nat → GS} {tx : Nat → Nat} (h : AV B g n ps len tx) : AV B g n ps 0 tx := ⟨h.1, h.2.1, h.2.2.1, by omega, fun i hi => by omega⟩
theorem AV_pop {B n len : Nat} {g : GS} {ps : Nat → GS} {tx : Nat → Nat} (h : AV B g n ps len tx) (h1 : 1 ≤ n) : AV B (ps (n - 1)) (n - 1) ps len tx := ⟨h.2.1 _ (by omega), fun i hi => h.2.1 i (by omega), by have := h.2.2.1; omega, h.2.2.2⟩

theorem j84 {d : Nat} {P : MP} {I : MI} {L : ML} {C : MC} {B : Nat} (hF : FP P) (hG : GG B I L) (hB : B ≤ 500000) (hd : 40 ≤ d) (x1 x2 : Int32) : JN .int Int32.toInt64 d 84 154 [.ref 1, .int x1, .int x2, .ref 169] [.ref 150, .int x1, .int x2] P I L C B := by
  obtain ⟨hX, hM, h169⟩ := hF
  obtain ⟨n, len, g, ps, tx, hR, hZ, hA⟩ := hG
  rcases spn x1 3 (by omega) with q | ⟨t, ht, rfl⟩
  · exact JN_no (k := 1) (by omega) (by omega) (fun Q => w84_0 hX.1 (fun Q => c85b hX (by omega) q) (by omega)) (fun Q => c154b hM (by omega) q) hR hZ hA
  rcases spr x2 2 (by omega) with q | ⟨v, hv1, hv2, rfl⟩
  · exact JN_no (k := 2) (by omega) (by omega) (fun Q => w84_1 hX.1 (fun Q => c85c hX (by omega) ht q) (by omega)) (fun Q => c154c hM (by omega) ht q) hR hZ hA
  obtain ⟨I1, a1, a2, a3⟩ := c85 (d := d - 1) (C := C) hX hR hA (by omega) ht hv1 hv2
  obtain ⟨I2, b1, b2, b3, b4⟩ := c154 (d := d) (L := xu L 169 0 _) (C := C) hM (ZR_fo hZ a2) hA (by omega) ht hv1 hv2
  exact JN_ok (fun Q => w84 h169 hX.1 a3 (by omega)) b4 b2 a2 b3 fml_r a1 b1 (AV_push hA (GV_B (GV_dr hA.1 ht hv1 hv2) (by omega : B ≤ B + 200)) (by omega))
theorem j91 {d : Nat} {P : MP} {I : MI} {L : ML} {C : MC} {B : Nat} (hF : FP P) (hG : GG B I L) (hB : B ≤ 500000) (hd : 40 ≤ d) (x1 x2 : Int32) : JN .int Int32.toInt64 d 91 164 [.ref 1, .int x1, .int x2, .ref 169] [.ref 150, .int x1, .int x2] P I L C B := by
  obtain ⟨hX, hM, h169⟩ := hF
  obtain ⟨n, len, g, ps, tx, hR, hZ, hA⟩ := hG
  rcases spn x1 3 (by omega) with q | ⟨t, ht, rfl⟩
  · exact JN_no (k := 1) (by omega) (by omega) (fun Q => w91_0 hX.1 (fun Q => c92b hX (by omega) q) (by omega)) (fun Q => c164b hM (by omega) q) hR hZ hA
  rcases spn x2 (g (3 + t)) (by have := hA.1.1.2.1 t ht; omega) with q | ⟨e, he, rfl⟩
  · exact JN_no (k := 1) (by omega) (by omega) (fun Q => w91_0 hX.1 (fun Q => c92c hX hR.1 hA.1.1 (by omega) ht q) (by omega)) (fun Q => c164c hM hZ.1 hA.1.1 (by omega) ht q) hR hZ hA
  obtain ⟨I1, a1, a2, a3⟩ := c92 (d := d - 1) (C := C) hX hR hA (by omega) ht he
  obtain ⟨I2, b1, b2, b3, b4⟩ := c164 (d := d) (L := xu L 169 0 _) (C := C) hM (ZR_fo hZ a2) hA (by omega) ht he
  exact JN_ok (fun Q => w91 h169 hX.1 a3 (by omega)) b4 b2 a2 b3 fml_r a1 b1 (AV_push hA (GV_B (GV_rem hA.1 ht he) (by omega : B ≤ B + 200)) (by omega))
theorem j96 {d : Nat} {P : MP} {I : MI} {L : ML} {C : MC} {B : Nat} (hF : FP P) (hG : GG B I L) (hB : B ≤ 500000) (hd : 40 ≤ d) (x1 x2 x3 : Int32) : JN .int Int32.toInt64 d 96 166 [.ref 1, .int x1, .int x2, .int x3, .ref 169] [.ref 150, .int x1, .int x2, .int x3] P I L C B := by
  obtain ⟨hX, hM, h169⟩ := hF
  obtain ⟨n, len, g, ps, tx, hR, hZ, hA⟩ := hG
  rcases spn x1 3 (by omega) with q | ⟨t, ht, rfl⟩
  · exact JN_no (k := 1) (by omega) (by omega) (fun Q => w96_0 hX.1 (fun Q => c97b hX (by omega) q) (by omega)) (fun Q => c166b hM (by omega) q) hR hZ hA
  rcases spn x2 (g (3 + t)) (by have := hA.1.1.2.1 t ht; omega) with q | ⟨e, he, rfl⟩
  · exact JN_no (k := 1) (by omega) (by omega) (fun Q => w96_0 hX.1 (fun Q => c97c hX hR.1 hA.1.1 (by omega) ht q) (by omega)) (fun Q => c166c hM hZ.1 hA.1.1 (by omega) ht q) hR hZ hA
  rcases spr x3 1000 (by omega) with q | ⟨v, hv1, hv2, rfl⟩
  · exact JN_no (k := 2) (by omega) (by omega) (fun Q => w96_1 hX.1 (fun Q => c97d hX hR.1 hA.1.1 (by omega) ht he q) (by omega)) (fun Q => c166d hM hZ.1 hA.1.1 (by omega) ht he q) hR hZ hA
  obtain ⟨I1, a1, a2, a3⟩ := c97 (d := d - 1) (C := C) hX hR hA (by omega) ht he hv1 hv2
  obtain ⟨I2, b1, b2, b3, b4⟩ := c166 (d := d) (L := xu L 169 0 _) (C := C) hM (ZR_fo hZ a2) hA (by omega) ht he hv1 hv2
  exact JN_ok (fun Q => w96 h169 hX.1 a3 (by omega)) b4 b2 a2 b3 fml_r a1 b1 (AV_push hA (GV_B (GV_wt hA.1 ht (by have := hA.1.1.2.1 t ht; omega) hv1 hv2) (by omega : B ≤ B + 200)) (by omega))
theorem j98 {d : Nat} {P : MP} {I : MI} {L : ML} {C : MC} {B : Nat} (hF : FP P) (hG : GG B I L) (hB : B ≤ 500000) (hd : 40 ≤ d) (x1 x2 x3 : Int32) : JN .int Int32.toInt64 d 98 170 [.ref 1, .int x1, .int x2, .int x3, .ref 169] [.ref 150, .int x1, .int x2, .int x3] P I L C B := by
  obtain ⟨hX, hM, h169⟩ := hF
  obtain ⟨n, len, g, ps, tx, hR, hZ, hA⟩ := hG
  rcases spn x1 3 (by omega) with q | ⟨t, ht, rfl⟩
  · exact JN_no (k := 1) (by omega) (by omega) (fun Q => w98_0 hX.1 (fun Q => c99b hX (by omega) q) (by omega)) (fun Q => c170b hM (by omega) q) hR hZ hA
  rcases spn x2 (g (3 + t)) (by have := hA.1.1.2.1 t ht; omega) with q | ⟨e, he, rfl⟩
  · exact JN_no (k := 1) (by omega) (by omega) (fun Q => w98_0 hX.1 (fun Q => c99c hX hR.1 hA.1.1 (by omega) ht q) (by omega)) (fun Q => c170c hM hZ.1 hA.1.1 (by omega) ht q) hR hZ hA
  rcases spz x3 7 (by omega) with q | ⟨w, hw2, rfl⟩
  · exact JN_no (k := 2) (by omega) (by omega) (fun Q => w98_1 hX.1 (fun Q => c99d hX hR.1 hA.1.1 (by omega) ht he q) (by omega)) (fun Q => c170d hM hZ.1 hA.1.1 (by omega) ht he q) hR hZ hA
  have hw8 : w < 8 := by omega
  obtain ⟨I1, a1, a2, a3⟩ := c99 (d := d - 1) (C := C) hX hR hA (by omega) ht he hw8
  exact JN_ok (fun Q => w98 h169 hX.1 a3 (by omega)) (fun Q => c170 hM (ZR_fo hZ a2) hA (by omega) ht he hw8) (xu_s _ _ _ _) a2 fm_rr fml_r a1 (ZR_4 (ZR_fo hZ a2)) (AV_B hA (by omega))
theorem j100 {d : Nat} {P : MP} {I : MI} {L : ML} {C : MC} {B : Nat} (hF : FP P) (hG : GG B I L) (hB : B ≤ 500000) (hd : 40 ≤ d) (x1 x2 : Int32) : JN .int Int32.toInt64 d 100 178 [.ref 1, .int x1, .int x2, .ref 169] [.ref 150, .int x1, .int x2] P I L C B := by
  obtain ⟨hX, hM, h169⟩ := hF
  obtain ⟨n, len, g, ps, tx, hR, hZ, hA⟩ := hG
  rcases spn x1 3 (by omega) with q | ⟨t, ht, rfl⟩
  · exact JN_no (k := 1) (by omega) (by omega) (fun Q => w100_0 hX.1 (fun Q => c101b (by omega) q) (by omega)) (fun Q => c178b hM (by omega) q) hR hZ hA
  rcases spz x2 3 (by omega) with q | ⟨w, hw2, rfl⟩
  · exact JN_no (k := 2) (by omega) (by omega) (fun Q => w100_1 hX.1 (fun Q => c101c (by omega) ht q) (by omega)) (fun Q => c178c hM (by omega) ht q) hR hZ hA
  have hw8 : w < 4 := by omega
  obtain ⟨I1, a1, a2, a3⟩ := c101 (d := d - 1) (C := C) hX hR hA (by omega) ht hw8
  exact JN_ok (fun Q => w100 h169 hX.1 a3 (by omega)) (fun Q => c178 hM (ZR_fo hZ a2) hA (by omega) ht hw8) (xu_s _ _ _ _) a2 fm_rr fml_r a1 (ZR_4 (ZR_fo hZ a2)) (AV_B hA (by omega))
theorem j102 {d : Nat} {P : MP} {I : MI} {L : ML} {C : MC} {B : Nat} (hF : FP P) (hG : GG B I L) (hB : B ≤ 500000) (hd : 40 ≤ d) (x1 x2 : Int32) : JN .int Int32.toInt64 d 102 181 [.ref 1, .int x1, .int x2, .ref 169] [.ref 150, .int x1, .int x2] P I L C B := by
  obtain ⟨hX, hM, h169⟩ := hF
  obtain ⟨n, len, g, ps, tx, hR, hZ, hA⟩ := hG
  rcases spr x1 3 (by omega) with q | ⟨r, hr1, hr3, rfl⟩
  · exact JN_no (k := 1) (by omega) (by omega) (fun Q => w102_0 hX.1 (fun Q => c103b (by omega) q) (by omega)) (fun Q => c181b hM (by omega) q) hR hZ hA
  rcases spz x2 200 (by omega) with q | ⟨v, hv2, rfl⟩
  · exact JN_no (k := 2) (by omega) (by omega) (fun Q => w102_1 hX.1 (fun Q => c103c (by omega) hr1 hr3 q) (by omega)) (fun Q => c181c hM (by omega) hr1 hr3 q) hR hZ hA
  obtain ⟨I1, a1, a2, a3⟩ := c103 (d := d - 1) (C := C) hX hR hA (by omega) hr1 hr3 hv2
  obtain ⟨I2, b1, b2, b3, b4⟩ := c181 (d := d) (L := xu L 169 0 _) (C := C) hM (ZR_fo hZ a2) hA (by omega) hr1 hr3 hv2
  exact JN_ok (fun Q => w102 h169 hX.1 a3 (by omega)) b4 b2 a2 b3 fml_r a1 b1 (AV_push hA (GV_B (GV_l hA.1 (by omega) (by omega) hv2 (by omega)) (by omega : B ≤ B + 200)) (by omega))
theorem j105 {d : Nat} {P : MP} {I : MI} {L : ML} {C : MC} {B : Nat} (hF : FP P) (hG : GG B I L) (hB : B ≤ 500000) (hd : 40 ≤ d) (x1 x2 : Int32) : JN .int Int32.toInt64 d 105 184 [.ref 1, .int x1, .int x2, .ref 169] [.ref 150, .int x1, .int x2] P I L C B := by
  obtain ⟨hX, hM, h169⟩ := hF
  obtain ⟨n, len, g, ps, tx, hR, hZ, hA⟩ := hG
  rcases spr x1 3 (by omega) with q | ⟨r, hr1, hr3, rfl⟩
  · exact JN_no (k := 1) (by omega) (by omega) (fun Q => w105_0 hX.1 (fun Q => c106b (by omega) q) (by omega)) (fun Q => c184b hM (by omega) q) hR hZ hA
  rcases spz x2 200 (by omega) with q | ⟨v, hv2, rfl⟩
  · exact JN_no (k := 2) (by omega) (by omega) (fun Q => w105_1 hX.1 (fun Q => c106c (by omega) hr1 hr3 q) (by omega)) (fun Q => c184c hM (by omega) hr1 hr3 q) hR hZ hA
  obtain ⟨I1, a1, a2, a3⟩ := c106 (d := d - 1) (C := C) hX hR hA (by omega) hr1 hr3 hv2
  obtain ⟨I2, b1, b2, b3, b4⟩ := c184 (d := d) (L := xu L 169 0 _) (C := C) hM (ZR_fo hZ a2) hA (by omega) hr1 hr3 hv2
  exact JN_ok (fun Q => w105 h169 hX.1 a3 (by omega)) b4 b2 a2 b3 fml_r a1 b1 (AV_push hA (GV_B (GV_l hA.1 (by omega) (by omega) hv2 (by omega)) (by omega : B ≤ B + 200)) (by omega))
theorem j109 {d : Nat} {P : MP} {I : MI} {L : ML} {C : MC} {B : Nat} (hF : FP P) (hG : GG B I L) (hB : B ≤ 500000) (hd : 40 ≤ d) (x1 : Int32) {b : Nat} (hb : b ≤ 1) : JN .int Int32.toInt64 d 109 186 [.ref 1, .int x1, .int (nI b), .ref 169] [.ref 150, .int x1, .int (nI b)] P I L C B := by
  obtain ⟨hX, hM, h169⟩ := hF
  obtain ⟨n, len, g, ps, tx, hR, hZ, hA⟩ := hG
  rcases spr x1 3 (by omega) with q | ⟨r, hr1, hr3, rfl⟩
  · exact JN_no (k := 1) (by omega) (by omega) (fun Q => w109_0 hX.1 (fun Q => c110b (by omega) q) (by omega)) (fun Q => c186b hM (by omega) q) hR hZ hA
  exact JN_ok (fun Q => w109 h169 hX.1 (fun Q => c110 hX hR hA (by omega) hr1 hr3 hb) (by omega)) (fun Q => c186 hM hZ hA (by omega) hr1 hr3 hb) (xu_s _ _ _ _) fo_r fm_rr fml_r hR (ZR_4 hZ) (AV_B hA (by omega))
theorem j111 {d : Nat} {P : MP} {I : MI} {L : ML} {C : MC} {B : Nat} (hF : FP P) (hG : GG B I L) (hB : B ≤ 500000) (hd : 40 ≤ d) (x1 : Int32) : JN .int Int32.toInt64 d 111 187 [.ref 1, .int x1, .ref 169] [.ref 150, .int x1] P I L C B := by
  obtain ⟨hX, hM, h169⟩ := hF
  obtain ⟨n, len, g, ps, tx, hR, hZ, hA⟩ := hG
  rcases spz x1 7 (by omega) with q | ⟨w, hw2, rfl⟩
  · exact JN_no (k := 1) (by omega) (by omega) (fun Q => w111_1 hX.1 (fun Q => c112b (by omega) q) (by omega)) (fun Q => c187b hM (by omega) q) hR hZ hA
  have hw8 : w < 8 := by omega
  exact JN_ok (fun Q => w111 h169 hX.1 (fun Q => c112 hX hR hA (by omega) (by omega) hw8) (by omega)) (fun Q => c187 hM hZ hA (by omega) (by omega) hw8) (xu_s _ _ _ _) fo_r fm_rr fml_r hR (ZR_4 hZ) (AV_B hA (by omega))
theorem j113 {d : Nat} {P : MP} {I : MI} {L : ML} {C : MC} {B : Nat} (hF : FP P) (hG : GG B I L) (hB : B ≤ 500000) (hd : 40 ≤ d) (x1 : Int32) : JN .int Int32.toInt64 d 113 190 [.ref 1, .int x1, .ref 169] [.ref 150, .int x1] P I L C B := by
  obtain ⟨hX, hM, h169⟩ := hF
  obtain ⟨n, len, g, ps, tx, hR, hZ, hA⟩ := hG
  rcases spn x1 3 (by omega) with q | ⟨t, ht, rfl⟩
  · exact JN_no (k := 1) (by omega) (by omega) (fun Q => w113_0 hX.1 (fun Q => c114b (by omega) q) (by omega)) (fun Q => c190b hM (by omega) q) hR hZ hA
  obtain ⟨I1, a1, a2, a3⟩ := c114 (d := d - 1) (C := C) hX hR hA (by omega) (by omega) ht
  obtain ⟨I2, b1, b5, b2, b3, b4⟩ := c190 (d := d) (L := xu L 169 0 _) (C := C) hM (ZR_fo hZ a2) hA (by omega) ht
  exact JN_ok (fun Q => w113 h169 hX.1 a3 (by omega)) b4 b2 a2 b3 fml_r a1 b1 (AV_push hA (GV_B b5 (by omega : B + 1 ≤ B + 200)) (by omega))
theorem j123 {d : Nat} {P : MP} {I : MI} {L : ML} {C : MC} {B : Nat} (hF : FP P) (hG : GG B I L) (hB : B ≤ 500000) (hd : 40 ≤ d) (x1 x2 : Int32) : JN .int Int32.toInt64 d 123 196 [.ref 1, .int x1, .int x2, .ref 169] [.ref 150, .int x1, .int x2] P I L C B := by
  obtain ⟨hX, hM, h169⟩ := hF
  obtain ⟨n, len, g, ps, tx, hR, hZ, hA⟩ := hG
  rcases spn x1 3 (by omega) with q | ⟨t, ht, rfl⟩
  · exact JN_no (k := 1) (by omega) (by omega) (fun Q => w123_0 hX.1 (fun Q => c124b (by omega) q) (by omega)) (fun Q => c196b hM (by omega) q) hR hZ hA
  rcases spr x2 200 (by omega) with q | ⟨v, hv1, hv2, rfl⟩
  · exact JN_no (k := 2) (by omega) (by omega) (fun Q => w123_1 hX.1 (fun Q => c124c (by omega) ht q) (by omega)) (fun Q => c196c hM (by omega) ht q) hR hZ hA
  obtain ⟨I1, a1, a5, a2, a3⟩ := c124 (d := d - 1) (C := C) hX hR hA (by omega) (by omega) ht hv1 hv2
  obtain ⟨I2, b1, b2, b3, b4⟩ := c196 (d := d) (L := xu L 169 0 _) (C := C) hM (ZR_fo hZ a2) hA (by omega) ht hv1 hv2
  exact JN_ok (fun Q => w123 h169 hX.1 a3 (by omega)) b4 b2 a2 b3 fml_r a1 b1 (AV_push hA (GV_B a5 (by omega : B + v ≤ B + 200)) (by omega))
theorem j125 {d : Nat} {P : MP} {I : MI} {L : ML} {C : MC} {B : Nat} (hF : FP P) (hG : GG B I L) (hB : B ≤ 500000) (hd : 40 ≤ d) (x1 x2 : Int32) : JN .int Int32.toInt64 d 125 197 [.ref 1, .int x1, .int x2, .ref 169] [.ref 150, .int x1, .int x2] P I L C B := by
  obtain ⟨hX, hM, h169⟩ := hF
  obtain ⟨n, len, g, ps, tx, hR, hZ, hA⟩ := hG
  rcases spi x1 with q | ⟨i, hi, rfl⟩
  · exact JN_no (k := 1) (by omega) (by omega) (fun Q => w125_1 hX.1 (fun Q => c126b (by omega) q) (by omega)) (fun Q => c197b hM (by omega) q) hR hZ hA
  rcases spz x2 2 (by omega) with q | ⟨w, hw2, rfl⟩
  · exact JN_no (k := 1) (by omega) (by omega) (fun Q => w125_1 hX.1 (fun Q => c126c (by omega) hi q) (by omega)) (fun Q => c197c hM (by omega) hi q) hR hZ hA
  have hw8 : w < 3 := by omega
  exact JN_ok (fun Q => w125 h169 hX.1 (fun Q => c126 hX hR hA (by omega) (by omega) hi hw8) (by omega)) (fun Q => c197 hM hZ hA (by omega) hi hw8) (xu_s _ _ _ _) fo_r fm_rr fml_r hR (ZR_4 hZ) (AV_B hA (by omega))
theorem j127 {d : Nat} {P : MP} {I : MI} {L : ML} {C : MC} {B : Nat} (hF : FP P) (hG : GG B I L) (hB : B ≤ 500000) (hd : 40 ≤ d) (x1 : Int32) : JN .int Int32.toInt64 d 127 198 [.ref 1, .int x1, .ref 169] [.ref 150, .int x1] P I L C B := by
  obtain ⟨hX, hM, h169⟩ := hF
  obtain ⟨n, len, g, ps, tx, hR, hZ, hA⟩ := hG
  rcases spn x1 16 (by omega) with q | ⟨it, hit, rfl⟩
  · exact JN_no (k := 1) (by omega) (by omega) (fun Q => w127_0 hX.1 (fun Q => c128b (by omega) q) (by omega)) (fun Q => c198b hM (by omega) q) hR hZ hA
  exact JN_ok (fun Q => w127 h169 hX.1 (fun Q => c128 hX hR hA (by omega) hit) (by omega)) (fun Q => c198 hM hZ hA (by omega) hit) (xu_s _ _ _ _) fo_r fm_rr fml_r hR (ZR_4 hZ) (AV_B hA (by omega))
theorem j130 {d : Nat} {P : MP} {I : MI} {L : ML} {C : MC} {B : Nat} (hF : FP P) (hG : GG B I L) (hB : B ≤ 500000) (hd : 40 ≤ d) (x1 x2 : Int32) {b : Nat} (hb : b ≤ 1) : JN .int Int32.toInt64 d 130 199 [.ref 1, .int x1, .int x2, .int (nI b), .ref 169] [.ref 150, .int x1, .int x2, .int (nI b)] P I L C B := by
  obtain ⟨hX, hM, h169⟩ := hF
  obtain ⟨n, len, g, ps, tx, hR, hZ, hA⟩ := hG
  rcases spn x1 3 (by omega) with q | ⟨t, ht, rfl⟩
  · exact JN_no (k := 1) (by omega) (by omega) (fun Q => w130_0 hX.1 (fun Q => c131b hX (by omega) q) (by omega)) (fun Q => c199b hM (by omega) q) hR hZ hA
  rcases spn x2 (g (3 + t)) (by have := hA.1.1.2.1 t ht; omega) with q | ⟨e, he, rfl⟩
  · exact JN_no (k := 1) (by omega) (by omega) (fun Q => w130_0 hX.1 (fun Q => c131c hX hR.1 hA.1.1 (by omega) ht q) (by omega)) (fun Q => c199c hM hZ.1 hA.1.1 (by omega) ht q) hR hZ hA
  obtain ⟨I1, a1, a2, a3⟩ := c131 (d := d - 1) (C := C) hX hR hA (by omega) ht he hb
  exact JN_ok (fun Q => w130 h169 hX.1 a3 (by omega)) (fun Q => c199 hM (ZR_fo hZ a2) hA (by omega) ht he hb) (xu_s _ _ _ _) a2 fm_rr fml_r a1 (ZR_4 (ZR_fo hZ a2)) (AV_B hA (by omega))
theorem j133 {d : Nat} {P : MP} {I : MI} {L : ML} {C : MC} {B : Nat} (hF : FP P) (hG : GG B I L) (hB : B ≤ 500000) (hd : 40 ≤ d) (x1 x2 : Int32) : JN .int Int32.toInt64 d 133 200 [.ref 1, .int x1, .int x2, .ref 169] [.ref 150, .int x1, .int x2] P I L C B := by
  obtain ⟨hX, hM, h169⟩ := hF
  obtain ⟨n, len, g, ps, tx, hR, hZ, hA⟩ := hG
  rcases spn x1 3 (by omega) with q | ⟨t, ht, rfl⟩
  · exact JN_no (k := 1) (by omega) (by omega) (fun Q => w133_0 hX.1 (fun Q => c134b (by omega) q) (by omega)) (fun Q => c200b hM (by omega) q) hR hZ hA
  rcases spn x2 16 (by omega) with q | ⟨it, hit, rfl⟩
  · exact JN_no (k := 1) (by omega) (by omega) (fun Q => w133_0 hX.1 (fun Q => c134c (by omega) ht q) (by omega)) (fun Q => c200c hM (by omega) ht q) hR hZ hA
  obtain ⟨I1, L1, a1, a2, _, a3⟩ := c134 (d := d - 1) (C := C) hX hR hA (by omega) ht hit
  obtain ⟨I2, L2, b1, b2, b3, b5, b4⟩ := c200 (d := d) (L := xu L1 169 0 _) (C := C) hM (ZR_fo hZ a2) hA (by omega) ht hit
  exact JN_ok (fun Q => w133 h169 hX.1 a3 (by omega)) b4 b2 a2 b3 b5 a1 b1 (AV_B hA (by omega))
theorem j136 {d : Nat} {P : MP} {I : MI} {L : ML} {C : MC} {B : Nat} (hF : FP P) (hG : GG B I L) (hB : B ≤ 500000) (hd : 40 ≤ d) (x1 x2 : Int32) : JN .int Int32.toInt64 d 136 207 [.ref 1, .int x1, .int x2, .ref 169] [.ref 150, .int x1, .int x2] P I L C B := by
  obtain ⟨hX, hM, h169⟩ := hF
  obtain ⟨n, len, g, ps, tx, hR, hZ, hA⟩ := hG
  rcases spn x1 3 (by omega) with q | ⟨t, ht, rfl⟩
  · exact JN_no (k := 1) (by omega) (by omega) (fun Q => w136_0 hX.1 (fun Q => c137b (by omega) q) (by omega)) (fun Q => c207b hM (by omega) q) hR hZ hA
  rcases spz x2 3 (by omega) with q | ⟨w, hw2, rfl⟩
  · exact JN_no (k := 2) (by omega) (by omega) (fun Q => w136_1 hX.1 (fun Q => c137c (by omega) ht q) (by omega)) (fun Q => c207c hM (by omega) ht q) hR hZ hA
  have hw8 : w < 4 := by omega
  obtain ⟨I1, L1, a1, a2, _, a3⟩ := c137 (d := d - 1) (C := C) hX hR hA (by omega) ht hw2
  obtain ⟨I2, L2, b1, b2, b3, b5, b4⟩ := c207 (d := d) (L := xu L1 169 0 _) (C := C) hM (ZR_fo hZ a2) hA (by omega) ht hw2
  exact JN_ok (fun Q => w136 h169 hX.1 a3 (by omega)) b4 b2 a2 b3 b5 a1 b1 (AV_B hA (by omega))
theorem j138 {d : Nat} {P : MP} {I : MI} {L : ML} {C : MC} {B : Nat} (hF : FP P) (hG : GG B I L) (hB : B ≤ 500000) (hd : 40 ≤ d) (x1 : Int32) : JN .long id d 138 208 [.ref 1, .int x1, .ref 169] [.ref 150, .int x1] P I L C B := by
  obtain ⟨hX, hM, h169⟩ := hF
  obtain ⟨n, len, g, ps, tx, hR, hZ, hA⟩ := hG
  rcases spn x1 3 (by omega) with q | ⟨t, ht, rfl⟩
  · exact JN_no (k := 1) (by omega) (by omega) (fun Q => w138_0 hX.1 (fun Q => c139b (by omega) q) (by omega)) (fun Q => c208b hM (by omega) q) hR hZ hA
  obtain ⟨I1, L1, a1, a2, _, a3⟩ := c139 (d := d - 1) (C := C) hX hR hA (by omega) ht
  obtain ⟨I2, L2, b1, b2, b3, b5, b4⟩ := c208 (d := d) (L := xu L1 169 0 _) (C := C) hM (ZR_fo hZ a2) hA (by omega) ht
  exact JN_ok (fun Q => w138 h169 hX.1 a3 (by omega)) b4 b2 a2 b3 b5 a1 b1 (AV_B hA (by omega))
theorem j140 {d : Nat} {P : MP} {I : MI} {L : ML} {C : MC} {B : Nat} (hF : FP P) (hG : GG B I L) (hB : B ≤ 500000) (hd : 40 ≤ d) (x1 x2 : Int32) : JN .int Int32.toInt64 d 140 210 [.ref 1, .int x1, .int x2, .ref 169] [.ref 150, .int x1, .int x2] P I L C B := by
  obtain ⟨hX, hM, h169⟩ := hF
  obtain ⟨n, len, g, ps, tx, hR, hZ, hA⟩ := hG
  rcases spn x1 3 (by omega) with q | ⟨t, ht, rfl⟩
  · exact JN_no (k := 1) (by omega) (by omega) (fun Q => w140_0 hX.1 (fun Q => c141b (by omega) q) (by omega)) (fun Q => c210b hM (by omega) q) hR hZ hA
  rcases spn x2 16 (by omega) with q | ⟨it, hit, rfl⟩
  · exact JN_no (k := 1) (by omega) (by omega) (fun Q => w140_0 hX.1 (fun Q => c141c (by omega) ht q) (by omega)) (fun Q => c210c hM (by omega) ht q) hR hZ hA
  obtain ⟨I1, a1, a2, a3⟩ := c141 (d := d - 1) (C := C) hX hR hA (by omega) (by omega) ht hit
  obtain ⟨I2, b1, b2, b3, b4⟩ := c210 (d := d) (L := xu L 169 0 _) (C := C) hM (ZR_fo hZ a2) hA (by omega) (by omega) ht hit
  exact JN_ok (fun Q => w140 h169 hX.1 a3 (by omega)) b4 b2 a2 b3 fml_r a1 b1 (AV_B hA (by omega))
theorem j142 {d : Nat} {P : MP} {I : MI} {L : ML} {C : MC} {B : Nat} (hF : FP P) (hG : GG B I L) (hB : B ≤ 500000) (hd : 40 ≤ d) (x1 x2 : Int32) : JN .int Int32.toInt64 d 142 213 [.ref 1, .int x1, .int x2, .ref 169] [.ref 150, .int x1, .int x2] P I L C B := by
  obtain ⟨hX, hM, h169⟩ := hF
  obtain ⟨n, len, g, ps, tx, hR, hZ, hA⟩ := hG
  rcases spn x1 3 (by omega) with q | ⟨t, ht, rfl⟩
  · exact JN_no (k := 1) (by omega) (by omega) (fun Q => w142_0 hX.1 (fun Q => c143b (by omega) q) (by omega)) (fun Q => c213b hM (by omega) q) hR hZ hA
  rcases spn x2 16 (by omega) with q | ⟨it, hit, rfl⟩
  · exact JN_no (k := 1) (by omega) (by omega) (fun Q => w142_0 hX.1 (fun Q => c143c (by omega) ht q) (by omega)) (fun Q => c213c hM (by omega) ht q) hR hZ hA
  obtain ⟨I1, L1, a1, a2, _, a3⟩ := c143 (d := d - 1) (C := C) hX hR hA (by omega) ht hit
  obtain ⟨I2, L2, b1, b2, b3, b5, b4⟩ := c213 (d := d) (L := xu L1 169 0 _) (C := C) hM (ZR_fo hZ a2) hA (by omega) ht hit
  exact JN_ok (fun Q => w142 h169 hX.1 a3 (by omega)) b4 b2 a2 b3 b5 a1 b1 (AV_B hA (by omega))
theorem j107 {d : Nat} {P : MP} {I : MI} {L : ML} {C : MC} {B : Nat} (hF : FP P) (hG : GG B I L) (hB : B ≤ 500000) (hd : 40 ≤ d) (x1 x2 : Int32) : JN .int Int32.toInt64 d 107 185 [.ref 1, .int x1, .int x2, .ref 169] [.ref 150, .int x1, .int x2] P I L C B := by
  obtain ⟨hX, hM, h169⟩ := hF
  obtain ⟨n, len, g, ps, tx, hR, hZ, hA⟩ := hG
  rcases spz x1 50 (by omega) with q | ⟨r, hr, rfl⟩
  · exact JN_no (k := 1) (by omega) (by omega) (fun Q => w107_1 hX.1 (fun Q => c108b (by omega) q) (by omega)) (fun Q => c185b hM (by omega) q) hR hZ hA
  by_cases hn : x2 = nI 4294967295
  · subst hn
    obtain ⟨I1, a1, a2, a3⟩ := c108n (d := d - 1) (C := C) hX hR hA (by omega) hr
    obtain ⟨I2, b1, b2, b3, b4⟩ := c185n (d := d) (L := xu L 169 0 _) (C := C) hM (ZR_fo hZ a2) hA (by omega) hr
    exact JN_ok (fun Q => w107 h169 hX.1 a3 (by omega)) b4 b2 a2 b3 fml_r a1 b1 (AV_push hA (GV_B (GV_l hA.1 (by omega) (by omega) (by omega) (fun _ => hr)) (by omega : B ≤ B + 200)) (by omega))
  rcases spz x2 999999 (by omega) with q | ⟨v, hv, rfl⟩
  · exact JN_no (k := 1) (by omega) (by omega) (fun Q => w107_1 hX.1 (fun Q => c108c (by omega) hr hn q) (by omega)) (fun Q => c185c hM (by omega) hr hn q) hR hZ hA
  obtain ⟨I1, a1, a2, a3⟩ := c108 (d := d - 1) (C := C) hX hR hA (by omega) hr hv
  obtain ⟨I2, b1, b2, b3, b4⟩ := c185 (d := d) (L := xu L 169 0 _) (C := C) hM (ZR_fo hZ a2) hA (by omega) hr hv
  exact JN_ok (fun Q => w107 h169 hX.1 a3 (by omega)) b4 b2 a2 b3 fml_r a1 b1 (AV_push hA (GV_B (GV_se (GV_l hA.1 (by omega) (by omega) (by omega) (fun _ => hr)) (by omega)) (by omega : B ≤ B + 200)) (by omega))
theorem j89 {d : Nat} {P : MP} {I : MI} {L : ML} {C : MC} {B : Nat} (hF : FP P) (hG : GG B I L) (hB : B ≤ 500000) (hd : 40 ≤ d) (x1 x2 x3 x4 x5 : Int32) {b : Nat} (hb : b ≤ 1) : JN .int Int32.toInt64 d 89 158 [.ref 1, .int x1, .int x2, .int x3, .int x4, .int x5, .int (nI b), .ref 169] [.ref 150, .int x1, .int x2, .int x3, .int x4, .int x5, .int (nI b)] P I L C B := by
  obtain ⟨hX, hM, h169⟩ := hF
  obtain ⟨n, len, g, ps, tx, hR, hZ, hA⟩ := hG
  rcases spn x1 3 (by omega) with q | ⟨t, ht, rfl⟩
  · exact JN_no (k := 1) (by omega) (by omega) (fun Q => w89_0 hX.1 (fun Q => c90t (by omega) q) (by omega)) (fun Q => c158t hM (by omega) q) hR hZ hA
  rcases spz x2 18 (by omega) with q | ⟨w, hw, rfl⟩
  · exact JN_no (k := 2) (by omega) (by omega) (fun Q => w89_1 hX.1 (fun Q => c90w (by omega) ht q) (by omega)) (fun Q => c158w hM (by omega) ht q) hR hZ hA
  by_cases hl : 16 ≤ w ∧ w ≤ t + 16
  · exact JN_no (k := 2) (by omega) (by omega) (fun Q => w89_1 hX.1 (fun Q => c90l (by omega) ht hw hl) (by omega)) (fun Q => c158l hM (by omega) ht hw hl) hR hZ hA
  have hlo : w < 16 ∨ t + 16 < w := by omega
  rcases spr x3 1000 (by omega) with q | ⟨we, hw1, hw2, rfl⟩
  · exact JN_no (k := 2) (by omega) (by omega) (fun Q => w89_1 hX.1 (fun Q => c90g (by omega) ht hw hlo q) (by omega)) (fun Q => c158g hM (by omega) ht hw hlo q) hR hZ hA
  rcases spz x4 (if w < 16 then 3 else 0) (by split <;> omega) with q | ⟨ra, hra0, rfl⟩
  · exact JN_no (k := 2) (by omega) (by omega) (fun Q => w89_1 hX.1 (fun Q => c90r (by omega) ht hw hlo hw1 hw2 q) (by omega)) (fun Q => c158r hM (by omega) ht hw hlo q) hR hZ hA
  have hra : ra ≤ 3 := by split at hra0 <;> omega
  have hra2 : 16 ≤ w → ra = 0 := fun z => by rw [if_neg (by omega)] at hra0; omega
  rcases spz x5 3 (by omega) with q | ⟨gr, hgr, rfl⟩
  · exact JN_no (k := 2) (by omega) (by omega) (fun Q => w89_1 hX.1 (fun Q => c90u (by omega) ht hw hlo hw1 hw2 hra hra2 q) (by omega)) (fun Q => c158u hM (by omega) ht hw hlo hw1 hw2 hra hra2 q) hR hZ hA
  have hcc := hA.1.1.2.1 t ht
  by_cases hc : g (3 + t) = 6
  · exact JN_no (k := 3) (by omega) (by omega) (fun Q => w89_2 hX.1 (fun Q => c90f hX hR hA (by omega) ht hw hlo hw1 hw2 hra hra2 hgr hc) (by omega)) (fun Q => c158f hM hZ hA (by omega) ht hw hlo hw1 hw2 hra hra2 hgr hc) hR hZ hA
  obtain ⟨I1, a1, a2, a3⟩ := c90 (d := d - 1) (C := C) hX hR hA (by omega) ht hw hlo hw1 hw2 hra hra2 hgr hb (by omega)
  obtain ⟨I2, b1, b2, b3, b4⟩ := c158 (d := d) (L := xu L 169 0 _) (C := C) hM (ZR_fo hZ a2) hA (by omega) ht hw hlo hw1 hw2 hra hra2 hgr hb (by omega)
  exact JN_ok (fun Q => w89 h169 hX.1 a3 (by omega)) b4 b2 a2 b3 fml_r a1 b1 (AV_push hA (GV_B (GV_add hA.1 ht (by omega) hw (fun _ => hra) (fun z => ⟨by omega, hra2 z⟩) hw1 hw2 hgr hb) (by omega : B ≤ B + 200)) (by omega))
theorem j144 {d : Nat} {P : MP} {I : MI} {L : ML} {C : MC} {B : Nat} (hF : FP P) (hG : GG B I L) (hB : B ≤ 500000) (hd : 40 ≤ d) (x1 : Int32) : JN .int Int32.toInt64 d 144 214 [.ref 1, .int x1, .ref 169] [.ref 150, .int x1] P I L C B := by
  obtain ⟨hX, hM, h169⟩ := hF
  obtain ⟨n, len, g, ps, tx, hR, hZ, hA⟩ := hG
  rcases spz x1 127 (by omega) with q | ⟨v, hv, rfl⟩
  · exact JN_no (k := 1) (by omega) (by omega) (fun Q => w144_1 hX.1 (fun Q => c145b (by omega) q) (by omega)) (fun Q => c214b hM (by omega) q) hR hZ hA
  have hlen := hA.2.2.2.1
  by_cases hc : len = 160
  · exact JN_no (k := 2) (by omega) (by omega) (fun Q => w144_2 hX.1 (fun Q => c145c hX hR hA (by omega) hv hc) (by omega)) (fun Q => c214c hM hZ hA (by omega) hv hc) hR hZ hA
  obtain ⟨I1, a1, a2, a3⟩ := c145 (d := d - 1) (C := C) hX hR hA (by omega) hv (by omega)
  obtain ⟨I2, b1, b2, b3, b4⟩ := c214 (d := d) (L := xu L 169 0 _) (C := C) hM (ZR_fo hZ a2) hA (by omega) hv (by omega)
  exact JN_ok (fun Q => w144 h169 hX.1 a3 (by omega)) b4 b2 a2 b3 fml_r a1 b1 (AV_B (AV_tx hA (by omega) hv) (by omega))
theorem j147 {d : Nat} {P : MP} {I : MI} {L : ML} {C : MC} {B : Nat} (hF : FP P) (hG : GG B I L) (hB : B ≤ 500000) (hd : 40 ≤ d) : JN .int Int32.toInt64 d 147 152 [.ref 1, .ref 169] [.ref 150] P I L C B := by
  obtain ⟨hX, hM, h169⟩ := hF
  obtain ⟨n, len, g, ps, tx, hR, hZ, hA⟩ := hG
  by_cases hc : n = 0
  · exact JN_no (k := 1) (by omega) (by omega) (fun Q => w147_2 hX.1 (fun Q => c148b hX hR hA (by omega) hc) (by omega)) (fun Q => c152b hM hZ (by omega) hc) hR hZ hA
  obtain ⟨I1, a1, a2, a3⟩ := c148 (d := d - 1) (C := C) hX hR hA (by omega) (by omega)
  obtain ⟨I2, b1, b2, b3, b4⟩ := c152 (d := d) (L := xu L 169 0 _) (C := C) hM (ZR_fo hZ a2) hA.2.2.1 (by omega) (by omega)
  exact JN_ok (fun Q => w147 h169 hX.1 a3 (by omega)) b4 b2 a2 b3 fml_r a1 b1 (AV_B (AV_pop hA (by omega)) (by omega))
theorem j10 {d : Nat} {P : MP} {I : MI} {L : ML} {C : MC} {B : Nat} (hF : FP P) (hG : GG B I L) (hB : B ≤ 500000) (hd : 40 ≤ d) : JD .int d 10 168 P I L C B := by
  obtain ⟨hX, hM, h169⟩ := hF
  obtain ⟨n, len, g, ps, tx, hR, hZ, hA⟩ := hG
  obtain ⟨I1, a1, a2, a3⟩ := c10 (d := d) (C := C) hX hR hA (by omega)
  obtain ⟨I2, b1, b2, b3, b4⟩ := c168 (d := d) (L := L) (C := C) hM (ZR_fo hZ a2) hA (by omega)
  exact JD_ok a3 b4 a2 b3 fml_r a1 b1 (AV_push hA (GV_B (GV_res hA.1) (by omega : B ≤ B + 200)) (by omega))
theorem j31 {d : Nat} {P : MP} {I : MI} {L : ML} {C : MC} {B : Nat} (hF : FP P) (hG : GG B I L) (hB : B ≤ 500000) (hd : 40 ≤ d) : JD .double d 31 209 P I L C B := by
  obtain ⟨hX, hM, h169⟩ := hF
  obtain ⟨n, len, g, ps, tx, hR, hZ, hA⟩ := hG
  exact JD_ok (fun Q => c31 hX hR hA (by omega) (by omega)) (fun Q => c209 hM hZ hA (by omega) (by omega)) fo_r fm_rr fml_r hR (ZR_4 hZ) (AV_B hA (by omega))
theorem j35 {d : Nat} {P : MP} {I : MI} {L : ML} {C : MC} {B : Nat} (hF : FP P) (hG : GG B I L) (hB : B ≤ 500000) (hd : 40 ≤ d) : JD .int d 35 215 P I L C B := by
  obtain ⟨hX, hM, h169⟩ := hF
  obtain ⟨n, len, g, ps, tx, hR, hZ, hA⟩ := hG
  obtain ⟨I1, a1, a2, a3⟩ := c35 (d := d) (C := C) hX hR hA (by omega)
  obtain ⟨I2, b1, b2, b3, b4⟩ := c215 (d := d) (L := L) (C := C) hM (ZR_fo hZ a2) hA (by omega)
  exact JD_ok a3 b4 a2 b3 fml_r a1 b1 (AV_B (AV_0 hA) (by omega))
theorem j36 {d : Nat} {P : MP} {I : MI} {L : ML} {C : MC} {B : Nat} (hF : FP P) (hG : GG B I L) (hB : B ≤ 500000) (hd : 40 ≤ d) : JD .int d 36 216 P I L C B := by
  obtain ⟨hX, hM, h169⟩ := hF
  obtain ⟨n, len, g, ps, tx, hR, hZ, hA⟩ := hG
  rcases c36 (d := d) (C := C) hX hR hA (by omega) with ⟨f, I1, a0, af, a1, a2, a3⟩ | ⟨g', I1, a0, at0, ak, a1, a2, a3⟩
  · rcases c216 (d := d) (L := L) (C := C) hM (ZR_fo hZ a2) hA (by omega) (by omega) with ⟨f', I2, b0, bf, b1, b2, b3, b4⟩ | ⟨g'', I2, b0, b1, b2, b3, b4⟩
    · rw [a0] at b0
      cases b0
      exact JD_ok a3 b4 a2 b3 fml_r a1 b1 (AV_B hA (by omega))
    · rw [a0] at b0
      cases b0
  · rcases c216 (d := d) (L := L) (C := C) hM (ZR_fo hZ a2) hA (by omega) (by omega) with ⟨f', I2, b0, bf, b1, b2, b3, b4⟩ | ⟨g'', I2, b0, b1, b2, b3, b4⟩
    · rw [a0] at b0
      cases b0
    · rw [a0] at b0
      cases b0
      exact JD_ok a3 b4 a2 b3 fml_r a1 b1 (AV_push hA (GV_B (GV_new hA.1 at0 ak) (by omega : B ≤ B + 200)) (by omega))
theorem j57 {d : Nat} {P : MP} {I : MI} {L : ML} {C : MC} {B : Nat} (hF : FP P) (hG : GG B I L) (hB : B ≤ 500000) (hd : 40 ≤ d) : JD .long d 57 223 P I L C B := by
  obtain ⟨hX, hM, h169⟩ := hF
  obtain ⟨n, len, g, ps, tx, hR, hZ, hA⟩ := hG
  obtain ⟨I1, L1, a1, a2, _, a3⟩ := c57 (d := d) (C := C) hX hR hA (by omega) (by omega)
  obtain ⟨I2, L2, b1, b2, b3, b5, b4⟩ := c223 (d := d) (L := L1) (C := C) hM (ZR_fo hZ a2) hA (by omega) (by omega)
  exact JD_ok a3 b4 a2 b3 b5 a1 b1 (AV_B hA (by omega))
