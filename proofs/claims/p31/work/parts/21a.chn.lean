/-! CHANCES as naturals: sums of shares, and what holds of them -/
abbrev NV : Type := Nat → Nat
def nOne (i s : Nat) : NV := fun j => if j = i then s else 0
def nE (f : Nat → NV) : Nat → Nat → NV
  | _, 0 => fun _ => 0
  | e, m + 1 => fun i => f e i + nE f (e + 1) m i
def nW (w : Nat) (b : Bool) (s : Nat) : NV := if w = 0 then fun _ => 0 else fun i => nOne 20 s i + (if b = true then nOne (w - 1) s else fun _ => 0) i
def nEnd (n w0 w1 fd s : Nat) : NV := fun i => (if 1 ≤ n then nW w0 true s else fun _ => 0) i + ((if 2 ≤ n then nW w1 (decide (w0 ≠ w1)) s else fun _ => 0) i + (if fd = 0 then fun _ => 0 else nOne (16 + (fd - 1)) s) i)
def nH (g : GS) (W : Nat → Nat → Nat) (K : SP → SP → Nat → Nat → Nat → NV) (R : Nat → SP → SP → Nat → Nat → NV) (t : Nat) (sp gr : SP) (fd s e : Nat) : NV := if W t e = 0 then fun _ => 0 else if g (cl t e 0) < 16 then K (spW g sp t e) (grW gr t (g (cl t e 3))) (max fd (g (cl t e 2) + 1)) (g (cl t e 0) + 1) (s * W t e / sm (g (3 + t)) (W t)) else R (g (cl t e 0) - 16) (spW g sp t e) (grW gr t (g (cl t e 3))) fd (s * W t e / sm (g (3 + t)) (W t))
def nV (g : GS) (W : Nat → Nat → Nat) (K : SP → SP → Nat → Nat → Nat → NV) : Nat → Nat → SP → SP → Nat → Nat → NV
  | 0, _, _, _, _, _ => fun _ => 0
  | f + 1, t, sp, gr, fd, s => nE (nH g W K (nV g W K f) t sp gr fd s) 0 (g (3 + t))
def nG (g : GS) (top : Nat) : Nat → Nat → Nat → Nat → SP → SP → Nat → Nat → NV
  | 0, n, w0, w1, _, _, fd, s => nEnd n w0 w1 fd s
  | r + 1, n, w0, w1, sp, gr, fd, s => if 0 < sw g (wq g sp gr fd top) sp gr top then nV g (wt g (wq g sp gr fd top) sp gr) (fun sp' gr' fd' w s' => nG g top r (n + 1) (if n = 0 then w else w0) (if n = 0 then w1 else w) sp' gr' fd' s') 3 top sp gr fd s
    else nG g top r (n + 1) (if n = 0 then 0 else w0) (if n = 0 then w1 else 0) sp gr fd s
def chN (g : GS) (top : Nat) : NV := nG g top (g top) 0 0 0 (spG g) noG 0 1000000000
/-- as longs -/
def lV (V : NV) : CV := fun i => lN (V i)
theorem lV_0 : lV (fun _ => 0) = cv0 := rfl
theorem lV_A {a b : NV} : cvA (lV a) (lV b) = lV (fun i => a i + b i) := by
  funext i; exact lN_add _ _
theorem lV_one {i s : Nat} : lV (nOne i s) = one i s := by
  funext j
  unfold lV nOne one
  split <;> rfl
theorem lV_E {f : Nat → NV} {f' : Nat → CV} : ∀ m e, (∀ i, e ≤ i → i < e + m → f' i = lV (f i)) → sE f' e m = lV (nE f e m) := by
  intro m
  induction m with
  | zero => intro e _; rfl
  | succ m ih =>
    intro e h
    rw [sE_s, h e (Nat.le_refl e) (by omega), ih (e + 1) (fun i h1 h2 => h i (by omega) (by omega)), lV_A]
    rfl
theorem lV_W {w : Nat} {b : Bool} {s : Nat} : wV w b s = lV (nW w b s) := by
  unfold wV nW
  by_cases h : w = 0
  · rw [if_pos h, if_pos h]; rfl
  · rw [if_neg h, if_neg h, ← lV_one]
    by_cases hb : b = true
    · rw [if_pos hb, if_pos hb, ← lV_one, lV_A]
    · rw [if_neg hb, if_neg hb, ← lV_0, lV_A]
theorem lV_End {n w0 w1 fd s : Nat} : endV n w0 w1 fd s = lV (nEnd n w0 w1 fd s) := by
  unfold endV nEnd
  rw [← lV_A, ← lV_A]
  congr 1
  · split
    · exact lV_W
    · rfl
  · congr 1
    · split
      · exact lV_W
      · rfl
    · split
      · rfl
      · exact lV_one.symm
theorem lV_V {g : GS} {W : Nat → Nat → Nat} {K : SP → SP → Nat → Nat → Nat → NV} {K' : SP → SP → Nat → Nat → Nat → CV} (hK : ∀ sp gr fd w s, K' sp gr fd w s = lV (K sp gr fd w s)) : ∀ f t sp gr fd s, hV g W K' f t sp gr fd s = lV (nV g W K f t sp gr fd s) := by
  intro f
  induction f with
  | zero => intro t sp gr fd s; rfl
  | succ f ih =>
    intro t sp gr fd s
    have e1 : hV g W K' (f + 1) t sp gr fd s = sE (hE g W K' (hV g W K' f) t sp gr fd s) 0 (g (3 + t)) := rfl
    have e2 : nV g W K (f + 1) t sp gr fd s = nE (nH g W K (nV g W K f) t sp gr fd s) 0 (g (3 + t)) := rfl
    rw [e1, e2]
    refine lV_E _ _ fun i _ _ => ?_
    unfold hE nH
    split
    · rfl
    · split
      · exact hK _ _ _ _ _
      · exact ih _ _ _ _ _
theorem lV_G {g : GS} {top : Nat} : ∀ r n w0 w1 sp gr fd s, goV g top r n w0 w1 sp gr fd s = lV (nG g top r n w0 w1 sp gr fd s) := by
  intro r
  induction r with
  | zero => intro n w0 w1 sp gr fd s; exact lV_End
  | succ r ih =>
    intro n w0 w1 sp gr fd s
    unfold goV nG
    split
    · exact lV_V (fun sp gr fd w s => ih _ _ _ _ _ _ _) _ _ _ _ _ _
    · exact ih _ _ _ _ _ _ _
theorem ch_N (g : GS) (top i : Nat) : chV g top i = lN (chN g top i) := congrFun (lV_G (g := g) (top := top) (g top) 0 0 0 (spG g) noG 0 1000000000) i
/-- from a rarity on -/
def raN (V : NV) (r : Nat) : Nat := sm (4 - r) (fun i => V (16 + r + i))
theorem ra_N (g : GS) (top r : Nat) : raV (chV g top) r = lN (raN (chN g top) r) := by
  unfold raV raN
  have key : ∀ n, sL n (fun i => chV g top (16 + r + i)) = lN (sm n (fun i => chN g top (16 + r + i))) := by
    intro n
    induction n with
    | zero => rfl
    | succ n ih =>
      unfold sL sm
      dsimp only
      rw [ih, ch_N, lN_add]
  exact key _
theorem sm_front {F : Nat → Nat} : ∀ m e, F e + sm m (fun j => F (e + 1 + j)) = sm (m + 1) (fun j => F (e + j)) := by
  intro m
  induction m with
  | zero => intro e; show F e + 0 = 0 + F e; omega
  | succ m ih =>
    intro e
    have e1 : sm (m + 1 + 1) (fun j => F (e + j)) = sm (m + 1) (fun j => F (e + j)) + F (e + (m + 1)) := rfl
    have e2 : sm (m + 1) (fun j => F (e + 1 + j)) = sm m (fun j => F (e + 1 + j)) + F (e + 1 + m) := rfl
    rw [e1, ← ih e, e2, show e + 1 + m = e + (m + 1) by omega]
    omega
theorem nE_sm {f : Nat → NV} {i : Nat} : ∀ m e, nE f e m i = sm m (fun j => f (e + j) i) := by
  intro m
  induction m with
  | zero => intro e; rfl
  | succ m ih =>
    intro e
    have e1 : nE f e (m + 1) i = f e i + nE f (e + 1) m i := rfl
    rw [e1, ih, sm_front (F := fun j => f j i)]
theorem nV_sm {g : GS} {W : Nat → Nat → Nat} {K : SP → SP → Nat → Nat → Nat → NV} {f t fd s i : Nat} {sp gr : SP} : nV g W K (f + 1) t sp gr fd s i = sm (g (3 + t)) (fun e => nH g W K (nV g W K f) t sp gr fd s e i) := by
  have e2 : nV g W K (f + 1) t sp gr fd s = nE (nH g W K (nV g W K f) t sp gr fd s) 0 (g (3 + t)) := rfl
  rw [e2, nE_sm]
  exact sm_c fun j _ => by rw [Nat.zero_add]
theorem sm_z {n : Nat} : sm n (fun _ => 0) = 0 := by
  induction n with
  | zero => rfl
  | succ n ih => unfold sm; dsimp only; rw [ih]
theorem sm_pl {n : Nat} {f h : Nat → Nat} : sm n (fun i => f i + h i) = sm n f + sm n h := by
  induction n with
  | zero => rfl
  | succ n ih => unfold sm; dsimp only; rw [ih]; omega
theorem sm_sw {n m : Nat} {f : Nat → Nat → Nat} : sm n (fun i => sm m (fun j => f i j)) = sm m (fun j => sm n (fun i => f i j)) := by
  induction n with
  | zero => exact sm_z.symm
  | succ n ih =>
    show sm n (fun i => sm m (fun j => f i j)) + sm m (fun j => f n j) = _
    rw [ih, ← sm_pl]
    rfl
theorem sm_mle {n : Nat} {f h : Nat → Nat} (q : ∀ i, i < n → f i ≤ h i) : sm n f ≤ sm n h := by
  induction n with
  | zero => exact Nat.le_refl _
  | succ n ih =>
    unfold sm
    have := ih (fun i hi => q i (by omega))
    have := q n (by omega)
    omega
theorem sm_mul {n c : Nat} {f : Nat → Nat} : sm n (fun i => c * f i) = c * sm n f := by
  induction n with
  | zero => rfl
  | succ n ih => unfold sm; rw [ih, Nat.mul_add]
theorem sm_con {n c : Nat} : sm n (fun _ => c) = n * c := by
  induction n with
  | zero => exact (Nat.zero_mul c).symm
  | succ n ih => unfold sm; rw [ih, Nat.succ_mul]
theorem sm_one {n a s : Nat} : sm n (nOne a s) = if a < n then s else 0 := by
  induction n with
  | zero => rfl
  | succ n ih =>
    unfold sm
    rw [ih]
    unfold nOne
    by_cases h1 : a < n
    · rw [if_pos h1, if_neg (by omega), if_pos (by omega)]; rfl
    · rw [if_neg h1]
      by_cases h2 : n = a
      · rw [if_pos h2, if_pos (by omega)]; exact Nat.zero_add s
      · rw [if_neg h2, if_neg (by omega)]
/-- what is handed on is no more than the share, and little less -/
theorem parts_le {n s : Nat} {w : Nat → Nat} : sm n (fun e => s * w e / sm n w) ≤ s := by
  rcases Nat.eq_zero_or_pos (sm n w) with z | z
  · have : sm n (fun e => s * w e / sm n w) = 0 := by
      rw [z]
      refine (sm_c fun i _ => ?_).trans sm_z
      exact Nat.div_zero _
    omega
  · have h1 : sm n (fun e => sm n w * (s * w e / sm n w)) ≤ sm n (fun e => s * w e) := sm_mle fun e _ => Nat.mul_div_le _ _
    rw [sm_mul, sm_mul, Nat.mul_comm s] at h1
    exact Nat.le_of_mul_le_mul_left h1 z
theorem parts_ge {n s : Nat} {w : Nat → Nat} (z : 0 < sm n w) : s ≤ sm n (fun e => s * w e / sm n w) + n := by
  have h1 : sm n (fun e => s * w e) ≤ sm n (fun e => sm n w * (s * w e / sm n w + 1)) := sm_mle fun e _ => by
    have := Nat.div_add_mod (s * w e) (sm n w)
    have := Nat.mod_lt (s * w e) z
    rw [Nat.mul_add]
    omega
  rw [sm_mul, sm_mul, Nat.mul_comm s, sm_pl, sm_con, Nat.mul_one] at h1
  exact Nat.le_of_mul_le_mul_left h1 z
/-! CHANCES: what every sum of ends keeps -/
def soN (V : NV) : Nat := V 16 + V 17 + V 18 + V 19
/-- D: the draws; s: the share -/
def CN (D : Nat) (V : NV) (s : Nat) : Prop := soN V ≤ s ∧ (∀ i, i < 16 → V i ≤ soN V) ∧ soN V ≤ V 20 ∧ V 20 ≤ D * s ∧ sm 16 V ≤ V 20 ∧ (D = 1 → sm 16 V = V 20 ∧ V 20 = soN V)
theorem CN_0 {D s : Nat} : CN D (fun _ => 0) s := ⟨Nat.zero_le _, fun _ _ => Nat.zero_le _, Nat.le_refl _, Nat.zero_le _, Nat.le_of_eq sm_z, fun _ => ⟨sm_z, rfl⟩⟩
theorem CN_s {D s s' : Nat} {V : NV} (h : CN D V s) (hs : s ≤ s') : CN D V s' := ⟨Nat.le_trans h.1 hs, h.2.1, h.2.2.1, Nat.le_trans h.2.2.2.1 (Nat.mul_le_mul_left _ hs), h.2.2.2.2⟩
theorem CN_A {D a b : Nat} {V U : NV} (h : CN D V a) (h' : CN D U b) : CN D (fun i => V i + U i) (a + b) := by
  obtain ⟨h1, h2, h3, h4, h5, h6⟩ := h
  obtain ⟨k1, k2, k3, k4, k5, k6⟩ := h'
  have e : soN (fun i => V i + U i) = soN V + soN U := by unfold soN; dsimp only; omega
  refine ⟨by omega, fun i hi => ?_, ?_, ?_, ?_, fun hD => ?_⟩
  · have := h2 i hi; have := k2 i hi; dsimp only; omega
  · rw [e]; dsimp only; omega
  · rw [Nat.mul_add]; dsimp only; omega
  · rw [sm_pl]; dsimp only; omega
  · have a1 := h6 hD
    have a2 := k6 hD
    rw [sm_pl, e]; dsimp only; omega
theorem CN_sm {D : Nat} {F : Nat → NV} {p : Nat → Nat} : ∀ n, (∀ e, e < n → CN D (F e) (p e)) → CN D (fun i => sm n (fun e => F e i)) (sm n p) := by
  intro n
  induction n with
  | zero => intro _; exact CN_0
  | succ n ih => intro h; exact CN_A (ih fun e he => h e (by omega)) (h n (by omega))
/-- what was found fits what the draws brought -/
def JW (n w0 w1 fd : Nat) : Prop := w0 ≤ 16 ∧ w1 ≤ 16 ∧ fd ≤ 4 ∧ (fd = 0 → (1 ≤ n → w0 = 0) ∧ (2 ≤ n → w1 = 0)) ∧ (fd ≠ 0 → (1 ≤ n ∧ w0 ≠ 0) ∨ (2 ≤ n ∧ w1 ≠ 0))
theorem CN_end {D w0 w1 fd s : Nat} (hD : D = 1 ∨ D = 2) (h : JW D w0 w1 fd) : CN D (nEnd D w0 w1 fd s) s := by
  obtain ⟨h0, h1, h2, h3, h4⟩ := h
  have hf : ∀ i, i < 16 → (if fd = 0 then (fun _ => 0 : NV) else nOne (16 + (fd - 1)) s) i = 0 := by
    intro i hi
    split
    · rfl
    · exact if_neg (by omega)
  have hf20 : (if fd = 0 then (fun _ => 0 : NV) else nOne (16 + (fd - 1)) s) 20 = 0 := by
    split
    · rfl
    · exact if_neg (by omega)
  have hfs : soN (if fd = 0 then (fun _ => 0 : NV) else nOne (16 + (fd - 1)) s) = if fd = 0 then 0 else s := by
    by_cases z : fd = 0
    · rw [if_pos z, if_pos z]; rfl
    · rw [if_neg z, if_neg z]
      have e : fd = 1 ∨ fd = 2 ∨ fd = 3 ∨ fd = 4 := by omega
      unfold soN nOne
      rcases e with rfl | rfl | rfl | rfl <;> simp
  have hw : ∀ w b, w ≤ 16 → (∀ i, i < 16 → nW w b s i = if b = true ∧ i + 1 = w then s else 0) ∧ nW w b s 20 = (if w = 0 then 0 else s) ∧ soN (nW w b s) = 0 ∧ sm 16 (nW w b s) = if b = true ∧ w ≠ 0 then s else 0 := by
    intro w b hw
    unfold nW
    by_cases z : w = 0
    · subst z
      rw [if_pos rfl, if_pos rfl]
      exact ⟨fun i _ => (if_neg (by omega)).symm, rfl, rfl, sm_z.trans (if_neg (fun q => q.2 rfl)).symm⟩
    · rw [if_neg z, if_neg z]
      cases b with
      | false =>
        refine ⟨fun i hi => ?_, ?_, ?_, ?_⟩
        · show nOne 20 s i + 0 = _
          rw [if_neg (fun q => nomatch q.1)]
          exact if_neg (by omega)
        · show nOne 20 s 20 + 0 = s
          unfold nOne; rw [if_pos rfl]; rfl
        · unfold soN nOne; simp
        · refine Eq.trans ((sm_c fun i hi => ?_).trans sm_z) (if_neg (fun q => nomatch q.1)).symm
          show nOne 20 s i + 0 = 0
          exact if_neg (by omega)
      | true =>
        refine ⟨fun i hi => ?_, ?_, ?_, ?_⟩
        · show nOne 20 s i + nOne (w - 1) s i = _
          unfold nOne
          rw [if_neg (by omega), Nat.zero_add]
          by_cases y : i + 1 = w
          · rw [if_pos (by omega), if_pos ⟨rfl, y⟩]
          · rw [if_neg (by omega), if_neg (fun q => y q.2)]
        · show nOne 20 s 20 + nOne (w - 1) s 20 = s
          unfold nOne
          rw [if_pos rfl, if_neg (by omega)]; rfl
        · show (nOne 20 s 16 + nOne (w - 1) s 16) + (nOne 20 s 17 + nOne (w - 1) s 17) + (nOne 20 s 18 + nOne (w - 1) s 18) + (nOne 20 s 19 + nOne (w - 1) s 19) = 0
          unfold nOne
          simp (disch := omega) only [if_neg]
        · refine Eq.trans ?_ (if_pos ⟨rfl, z⟩).symm
          have e : sm 16 (fun i => nOne 20 s i + nOne (w - 1) s i) = sm 16 (nOne 20 s) + sm 16 (nOne (w - 1) s) := sm_pl
          have e2 : sm 16 (fun i => nOne 20 s i + (if true = true then nOne (w - 1) s else fun _ => 0) i) = s := by
            rw [if_pos rfl, e, sm_one, sm_one, if_neg (by omega), if_pos (by omega), Nat.zero_add]
          exact e2
  rcases hD with rfl | rfl
  · have e : nEnd 1 w0 w1 fd s = fun i => nW w0 true s i + (0 + (if fd = 0 then (fun _ => 0 : NV) else nOne (16 + (fd - 1)) s) i) := by
      funext i
      unfold nEnd
      rw [if_pos (Nat.le_refl 1), if_neg (by omega)]
    rw [e]
    obtain ⟨a1, a2, a3, a4⟩ := hw w0 true h0
    have hso : soN (fun i => nW w0 true s i + (0 + (if fd = 0 then (fun _ => 0 : NV) else nOne (16 + (fd - 1)) s) i)) = if fd = 0 then 0 else s := by
      rw [← hfs]
      unfold soN at a3 ⊢
      dsimp only
      omega
    have hsm : sm 16 (fun i => nW w0 true s i + (0 + (if fd = 0 then (fun _ => 0 : NV) else nOne (16 + (fd - 1)) s) i)) = if w0 = 0 then 0 else s := by
      rw [sm_c (f' := nW w0 true s) (fun i hi => by rw [hf i hi]; omega), a4]
      by_cases z : w0 = 0
      · rw [if_neg (fun q => q.2 z), if_pos z]
      · rw [if_pos ⟨rfl, z⟩, if_neg z]
    have hfw : (fd = 0) ↔ (w0 = 0) := ⟨fun q => (h3 q).1 (Nat.le_refl 1), fun q => by
      by_cases z : fd = 0
      · exact z
      · rcases h4 z with ⟨_, y⟩ | ⟨y, _⟩
        · exact absurd q y
        · omega⟩
    refine ⟨?_, fun i hi => ?_, ?_, ?_, ?_, fun _ => ⟨?_, ?_⟩⟩
    · rw [hso]; split <;> omega
    · rw [hso]
      dsimp only
      rw [hf i hi, a1 i hi]
      by_cases z : i + 1 = w0
      · rw [if_pos ⟨rfl, z⟩, if_neg (fun q => by have := hfw.mp q; omega)]; omega
      · rw [if_neg (fun q => z q.2)]; omega
    · rw [hso]
      dsimp only
      rw [a2, hf20]
      by_cases z : fd = 0
      · rw [if_pos z]; omega
      · rw [if_neg z, if_neg (fun q => z (hfw.mpr q))]; omega
    · dsimp only
      rw [a2, hf20]
      split <;> omega
    · rw [hsm]
      dsimp only
      rw [a2, hf20]
      omega
    · rw [hsm]
      dsimp only
      rw [a2, hf20]
      omega
    · rw [hso]
      dsimp only
      rw [a2, hf20]
      by_cases z : fd = 0
      · rw [if_pos z, if_pos (hfw.mp z)]
      · rw [if_neg z, if_neg (fun q => z (hfw.mpr q))]; omega
  · have e : nEnd 2 w0 w1 fd s = fun i => nW w0 true s i + (nW w1 (decide (w0 ≠ w1)) s i + (if fd = 0 then (fun _ => 0 : NV) else nOne (16 + (fd - 1)) s) i) := by
      funext i
      unfold nEnd
      rw [if_pos (show 1 ≤ 2 by omega), if_pos (Nat.le_refl 2)]
    rw [e]
    obtain ⟨a1, a2, a3, a4⟩ := hw w0 true h0
    obtain ⟨b1, b2, b3, b4⟩ := hw w1 (decide (w0 ≠ w1)) h1
    have hso : soN (fun i => nW w0 true s i + (nW w1 (decide (w0 ≠ w1)) s i + (if fd = 0 then (fun _ => 0 : NV) else nOne (16 + (fd - 1)) s) i)) = if fd = 0 then 0 else s := by
      rw [← hfs]
      unfold soN at a3 b3 ⊢
      dsimp only
      omega
    have hsm : sm 16 (fun i => nW w0 true s i + (nW w1 (decide (w0 ≠ w1)) s i + (if fd = 0 then (fun _ => 0 : NV) else nOne (16 + (fd - 1)) s) i)) ≤ (if w0 = 0 then 0 else s) + (if w1 = 0 then 0 else s) := by
      rw [sm_c (f' := fun i => nW w0 true s i + nW w1 (decide (w0 ≠ w1)) s i) (fun i hi => by rw [hf i hi]; omega), sm_pl, a4, b4]
      have c1 : (if true = true ∧ w0 ≠ 0 then s else 0) ≤ if w0 = 0 then 0 else s := by
        by_cases z : w0 = 0
        · rw [if_neg (fun q => q.2 z)]; omega
        · rw [if_pos ⟨rfl, z⟩, if_neg z]; omega
      have c2 : (if decide (w0 ≠ w1) = true ∧ w1 ≠ 0 then s else 0) ≤ if w1 = 0 then 0 else s := by
        by_cases z : w1 = 0
        · rw [if_neg (fun q => q.2 z)]; omega
        · rw [if_neg z]; split <;> omega
      omega
    have hfw : (fd = 0) → w0 = 0 ∧ w1 = 0 := fun q => ⟨(h3 q).1 (by omega), (h3 q).2 (by omega)⟩
    have hfw2 : fd ≠ 0 → w0 ≠ 0 ∨ w1 ≠ 0 := fun q => by
      rcases h4 q with ⟨_, y⟩ | ⟨_, y⟩
      · exact .inl y
      · exact .inr y
    refine ⟨?_, fun i hi => ?_, ?_, ?_, ?_, fun q => by omega⟩
    · rw [hso]; split <;> omega
    · rw [hso]
      dsimp only
      rw [hf i hi, a1 i hi, b1 i hi]
      by_cases z : fd = 0
      · have := hfw z
        rw [if_neg (fun q => by omega), if_neg (fun q => by omega)]; omega
      · rw [if_neg z]
        by_cases y : i + 1 = w0
        · rw [if_pos ⟨rfl, y⟩, if_neg (fun q => by have := of_decide_eq_true q.1; omega)]; omega
        · rw [if_neg (fun q => y q.2)]
          split <;> omega
    · rw [hso]
      dsimp only
      rw [a2, b2, hf20]
      by_cases z : fd = 0
      · rw [if_pos z]; omega
      · rw [if_neg z]
        rcases hfw2 z with y | y
        · rw [if_neg y]; omega
        · rw [if_neg y]; omega
    · dsimp only
      rw [a2, b2, hf20]
      have c1 : (if w0 = 0 then 0 else s) ≤ s := by split <;> omega
      have c2 : (if w1 = 0 then 0 else s) ≤ s := by split <;> omega
      omega
    · dsimp only
      rw [a2, b2, hf20]
      omega
theorem CN_V {D : Nat} {g : GS} {W : Nat → Nat → Nat} {K : SP → SP → Nat → Nat → Nat → NV} (hv : TV g) (hK : ∀ sp gr fd w s, 1 ≤ fd → fd ≤ 4 → 1 ≤ w → w ≤ 16 → CN D (K sp gr fd w s) s) : ∀ f t sp gr fd s, t < 3 → fd ≤ 4 → CN D (nV g W K f t sp gr fd s) s := by
  intro f
  induction f with
  | zero => intro t sp gr fd s _ _; exact CN_0
  | succ f ih =>
    intro t sp gr fd s ht hfd
    have e : nV g W K (f + 1) t sp gr fd s = fun i => sm (g (3 + t)) (fun e => nH g W K (nV g W K f) t sp gr fd s e i) := funext fun i => nV_sm
    rw [e]
    refine CN_s (CN_sm (p := fun e => s * W t e / sm (g (3 + t)) (W t)) (g (3 + t)) fun e he => ?_) parts_le
    have hE := hv.2.2 t e ht he
    unfold nH
    split
    · exact CN_0
    · split
      · rename_i h16
        have := hE.2.1 h16
        exact hK _ _ _ _ _ (by omega) (by omega) (by omega) (by omega)
      · rename_i h16
        have := hE.1
        exact ih _ _ _ _ _ (by omega) hfd
theorem CN_G {D top : Nat} {g : GS} (hv : TV g) (ht : top < 3) (hD : D = 1 ∨ D = 2) : ∀ r n w0 w1 sp gr fd s, n + r = D → JW n w0 w1 fd → CN D (nG g top r n w0 w1 sp gr fd s) s := by
  intro r
  induction r with
  | zero =>
    intro n w0 w1 sp gr fd s hn hj
    have : n = D := by omega
    subst this
    exact CN_end hD hj
  | succ r ih =>
    intro n w0 w1 sp gr fd s hn hj
    obtain ⟨j1, j2, j3, j4, j5⟩ := hj
    unfold nG
    split
    · refine CN_V hv (fun sp' gr' fd' w s' q1 q2 q3 q4 => ih _ _ _ _ _ _ _ (by omega) ⟨?_, ?_, q2, fun q => by omega, fun _ => ?_⟩) 3 top sp gr fd s ht j3
      · split <;> omega
      · split <;> omega
      · by_cases z : n = 0
        · subst z; rw [if_pos rfl]; exact .inl ⟨by omega, by omega⟩
        · rw [if_neg z, if_neg z]; exact .inr ⟨by omega, by omega⟩
    · refine ih _ _ _ _ _ _ _ (by omega) ⟨?_, ?_, j3, fun q => ⟨fun _ => ?_, fun _ => ?_⟩, fun q => ?_⟩
      · split <;> omega
      · split <;> omega
      · by_cases z : n = 0
        · rw [if_pos z]
        · rw [if_neg z]; exact (j4 q).1 (by omega)
      · by_cases z : n = 0
        · omega
        · rw [if_neg z]
      · rcases j5 q with ⟨a, b⟩ | ⟨a, b⟩
        · rw [if_neg (show n ≠ 0 by omega)]; exact .inl ⟨by omega, b⟩
        · omega
theorem CN_ch {g : GS} {top : Nat} (hv : TV g) (ht : top < 3) : CN (g top) (chN g top) 1000000000 := by
  have := hv.1 top ht
  exact CN_G hv ht (by omega) (g top) 0 0 0 (spG g) noG 0 1000000000 (by omega) ⟨by omega, by omega, by omega, fun _ => ⟨fun _ => rfl, fun _ => rfl⟩, fun q => absurd rfl q⟩
/-! CHANCES: nothing can be drawn, and what is wanted is found -/
theorem no_ch {g : GS} {top : Nat} (hv : TV g) (ht : top < 3) (h : fs g top = 0) : chN g top 20 = 0 := by
  have hd := hv.1 top ht
  have h' : sw g (wq g (spG g) noG 0 top) (spG g) noG top = 0 := h
  unfold chN
  have e : g top = 1 ∨ g top = 2 := by omega
  have e1 : ∀ r n w0 w1, nG g top (r + 1) n w0 w1 (spG g) noG 0 1000000000 = nG g top r (n + 1) (if n = 0 then 0 else w0) (if n = 0 then w1 else 0) (spG g) noG 0 1000000000 := fun r n w0 w1 => if_neg (by omega)
  rcases e with e | e
  · rw [e, e1]; rfl
  · rw [e, e1, e1]; rfl
/-- what rounding takes from a draw, c behind it -/
def hL : Nat → Nat → Nat
  | 0, c => c
  | f + 1, c => 6 + 6 * hL f c
theorem hL_c {c : Nat} : ∀ f, c ≤ hL f c := by
  intro f
  induction f with
  | zero => exact Nat.le_refl _
  | succ f ih =>
    have : hL (f + 1) c = 6 + 6 * hL f c := rfl
    omega
theorem raN_sm {q n : Nat} {F : Nat → NV} : raN (fun i => sm n (fun e => F e i)) q = sm n (fun e => raN (F e) q) := by
  unfold raN
  exact sm_sw
theorem raN_V {q c : Nat} {g : GS} {W : Nat → Nat → Nat} {K : SP → SP → Nat → Nat → Nat → NV} (hv : TV g) (hci : CI2 W g) (fd : Nat) (hfd : fd ≤ 4) (hq : q < fd ∨ ∀ t, t < 3 → ∀ e, e < g (3 + t) → 0 < W t e → g (cl t e 0) < 16 → q ≤ g (cl t e 2)) (hK : ∀ sp gr fd' w s, q < fd' → fd' ≤ 4 → s ≤ raN (K sp gr fd' w s) q + c) : ∀ f t sp gr s, t < 3 → 3 ≤ t + f → 0 < sm (g (3 + t)) (W t) → s ≤ raN (nV g W K f t sp gr fd s) q + hL f c := by
  intro f
  induction f with
  | zero => intro t sp gr s ht htf; omega
  | succ f ih =>
    intro t sp gr s ht htf hpos
    have hcn := hv.2.1 t ht
    have e : nV g W K (f + 1) t sp gr fd s = fun i => sm (g (3 + t)) (fun e => nH g W K (nV g W K f) t sp gr fd s e i) := funext fun i => nV_sm
    rw [e, raN_sm]
    have h1 := parts_ge (s := s) hpos
    have h2 : sm (g (3 + t)) (fun e => s * W t e / sm (g (3 + t)) (W t)) ≤ sm (g (3 + t)) (fun e => raN (nH g W K (nV g W K f) t sp gr fd s e) q + hL f c) := by
      refine sm_mle fun e he => ?_
      have hE := hv.2.2 t e ht he
      unfold nH
      by_cases hw : W t e = 0
      · rw [if_pos hw, hw, Nat.mul_zero, Nat.zero_div]; omega
      · rw [if_neg hw]
        by_cases h16 : g (cl t e 0) < 16
        · rw [if_pos h16]
          have h3 := hE.2.1 h16
          have := hK (spW g sp t e) (grW gr t (g (cl t e 3))) (max fd (g (cl t e 2) + 1)) (g (cl t e 0) + 1) (s * W t e / sm (g (3 + t)) (W t)) (by
            rcases hq with z | z
            · omega
            · have := z t ht e he (by omega) h16
              omega) (by omega)
          have := hL_c (c := c) f
          omega
        · rw [if_neg h16]
          have h3 := hE.2.2.1 (by omega)
          have h4 := hE.1
          exact ih _ _ _ _ (by omega) (by omega) ((hci t ht e he).2 (by omega) (by omega))
    rw [sm_pl, sm_con] at h2
    have h3 : g (3 + t) * hL f c ≤ 6 * hL f c := Nat.mul_le_mul_right _ hcn
    have h4 : hL (f + 1) c = 6 + 6 * hL f c := rfl
    omega
theorem raN_end {D w0 w1 fd s q : Nat} (h : q < fd) (h4 : fd ≤ 4) : s ≤ raN (nEnd D w0 w1 fd s) q := by
  have e : ∀ i, nOne (16 + (fd - 1)) s i ≤ nEnd D w0 w1 fd s i := by
    intro i
    unfold nEnd
    rw [if_neg (show ¬ fd = 0 by omega)]
    omega
  have h1 := sm_split (n := 4 - q) (f := fun i => nEnd D w0 w1 fd s (16 + q + i)) (i := fd - 1 - q) (by omega)
  have h2 := e (16 + q + (fd - 1 - q))
  have h3 : nOne (16 + (fd - 1)) s (16 + q + (fd - 1 - q)) = s := if_pos (by omega)
  unfold raN
  omega
theorem raN_G {g : GS} {top q : Nat} (hv : TV g) (hl : LV g) (ht : top < 3) : ∀ r n w0 w1 sp gr fd s, r ≤ 1 → q < fd → fd ≤ 4 → s ≤ raN (nG g top r n w0 w1 sp gr fd s) q + 258 * r := by
  intro r
  induction r with
  | zero =>
    intro n w0 w1 sp gr fd s _ h1 h2
    have := raN_end (D := n) (w0 := w0) (w1 := w1) (s := s) h1 h2
    exact Nat.le_trans this (Nat.le_add_right _ _)
  | succ r ih =>
    intro n w0 w1 sp gr fd s hr h1 h2
    have hr0 : r = 0 := by omega
    subst hr0
    unfold nG
    split
    · rename_i hpos
      have := raN_V (q := q) (c := 0) (K := fun sp' gr' fd' w s' => nG g top 0 (n + 1) (if n = 0 then w else w0) (if n = 0 then w1 else w) sp' gr' fd' s') hv (CI2_wt (q := wq g sp gr fd top) (sp := sp) (gr := gr) hv hl) fd h2 (.inl h1) (fun sp' gr' fd' w s' a1 a2 => by
        have := ih (n + 1) (if n = 0 then w else w0) (if n = 0 then w1 else w) sp' gr' fd' s' (by omega) a1 a2
        omega) 3 top sp gr s ht (by omega) hpos
      have e : hL 3 0 = 258 := rfl
      omega
    · have := ih (n + 1) (if n = 0 then 0 else w0) (if n = 0 then w1 else 0) sp gr fd s (by omega) h1 h2
      omega
/-- what is wanted is found, but for what rounding takes -/
theorem raN_ch {g : GS} {top : Nat} (hv : TV g) (hl : LV g) (ht : top < 3) (hq : 0 < fq g top) : 999000000 ≤ raN (chN g top) (fq g top) := by
  have hd := hv.1 top ht
  have hb := wq_b g (spG g) noG 0 top
  have hpos : 0 < sw g (fq g top) (spG g) noG top := by
    refine (sw_p hv hl ht).mpr ?_
    unfold fq wq at hq ⊢
    split
    · rename_i h
      simp only [Bool.and_eq_true] at h
      exact h.2
    · rename_i h3
      rw [if_neg h3] at hq
      split
      · rename_i h
        simp only [Bool.and_eq_true] at h
        exact h.2
      · rename_i h2
        rw [if_neg h2] at hq
        split
        · rename_i h
          simp only [Bool.and_eq_true] at h
          exact h.2
        · rename_i h1
          rw [if_neg h1] at hq
          omega
  obtain ⟨r, hr⟩ : ∃ r, g top = r + 1 := ⟨g top - 1, by omega⟩
  unfold chN
  rw [hr]
  have e1 : nG g top (r + 1) 0 0 0 (spG g) noG 0 1000000000 = nV g (wt g (fq g top) (spG g) noG) (fun sp' gr' fd' w s' => nG g top r (0 + 1) (if 0 = 0 then w else 0) (if 0 = 0 then 0 else w) sp' gr' fd' s') 3 top (spG g) noG 0 1000000000 := if_pos hpos
  rw [e1]
  have := raN_V (q := fq g top) (c := 258 * r) (W := wt g (fq g top) (spG g) noG) (K := fun sp' gr' fd' w s' => nG g top r (0 + 1) (if 0 = 0 then w else 0) (if 0 = 0 then 0 else w) sp' gr' fd' s') hv (CI2_wt hv hl) 0 (by omega) (.inr (fun t ht e he hp h16 => by
    have hcan := (wt_p hv hl ht he).mp hp
    unfold can ca at hcan
    have h4 := ((Bool.and_eq_true _ _).mp hcan).2
    rw [if_pos h16] at h4
    exact of_decide_eq_true h4)) (fun sp' gr' fd' w s' a1 a2 => raN_G hv hl ht r _ _ _ _ _ _ _ (by omega) a1 a2) 3 top (spG g) noG 1000000000 ht (by omega) hpos
  have e2 : hL 3 (258 * r) = 6 + 6 * (6 + 6 * (6 + 6 * (258 * r))) := rfl
  omega
