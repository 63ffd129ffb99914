/-! SOUND, fifth part: contracts out of the abstract interpreter -/
abbrev AL (L0 : Nat) : Nat → Prop := fun q => L0 ≤ q
/-- the memory lies in the heap -/
def WD (D : va_G) (cy : CY) (L0 : Nat) (x0 : XX) (ad : Nat → Nat) (M : MM) (H : Heap) : Prop :=
  va_P D vwCl (wl cy ad M.1 M.2.1 M.2.2.1) H ∧ va_D (AL L0) (wl cy ad M.1 M.2.1 M.2.2.1) ∧ wf M.1 ∧ M.1.1 0 = (30, x0.2.1) ∧ ad 0 = x0.1 ∧ M.2.1 0 = x0.2.2
theorem WD.kept {D : va_G} {cy : CY} {L0 : Nat} {x0 : XX} {ad : Nat → Nat} {M : MM} {H H1 : Heap} (h : WD D cy L0 x0 ad M H) (hq : ∀ q : Nat, q < H.size → H1[q]? = H[q]?) : WD D cy L0 x0 ad M H1 :=
  ⟨h.1.kept (fun k q hk => hq q.1 (h.1 k q hk).lt), h.2⟩
/-- how a method ends: with the interpreter's answer and memory -/
def QC (D : va_G) (cy : CY) (L0 : Nat) (x0 : XX) (adE : Nat → Nat) (mE : Nat) (r : RV × MM) : Array Value → State → Outcome → State → Prop := fun _ st oc t =>
  ∃ (v : Option Value) (ad1 : Nat → Nat), r.1 = .inl v ∧ (∀ k, k ≤ mE → ad1 k = adE k) ∧ oc = .returned (v.map (conc ad1)) ∧ WD D cy L0 x0 ad1 r.2 t.heap ∧ (∀ z, v = some z → vk r.2.1 z) ∧ va_F (AL L0) st t
def XC (D : va_G) (cy : CY) (L0 : Nat) (x0 : XX) (adE : Nat → Nat) (mE : Nat) (r : RV × MM) : String → State → State → Prop := fun E st t =>
  ∃ (e : Nat) (ad1 : Nat → Nat), r.1 = .inr e ∧ e < 3 ∧ E = xcN e ∧ (∀ k, k ≤ mE → ad1 k = adE k) ∧ WD D cy L0 x0 ad1 r.2 t.heap ∧ va_F (AL L0) st t
def cword (mi : Nat) : Cond := match (mG mi).2.2.2.2 with
  | [] => .code (mG mi).1 (mG mi).2.1 (mL mi) (mG mi).2.2.2.1
  | hh => .codeWith (mG mi).1 (mG mi).2.1 (mL mi) (mG mi).2.2.2.1 hh
theorem mw_spec {mi : Nat} (h : mwB mi = true) : cword mi ∈ GT ∧ (Cond.initialized (mG mi).1.cls) ∈ GT ∧ (mG mi).1.cls = cn (mO mi) ∧ plainFor (mG mi).1 = true ∧ (mG mi).2.2.1 = mL mi := by
  unfold mwB at h
  split at h
  · rename_i p1 p2 p3 p4 hm
    simp only [Bool.and_eq_true, decide_eq_true_eq] at h
    obtain ⟨⟨⟨⟨h1, h2⟩, h3⟩, h4⟩, h5⟩ := h
    refine ⟨?_, mem_GT1 h2 rfl, h3, h4, h5⟩
    unfold cword
    split at h1
    · rename_i hh
      rw [hh]
      exact mem_GT1 (of_decide_eq_true h1) rfl
    · rename_i hh hne
      have := of_decide_eq_true h1
      split
      · rename_i q; exact absurd q hne
      · exact mem_GT1 this rfl
  · cases h
theorem cword_spec {mi : Nat} {args : Array Value} {s : State} (h : (cword mi).before args s = true) : ∃ (mk : MethodId) (meth : Method) (c : Code), s.methodNamed? (mG mi).1 = some mk ∧ s.vm.method? mk = some meth ∧ meth.code = some c ∧ c.code = (mG mi).2.1 ∧ c.maxLocals = mL mi ∧ meth.sig.returnType = (mG mi).2.2.2.1 ∧ meth.locks = false ∧ c.exceptionTable.toList = tableOf (mG mi).2.2.2.2 ∧ parseMethodDescriptor (mG mi).1.desc = some meth.sig := by
  unfold cword at h
  split at h
  · rename_i hh
    obtain ⟨mk, hn⟩ := Cond.code_named h
    obtain ⟨meth, c, h1, h2, h3, h4, h5, h6, h7, h8⟩ := Cond.code_spec hn h
    refine ⟨mk, meth, c, hn, h1, h2, h3, h4, h5, h6, ?_, h8⟩
    rw [hh, Array.isEmpty_iff.mp h7]; rfl
  · obtain ⟨m9, meth9, c9, hn9, h1, h2, h3, h4, h6, h7, h8, h9⟩ := Cond.codeWith_spec h
    refine ⟨m9, meth9, c9, hn9, h1, h2, h3, h4, h7, h8, ?_, h9⟩
    rw [← h6, table_eq]
theorem cword_good (mi : Nat) : goodWord (cword mi) = true := by
  unfold cword
  split <;> rfl
/-- the locals at a method's entry -/
theorem lay_args (ad : Nat → Nat) : ∀ (as : List Value) (off i : Nat) (v : Value), gl (lay as) i = some v → (∀ a, v ≠ .retAddr a) → (off + i, conc ad v) ∈ lv_args off (cv ad as) := by
  intro as
  induction as with
  | nil => intro off i v h; cases i <;> cases h
  | cons a r ih =>
    intro off i v h hu
    unfold lay at h
    show (off + i, conc ad v) ∈ (off, conc ad a) :: lv_args (if (conc ad a).category = 2 then off + 2 else off + 1) (cv ad r)
    rw [conc_cat]
    split at h
    · rename_i hc
      rw [if_pos hc]
      match i, h with
      | 0, h => cases h; exact List.mem_cons_self
      | 1, h => cases h; exact absurd rfl (hu 0)
      | n + 2, h => exact List.mem_cons_of_mem _ (by rw [show off + (n + 2) = off + 2 + n by omega]; exact ih _ n v h hu)
    · rename_i hc
      rw [if_neg hc]
      match i, h with
      | 0, h => cases h; exact List.mem_cons_self
      | n + 1, h => exact List.mem_cons_of_mem _ (by rw [show off + (n + 1) = off + 1 + n by omega]; exact ih _ n v h hu)
theorem lay_len (ad : Nat → Nat) : ∀ as : List Value, (lay as).length = (lg_sl (cv ad as)).length := by
  intro as
  induction as with
  | nil => rfl
  | cons a r ih =>
    unfold lay lg_sl
    show _ = ((conc ad a :: cv ad r).flatMap fun v => if v.category = 2 then [Slot.val v, .second] else [.val v]).length
    rw [List.flatMap_cons, List.length_append, conc_cat]
    have e : (List.flatMap (fun v => if v.category = 2 then [Slot.val v, Slot.second] else [Slot.val v]) (cv ad r)).length = (lay r).length := ih.symm
    rw [e]
    split
    · simp only [List.length_cons, List.length_nil]; omega
    · simp only [List.length_cons, List.length_nil]; omega
theorem gl_app_r : ∀ (a b : List Value) (i : Nat), a.length ≤ i → gl (a ++ b) i = gl b (i - a.length) := by
  intro a b i h
  rw [gl_eq, gl_eq, List.getElem?_append_right h]
theorem ent_lh {mj : Nat} {ad : Nat → Nat} {as : List Value} (h : ¬ mL mj < (lay as).length) : lh ((lg_sl (cv ad as) ++ List.replicate (mL mj - (lg_sl (cv ad as)).length) Slot.unset).toArray) (mL mj) ad (ent mj as) := by
  have hle : (lg_sl (cv ad as)).length ≤ mL mj := by rw [← lay_len]; omega
  have hv := lv_entry (cv ad as) hle
  refine ⟨hv.1, hv.2.1, ?_, fun i v hg hu => ?_⟩
  · unfold ent
    rw [List.length_append, List.length_replicate]; omega
  · unfold ent at hg
    by_cases hi : i < (lay as).length
    · rw [gl_eq, List.getElem?_append_left hi, ← gl_eq] at hg
      have := lay_args ad as 0 i v hg hu
      rw [Nat.zero_add] at this
      exact hv.2.2 _ this
    · rw [gl_app_r _ _ _ (by omega), gl_eq] at hg
      have := List.eq_of_mem_replicate (List.mem_of_getElem? hg)
      exact absurd this (hu 0)
theorem ent_vk {P : MP} {mj : Nat} {as : List Value} (h : ∀ v ∈ as, vk P v) : ∀ v ∈ ent mj as, vk P v := by
  have hl : ∀ as : List Value, (∀ v ∈ as, vk P v) → ∀ v ∈ lay as, vk P v := by
    intro as
    induction as with
    | nil => intro _ v hv; cases hv
    | cons a r ih =>
      intro h v hv
      have h2 := List.forall_mem_cons.mp h
      unfold lay at hv
      split at hv
      · rcases List.mem_cons.mp hv with rfl | hv
        · exact h2.1
        · rcases List.mem_cons.mp hv with rfl | hv
          · exact vk_u P
          · exact ih h2.2 v hv
      · rcases List.mem_cons.mp hv with rfl | hv
        · exact h2.1
        · exact ih h2.2 v hv
  intro v hv
  unfold ent at hv
  rcases List.mem_append.mp hv with hv | hv
  · exact hl as h v hv
  · rw [List.eq_of_mem_replicate hv]; exact vk_u P
/-- the words of a method: its code -/
def RMd (d mc ms : Nat) : Room := { frames := d + 8, cells := mc, slots := ms, locals := 64 * d + 128 }
/-- what is claimed of f steps -/
def SNDP (l : Launch) (f : Nat) : Prop := ∀ (d mi pc : Nat) (ls st : List Value) (P : MP) (I : MI) (L : ML) (C : MC) (r : RV × MM), ex f d mi (pc, ls, st) (P, I, L, C) = some r → mi < 227 →
  ∀ {p : Program} {e : Env} {R : Room} {s : State} {m : MethodId} {args : Array Value} {below : List Frame} {meth : Method} {c : Code} {H : Heap} {locs : List Loc} {cells slots : Nat} {D : va_G} {cy : CY} {L0 : Nat} {x0 : XX} {ad adE : Nat → Nat} {lsA : Array Slot} {mE mc ms : Nat},
    FO p s m meth c mi → SV D cy s → SH L0 x0 s s.heap → IV D cy L0 x0 s mi ad P I L ls st lsA H locs → (∀ k, k ≤ mE → ad k = adE k) → mE ≤ P.2.2 → cells + r.2.2.2.2.1 ≤ mc + C.1 → slots + r.2.2.2.2.2 ≤ ms + C.2 → mc ≤ R.cells → ms ≤ R.slots → d + 8 ≤ R.frames → 64 * d + 128 ≤ R.locals →
    W p l e R s m args below meth c H locs cells slots (vx_MQ below (QC D cy L0 x0 adE mE r) (XC D cy L0 x0 adE mE r) args s mc ms (AL L0)) (F0 m pc lsA (cv ad st))
def PCm (D : va_G) (cy : CY) (L0 : Nat) (x0 : XX) (ad : Nat → Nat) (M : MM) : State → Prop := fun U => SV D cy U ∧ SH L0 x0 U U.heap ∧ WD D cy L0 x0 ad M U.heap
theorem met_of {l : Launch} {f d mj : Nat} (ih : SNDP l f) {as : List Value} {M : MM} {z : RV × MM} (he : ex f d mj (0, ent mj as, []) M = some z) (hlen : ¬ mL mj < (lay as).length) (hmj : mj < 226) (hw : mwB mj = true) (D : va_G) (cy : CY) (L0 : Nat) (x0 : XX) (ad : Nat → Nat) (has : ∀ v ∈ as, vk M.1 v) :
    vx_Met l (mG mj).1 [cword mj] (RMd d (z.2.2.2.2.1 - M.2.2.2.1) (z.2.2.2.2.2 - M.2.2.2.2)) (va_Pc (cv ad as) (PCm D cy L0 x0 ad M)) (QC D cy L0 x0 ad M.1.2.2 z) (XC D cy L0 x0 ad M.1.2.2 z) (z.2.2.2.2.1 - M.2.2.2.1) (z.2.2.2.2.2 - M.2.2.2.2) (AL L0) := by
  obtain ⟨w1, w2, w3, w4, w5⟩ := mw_spec hw
  refine MetFree.of_bodySF (code := (mG mj).2.1) (maxLocals := mL mj) (ret := (mG mj).2.2.2.1) w4 ?_ ?_
  · intro args s m h hn
    obtain ⟨mk, meth, c, hn', h1, h2, h3, h4, h5, h6, -, -⟩ := cword_spec (atoms_spec (ws := [cword mj]) h _ List.mem_cons_self)
    cases hn.symm.trans hn'
    exact ⟨meth, c, h1, h2, h3, h4, h5, h6⟩
  · intro p e s m args below meth c s₁ B hml hP _
    obtain ⟨rfl, hsv, hsh, hwd⟩ := hP
    have hh0 : s₁.heap = s.heap := by rw [B.state]; rfl
    have hown : s.vm.findClass (cn (mO mj)) = some m.cls := w3 ▸ findClass_of_methodNamed B.named
    have ht : c.exceptionTable.toList = tableOf (mG mj).2.2.2.2 := by
      obtain ⟨mk, meth9, c9, hn9, h1, h2, -, -, -, -, h8, -⟩ := cword_spec (atoms_spec (ws := [cword mj]) B.pre _ List.mem_cons_self)
      cases Option.some.inj (hn9.symm.trans B.named)
      cases Option.some.inj (h1.symm.trans B.method)
      cases Option.some.inj (h2.symm.trans (Stand.of_body B).code)
      exact h8
    have hnm : meth.name = (mG mj).1.name := (name_of_methodNamed B.named B.method).1
    have hc := ex_ctr he
    have K : W p l e (RMd d (z.2.2.2.2.1 - M.2.2.2.1) (z.2.2.2.2.2 - M.2.2.2.2)) s m (cv ad as).toArray below meth c s.heap [] 0 0 (vx_MQ below (QC D cy L0 x0 ad M.1.2.2 z) (XC D cy L0 x0 ad M.1.2.2 z) (cv ad as).toArray s (z.2.2.2.2.1 - M.2.2.2.1) (z.2.2.2.2.2 - M.2.2.2.2) (AL L0)) (entryFrame m (cv ad as).toArray (mL mj)) := by
      rw [lg_entry_eq]
      refine ih d mj 0 (ent mj as) [] M.1 M.2.1 M.2.2.1 M.2.2.2 z he (by omega) ⟨B.exec, B.bytes, hml, B.returns, hown, B.notSynchronized, ht, hnm⟩ hsv hsh ⟨hwd.1, hwd.2.1, hwd.2.2.1, va_S.rf, ent_lh hlen, ent_vk has, fun v h => (nomatch h), hwd.2.2.2.1, hwd.2.2.2.2.1, hwd.2.2.2.2.2⟩ (fun _ _ => rfl) (Nat.le_refl _) (by omega) (by omega) (Nat.le_refl _) (Nat.le_refl _) (Nat.le_refl _) (Nat.le_refl _)
    obtain ⟨t, a1, o, b1, b2, b3⟩ := K s₁ hh0 (Stand.of_body B)
    exact ⟨t, o, a1, b1, b2, b3⟩
