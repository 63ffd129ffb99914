/-! SOUND, second part: what stays true of the tables; one step -/
def tw (w : Cond) : Bool := goodWord w || (match w with
  | .fieldLinkNest .. => true
  | .methodLinkNest .. => true
  | .castable .. => true
  | .declares _ => true
  | _ => false)
def GT : List Cond := lw_tbl.filter tw
theorem tw_moves {w : Cond} (h : tw w = true) {s U : State} (hW : s.WarmedH U.vm) {a a' : Array Value} (hb : w.before a s = true) : w.before a' U = true := by
  unfold tw at h
  rw [Bool.or_eq_true] at h
  rcases h with h | h
  · exact word_at hW (good_of_word h) hb
  · revert hb
    split at h
    · intro hb; exact va_Nw.use rfl (va_Nw.warmF hW (va_Nw.of rfl hb))
    · intro hb; exact va_Nw.use rfl (va_Nw.warmM hW (va_Nw.of rfl hb))
    · intro hb; exact va_Nw.use rfl (va_Nw.warmC hW (va_Nw.of rfl hb))
    · intro hb; exact va_Nw.use rfl (va_Nw.warmD hW (va_Nw.of rfl hb))
    · cases h
theorem mem_GT {i : Nat} {w : Cond} (h : lw_tbl[i]? = some w) (ht : tw w = true) : w ∈ GT := List.mem_filter.mpr ⟨List.mem_of_getElem? h, ht⟩
theorem mem_GT1 {i : Nat} {w : Cond} (h : tables_1[i]? = some w) (ht : tw w = true) : w ∈ GT := List.mem_filter.mpr ⟨List.mem_append_right _ (List.mem_of_getElem? h), ht⟩
def strT : List (Nat × String) := [(281, "no such table"), (290, "out of range"), (92, "a link leads to a higher table"), (106, "the table is full"), (284, "no such entry"), (288, "no such rarity"), (172, "the index is negative"), (286, "no such item"), (243, "the text is full"), (261, "no state is saved")]
abbrev XX : Type := Nat × Nat × (Nat → Int32)
def SV (D : va_G) (cy : CY) (U : State) : Prop := (∀ w ∈ GT, ∀ a : Array Value, w.before a U = true) ∧ va_K D vwCl [(cy.1, .int), (cy.2.1, .long), (cy.2.2.1, .byte), (cy.2.2.2, .object RX6)] U ∧ (∀ q ∈ strT, ∃ sa, vk_R RX9 q.1 q.2 sa U) ∧ (∀ i j, i < 3 → j < 3 → i ≠ j → va_Nc (xcN i) (xcN j) U) ∧ va_AO RX6 U
def SH (L0 : Nat) (x0 : XX) (U : State) (H : Heap) : Prop := vx_Zq Bundle.tN "UNASSIGNED_STACK" Bundle.steD (fun q => L0 ≤ q) U H ∧ vx_Zq Bundle.tN "SUPPRESSED_SENTINEL" Bundle.listD (fun q => L0 ≤ q) U H ∧ va_X x0.1 x0.2.1 x0.2.2 U H ∧ x0.1 < L0 ∧ L0 ≤ H.size
theorem SV_moves {D : va_G} {cy : CY} {s U : State} (hW : s.WarmedH U.vm) (h : SV D cy s) : SV D cy U :=
  ⟨fun w hw a => tw_moves (List.mem_filter.mp hw).2 hW (h.1 w hw #[]), va_K.moved hW.alike h.2.1, fun q hq => (h.2.2.1 q hq).imp fun _ z => vk_R.warm hW z, fun i j hi hj n => va_Nc.moved hW.alike (h.2.2.2.1 i j hi hj n), va_AO.moved hW.alike h.2.2.2.2⟩
theorem SH_moves {L0 : Nat} {x0 : XX} {s U : State} {H : Heap} {locs : List Loc} (hvm : s.vm.Alike U.vm) (hS : va_S (fun q => L0 ≤ q) s.heap H locs) (h : SH L0 x0 s s.heap) : SH L0 x0 U H :=
  ⟨vx_Zq.moved hvm (h.1.kept hS.2.1), vx_Zq.moved hvm (h.2.1.kept hS.2.1), va_X.moved hvm (h.2.2.1.kept (hS.2.1 _ (Nat.lt_of_lt_of_le h.2.2.2.1 h.2.2.2.2) (Nat.not_le.mpr h.2.2.2.1))), h.2.2.2.1, Nat.le_trans h.2.2.2.2 hS.1⟩
def FO (p : Program) (s : State) (m : MethodId) (meth : Method) (c : Code) (mi : Nat) : Prop := p.tables.exec = Jvm.exec ∧ c.code = (mG mi).2.1 ∧ c.maxLocals = mL mi ∧ meth.sig.returnType = (mG mi).2.2.2.1 ∧ s.vm.findClass (cn (mO mi)) = some m.cls ∧ meth.locks = false ∧ c.exceptionTable.toList = tableOf (mG mi).2.2.2.2 ∧ meth.name = (mG mi).1.name
def IV (D : va_G) (cy : CY) (L0 : Nat) (x0 : XX) (s : State) (mi : Nat) (ad : Nat → Nat) (P : MP) (I : MI) (L : ML) (ls st : List Value) (lsA : Array Slot) (H : Heap) (locs : List Loc) : Prop :=
  va_P D vwCl (wl cy ad P I L) H ∧ va_D (fun q => L0 ≤ q) (wl cy ad P I L) ∧ wf P ∧ va_S (fun q => L0 ≤ q) s.heap H locs ∧ lh lsA (mL mi) ad ls ∧ (∀ v ∈ ls, vk P v) ∧ (∀ v ∈ st, vk P v) ∧ P.1 0 = (30, x0.2.1) ∧ ad 0 = x0.1 ∧ I 0 = x0.2.2
theorem IV.stk {D : va_G} {cy : CY} {L0 : Nat} {x0 : XX} {s : State} {mi : Nat} {ad : Nat → Nat} {P : MP} {I : MI} {L : ML} {ls st st' : List Value} {lsA : Array Slot} {H : Heap} {locs : List Loc} (h : IV D cy L0 x0 s mi ad P I L ls st lsA H locs) (hv : ∀ v ∈ st', vk P v) : IV D cy L0 x0 s mi ad P I L ls st' lsA H locs :=
  ⟨h.1, h.2.1, h.2.2.1, h.2.2.2.1, h.2.2.2.2.1, h.2.2.2.2.2.1, hv, h.2.2.2.2.2.2.2⟩
theorem IV.loc {D : va_G} {cy : CY} {L0 : Nat} {x0 : XX} {s : State} {mi : Nat} {ad : Nat → Nat} {P : MP} {I : MI} {L : ML} {ls ls' st st' : List Value} {lsA lsA' : Array Slot} {H : Heap} {locs : List Loc} (h : IV D cy L0 x0 s mi ad P I L ls st lsA H locs) (hl : lh lsA' (mL mi) ad ls') (hw : ∀ v ∈ ls', vk P v) (hv : ∀ v ∈ st', vk P v) : IV D cy L0 x0 s mi ad P I L ls' st' lsA' H locs :=
  ⟨h.1, h.2.1, h.2.2.1, h.2.2.2.1, hl, hw, hv, h.2.2.2.2.2.2.2⟩

theorem ldI_inv {ls : List Value} {k pc : Nat} {st : List Value} {P : MP} {I : MI} {L : ML} {C : MC} {w} (h : ldI ls k pc st P I L C = some w) : ∃ v, gl ls k = some (.int v) ∧ w = .inl ((pc, ls, .int v :: st), (P, I, L, C)) := by
  unfold ldI at h
  split at h
  · rename_i v hg
    cases h
    exact ⟨v, hg, rfl⟩
  · cases h
theorem ldA_inv {ls : List Value} {k pc : Nat} {st : List Value} {P : MP} {I : MI} {L : ML} {C : MC} {w} (h : ldA ls k pc st P I L C = some w) : ∃ v, gl ls k = some (.ref v) ∧ w = .inl ((pc, ls, .ref v :: st), (P, I, L, C)) := by
  unfold ldA at h
  split at h
  · rename_i v hg
    cases h
    exact ⟨v, hg, rfl⟩
  · cases h
theorem ldL_inv {ls : List Value} {k pc : Nat} {st : List Value} {P : MP} {I : MI} {L : ML} {C : MC} {w} (h : ldL ls k pc st P I L C = some w) : ∃ v, gl ls k = some (.long v) ∧ w = .inl ((pc, ls, .long v :: st), (P, I, L, C)) := by
  unfold ldL at h
  split at h
  · rename_i v hg
    cases h
    exact ⟨v, hg, rfl⟩
  · cases h
theorem ldD_inv {ls : List Value} {k pc : Nat} {st : List Value} {P : MP} {I : MI} {L : ML} {C : MC} {w} (h : ldD ls k pc st P I L C = some w) : ∃ v, gl ls k = some (.double v) ∧ w = .inl ((pc, ls, .double v :: st), (P, I, L, C)) := by
  unfold ldD at h
  split at h
  · rename_i v hg
    cases h
    exact ⟨v, hg, rfl⟩
  · cases h
theorem stI_inv {ls : List Value} {k pc : Nat} {st : List Value} {P : MP} {I : MI} {L : ML} {C : MC} {w} (h : stI ls k pc st P I L C = some w) : ∃ v st', st = .int v :: st' ∧ w = .inl ((pc, s1 ls k (.int v), st'), (P, I, L, C)) := by
  unfold stI at h
  split at h
  · cases h
    exact ⟨_, _, rfl, rfl⟩
  · cases h
theorem stA_inv {ls : List Value} {k pc : Nat} {st : List Value} {P : MP} {I : MI} {L : ML} {C : MC} {w} (h : stA ls k pc st P I L C = some w) : ∃ v st', st = .ref v :: st' ∧ w = .inl ((pc, s1 ls k (.ref v), st'), (P, I, L, C)) := by
  unfold stA at h
  split at h
  · cases h
    exact ⟨_, _, rfl, rfl⟩
  · cases h
theorem stL_inv {ls : List Value} {k pc : Nat} {st : List Value} {P : MP} {I : MI} {L : ML} {C : MC} {w} (h : stL ls k pc st P I L C = some w) : ∃ v st', st = .long v :: st' ∧ w = .inl ((pc, s2 ls k (.long v), st'), (P, I, L, C)) := by
  unfold stL at h
  split at h
  · cases h
    exact ⟨_, _, rfl, rfl⟩
  · cases h
theorem stD_inv {ls : List Value} {k pc : Nat} {st : List Value} {P : MP} {I : MI} {L : ML} {C : MC} {w} (h : stD ls k pc st P I L C = some w) : ∃ v st', st = .double v :: st' ∧ w = .inl ((pc, s2 ls k (.double v), st'), (P, I, L, C)) := by
  unfold stD at h
  split at h
  · cases h
    exact ⟨_, _, rfl, rfl⟩
  · cases h
theorem o1I_inv {f : Int32 → Value} {pc : Nat} {ls st : List Value} {P : MP} {I : MI} {L : ML} {C : MC} {w} (h : o1I f pc ls st P I L C = some w) : ∃ x st', st = .int x :: st' ∧ w = .inl ((pc, ls, f x :: st'), (P, I, L, C)) := by
  unfold o1I at h
  split at h
  · cases h
    exact ⟨_, _, rfl, rfl⟩
  · cases h
theorem o2I_inv {f : Int32 → Int32 → Int32} {pc : Nat} {ls st : List Value} {P : MP} {I : MI} {L : ML} {C : MC} {w} (h : o2I f pc ls st P I L C = some w) : ∃ x y st', st = .int y :: .int x :: st' ∧ w = .inl ((pc, ls, .int (f x y) :: st'), (P, I, L, C)) := by
  unfold o2I at h
  split at h
  · cases h
    exact ⟨_, _, _, rfl, rfl⟩
  · cases h
theorem o2L_inv {f : Int64 → Int64 → Int64} {pc : Nat} {ls st : List Value} {P : MP} {I : MI} {L : ML} {C : MC} {w} (h : o2L f pc ls st P I L C = some w) : ∃ x y st', st = .long y :: .long x :: st' ∧ w = .inl ((pc, ls, .long (f x y) :: st'), (P, I, L, C)) := by
  unfold o2L at h
  split at h
  · cases h
    exact ⟨_, _, _, rfl, rfl⟩
  · cases h
theorem ckT1_inv {pc : Nat} {o : Int} {rz : List Nat} (h : ckT1 pc o rz = true) : ∃ t, rz = [t] ∧ (pc : Int) + o = (t : Int) := by
  unfold ckT1 at h
  split at h
  · exact ⟨_, rfl, by simpa using h⟩
  · cases h

theorem ckLk_inv {mi idx : Nat} {rz : List Nat} (h : ckLk mi idx rz = true) (hn : rz ≠ []) : lkB (mO mi * 1000 + idx) rz = true ∧ (mO mi * 1000 + idx) / 1000 = mO mi ∧ (mO mi * 1000 + idx) % 1000 = idx := by
  unfold ckLk at h
  rw [Bool.or_eq_true, Bool.and_eq_true, decide_eq_true_eq] at h
  rcases h with h | h
  · exact absurd (beq_iff_eq.mp h) hn
  · exact ⟨lk_ok (beq_iff_eq.mp h.2), by omega, by omega⟩
section SND
variable {p : Program} {l : Launch} {e : Env} {R : Room} {s : State} {m : MethodId} {args : Array Value} {below : List Frame} {meth : Method} {c : Code} {H : Heap} {locs : List Loc} {cells slots : Nat} {Q : State → Prop}
variable {D : va_G} {cy : CY} {L0 : Nat} {x0 : XX} {mi : Nat} {ad : Nat → Nat} {P P' : MP} {I I' : MI} {L L' : ML} {C C' : MC} {ls ls' st st' : List Value} {lsA : Array Slot} {pc pc' : Nat} {i : ClassFile.Instr} {len : Nat} {rz : List Nat}
/-- how it goes on behind a step -/
def KN (p : Program) (l : Launch) (e : Env) (R : Room) (s : State) (m : MethodId) (args : Array Value) (below : List Frame) (meth : Method) (c : Code) (cells slots : Nat) (Q : State → Prop) (D : va_G) (cy : CY) (L0 : Nat) (x0 : XX) (mi : Nat) (ad : Nat → Nat) (P : MP) (C : MC) (w : FR × MM) : Prop :=
  ∀ (ad' : Nat → Nat) (lsA' : Array Slot) (H' : Heap) (locs' : List Loc), (∀ k, k ≤ P.2.2 → ad' k = ad k) → P.2.2 ≤ w.2.1.2.2 → IV D cy L0 x0 s mi ad' w.2.1 w.2.2.1 w.2.2.2.1 w.1.2.1 w.1.2.2 lsA' H' locs' →
    W p l e R s m args below meth c H' locs' (cells + (w.2.2.2.2.1 - C.1)) (slots + (w.2.2.2.2.2 - C.2)) Q (F0 m w.1.1 lsA' (cv ad' w.1.2.2))
theorem KN.pure {pc1 : Nat} {st1 : List Value} (k : KN p l e R s m args below meth c cells slots Q D cy L0 x0 mi ad P C ((pc1, ls, st1), (P, I, L, C))) (h : IV D cy L0 x0 s mi ad P I L ls st lsA H locs) (hv : ∀ v ∈ st1, vk P v) :
    W p l e R s m args below meth c H locs cells slots Q (F0 m pc1 lsA (cv ad st1)) := by
  have := k ad lsA H locs (fun _ _ => rfl) (Nat.le_refl _) (h.stk hv)
  simpa only [Nat.sub_self, Nat.add_zero] using this
theorem KN.lcs {pc1 : Nat} {ls1 st1 : List Value} {lsA1 : Array Slot} (k : KN p l e R s m args below meth c cells slots Q D cy L0 x0 mi ad P C ((pc1, ls1, st1), (P, I, L, C))) (h : IV D cy L0 x0 s mi ad P I L ls st lsA H locs) (hl : lh lsA1 (mL mi) ad ls1) (hw : ∀ v ∈ ls1, vk P v) (hv : ∀ v ∈ st1, vk P v) :
    W p l e R s m args below meth c H locs cells slots Q (F0 m pc1 lsA1 (cv ad st1)) := by
  have := k ad lsA1 H locs (fun _ _ => rfl) (Nat.le_refl _) (h.loc hl hw hv)
  simpa only [Nat.sub_self, Nat.add_zero] using this

set_option maxHeartbeats 4000000 in
theorem sx_aload_n {n : Fin 4} (fo : FO p s m meth c mi) (sv : SV D cy s) (sh : SH L0 x0 s s.heap) (hd : dec mi pc = some (.aload_n n, len, rz)) (hI : IV D cy L0 x0 s mi ad P I L ls st lsA H locs) {w : FR × MM} (hs : stp pc (.aload_n n) len rz ls st P I L C = some (.inl w)) (hcR : cells + w.2.2.2.2.1 ≤ R.cells + C.1) (hsR : slots + w.2.2.2.2.2 ≤ R.slots + C.2) (hfR : 8 ≤ R.frames) (hlR : 128 ≤ R.locals)
    (k : KN p l e R s m args below meth c cells slots Q D cy L0 x0 mi ad P C w) : W p l e R s m args below meth c H locs cells slots Q (F0 m pc lsA (cv ad st)) := by
  obtain ⟨hdec, hck⟩ := dec_ok hd
  obtain ⟨hx, hb, hml, hrt, hown, hlocks, htab, hnm⟩ := fo
  have hts : ∀ w ∈ GT, w.before args s = true := fun w hw => sv.1 w hw args
  obtain ⟨hP, hD, hwf, hS, hlh, hlv, hsv, hx1, hx2, hx3⟩ := id hI
  simp only [stp] at hs
  simp only [ckR, Bool.and_eq_true, beq_iff_eq, decide_eq_true_eq] at hck
  subst hck
  obtain ⟨v, hg, hw⟩ := ldA_inv hs
  cases hw
  exact lv_aload_n (rest := cv ad st) hx hb hdec rfl (lh_at hlh hg (by intro a z; cases z)) (KN.pure k hI (List.forall_mem_cons.mpr ⟨hlv _ (by rw [gl_eq] at hg; exact List.mem_of_getElem? hg), hsv⟩))

set_option maxHeartbeats 4000000 in
theorem sx_iload_n {n : Fin 4} (fo : FO p s m meth c mi) (sv : SV D cy s) (sh : SH L0 x0 s s.heap) (hd : dec mi pc = some (.iload_n n, len, rz)) (hI : IV D cy L0 x0 s mi ad P I L ls st lsA H locs) {w : FR × MM} (hs : stp pc (.iload_n n) len rz ls st P I L C = some (.inl w)) (hcR : cells + w.2.2.2.2.1 ≤ R.cells + C.1) (hsR : slots + w.2.2.2.2.2 ≤ R.slots + C.2) (hfR : 8 ≤ R.frames) (hlR : 128 ≤ R.locals)
    (k : KN p l e R s m args below meth c cells slots Q D cy L0 x0 mi ad P C w) : W p l e R s m args below meth c H locs cells slots Q (F0 m pc lsA (cv ad st)) := by
  obtain ⟨hdec, hck⟩ := dec_ok hd
  obtain ⟨hx, hb, hml, hrt, hown, hlocks, htab, hnm⟩ := fo
  have hts : ∀ w ∈ GT, w.before args s = true := fun w hw => sv.1 w hw args
  obtain ⟨hP, hD, hwf, hS, hlh, hlv, hsv, hx1, hx2, hx3⟩ := id hI
  simp only [stp] at hs
  simp only [ckR, Bool.and_eq_true, beq_iff_eq, decide_eq_true_eq] at hck
  subst hck
  obtain ⟨v, hg, hw⟩ := ldI_inv hs
  cases hw
  exact lv_iload_n (rest := cv ad st) hx hb hdec rfl (lh_at hlh hg (by intro a z; cases z)) (KN.pure k hI (List.forall_mem_cons.mpr ⟨vk_i P _, hsv⟩))

set_option maxHeartbeats 4000000 in
theorem sx_lload_n {n : Fin 4} (fo : FO p s m meth c mi) (sv : SV D cy s) (sh : SH L0 x0 s s.heap) (hd : dec mi pc = some (.lload_n n, len, rz)) (hI : IV D cy L0 x0 s mi ad P I L ls st lsA H locs) {w : FR × MM} (hs : stp pc (.lload_n n) len rz ls st P I L C = some (.inl w)) (hcR : cells + w.2.2.2.2.1 ≤ R.cells + C.1) (hsR : slots + w.2.2.2.2.2 ≤ R.slots + C.2) (hfR : 8 ≤ R.frames) (hlR : 128 ≤ R.locals)
    (k : KN p l e R s m args below meth c cells slots Q D cy L0 x0 mi ad P C w) : W p l e R s m args below meth c H locs cells slots Q (F0 m pc lsA (cv ad st)) := by
  obtain ⟨hdec, hck⟩ := dec_ok hd
  obtain ⟨hx, hb, hml, hrt, hown, hlocks, htab, hnm⟩ := fo
  have hts : ∀ w ∈ GT, w.before args s = true := fun w hw => sv.1 w hw args
  obtain ⟨hP, hD, hwf, hS, hlh, hlv, hsv, hx1, hx2, hx3⟩ := id hI
  simp only [stp] at hs
  simp only [ckR, Bool.and_eq_true, beq_iff_eq, decide_eq_true_eq] at hck
  subst hck
  obtain ⟨v, hg, hw⟩ := ldL_inv hs
  cases hw
  exact lv_lload_n (rest := cv ad st) hx hb hdec rfl (lh_at hlh hg (by intro a z; cases z)) (KN.pure k hI (List.forall_mem_cons.mpr ⟨vk_l P _, hsv⟩))

set_option maxHeartbeats 4000000 in
theorem sx_dload_n {n : Fin 4} (fo : FO p s m meth c mi) (sv : SV D cy s) (sh : SH L0 x0 s s.heap) (hd : dec mi pc = some (.dload_n n, len, rz)) (hI : IV D cy L0 x0 s mi ad P I L ls st lsA H locs) {w : FR × MM} (hs : stp pc (.dload_n n) len rz ls st P I L C = some (.inl w)) (hcR : cells + w.2.2.2.2.1 ≤ R.cells + C.1) (hsR : slots + w.2.2.2.2.2 ≤ R.slots + C.2) (hfR : 8 ≤ R.frames) (hlR : 128 ≤ R.locals)
    (k : KN p l e R s m args below meth c cells slots Q D cy L0 x0 mi ad P C w) : W p l e R s m args below meth c H locs cells slots Q (F0 m pc lsA (cv ad st)) := by
  obtain ⟨hdec, hck⟩ := dec_ok hd
  obtain ⟨hx, hb, hml, hrt, hown, hlocks, htab, hnm⟩ := fo
  have hts : ∀ w ∈ GT, w.before args s = true := fun w hw => sv.1 w hw args
  obtain ⟨hP, hD, hwf, hS, hlh, hlv, hsv, hx1, hx2, hx3⟩ := id hI
  simp only [stp] at hs
  simp only [ckR, Bool.and_eq_true, beq_iff_eq, decide_eq_true_eq] at hck
  subst hck
  obtain ⟨v, hg, hw⟩ := ldD_inv hs
  cases hw
  exact lv_dload_n (rest := cv ad st) hx hb hdec rfl (lh_at hlh hg (by intro a z; cases z)) (KN.pure k hI (List.forall_mem_cons.mpr ⟨vk_d P _, hsv⟩))

set_option maxHeartbeats 4000000 in
theorem sx_aload {n : Nat} (fo : FO p s m meth c mi) (sv : SV D cy s) (sh : SH L0 x0 s s.heap) (hd : dec mi pc = some (.aload n, len, rz)) (hI : IV D cy L0 x0 s mi ad P I L ls st lsA H locs) {w : FR × MM} (hs : stp pc (.aload n) len rz ls st P I L C = some (.inl w)) (hcR : cells + w.2.2.2.2.1 ≤ R.cells + C.1) (hsR : slots + w.2.2.2.2.2 ≤ R.slots + C.2) (hfR : 8 ≤ R.frames) (hlR : 128 ≤ R.locals)
    (k : KN p l e R s m args below meth c cells slots Q D cy L0 x0 mi ad P C w) : W p l e R s m args below meth c H locs cells slots Q (F0 m pc lsA (cv ad st)) := by
  obtain ⟨hdec, hck⟩ := dec_ok hd
  obtain ⟨hx, hb, hml, hrt, hown, hlocks, htab, hnm⟩ := fo
  have hts : ∀ w ∈ GT, w.before args s = true := fun w hw => sv.1 w hw args
  obtain ⟨hP, hD, hwf, hS, hlh, hlv, hsv, hx1, hx2, hx3⟩ := id hI
  simp only [stp] at hs
  simp only [ckR, Bool.and_eq_true, beq_iff_eq, decide_eq_true_eq] at hck
  subst hck
  obtain ⟨v, hg, hw⟩ := ldA_inv hs
  cases hw
  exact lv_aload (rest := cv ad st) hx hb hdec (lh_at hlh hg (by intro a z; cases z)) (KN.pure k hI (List.forall_mem_cons.mpr ⟨hlv _ (by rw [gl_eq] at hg; exact List.mem_of_getElem? hg), hsv⟩))

set_option maxHeartbeats 4000000 in
theorem sx_iload {n : Nat} (fo : FO p s m meth c mi) (sv : SV D cy s) (sh : SH L0 x0 s s.heap) (hd : dec mi pc = some (.iload n, len, rz)) (hI : IV D cy L0 x0 s mi ad P I L ls st lsA H locs) {w : FR × MM} (hs : stp pc (.iload n) len rz ls st P I L C = some (.inl w)) (hcR : cells + w.2.2.2.2.1 ≤ R.cells + C.1) (hsR : slots + w.2.2.2.2.2 ≤ R.slots + C.2) (hfR : 8 ≤ R.frames) (hlR : 128 ≤ R.locals)
    (k : KN p l e R s m args below meth c cells slots Q D cy L0 x0 mi ad P C w) : W p l e R s m args below meth c H locs cells slots Q (F0 m pc lsA (cv ad st)) := by
  obtain ⟨hdec, hck⟩ := dec_ok hd
  obtain ⟨hx, hb, hml, hrt, hown, hlocks, htab, hnm⟩ := fo
  have hts : ∀ w ∈ GT, w.before args s = true := fun w hw => sv.1 w hw args
  obtain ⟨hP, hD, hwf, hS, hlh, hlv, hsv, hx1, hx2, hx3⟩ := id hI
  simp only [stp] at hs
  simp only [ckR, Bool.and_eq_true, beq_iff_eq, decide_eq_true_eq] at hck
  subst hck
  obtain ⟨v, hg, hw⟩ := ldI_inv hs
  cases hw
  exact lv_iload (rest := cv ad st) hx hb hdec (lh_at hlh hg (by intro a z; cases z)) (KN.pure k hI (List.forall_mem_cons.mpr ⟨vk_i P _, hsv⟩))

set_option maxHeartbeats 4000000 in
theorem sx_lload {n : Nat} (fo : FO p s m meth c mi) (sv : SV D cy s) (sh : SH L0 x0 s s.heap) (hd : dec mi pc = some (.lload n, len, rz)) (hI : IV D cy L0 x0 s mi ad P I L ls st lsA H locs) {w : FR × MM} (hs : stp pc (.lload n) len rz ls st P I L C = some (.inl w)) (hcR : cells + w.2.2.2.2.1 ≤ R.cells + C.1) (hsR : slots + w.2.2.2.2.2 ≤ R.slots + C.2) (hfR : 8 ≤ R.frames) (hlR : 128 ≤ R.locals)
    (k : KN p l e R s m args below meth c cells slots Q D cy L0 x0 mi ad P C w) : W p l e R s m args below meth c H locs cells slots Q (F0 m pc lsA (cv ad st)) := by
  obtain ⟨hdec, hck⟩ := dec_ok hd
  obtain ⟨hx, hb, hml, hrt, hown, hlocks, htab, hnm⟩ := fo
  have hts : ∀ w ∈ GT, w.before args s = true := fun w hw => sv.1 w hw args
  obtain ⟨hP, hD, hwf, hS, hlh, hlv, hsv, hx1, hx2, hx3⟩ := id hI
  simp only [stp] at hs
  simp only [ckR, Bool.and_eq_true, beq_iff_eq, decide_eq_true_eq] at hck
  subst hck
  obtain ⟨v, hg, hw⟩ := ldL_inv hs
  cases hw
  exact lv_lload (rest := cv ad st) hx hb hdec (lh_at hlh hg (by intro a z; cases z)) (KN.pure k hI (List.forall_mem_cons.mpr ⟨vk_l P _, hsv⟩))

set_option maxHeartbeats 4000000 in
theorem sx_dload {n : Nat} (fo : FO p s m meth c mi) (sv : SV D cy s) (sh : SH L0 x0 s s.heap) (hd : dec mi pc = some (.dload n, len, rz)) (hI : IV D cy L0 x0 s mi ad P I L ls st lsA H locs) {w : FR × MM} (hs : stp pc (.dload n) len rz ls st P I L C = some (.inl w)) (hcR : cells + w.2.2.2.2.1 ≤ R.cells + C.1) (hsR : slots + w.2.2.2.2.2 ≤ R.slots + C.2) (hfR : 8 ≤ R.frames) (hlR : 128 ≤ R.locals)
    (k : KN p l e R s m args below meth c cells slots Q D cy L0 x0 mi ad P C w) : W p l e R s m args below meth c H locs cells slots Q (F0 m pc lsA (cv ad st)) := by
  obtain ⟨hdec, hck⟩ := dec_ok hd
  obtain ⟨hx, hb, hml, hrt, hown, hlocks, htab, hnm⟩ := fo
  have hts : ∀ w ∈ GT, w.before args s = true := fun w hw => sv.1 w hw args
  obtain ⟨hP, hD, hwf, hS, hlh, hlv, hsv, hx1, hx2, hx3⟩ := id hI
  simp only [stp] at hs
  simp only [ckR, Bool.and_eq_true, beq_iff_eq, decide_eq_true_eq] at hck
  subst hck
  obtain ⟨v, hg, hw⟩ := ldD_inv hs
  cases hw
  exact lv_dload (rest := cv ad st) hx hb hdec (lh_at hlh hg (by intro a z; cases z)) (KN.pure k hI (List.forall_mem_cons.mpr ⟨vk_d P _, hsv⟩))

set_option maxHeartbeats 4000000 in
theorem sx_istore_n {n : Fin 4} (fo : FO p s m meth c mi) (sv : SV D cy s) (sh : SH L0 x0 s s.heap) (hd : dec mi pc = some (.istore_n n, len, rz)) (hI : IV D cy L0 x0 s mi ad P I L ls st lsA H locs) {w : FR × MM} (hs : stp pc (.istore_n n) len rz ls st P I L C = some (.inl w)) (hcR : cells + w.2.2.2.2.1 ≤ R.cells + C.1) (hsR : slots + w.2.2.2.2.2 ≤ R.slots + C.2) (hfR : 8 ≤ R.frames) (hlR : 128 ≤ R.locals)
    (k : KN p l e R s m args below meth c cells slots Q D cy L0 x0 mi ad P C w) : W p l e R s m args below meth c H locs cells slots Q (F0 m pc lsA (cv ad st)) := by
  obtain ⟨hdec, hck⟩ := dec_ok hd
  obtain ⟨hx, hb, hml, hrt, hown, hlocks, htab, hnm⟩ := fo
  have hts : ∀ w ∈ GT, w.before args s = true := fun w hw => sv.1 w hw args
  obtain ⟨hP, hD, hwf, hS, hlh, hlv, hsv, hx1, hx2, hx3⟩ := id hI
  simp only [stp] at hs
  simp only [ckR, Bool.and_eq_true, beq_iff_eq, decide_eq_true_eq] at hck
  obtain ⟨rfl, hn⟩ := hck
  obtain ⟨v, st1, rfl, hw⟩ := stI_inv hs
  cases hw
  have hv := List.forall_mem_cons.mp hsv
  refine lv_istore_n (rest := cv ad st1) hx hb hdec rfl (lh_has hlh) hn rfl (fun lsA1 hl1 => ?_)
  exact KN.lcs k hI (lh_s1 hlh.2.2.1 (v := .int v) hl1) (fun z hz => by
    rcases mem_s1 hz with q | rfl | rfl
    · exact hlv z q
    · exact hv.1
    · exact vk_u P) hv.2

set_option maxHeartbeats 4000000 in
theorem sx_astore_n {n : Fin 4} (fo : FO p s m meth c mi) (sv : SV D cy s) (sh : SH L0 x0 s s.heap) (hd : dec mi pc = some (.astore_n n, len, rz)) (hI : IV D cy L0 x0 s mi ad P I L ls st lsA H locs) {w : FR × MM} (hs : stp pc (.astore_n n) len rz ls st P I L C = some (.inl w)) (hcR : cells + w.2.2.2.2.1 ≤ R.cells + C.1) (hsR : slots + w.2.2.2.2.2 ≤ R.slots + C.2) (hfR : 8 ≤ R.frames) (hlR : 128 ≤ R.locals)
    (k : KN p l e R s m args below meth c cells slots Q D cy L0 x0 mi ad P C w) : W p l e R s m args below meth c H locs cells slots Q (F0 m pc lsA (cv ad st)) := by
  obtain ⟨hdec, hck⟩ := dec_ok hd
  obtain ⟨hx, hb, hml, hrt, hown, hlocks, htab, hnm⟩ := fo
  have hts : ∀ w ∈ GT, w.before args s = true := fun w hw => sv.1 w hw args
  obtain ⟨hP, hD, hwf, hS, hlh, hlv, hsv, hx1, hx2, hx3⟩ := id hI
  simp only [stp] at hs
  simp only [ckR, Bool.and_eq_true, beq_iff_eq, decide_eq_true_eq] at hck
  obtain ⟨rfl, hn⟩ := hck
  obtain ⟨v, st1, rfl, hw⟩ := stA_inv hs
  cases hw
  have hv := List.forall_mem_cons.mp hsv
  refine lv_astore_n (rest := cv ad st1) hx hb hdec rfl (lh_has hlh) hn rfl (fun lsA1 hl1 => ?_)
  exact KN.lcs k hI (lh_s1 hlh.2.2.1 (v := .ref v) hl1) (fun z hz => by
    rcases mem_s1 hz with q | rfl | rfl
    · exact hlv z q
    · exact hv.1
    · exact vk_u P) hv.2

set_option maxHeartbeats 4000000 in
theorem sx_lstore_n {n : Fin 4} (fo : FO p s m meth c mi) (sv : SV D cy s) (sh : SH L0 x0 s s.heap) (hd : dec mi pc = some (.lstore_n n, len, rz)) (hI : IV D cy L0 x0 s mi ad P I L ls st lsA H locs) {w : FR × MM} (hs : stp pc (.lstore_n n) len rz ls st P I L C = some (.inl w)) (hcR : cells + w.2.2.2.2.1 ≤ R.cells + C.1) (hsR : slots + w.2.2.2.2.2 ≤ R.slots + C.2) (hfR : 8 ≤ R.frames) (hlR : 128 ≤ R.locals)
    (k : KN p l e R s m args below meth c cells slots Q D cy L0 x0 mi ad P C w) : W p l e R s m args below meth c H locs cells slots Q (F0 m pc lsA (cv ad st)) := by
  obtain ⟨hdec, hck⟩ := dec_ok hd
  obtain ⟨hx, hb, hml, hrt, hown, hlocks, htab, hnm⟩ := fo
  have hts : ∀ w ∈ GT, w.before args s = true := fun w hw => sv.1 w hw args
  obtain ⟨hP, hD, hwf, hS, hlh, hlv, hsv, hx1, hx2, hx3⟩ := id hI
  simp only [stp] at hs
  simp only [ckR, Bool.and_eq_true, beq_iff_eq, decide_eq_true_eq] at hck
  obtain ⟨rfl, hn⟩ := hck
  obtain ⟨v, st1, rfl, hw⟩ := stL_inv hs
  cases hw
  have hv := List.forall_mem_cons.mp hsv
  refine lv_lstore_n (rest := cv ad st1) hx hb hdec rfl (lh_has hlh) hn rfl (fun lsA1 hl1 => ?_)
  exact KN.lcs k hI (lh_s2 hlh.2.2.1 (v := .long v) hl1) (fun z hz => by
    rcases mem_s2 hz with q | rfl | rfl
    · exact hlv z q
    · exact hv.1
    · exact vk_u P) hv.2

set_option maxHeartbeats 4000000 in
theorem sx_dstore_n {n : Fin 4} (fo : FO p s m meth c mi) (sv : SV D cy s) (sh : SH L0 x0 s s.heap) (hd : dec mi pc = some (.dstore_n n, len, rz)) (hI : IV D cy L0 x0 s mi ad P I L ls st lsA H locs) {w : FR × MM} (hs : stp pc (.dstore_n n) len rz ls st P I L C = some (.inl w)) (hcR : cells + w.2.2.2.2.1 ≤ R.cells + C.1) (hsR : slots + w.2.2.2.2.2 ≤ R.slots + C.2) (hfR : 8 ≤ R.frames) (hlR : 128 ≤ R.locals)
    (k : KN p l e R s m args below meth c cells slots Q D cy L0 x0 mi ad P C w) : W p l e R s m args below meth c H locs cells slots Q (F0 m pc lsA (cv ad st)) := by
  obtain ⟨hdec, hck⟩ := dec_ok hd
  obtain ⟨hx, hb, hml, hrt, hown, hlocks, htab, hnm⟩ := fo
  have hts : ∀ w ∈ GT, w.before args s = true := fun w hw => sv.1 w hw args
  obtain ⟨hP, hD, hwf, hS, hlh, hlv, hsv, hx1, hx2, hx3⟩ := id hI
  simp only [stp] at hs
  simp only [ckR, Bool.and_eq_true, beq_iff_eq, decide_eq_true_eq] at hck
  obtain ⟨rfl, hn⟩ := hck
  obtain ⟨v, st1, rfl, hw⟩ := stD_inv hs
  cases hw
  have hv := List.forall_mem_cons.mp hsv
  refine lv_dstore_n (rest := cv ad st1) hx hb hdec rfl (lh_has hlh) hn rfl (fun lsA1 hl1 => ?_)
  exact KN.lcs k hI (lh_s2 hlh.2.2.1 (v := .double v) hl1) (fun z hz => by
    rcases mem_s2 hz with q | rfl | rfl
    · exact hlv z q
    · exact hv.1
    · exact vk_u P) hv.2

set_option maxHeartbeats 4000000 in
theorem sx_istore {n : Nat} (fo : FO p s m meth c mi) (sv : SV D cy s) (sh : SH L0 x0 s s.heap) (hd : dec mi pc = some (.istore n, len, rz)) (hI : IV D cy L0 x0 s mi ad P I L ls st lsA H locs) {w : FR × MM} (hs : stp pc (.istore n) len rz ls st P I L C = some (.inl w)) (hcR : cells + w.2.2.2.2.1 ≤ R.cells + C.1) (hsR : slots + w.2.2.2.2.2 ≤ R.slots + C.2) (hfR : 8 ≤ R.frames) (hlR : 128 ≤ R.locals)
    (k : KN p l e R s m args below meth c cells slots Q D cy L0 x0 mi ad P C w) : W p l e R s m args below meth c H locs cells slots Q (F0 m pc lsA (cv ad st)) := by
  obtain ⟨hdec, hck⟩ := dec_ok hd
  obtain ⟨hx, hb, hml, hrt, hown, hlocks, htab, hnm⟩ := fo
  have hts : ∀ w ∈ GT, w.before args s = true := fun w hw => sv.1 w hw args
  obtain ⟨hP, hD, hwf, hS, hlh, hlv, hsv, hx1, hx2, hx3⟩ := id hI
  simp only [stp] at hs
  simp only [ckR, Bool.and_eq_true, beq_iff_eq, decide_eq_true_eq] at hck
  obtain ⟨rfl, hn⟩ := hck
  obtain ⟨v, st1, rfl, hw⟩ := stI_inv hs
  cases hw
  have hv := List.forall_mem_cons.mp hsv
  refine lv_istore (rest := cv ad st1) hx hb hdec (lh_has hlh) hn rfl (fun lsA1 hl1 => ?_)
  exact KN.lcs k hI (lh_s1 hlh.2.2.1 (v := .int v) hl1) (fun z hz => by
    rcases mem_s1 hz with q | rfl | rfl
    · exact hlv z q
    · exact hv.1
    · exact vk_u P) hv.2

set_option maxHeartbeats 4000000 in
theorem sx_astore {n : Nat} (fo : FO p s m meth c mi) (sv : SV D cy s) (sh : SH L0 x0 s s.heap) (hd : dec mi pc = some (.astore n, len, rz)) (hI : IV D cy L0 x0 s mi ad P I L ls st lsA H locs) {w : FR × MM} (hs : stp pc (.astore n) len rz ls st P I L C = some (.inl w)) (hcR : cells + w.2.2.2.2.1 ≤ R.cells + C.1) (hsR : slots + w.2.2.2.2.2 ≤ R.slots + C.2) (hfR : 8 ≤ R.frames) (hlR : 128 ≤ R.locals)
    (k : KN p l e R s m args below meth c cells slots Q D cy L0 x0 mi ad P C w) : W p l e R s m args below meth c H locs cells slots Q (F0 m pc lsA (cv ad st)) := by
  obtain ⟨hdec, hck⟩ := dec_ok hd
  obtain ⟨hx, hb, hml, hrt, hown, hlocks, htab, hnm⟩ := fo
  have hts : ∀ w ∈ GT, w.before args s = true := fun w hw => sv.1 w hw args
  obtain ⟨hP, hD, hwf, hS, hlh, hlv, hsv, hx1, hx2, hx3⟩ := id hI
  simp only [stp] at hs
  simp only [ckR, Bool.and_eq_true, beq_iff_eq, decide_eq_true_eq] at hck
  obtain ⟨rfl, hn⟩ := hck
  obtain ⟨v, st1, rfl, hw⟩ := stA_inv hs
  cases hw
  have hv := List.forall_mem_cons.mp hsv
  refine lv_astore (rest := cv ad st1) hx hb hdec (lh_has hlh) hn rfl (fun lsA1 hl1 => ?_)
  exact KN.lcs k hI (lh_s1 hlh.2.2.1 (v := .ref v) hl1) (fun z hz => by
    rcases mem_s1 hz with q | rfl | rfl
    · exact hlv z q
    · exact hv.1
    · exact vk_u P) hv.2

set_option maxHeartbeats 4000000 in
theorem sx_lstore {n : Nat} (fo : FO p s m meth c mi) (sv : SV D cy s) (sh : SH L0 x0 s s.heap) (hd : dec mi pc = some (.lstore n, len, rz)) (hI : IV D cy L0 x0 s mi ad P I L ls st lsA H locs) {w : FR × MM} (hs : stp pc (.lstore n) len rz ls st P I L C = some (.inl w)) (hcR : cells + w.2.2.2.2.1 ≤ R.cells + C.1) (hsR : slots + w.2.2.2.2.2 ≤ R.slots + C.2) (hfR : 8 ≤ R.frames) (hlR : 128 ≤ R.locals)
    (k : KN p l e R s m args below meth c cells slots Q D cy L0 x0 mi ad P C w) : W p l e R s m args below meth c H locs cells slots Q (F0 m pc lsA (cv ad st)) := by
  obtain ⟨hdec, hck⟩ := dec_ok hd
  obtain ⟨hx, hb, hml, hrt, hown, hlocks, htab, hnm⟩ := fo
  have hts : ∀ w ∈ GT, w.before args s = true := fun w hw => sv.1 w hw args
  obtain ⟨hP, hD, hwf, hS, hlh, hlv, hsv, hx1, hx2, hx3⟩ := id hI
  simp only [stp] at hs
  simp only [ckR, Bool.and_eq_true, beq_iff_eq, decide_eq_true_eq] at hck
  obtain ⟨rfl, hn⟩ := hck
  obtain ⟨v, st1, rfl, hw⟩ := stL_inv hs
  cases hw
  have hv := List.forall_mem_cons.mp hsv
  refine lv_lstore (rest := cv ad st1) hx hb hdec (lh_has hlh) hn rfl (fun lsA1 hl1 => ?_)
  exact KN.lcs k hI (lh_s2 hlh.2.2.1 (v := .long v) hl1) (fun z hz => by
    rcases mem_s2 hz with q | rfl | rfl
    · exact hlv z q
    · exact hv.1
    · exact vk_u P) hv.2

set_option maxHeartbeats 4000000 in
theorem sx_dstore {n : Nat} (fo : FO p s m meth c mi) (sv : SV D cy s) (sh : SH L0 x0 s s.heap) (hd : dec mi pc = some (.dstore n, len, rz)) (hI : IV D cy L0 x0 s mi ad P I L ls st lsA H locs) {w : FR × MM} (hs : stp pc (.dstore n) len rz ls st P I L C = some (.inl w)) (hcR : cells + w.2.2.2.2.1 ≤ R.cells + C.1) (hsR : slots + w.2.2.2.2.2 ≤ R.slots + C.2) (hfR : 8 ≤ R.frames) (hlR : 128 ≤ R.locals)
    (k : KN p l e R s m args below meth c cells slots Q D cy L0 x0 mi ad P C w) : W p l e R s m args below meth c H locs cells slots Q (F0 m pc lsA (cv ad st)) := by
  obtain ⟨hdec, hck⟩ := dec_ok hd
  obtain ⟨hx, hb, hml, hrt, hown, hlocks, htab, hnm⟩ := fo
  have hts : ∀ w ∈ GT, w.before args s = true := fun w hw => sv.1 w hw args
  obtain ⟨hP, hD, hwf, hS, hlh, hlv, hsv, hx1, hx2, hx3⟩ := id hI
  simp only [stp] at hs
  simp only [ckR, Bool.and_eq_true, beq_iff_eq, decide_eq_true_eq] at hck
  obtain ⟨rfl, hn⟩ := hck
  obtain ⟨v, st1, rfl, hw⟩ := stD_inv hs
  cases hw
  have hv := List.forall_mem_cons.mp hsv
  refine lv_dstore (rest := cv ad st1) hx hb hdec (lh_has hlh) hn rfl (fun lsA1 hl1 => ?_)
  exact KN.lcs k hI (lh_s2 hlh.2.2.1 (v := .double v) hl1) (fun z hz => by
    rcases mem_s2 hz with q | rfl | rfl
    · exact hlv z q
    · exact hv.1
    · exact vk_u P) hv.2

set_option maxHeartbeats 4000000 in
theorem sx_iinc {n : Nat} {z : Int} (fo : FO p s m meth c mi) (sv : SV D cy s) (sh : SH L0 x0 s s.heap) (hd : dec mi pc = some (.iinc n z, len, rz)) (hI : IV D cy L0 x0 s mi ad P I L ls st lsA H locs) {w : FR × MM} (hs : stp pc (.iinc n z) len rz ls st P I L C = some (.inl w)) (hcR : cells + w.2.2.2.2.1 ≤ R.cells + C.1) (hsR : slots + w.2.2.2.2.2 ≤ R.slots + C.2) (hfR : 8 ≤ R.frames) (hlR : 128 ≤ R.locals)
    (k : KN p l e R s m args below meth c cells slots Q D cy L0 x0 mi ad P C w) : W p l e R s m args below meth c H locs cells slots Q (F0 m pc lsA (cv ad st)) := by
  obtain ⟨hdec, hck⟩ := dec_ok hd
  obtain ⟨hx, hb, hml, hrt, hown, hlocks, htab, hnm⟩ := fo
  have hts : ∀ w ∈ GT, w.before args s = true := fun w hw => sv.1 w hw args
  obtain ⟨hP, hD, hwf, hS, hlh, hlv, hsv, hx1, hx2, hx3⟩ := id hI
  simp only [stp] at hs
  simp only [ckR, Bool.and_eq_true, beq_iff_eq, decide_eq_true_eq] at hck
  obtain ⟨⟨rfl, hn⟩, hv0⟩ := hck
  split at hs
  · rename_i x k0 hg
    cases hs
    have hz : Int32.ofInt z = nI k0 := by simpa using hv0
    obtain ⟨q, hq⟩ := List.getElem?_of_mem (mem_prs.mpr ⟨.int x, hg, (by intro a z; cases z), rfl⟩ : (n, conc ad (.int x)) ∈ prs ad ls)
    refine lv_iinc (rest := cv ad st) (v := x + nI k0) hx hb hdec (lh_has hlh) hq (by rw [hz]) hn rfl (fun lsA1 hl1 => ?_)
    exact KN.lcs k hI (lh_s1 hlh.2.2.1 (v := .int (x + nI k0)) hl1) (fun z hz => by
      rcases mem_s1 hz with q | rfl | rfl
      · exact hlv z q
      · exact vk_i P _
      · exact vk_u P) hsv
  · cases hs

set_option maxHeartbeats 4000000 in
theorem sx_iconst {n : Int} (fo : FO p s m meth c mi) (sv : SV D cy s) (sh : SH L0 x0 s s.heap) (hd : dec mi pc = some (.iconst n, len, rz)) (hI : IV D cy L0 x0 s mi ad P I L ls st lsA H locs) {w : FR × MM} (hs : stp pc (.iconst n) len rz ls st P I L C = some (.inl w)) (hcR : cells + w.2.2.2.2.1 ≤ R.cells + C.1) (hsR : slots + w.2.2.2.2.2 ≤ R.slots + C.2) (hfR : 8 ≤ R.frames) (hlR : 128 ≤ R.locals)
    (k : KN p l e R s m args below meth c cells slots Q D cy L0 x0 mi ad P C w) : W p l e R s m args below meth c H locs cells slots Q (F0 m pc lsA (cv ad st)) := by
  obtain ⟨hdec, hck⟩ := dec_ok hd
  obtain ⟨hx, hb, hml, hrt, hown, hlocks, htab, hnm⟩ := fo
  have hts : ∀ w ∈ GT, w.before args s = true := fun w hw => sv.1 w hw args
  obtain ⟨hP, hD, hwf, hS, hlh, hlv, hsv, hx1, hx2, hx3⟩ := id hI
  simp only [stp] at hs
  simp only [ckR, Bool.and_eq_true, beq_iff_eq, decide_eq_true_eq] at hck
  obtain ⟨rfl, hv0⟩ := hck
  split at hs
  · cases hs
    exact lv_iconst (rest := cv ad st) hx hb hdec (by simpa using hv0) (KN.pure k hI (List.forall_mem_cons.mpr ⟨vk_i P _, hsv⟩))
  · cases hs

set_option maxHeartbeats 4000000 in
theorem sx_bipush {n : Int} (fo : FO p s m meth c mi) (sv : SV D cy s) (sh : SH L0 x0 s s.heap) (hd : dec mi pc = some (.bipush n, len, rz)) (hI : IV D cy L0 x0 s mi ad P I L ls st lsA H locs) {w : FR × MM} (hs : stp pc (.bipush n) len rz ls st P I L C = some (.inl w)) (hcR : cells + w.2.2.2.2.1 ≤ R.cells + C.1) (hsR : slots + w.2.2.2.2.2 ≤ R.slots + C.2) (hfR : 8 ≤ R.frames) (hlR : 128 ≤ R.locals)
    (k : KN p l e R s m args below meth c cells slots Q D cy L0 x0 mi ad P C w) : W p l e R s m args below meth c H locs cells slots Q (F0 m pc lsA (cv ad st)) := by
  obtain ⟨hdec, hck⟩ := dec_ok hd
  obtain ⟨hx, hb, hml, hrt, hown, hlocks, htab, hnm⟩ := fo
  have hts : ∀ w ∈ GT, w.before args s = true := fun w hw => sv.1 w hw args
  obtain ⟨hP, hD, hwf, hS, hlh, hlv, hsv, hx1, hx2, hx3⟩ := id hI
  simp only [stp] at hs
  simp only [ckR, Bool.and_eq_true, beq_iff_eq, decide_eq_true_eq] at hck
  obtain ⟨rfl, hv0⟩ := hck
  split at hs
  · cases hs
    exact lv_bipush (rest := cv ad st) hx hb hdec (by simpa using hv0) (KN.pure k hI (List.forall_mem_cons.mpr ⟨vk_i P _, hsv⟩))
  · cases hs

set_option maxHeartbeats 4000000 in
theorem sx_sipush {n : Int} (fo : FO p s m meth c mi) (sv : SV D cy s) (sh : SH L0 x0 s s.heap) (hd : dec mi pc = some (.sipush n, len, rz)) (hI : IV D cy L0 x0 s mi ad P I L ls st lsA H locs) {w : FR × MM} (hs : stp pc (.sipush n) len rz ls st P I L C = some (.inl w)) (hcR : cells + w.2.2.2.2.1 ≤ R.cells + C.1) (hsR : slots + w.2.2.2.2.2 ≤ R.slots + C.2) (hfR : 8 ≤ R.frames) (hlR : 128 ≤ R.locals)
    (k : KN p l e R s m args below meth c cells slots Q D cy L0 x0 mi ad P C w) : W p l e R s m args below meth c H locs cells slots Q (F0 m pc lsA (cv ad st)) := by
  obtain ⟨hdec, hck⟩ := dec_ok hd
  obtain ⟨hx, hb, hml, hrt, hown, hlocks, htab, hnm⟩ := fo
  have hts : ∀ w ∈ GT, w.before args s = true := fun w hw => sv.1 w hw args
  obtain ⟨hP, hD, hwf, hS, hlh, hlv, hsv, hx1, hx2, hx3⟩ := id hI
  simp only [stp] at hs
  simp only [ckR, Bool.and_eq_true, beq_iff_eq, decide_eq_true_eq] at hck
  obtain ⟨rfl, hv0⟩ := hck
  split at hs
  · cases hs
    exact lv_sipush (rest := cv ad st) hx hb hdec (by simpa using hv0) (KN.pure k hI (List.forall_mem_cons.mpr ⟨vk_i P _, hsv⟩))
  · cases hs

set_option maxHeartbeats 4000000 in
theorem sx_lconst {n : Fin 2} (fo : FO p s m meth c mi) (sv : SV D cy s) (sh : SH L0 x0 s s.heap) (hd : dec mi pc = some (.lconst n, len, rz)) (hI : IV D cy L0 x0 s mi ad P I L ls st lsA H locs) {w : FR × MM} (hs : stp pc (.lconst n) len rz ls st P I L C = some (.inl w)) (hcR : cells + w.2.2.2.2.1 ≤ R.cells + C.1) (hsR : slots + w.2.2.2.2.2 ≤ R.slots + C.2) (hfR : 8 ≤ R.frames) (hlR : 128 ≤ R.locals)
    (k : KN p l e R s m args below meth c cells slots Q D cy L0 x0 mi ad P C w) : W p l e R s m args below meth c H locs cells slots Q (F0 m pc lsA (cv ad st)) := by
  obtain ⟨hdec, hck⟩ := dec_ok hd
  obtain ⟨hx, hb, hml, hrt, hown, hlocks, htab, hnm⟩ := fo
  have hts : ∀ w ∈ GT, w.before args s = true := fun w hw => sv.1 w hw args
  obtain ⟨hP, hD, hwf, hS, hlh, hlv, hsv, hx1, hx2, hx3⟩ := id hI
  simp only [stp] at hs
  simp only [ckR, Bool.and_eq_true, beq_iff_eq, decide_eq_true_eq] at hck
  obtain ⟨rfl, hv0⟩ := hck
  split at hs
  · cases hs
    exact lv_lconst (rest := cv ad st) hx hb hdec (by simpa using hv0) (KN.pure k hI (List.forall_mem_cons.mpr ⟨vk_l P _, hsv⟩))
  · cases hs

set_option maxHeartbeats 4000000 in
theorem sx_dconst {n : Fin 2} (fo : FO p s m meth c mi) (sv : SV D cy s) (sh : SH L0 x0 s s.heap) (hd : dec mi pc = some (.dconst n, len, rz)) (hI : IV D cy L0 x0 s mi ad P I L ls st lsA H locs) {w : FR × MM} (hs : stp pc (.dconst n) len rz ls st P I L C = some (.inl w)) (hcR : cells + w.2.2.2.2.1 ≤ R.cells + C.1) (hsR : slots + w.2.2.2.2.2 ≤ R.slots + C.2) (hfR : 8 ≤ R.frames) (hlR : 128 ≤ R.locals)
    (k : KN p l e R s m args below meth c cells slots Q D cy L0 x0 mi ad P C w) : W p l e R s m args below meth c H locs cells slots Q (F0 m pc lsA (cv ad st)) := by
  obtain ⟨hdec, hck⟩ := dec_ok hd
  obtain ⟨hx, hb, hml, hrt, hown, hlocks, htab, hnm⟩ := fo
  have hts : ∀ w ∈ GT, w.before args s = true := fun w hw => sv.1 w hw args
  obtain ⟨hP, hD, hwf, hS, hlh, hlv, hsv, hx1, hx2, hx3⟩ := id hI
  simp only [stp] at hs
  simp only [ckR, Bool.and_eq_true, beq_iff_eq, decide_eq_true_eq] at hck
  obtain ⟨rfl, rfl⟩ := hck
  cases hs
  exact lv_dconst0 (rest := cv ad st) hx hb hdec (KN.pure k hI (List.forall_mem_cons.mpr ⟨vk_d P _, hsv⟩))

set_option maxHeartbeats 4000000 in
theorem sx_aconst_null  (fo : FO p s m meth c mi) (sv : SV D cy s) (sh : SH L0 x0 s s.heap) (hd : dec mi pc = some (.aconst_null, len, rz)) (hI : IV D cy L0 x0 s mi ad P I L ls st lsA H locs) {w : FR × MM} (hs : stp pc (.aconst_null) len rz ls st P I L C = some (.inl w)) (hcR : cells + w.2.2.2.2.1 ≤ R.cells + C.1) (hsR : slots + w.2.2.2.2.2 ≤ R.slots + C.2) (hfR : 8 ≤ R.frames) (hlR : 128 ≤ R.locals)
    (k : KN p l e R s m args below meth c cells slots Q D cy L0 x0 mi ad P C w) : W p l e R s m args below meth c H locs cells slots Q (F0 m pc lsA (cv ad st)) := by
  obtain ⟨hdec, hck⟩ := dec_ok hd
  obtain ⟨hx, hb, hml, hrt, hown, hlocks, htab, hnm⟩ := fo
  have hts : ∀ w ∈ GT, w.before args s = true := fun w hw => sv.1 w hw args
  obtain ⟨hP, hD, hwf, hS, hlh, hlv, hsv, hx1, hx2, hx3⟩ := id hI
  simp only [stp] at hs
  simp only [ckR, Bool.and_eq_true, beq_iff_eq, decide_eq_true_eq] at hck
  subst hck
  cases hs
  exact lv_null (rest := cv ad st) hx hb hdec (KN.pure k hI (List.forall_mem_cons.mpr ⟨vk_0 P, hsv⟩))

set_option maxHeartbeats 4000000 in
theorem sx_ldc {n : Nat} (fo : FO p s m meth c mi) (sv : SV D cy s) (sh : SH L0 x0 s s.heap) (hd : dec mi pc = some (.ldc n, len, rz)) (hI : IV D cy L0 x0 s mi ad P I L ls st lsA H locs) {w : FR × MM} (hs : stp pc (.ldc n) len rz ls st P I L C = some (.inl w)) (hcR : cells + w.2.2.2.2.1 ≤ R.cells + C.1) (hsR : slots + w.2.2.2.2.2 ≤ R.slots + C.2) (hfR : 8 ≤ R.frames) (hlR : 128 ≤ R.locals)
    (k : KN p l e R s m args below meth c cells slots Q D cy L0 x0 mi ad P C w) : W p l e R s m args below meth c H locs cells slots Q (F0 m pc lsA (cv ad st)) := by
  obtain ⟨hdec, hck⟩ := dec_ok hd
  obtain ⟨hx, hb, hml, hrt, hown, hlocks, htab, hnm⟩ := fo
  have hts : ∀ w ∈ GT, w.before args s = true := fun w hw => sv.1 w hw args
  obtain ⟨hP, hD, hwf, hS, hlh, hlv, hsv, hx1, hx2, hx3⟩ := id hI
  simp only [stp] at hs
  simp only [ckR, Bool.and_eq_true, beq_iff_eq, decide_eq_true_eq] at hck
  obtain ⟨rfl, hv0⟩ := hck
  split at hs
  · rename_i k0 pl
    cases hs
    obtain ⟨hlk, hk1, hk2⟩ := ckLk_inv hv0 (by simp)
    simp only [lkB, hk1, hk2, decide_eq_true_eq] at hlk
    exact lv_ldc (rest := cv ad st) hx hb hown (hts _ (mem_GT1 hlk rfl)) hdec (KN.pure k hI (List.forall_mem_cons.mpr ⟨vk_i P _, hsv⟩))
  · cases hs

set_option maxHeartbeats 4000000 in
theorem sx_ldc_w {n : Nat} (fo : FO p s m meth c mi) (sv : SV D cy s) (sh : SH L0 x0 s s.heap) (hd : dec mi pc = some (.ldc_w n, len, rz)) (hI : IV D cy L0 x0 s mi ad P I L ls st lsA H locs) {w : FR × MM} (hs : stp pc (.ldc_w n) len rz ls st P I L C = some (.inl w)) (hcR : cells + w.2.2.2.2.1 ≤ R.cells + C.1) (hsR : slots + w.2.2.2.2.2 ≤ R.slots + C.2) (hfR : 8 ≤ R.frames) (hlR : 128 ≤ R.locals)
    (k : KN p l e R s m args below meth c cells slots Q D cy L0 x0 mi ad P C w) : W p l e R s m args below meth c H locs cells slots Q (F0 m pc lsA (cv ad st)) := by
  obtain ⟨hdec, hck⟩ := dec_ok hd
  obtain ⟨hx, hb, hml, hrt, hown, hlocks, htab, hnm⟩ := fo
  have hts : ∀ w ∈ GT, w.before args s = true := fun w hw => sv.1 w hw args
  obtain ⟨hP, hD, hwf, hS, hlh, hlv, hsv, hx1, hx2, hx3⟩ := id hI
  simp only [stp] at hs
  simp only [ckR, Bool.and_eq_true, beq_iff_eq, decide_eq_true_eq] at hck
  obtain ⟨rfl, hv0⟩ := hck
  split at hs
  · rename_i k0 pl
    cases hs
    obtain ⟨hlk, hk1, hk2⟩ := ckLk_inv hv0 (by simp)
    simp only [lkB, hk1, hk2, decide_eq_true_eq] at hlk
    exact lv_ldcw (rest := cv ad st) hx hb hown (hts _ (mem_GT1 hlk rfl)) hdec (KN.pure k hI (List.forall_mem_cons.mpr ⟨vk_i P _, hsv⟩))
  · cases hs

set_option maxHeartbeats 4000000 in
theorem sx_ldc2_w {n : Nat} (fo : FO p s m meth c mi) (sv : SV D cy s) (sh : SH L0 x0 s s.heap) (hd : dec mi pc = some (.ldc2_w n, len, rz)) (hI : IV D cy L0 x0 s mi ad P I L ls st lsA H locs) {w : FR × MM} (hs : stp pc (.ldc2_w n) len rz ls st P I L C = some (.inl w)) (hcR : cells + w.2.2.2.2.1 ≤ R.cells + C.1) (hsR : slots + w.2.2.2.2.2 ≤ R.slots + C.2) (hfR : 8 ≤ R.frames) (hlR : 128 ≤ R.locals)
    (k : KN p l e R s m args below meth c cells slots Q D cy L0 x0 mi ad P C w) : W p l e R s m args below meth c H locs cells slots Q (F0 m pc lsA (cv ad st)) := by
  obtain ⟨hdec, hck⟩ := dec_ok hd
  obtain ⟨hx, hb, hml, hrt, hown, hlocks, htab, hnm⟩ := fo
  have hts : ∀ w ∈ GT, w.before args s = true := fun w hw => sv.1 w hw args
  obtain ⟨hP, hD, hwf, hS, hlh, hlv, hsv, hx1, hx2, hx3⟩ := id hI
  simp only [stp] at hs
  simp only [ckR, Bool.and_eq_true, beq_iff_eq, decide_eq_true_eq] at hck
  obtain ⟨rfl, hv0⟩ := hck
  split at hs
  · rename_i k0 pl
    cases hs
    obtain ⟨hlk, hk1, hk2⟩ := ckLk_inv hv0 (by simp)
    simp only [lkB, hk1, hk2, decide_eq_true_eq] at hlk
    exact lv_ldc2 (rest := cv ad st) hx hb hown (hts _ (mem_GT1 hlk rfl)) hdec (KN.pure k hI (List.forall_mem_cons.mpr ⟨vk_l P _, hsv⟩))
  · cases hs

set_option maxHeartbeats 4000000 in
theorem sx_dup  (fo : FO p s m meth c mi) (sv : SV D cy s) (sh : SH L0 x0 s s.heap) (hd : dec mi pc = some (.dup, len, rz)) (hI : IV D cy L0 x0 s mi ad P I L ls st lsA H locs) {w : FR × MM} (hs : stp pc (.dup) len rz ls st P I L C = some (.inl w)) (hcR : cells + w.2.2.2.2.1 ≤ R.cells + C.1) (hsR : slots + w.2.2.2.2.2 ≤ R.slots + C.2) (hfR : 8 ≤ R.frames) (hlR : 128 ≤ R.locals)
    (k : KN p l e R s m args below meth c cells slots Q D cy L0 x0 mi ad P C w) : W p l e R s m args below meth c H locs cells slots Q (F0 m pc lsA (cv ad st)) := by
  obtain ⟨hdec, hck⟩ := dec_ok hd
  obtain ⟨hx, hb, hml, hrt, hown, hlocks, htab, hnm⟩ := fo
  have hts : ∀ w ∈ GT, w.before args s = true := fun w hw => sv.1 w hw args
  obtain ⟨hP, hD, hwf, hS, hlh, hlv, hsv, hx1, hx2, hx3⟩ := id hI
  simp only [stp] at hs
  simp only [ckR, Bool.and_eq_true, beq_iff_eq, decide_eq_true_eq] at hck
  subst hck
  split at hs
  · split at hs
    · rename_i v st1 hc
      cases hs
      have hv := List.forall_mem_cons.mp hsv
      exact lv_dup (rest := cv ad st1) (va := conc ad v) hx hb hdec (by rw [conc_cat]; exact hc) (KN.pure k hI (List.forall_mem_cons.mpr ⟨hv.1, hsv⟩))
    · cases hs
  · cases hs

set_option maxHeartbeats 4000000 in
theorem sx_dup2  (fo : FO p s m meth c mi) (sv : SV D cy s) (sh : SH L0 x0 s s.heap) (hd : dec mi pc = some (.dup2, len, rz)) (hI : IV D cy L0 x0 s mi ad P I L ls st lsA H locs) {w : FR × MM} (hs : stp pc (.dup2) len rz ls st P I L C = some (.inl w)) (hcR : cells + w.2.2.2.2.1 ≤ R.cells + C.1) (hsR : slots + w.2.2.2.2.2 ≤ R.slots + C.2) (hfR : 8 ≤ R.frames) (hlR : 128 ≤ R.locals)
    (k : KN p l e R s m args below meth c cells slots Q D cy L0 x0 mi ad P C w) : W p l e R s m args below meth c H locs cells slots Q (F0 m pc lsA (cv ad st)) := by
  obtain ⟨hdec, hck⟩ := dec_ok hd
  obtain ⟨hx, hb, hml, hrt, hown, hlocks, htab, hnm⟩ := fo
  have hts : ∀ w ∈ GT, w.before args s = true := fun w hw => sv.1 w hw args
  obtain ⟨hP, hD, hwf, hS, hlh, hlv, hsv, hx1, hx2, hx3⟩ := id hI
  simp only [stp] at hs
  simp only [ckR, Bool.and_eq_true, beq_iff_eq, decide_eq_true_eq] at hck
  subst hck
  split at hs
  · split at hs
    · rename_i v u st1 hc
      cases hs
      have hv := List.forall_mem_cons.mp hsv
      have hu := List.forall_mem_cons.mp hv.2
      exact lv_dup2_11 (rest := cv ad st1) (va := conc ad v) (vb := conc ad u) hx hb hdec (by rw [conc_cat]; exact hc.1) (by rw [conc_cat]; exact hc.2) (KN.pure k hI (List.forall_mem_cons.mpr ⟨hv.1, List.forall_mem_cons.mpr ⟨hu.1, hsv⟩⟩))
    · cases hs
  · cases hs

set_option maxHeartbeats 4000000 in
theorem sx_pop  (fo : FO p s m meth c mi) (sv : SV D cy s) (sh : SH L0 x0 s s.heap) (hd : dec mi pc = some (.pop, len, rz)) (hI : IV D cy L0 x0 s mi ad P I L ls st lsA H locs) {w : FR × MM} (hs : stp pc (.pop) len rz ls st P I L C = some (.inl w)) (hcR : cells + w.2.2.2.2.1 ≤ R.cells + C.1) (hsR : slots + w.2.2.2.2.2 ≤ R.slots + C.2) (hfR : 8 ≤ R.frames) (hlR : 128 ≤ R.locals)
    (k : KN p l e R s m args below meth c cells slots Q D cy L0 x0 mi ad P C w) : W p l e R s m args below meth c H locs cells slots Q (F0 m pc lsA (cv ad st)) := by
  obtain ⟨hdec, hck⟩ := dec_ok hd
  obtain ⟨hx, hb, hml, hrt, hown, hlocks, htab, hnm⟩ := fo
  have hts : ∀ w ∈ GT, w.before args s = true := fun w hw => sv.1 w hw args
  obtain ⟨hP, hD, hwf, hS, hlh, hlv, hsv, hx1, hx2, hx3⟩ := id hI
  simp only [stp] at hs
  simp only [ckR, Bool.and_eq_true, beq_iff_eq, decide_eq_true_eq] at hck
  subst hck
  split at hs
  · split at hs
    · rename_i v st1 hc
      cases hs
      have hv := List.forall_mem_cons.mp hsv
      exact lv_pop (rest := cv ad st1) (va := conc ad v) hx hb hdec (by rw [conc_cat]; exact hc) (KN.pure k hI hv.2)
    · cases hs
  · cases hs

set_option maxHeartbeats 4000000 in
theorem sx_iadd  (fo : FO p s m meth c mi) (sv : SV D cy s) (sh : SH L0 x0 s s.heap) (hd : dec mi pc = some (.iadd, len, rz)) (hI : IV D cy L0 x0 s mi ad P I L ls st lsA H locs) {w : FR × MM} (hs : stp pc (.iadd) len rz ls st P I L C = some (.inl w)) (hcR : cells + w.2.2.2.2.1 ≤ R.cells + C.1) (hsR : slots + w.2.2.2.2.2 ≤ R.slots + C.2) (hfR : 8 ≤ R.frames) (hlR : 128 ≤ R.locals)
    (k : KN p l e R s m args below meth c cells slots Q D cy L0 x0 mi ad P C w) : W p l e R s m args below meth c H locs cells slots Q (F0 m pc lsA (cv ad st)) := by
  obtain ⟨hdec, hck⟩ := dec_ok hd
  obtain ⟨hx, hb, hml, hrt, hown, hlocks, htab, hnm⟩ := fo
  have hts : ∀ w ∈ GT, w.before args s = true := fun w hw => sv.1 w hw args
  obtain ⟨hP, hD, hwf, hS, hlh, hlv, hsv, hx1, hx2, hx3⟩ := id hI
  simp only [stp] at hs
  simp only [ckR, Bool.and_eq_true, beq_iff_eq, decide_eq_true_eq] at hck
  subst hck
  obtain ⟨x, y, st1, rfl, hw⟩ := o2I_inv hs
  cases hw
  have hv := (List.forall_mem_cons.mp (List.forall_mem_cons.mp hsv).2).2
  exact lv_iadd (rest := cv ad st1) hx hb hdec (KN.pure k hI (List.forall_mem_cons.mpr ⟨vk_i P _, hv⟩))

set_option maxHeartbeats 4000000 in
theorem sx_isub  (fo : FO p s m meth c mi) (sv : SV D cy s) (sh : SH L0 x0 s s.heap) (hd : dec mi pc = some (.isub, len, rz)) (hI : IV D cy L0 x0 s mi ad P I L ls st lsA H locs) {w : FR × MM} (hs : stp pc (.isub) len rz ls st P I L C = some (.inl w)) (hcR : cells + w.2.2.2.2.1 ≤ R.cells + C.1) (hsR : slots + w.2.2.2.2.2 ≤ R.slots + C.2) (hfR : 8 ≤ R.frames) (hlR : 128 ≤ R.locals)
    (k : KN p l e R s m args below meth c cells slots Q D cy L0 x0 mi ad P C w) : W p l e R s m args below meth c H locs cells slots Q (F0 m pc lsA (cv ad st)) := by
  obtain ⟨hdec, hck⟩ := dec_ok hd
  obtain ⟨hx, hb, hml, hrt, hown, hlocks, htab, hnm⟩ := fo
  have hts : ∀ w ∈ GT, w.before args s = true := fun w hw => sv.1 w hw args
  obtain ⟨hP, hD, hwf, hS, hlh, hlv, hsv, hx1, hx2, hx3⟩ := id hI
  simp only [stp] at hs
  simp only [ckR, Bool.and_eq_true, beq_iff_eq, decide_eq_true_eq] at hck
  subst hck
  obtain ⟨x, y, st1, rfl, hw⟩ := o2I_inv hs
  cases hw
  have hv := (List.forall_mem_cons.mp (List.forall_mem_cons.mp hsv).2).2
  exact lv_isub (rest := cv ad st1) hx hb hdec (KN.pure k hI (List.forall_mem_cons.mpr ⟨vk_i P _, hv⟩))

set_option maxHeartbeats 4000000 in
theorem sx_imul  (fo : FO p s m meth c mi) (sv : SV D cy s) (sh : SH L0 x0 s s.heap) (hd : dec mi pc = some (.imul, len, rz)) (hI : IV D cy L0 x0 s mi ad P I L ls st lsA H locs) {w : FR × MM} (hs : stp pc (.imul) len rz ls st P I L C = some (.inl w)) (hcR : cells + w.2.2.2.2.1 ≤ R.cells + C.1) (hsR : slots + w.2.2.2.2.2 ≤ R.slots + C.2) (hfR : 8 ≤ R.frames) (hlR : 128 ≤ R.locals)
    (k : KN p l e R s m args below meth c cells slots Q D cy L0 x0 mi ad P C w) : W p l e R s m args below meth c H locs cells slots Q (F0 m pc lsA (cv ad st)) := by
  obtain ⟨hdec, hck⟩ := dec_ok hd
  obtain ⟨hx, hb, hml, hrt, hown, hlocks, htab, hnm⟩ := fo
  have hts : ∀ w ∈ GT, w.before args s = true := fun w hw => sv.1 w hw args
  obtain ⟨hP, hD, hwf, hS, hlh, hlv, hsv, hx1, hx2, hx3⟩ := id hI
  simp only [stp] at hs
  simp only [ckR, Bool.and_eq_true, beq_iff_eq, decide_eq_true_eq] at hck
  subst hck
  obtain ⟨x, y, st1, rfl, hw⟩ := o2I_inv hs
  cases hw
  have hv := (List.forall_mem_cons.mp (List.forall_mem_cons.mp hsv).2).2
  exact lv_imul (rest := cv ad st1) hx hb hdec (KN.pure k hI (List.forall_mem_cons.mpr ⟨vk_i P _, hv⟩))

set_option maxHeartbeats 4000000 in
theorem sx_iand  (fo : FO p s m meth c mi) (sv : SV D cy s) (sh : SH L0 x0 s s.heap) (hd : dec mi pc = some (.iand, len, rz)) (hI : IV D cy L0 x0 s mi ad P I L ls st lsA H locs) {w : FR × MM} (hs : stp pc (.iand) len rz ls st P I L C = some (.inl w)) (hcR : cells + w.2.2.2.2.1 ≤ R.cells + C.1) (hsR : slots + w.2.2.2.2.2 ≤ R.slots + C.2) (hfR : 8 ≤ R.frames) (hlR : 128 ≤ R.locals)
    (k : KN p l e R s m args below meth c cells slots Q D cy L0 x0 mi ad P C w) : W p l e R s m args below meth c H locs cells slots Q (F0 m pc lsA (cv ad st)) := by
  obtain ⟨hdec, hck⟩ := dec_ok hd
  obtain ⟨hx, hb, hml, hrt, hown, hlocks, htab, hnm⟩ := fo
  have hts : ∀ w ∈ GT, w.before args s = true := fun w hw => sv.1 w hw args
  obtain ⟨hP, hD, hwf, hS, hlh, hlv, hsv, hx1, hx2, hx3⟩ := id hI
  simp only [stp] at hs
  simp only [ckR, Bool.and_eq_true, beq_iff_eq, decide_eq_true_eq] at hck
  subst hck
  obtain ⟨x, y, st1, rfl, hw⟩ := o2I_inv hs
  cases hw
  have hv := (List.forall_mem_cons.mp (List.forall_mem_cons.mp hsv).2).2
  exact lv_iand (rest := cv ad st1) hx hb hdec (KN.pure k hI (List.forall_mem_cons.mpr ⟨vk_i P _, hv⟩))

set_option maxHeartbeats 4000000 in
theorem sx_ior  (fo : FO p s m meth c mi) (sv : SV D cy s) (sh : SH L0 x0 s s.heap) (hd : dec mi pc = some (.ior, len, rz)) (hI : IV D cy L0 x0 s mi ad P I L ls st lsA H locs) {w : FR × MM} (hs : stp pc (.ior) len rz ls st P I L C = some (.inl w)) (hcR : cells + w.2.2.2.2.1 ≤ R.cells + C.1) (hsR : slots + w.2.2.2.2.2 ≤ R.slots + C.2) (hfR : 8 ≤ R.frames) (hlR : 128 ≤ R.locals)
    (k : KN p l e R s m args below meth c cells slots Q D cy L0 x0 mi ad P C w) : W p l e R s m args below meth c H locs cells slots Q (F0 m pc lsA (cv ad st)) := by
  obtain ⟨hdec, hck⟩ := dec_ok hd
  obtain ⟨hx, hb, hml, hrt, hown, hlocks, htab, hnm⟩ := fo
  have hts : ∀ w ∈ GT, w.before args s = true := fun w hw => sv.1 w hw args
  obtain ⟨hP, hD, hwf, hS, hlh, hlv, hsv, hx1, hx2, hx3⟩ := id hI
  simp only [stp] at hs
  simp only [ckR, Bool.and_eq_true, beq_iff_eq, decide_eq_true_eq] at hck
  subst hck
  obtain ⟨x, y, st1, rfl, hw⟩ := o2I_inv hs
  cases hw
  have hv := (List.forall_mem_cons.mp (List.forall_mem_cons.mp hsv).2).2
  exact lv_ior (rest := cv ad st1) hx hb hdec (KN.pure k hI (List.forall_mem_cons.mpr ⟨vk_i P _, hv⟩))

set_option maxHeartbeats 4000000 in
theorem sx_ixor  (fo : FO p s m meth c mi) (sv : SV D cy s) (sh : SH L0 x0 s s.heap) (hd : dec mi pc = some (.ixor, len, rz)) (hI : IV D cy L0 x0 s mi ad P I L ls st lsA H locs) {w : FR × MM} (hs : stp pc (.ixor) len rz ls st P I L C = some (.inl w)) (hcR : cells + w.2.2.2.2.1 ≤ R.cells + C.1) (hsR : slots + w.2.2.2.2.2 ≤ R.slots + C.2) (hfR : 8 ≤ R.frames) (hlR : 128 ≤ R.locals)
    (k : KN p l e R s m args below meth c cells slots Q D cy L0 x0 mi ad P C w) : W p l e R s m args below meth c H locs cells slots Q (F0 m pc lsA (cv ad st)) := by
  obtain ⟨hdec, hck⟩ := dec_ok hd
  obtain ⟨hx, hb, hml, hrt, hown, hlocks, htab, hnm⟩ := fo
  have hts : ∀ w ∈ GT, w.before args s = true := fun w hw => sv.1 w hw args
  obtain ⟨hP, hD, hwf, hS, hlh, hlv, hsv, hx1, hx2, hx3⟩ := id hI
  simp only [stp] at hs
  simp only [ckR, Bool.and_eq_true, beq_iff_eq, decide_eq_true_eq] at hck
  subst hck
  obtain ⟨x, y, st1, rfl, hw⟩ := o2I_inv hs
  cases hw
  have hv := (List.forall_mem_cons.mp (List.forall_mem_cons.mp hsv).2).2
  exact lv_ixor (rest := cv ad st1) hx hb hdec (KN.pure k hI (List.forall_mem_cons.mpr ⟨vk_i P _, hv⟩))

set_option maxHeartbeats 4000000 in
theorem sx_ishl  (fo : FO p s m meth c mi) (sv : SV D cy s) (sh : SH L0 x0 s s.heap) (hd : dec mi pc = some (.ishl, len, rz)) (hI : IV D cy L0 x0 s mi ad P I L ls st lsA H locs) {w : FR × MM} (hs : stp pc (.ishl) len rz ls st P I L C = some (.inl w)) (hcR : cells + w.2.2.2.2.1 ≤ R.cells + C.1) (hsR : slots + w.2.2.2.2.2 ≤ R.slots + C.2) (hfR : 8 ≤ R.frames) (hlR : 128 ≤ R.locals)
    (k : KN p l e R s m args below meth c cells slots Q D cy L0 x0 mi ad P C w) : W p l e R s m args below meth c H locs cells slots Q (F0 m pc lsA (cv ad st)) := by
  obtain ⟨hdec, hck⟩ := dec_ok hd
  obtain ⟨hx, hb, hml, hrt, hown, hlocks, htab, hnm⟩ := fo
  have hts : ∀ w ∈ GT, w.before args s = true := fun w hw => sv.1 w hw args
  obtain ⟨hP, hD, hwf, hS, hlh, hlv, hsv, hx1, hx2, hx3⟩ := id hI
  simp only [stp] at hs
  simp only [ckR, Bool.and_eq_true, beq_iff_eq, decide_eq_true_eq] at hck
  subst hck
  obtain ⟨x, y, st1, rfl, hw⟩ := o2I_inv hs
  cases hw
  have hv := (List.forall_mem_cons.mp (List.forall_mem_cons.mp hsv).2).2
  exact lv_ishl (rest := cv ad st1) hx hb hdec (KN.pure k hI (List.forall_mem_cons.mpr ⟨vk_i P _, hv⟩))

set_option maxHeartbeats 4000000 in
theorem sx_ishr  (fo : FO p s m meth c mi) (sv : SV D cy s) (sh : SH L0 x0 s s.heap) (hd : dec mi pc = some (.ishr, len, rz)) (hI : IV D cy L0 x0 s mi ad P I L ls st lsA H locs) {w : FR × MM} (hs : stp pc (.ishr) len rz ls st P I L C = some (.inl w)) (hcR : cells + w.2.2.2.2.1 ≤ R.cells + C.1) (hsR : slots + w.2.2.2.2.2 ≤ R.slots + C.2) (hfR : 8 ≤ R.frames) (hlR : 128 ≤ R.locals)
    (k : KN p l e R s m args below meth c cells slots Q D cy L0 x0 mi ad P C w) : W p l e R s m args below meth c H locs cells slots Q (F0 m pc lsA (cv ad st)) := by
  obtain ⟨hdec, hck⟩ := dec_ok hd
  obtain ⟨hx, hb, hml, hrt, hown, hlocks, htab, hnm⟩ := fo
  have hts : ∀ w ∈ GT, w.before args s = true := fun w hw => sv.1 w hw args
  obtain ⟨hP, hD, hwf, hS, hlh, hlv, hsv, hx1, hx2, hx3⟩ := id hI
  simp only [stp] at hs
  simp only [ckR, Bool.and_eq_true, beq_iff_eq, decide_eq_true_eq] at hck
  subst hck
  obtain ⟨x, y, st1, rfl, hw⟩ := o2I_inv hs
  cases hw
  have hv := (List.forall_mem_cons.mp (List.forall_mem_cons.mp hsv).2).2
  exact lv_ishr (rest := cv ad st1) hx hb hdec (KN.pure k hI (List.forall_mem_cons.mpr ⟨vk_i P _, hv⟩))

set_option maxHeartbeats 4000000 in
theorem sx_iushr  (fo : FO p s m meth c mi) (sv : SV D cy s) (sh : SH L0 x0 s s.heap) (hd : dec mi pc = some (.iushr, len, rz)) (hI : IV D cy L0 x0 s mi ad P I L ls st lsA H locs) {w : FR × MM} (hs : stp pc (.iushr) len rz ls st P I L C = some (.inl w)) (hcR : cells + w.2.2.2.2.1 ≤ R.cells + C.1) (hsR : slots + w.2.2.2.2.2 ≤ R.slots + C.2) (hfR : 8 ≤ R.frames) (hlR : 128 ≤ R.locals)
    (k : KN p l e R s m args below meth c cells slots Q D cy L0 x0 mi ad P C w) : W p l e R s m args below meth c H locs cells slots Q (F0 m pc lsA (cv ad st)) := by
  obtain ⟨hdec, hck⟩ := dec_ok hd
  obtain ⟨hx, hb, hml, hrt, hown, hlocks, htab, hnm⟩ := fo
  have hts : ∀ w ∈ GT, w.before args s = true := fun w hw => sv.1 w hw args
  obtain ⟨hP, hD, hwf, hS, hlh, hlv, hsv, hx1, hx2, hx3⟩ := id hI
  simp only [stp] at hs
  simp only [ckR, Bool.and_eq_true, beq_iff_eq, decide_eq_true_eq] at hck
  subst hck
  obtain ⟨x, y, st1, rfl, hw⟩ := o2I_inv hs
  cases hw
  have hv := (List.forall_mem_cons.mp (List.forall_mem_cons.mp hsv).2).2
  exact lv_iushr (rest := cv ad st1) hx hb hdec rfl (KN.pure k hI (List.forall_mem_cons.mpr ⟨vk_i P _, hv⟩))

set_option maxHeartbeats 4000000 in
theorem sx_idiv  (fo : FO p s m meth c mi) (sv : SV D cy s) (sh : SH L0 x0 s s.heap) (hd : dec mi pc = some (.idiv, len, rz)) (hI : IV D cy L0 x0 s mi ad P I L ls st lsA H locs) {w : FR × MM} (hs : stp pc (.idiv) len rz ls st P I L C = some (.inl w)) (hcR : cells + w.2.2.2.2.1 ≤ R.cells + C.1) (hsR : slots + w.2.2.2.2.2 ≤ R.slots + C.2) (hfR : 8 ≤ R.frames) (hlR : 128 ≤ R.locals)
    (k : KN p l e R s m args below meth c cells slots Q D cy L0 x0 mi ad P C w) : W p l e R s m args below meth c H locs cells slots Q (F0 m pc lsA (cv ad st)) := by
  obtain ⟨hdec, hck⟩ := dec_ok hd
  obtain ⟨hx, hb, hml, hrt, hown, hlocks, htab, hnm⟩ := fo
  have hts : ∀ w ∈ GT, w.before args s = true := fun w hw => sv.1 w hw args
  obtain ⟨hP, hD, hwf, hS, hlh, hlv, hsv, hx1, hx2, hx3⟩ := id hI
  simp only [stp] at hs
  simp only [ckR, Bool.and_eq_true, beq_iff_eq, decide_eq_true_eq] at hck
  subst hck
  split at hs
  · split at hs
    · cases hs
    · rename_i y x st1 hc
      cases hs
      have hv := (List.forall_mem_cons.mp (List.forall_mem_cons.mp hsv).2).2
      exact lv_idiv (rest := cv ad st1) hx hb hdec hc (KN.pure k hI (List.forall_mem_cons.mpr ⟨vk_i P _, hv⟩))
  · cases hs

set_option maxHeartbeats 4000000 in
theorem sx_irem  (fo : FO p s m meth c mi) (sv : SV D cy s) (sh : SH L0 x0 s s.heap) (hd : dec mi pc = some (.irem, len, rz)) (hI : IV D cy L0 x0 s mi ad P I L ls st lsA H locs) {w : FR × MM} (hs : stp pc (.irem) len rz ls st P I L C = some (.inl w)) (hcR : cells + w.2.2.2.2.1 ≤ R.cells + C.1) (hsR : slots + w.2.2.2.2.2 ≤ R.slots + C.2) (hfR : 8 ≤ R.frames) (hlR : 128 ≤ R.locals)
    (k : KN p l e R s m args below meth c cells slots Q D cy L0 x0 mi ad P C w) : W p l e R s m args below meth c H locs cells slots Q (F0 m pc lsA (cv ad st)) := by
  obtain ⟨hdec, hck⟩ := dec_ok hd
  obtain ⟨hx, hb, hml, hrt, hown, hlocks, htab, hnm⟩ := fo
  have hts : ∀ w ∈ GT, w.before args s = true := fun w hw => sv.1 w hw args
  obtain ⟨hP, hD, hwf, hS, hlh, hlv, hsv, hx1, hx2, hx3⟩ := id hI
  simp only [stp] at hs
  simp only [ckR, Bool.and_eq_true, beq_iff_eq, decide_eq_true_eq] at hck
  subst hck
  split at hs
  · split at hs
    · cases hs
    · rename_i y x st1 hc
      cases hs
      have hv := (List.forall_mem_cons.mp (List.forall_mem_cons.mp hsv).2).2
      exact lv_irem (rest := cv ad st1) hx hb hdec hc (KN.pure k hI (List.forall_mem_cons.mpr ⟨vk_i P _, hv⟩))
  · cases hs

set_option maxHeartbeats 4000000 in
theorem sx_ldiv  (fo : FO p s m meth c mi) (sv : SV D cy s) (sh : SH L0 x0 s s.heap) (hd : dec mi pc = some (.ldiv, len, rz)) (hI : IV D cy L0 x0 s mi ad P I L ls st lsA H locs) {w : FR × MM} (hs : stp pc (.ldiv) len rz ls st P I L C = some (.inl w)) (hcR : cells + w.2.2.2.2.1 ≤ R.cells + C.1) (hsR : slots + w.2.2.2.2.2 ≤ R.slots + C.2) (hfR : 8 ≤ R.frames) (hlR : 128 ≤ R.locals)
    (k : KN p l e R s m args below meth c cells slots Q D cy L0 x0 mi ad P C w) : W p l e R s m args below meth c H locs cells slots Q (F0 m pc lsA (cv ad st)) := by
  obtain ⟨hdec, hck⟩ := dec_ok hd
  obtain ⟨hx, hb, hml, hrt, hown, hlocks, htab, hnm⟩ := fo
  have hts : ∀ w ∈ GT, w.before args s = true := fun w hw => sv.1 w hw args
  obtain ⟨hP, hD, hwf, hS, hlh, hlv, hsv, hx1, hx2, hx3⟩ := id hI
  simp only [stp] at hs
  simp only [ckR, Bool.and_eq_true, beq_iff_eq, decide_eq_true_eq] at hck
  subst hck
  split at hs
  · split at hs
    · cases hs
    · rename_i y x st1 hc
      cases hs
      have hv := (List.forall_mem_cons.mp (List.forall_mem_cons.mp hsv).2).2
      exact lv_ldiv (rest := cv ad st1) hx hb hdec hc (KN.pure k hI (List.forall_mem_cons.mpr ⟨vk_l P _, hv⟩))
  · cases hs

set_option maxHeartbeats 4000000 in
theorem sx_lrem  (fo : FO p s m meth c mi) (sv : SV D cy s) (sh : SH L0 x0 s s.heap) (hd : dec mi pc = some (.lrem, len, rz)) (hI : IV D cy L0 x0 s mi ad P I L ls st lsA H locs) {w : FR × MM} (hs : stp pc (.lrem) len rz ls st P I L C = some (.inl w)) (hcR : cells + w.2.2.2.2.1 ≤ R.cells + C.1) (hsR : slots + w.2.2.2.2.2 ≤ R.slots + C.2) (hfR : 8 ≤ R.frames) (hlR : 128 ≤ R.locals)
    (k : KN p l e R s m args below meth c cells slots Q D cy L0 x0 mi ad P C w) : W p l e R s m args below meth c H locs cells slots Q (F0 m pc lsA (cv ad st)) := by
  obtain ⟨hdec, hck⟩ := dec_ok hd
  obtain ⟨hx, hb, hml, hrt, hown, hlocks, htab, hnm⟩ := fo
  have hts : ∀ w ∈ GT, w.before args s = true := fun w hw => sv.1 w hw args
  obtain ⟨hP, hD, hwf, hS, hlh, hlv, hsv, hx1, hx2, hx3⟩ := id hI
  simp only [stp] at hs
  simp only [ckR, Bool.and_eq_true, beq_iff_eq, decide_eq_true_eq] at hck
  subst hck
  split at hs
  · split at hs
    · cases hs
    · rename_i y x st1 hc
      cases hs
      have hv := (List.forall_mem_cons.mp (List.forall_mem_cons.mp hsv).2).2
      exact lv_lrem (rest := cv ad st1) hx hb hdec hc (KN.pure k hI (List.forall_mem_cons.mpr ⟨vk_l P _, hv⟩))
  · cases hs

set_option maxHeartbeats 4000000 in
theorem sx_i2l  (fo : FO p s m meth c mi) (sv : SV D cy s) (sh : SH L0 x0 s s.heap) (hd : dec mi pc = some (.i2l, len, rz)) (hI : IV D cy L0 x0 s mi ad P I L ls st lsA H locs) {w : FR × MM} (hs : stp pc (.i2l) len rz ls st P I L C = some (.inl w)) (hcR : cells + w.2.2.2.2.1 ≤ R.cells + C.1) (hsR : slots + w.2.2.2.2.2 ≤ R.slots + C.2) (hfR : 8 ≤ R.frames) (hlR : 128 ≤ R.locals)
    (k : KN p l e R s m args below meth c cells slots Q D cy L0 x0 mi ad P C w) : W p l e R s m args below meth c H locs cells slots Q (F0 m pc lsA (cv ad st)) := by
  obtain ⟨hdec, hck⟩ := dec_ok hd
  obtain ⟨hx, hb, hml, hrt, hown, hlocks, htab, hnm⟩ := fo
  have hts : ∀ w ∈ GT, w.before args s = true := fun w hw => sv.1 w hw args
  obtain ⟨hP, hD, hwf, hS, hlh, hlv, hsv, hx1, hx2, hx3⟩ := id hI
  simp only [stp] at hs
  simp only [ckR, Bool.and_eq_true, beq_iff_eq, decide_eq_true_eq] at hck
  subst hck
  obtain ⟨x, st1, rfl, hw⟩ := o1I_inv hs
  cases hw
  exact lv_i2l (rest := cv ad st1) hx hb hdec rfl (KN.pure k hI (List.forall_mem_cons.mpr ⟨vk_l P _, (List.forall_mem_cons.mp hsv).2⟩))

set_option maxHeartbeats 4000000 in
theorem sx_i2b  (fo : FO p s m meth c mi) (sv : SV D cy s) (sh : SH L0 x0 s s.heap) (hd : dec mi pc = some (.i2b, len, rz)) (hI : IV D cy L0 x0 s mi ad P I L ls st lsA H locs) {w : FR × MM} (hs : stp pc (.i2b) len rz ls st P I L C = some (.inl w)) (hcR : cells + w.2.2.2.2.1 ≤ R.cells + C.1) (hsR : slots + w.2.2.2.2.2 ≤ R.slots + C.2) (hfR : 8 ≤ R.frames) (hlR : 128 ≤ R.locals)
    (k : KN p l e R s m args below meth c cells slots Q D cy L0 x0 mi ad P C w) : W p l e R s m args below meth c H locs cells slots Q (F0 m pc lsA (cv ad st)) := by
  obtain ⟨hdec, hck⟩ := dec_ok hd
  obtain ⟨hx, hb, hml, hrt, hown, hlocks, htab, hnm⟩ := fo
  have hts : ∀ w ∈ GT, w.before args s = true := fun w hw => sv.1 w hw args
  obtain ⟨hP, hD, hwf, hS, hlh, hlv, hsv, hx1, hx2, hx3⟩ := id hI
  simp only [stp] at hs
  simp only [ckR, Bool.and_eq_true, beq_iff_eq, decide_eq_true_eq] at hck
  subst hck
  obtain ⟨x, st1, rfl, hw⟩ := o1I_inv hs
  cases hw
  exact lv_i2b (rest := cv ad st1) hx hb hdec rfl (KN.pure k hI (List.forall_mem_cons.mpr ⟨vk_i P _, (List.forall_mem_cons.mp hsv).2⟩))

set_option maxHeartbeats 4000000 in
theorem sx_i2d  (fo : FO p s m meth c mi) (sv : SV D cy s) (sh : SH L0 x0 s s.heap) (hd : dec mi pc = some (.i2d, len, rz)) (hI : IV D cy L0 x0 s mi ad P I L ls st lsA H locs) {w : FR × MM} (hs : stp pc (.i2d) len rz ls st P I L C = some (.inl w)) (hcR : cells + w.2.2.2.2.1 ≤ R.cells + C.1) (hsR : slots + w.2.2.2.2.2 ≤ R.slots + C.2) (hfR : 8 ≤ R.frames) (hlR : 128 ≤ R.locals)
    (k : KN p l e R s m args below meth c cells slots Q D cy L0 x0 mi ad P C w) : W p l e R s m args below meth c H locs cells slots Q (F0 m pc lsA (cv ad st)) := by
  obtain ⟨hdec, hck⟩ := dec_ok hd
  obtain ⟨hx, hb, hml, hrt, hown, hlocks, htab, hnm⟩ := fo
  have hts : ∀ w ∈ GT, w.before args s = true := fun w hw => sv.1 w hw args
  obtain ⟨hP, hD, hwf, hS, hlh, hlv, hsv, hx1, hx2, hx3⟩ := id hI
  simp only [stp] at hs
  simp only [ckR, Bool.and_eq_true, beq_iff_eq, decide_eq_true_eq] at hck
  subst hck
  obtain ⟨x, st1, rfl, hw⟩ := o1I_inv hs
  cases hw
  exact lv_i2d (rest := cv ad st1) hx hb hdec (KN.pure k hI (List.forall_mem_cons.mpr ⟨vk_d P _, (List.forall_mem_cons.mp hsv).2⟩))

set_option maxHeartbeats 4000000 in
theorem sx_l2i  (fo : FO p s m meth c mi) (sv : SV D cy s) (sh : SH L0 x0 s s.heap) (hd : dec mi pc = some (.l2i, len, rz)) (hI : IV D cy L0 x0 s mi ad P I L ls st lsA H locs) {w : FR × MM} (hs : stp pc (.l2i) len rz ls st P I L C = some (.inl w)) (hcR : cells + w.2.2.2.2.1 ≤ R.cells + C.1) (hsR : slots + w.2.2.2.2.2 ≤ R.slots + C.2) (hfR : 8 ≤ R.frames) (hlR : 128 ≤ R.locals)
    (k : KN p l e R s m args below meth c cells slots Q D cy L0 x0 mi ad P C w) : W p l e R s m args below meth c H locs cells slots Q (F0 m pc lsA (cv ad st)) := by
  obtain ⟨hdec, hck⟩ := dec_ok hd
  obtain ⟨hx, hb, hml, hrt, hown, hlocks, htab, hnm⟩ := fo
  have hts : ∀ w ∈ GT, w.before args s = true := fun w hw => sv.1 w hw args
  obtain ⟨hP, hD, hwf, hS, hlh, hlv, hsv, hx1, hx2, hx3⟩ := id hI
  simp only [stp] at hs
  simp only [ckR, Bool.and_eq_true, beq_iff_eq, decide_eq_true_eq] at hck
  subst hck
  split at hs
  · rename_i x st1
    cases hs
    exact lv_l2i (rest := cv ad st1) hx hb hdec rfl (KN.pure k hI (List.forall_mem_cons.mpr ⟨vk_i P _, (List.forall_mem_cons.mp hsv).2⟩))
  · cases hs

set_option maxHeartbeats 4000000 in
theorem sx_ladd  (fo : FO p s m meth c mi) (sv : SV D cy s) (sh : SH L0 x0 s s.heap) (hd : dec mi pc = some (.ladd, len, rz)) (hI : IV D cy L0 x0 s mi ad P I L ls st lsA H locs) {w : FR × MM} (hs : stp pc (.ladd) len rz ls st P I L C = some (.inl w)) (hcR : cells + w.2.2.2.2.1 ≤ R.cells + C.1) (hsR : slots + w.2.2.2.2.2 ≤ R.slots + C.2) (hfR : 8 ≤ R.frames) (hlR : 128 ≤ R.locals)
    (k : KN p l e R s m args below meth c cells slots Q D cy L0 x0 mi ad P C w) : W p l e R s m args below meth c H locs cells slots Q (F0 m pc lsA (cv ad st)) := by
  obtain ⟨hdec, hck⟩ := dec_ok hd
  obtain ⟨hx, hb, hml, hrt, hown, hlocks, htab, hnm⟩ := fo
  have hts : ∀ w ∈ GT, w.before args s = true := fun w hw => sv.1 w hw args
  obtain ⟨hP, hD, hwf, hS, hlh, hlv, hsv, hx1, hx2, hx3⟩ := id hI
  simp only [stp] at hs
  simp only [ckR, Bool.and_eq_true, beq_iff_eq, decide_eq_true_eq] at hck
  subst hck
  obtain ⟨x, y, st1, rfl, hw⟩ := o2L_inv hs
  cases hw
  have hv := (List.forall_mem_cons.mp (List.forall_mem_cons.mp hsv).2).2
  exact lv_ladd (rest := cv ad st1) hx hb hdec (KN.pure k hI (List.forall_mem_cons.mpr ⟨vk_l P _, hv⟩))

set_option maxHeartbeats 4000000 in
theorem sx_lmul  (fo : FO p s m meth c mi) (sv : SV D cy s) (sh : SH L0 x0 s s.heap) (hd : dec mi pc = some (.lmul, len, rz)) (hI : IV D cy L0 x0 s mi ad P I L ls st lsA H locs) {w : FR × MM} (hs : stp pc (.lmul) len rz ls st P I L C = some (.inl w)) (hcR : cells + w.2.2.2.2.1 ≤ R.cells + C.1) (hsR : slots + w.2.2.2.2.2 ≤ R.slots + C.2) (hfR : 8 ≤ R.frames) (hlR : 128 ≤ R.locals)
    (k : KN p l e R s m args below meth c cells slots Q D cy L0 x0 mi ad P C w) : W p l e R s m args below meth c H locs cells slots Q (F0 m pc lsA (cv ad st)) := by
  obtain ⟨hdec, hck⟩ := dec_ok hd
  obtain ⟨hx, hb, hml, hrt, hown, hlocks, htab, hnm⟩ := fo
  have hts : ∀ w ∈ GT, w.before args s = true := fun w hw => sv.1 w hw args
  obtain ⟨hP, hD, hwf, hS, hlh, hlv, hsv, hx1, hx2, hx3⟩ := id hI
  simp only [stp] at hs
  simp only [ckR, Bool.and_eq_true, beq_iff_eq, decide_eq_true_eq] at hck
  subst hck
  obtain ⟨x, y, st1, rfl, hw⟩ := o2L_inv hs
  cases hw
  have hv := (List.forall_mem_cons.mp (List.forall_mem_cons.mp hsv).2).2
  exact lv_lmul (rest := cv ad st1) hx hb hdec (KN.pure k hI (List.forall_mem_cons.mpr ⟨vk_l P _, hv⟩))

set_option maxHeartbeats 4000000 in
theorem sx_lcmp  (fo : FO p s m meth c mi) (sv : SV D cy s) (sh : SH L0 x0 s s.heap) (hd : dec mi pc = some (.lcmp, len, rz)) (hI : IV D cy L0 x0 s mi ad P I L ls st lsA H locs) {w : FR × MM} (hs : stp pc (.lcmp) len rz ls st P I L C = some (.inl w)) (hcR : cells + w.2.2.2.2.1 ≤ R.cells + C.1) (hsR : slots + w.2.2.2.2.2 ≤ R.slots + C.2) (hfR : 8 ≤ R.frames) (hlR : 128 ≤ R.locals)
    (k : KN p l e R s m args below meth c cells slots Q D cy L0 x0 mi ad P C w) : W p l e R s m args below meth c H locs cells slots Q (F0 m pc lsA (cv ad st)) := by
  obtain ⟨hdec, hck⟩ := dec_ok hd
  obtain ⟨hx, hb, hml, hrt, hown, hlocks, htab, hnm⟩ := fo
  have hts : ∀ w ∈ GT, w.before args s = true := fun w hw => sv.1 w hw args
  obtain ⟨hP, hD, hwf, hS, hlh, hlv, hsv, hx1, hx2, hx3⟩ := id hI
  simp only [stp] at hs
  simp only [ckR, Bool.and_eq_true, beq_iff_eq, decide_eq_true_eq] at hck
  subst hck
  split at hs
  · rename_i y x st1
    cases hs
    have hv := (List.forall_mem_cons.mp (List.forall_mem_cons.mp hsv).2).2
    exact W.lcmp (rest := cv ad st1) hx hb hdec (KN.pure k hI (List.forall_mem_cons.mpr ⟨vk_i P _, hv⟩))
  · cases hs

set_option maxHeartbeats 4000000 in
theorem sx_dcmp {op : ClassFile.CmpOp} (fo : FO p s m meth c mi) (sv : SV D cy s) (sh : SH L0 x0 s s.heap) (hd : dec mi pc = some (.dcmp op, len, rz)) (hI : IV D cy L0 x0 s mi ad P I L ls st lsA H locs) {w : FR × MM} (hs : stp pc (.dcmp op) len rz ls st P I L C = some (.inl w)) (hcR : cells + w.2.2.2.2.1 ≤ R.cells + C.1) (hsR : slots + w.2.2.2.2.2 ≤ R.slots + C.2) (hfR : 8 ≤ R.frames) (hlR : 128 ≤ R.locals)
    (k : KN p l e R s m args below meth c cells slots Q D cy L0 x0 mi ad P C w) : W p l e R s m args below meth c H locs cells slots Q (F0 m pc lsA (cv ad st)) := by
  obtain ⟨hdec, hck⟩ := dec_ok hd
  obtain ⟨hx, hb, hml, hrt, hown, hlocks, htab, hnm⟩ := fo
  have hts : ∀ w ∈ GT, w.before args s = true := fun w hw => sv.1 w hw args
  obtain ⟨hP, hD, hwf, hS, hlh, hlv, hsv, hx1, hx2, hx3⟩ := id hI
  simp only [stp] at hs
  simp only [ckR, Bool.and_eq_true, beq_iff_eq, decide_eq_true_eq] at hck
  subst hck
  split at hs
  · rename_i y x st1
    cases hs
    have hv := (List.forall_mem_cons.mp (List.forall_mem_cons.mp hsv).2).2
    exact lv_dcmp (rest := cv ad st1) hx hb hdec (KN.pure k hI (List.forall_mem_cons.mpr ⟨vk_i P _, hv⟩))
  · cases hs

set_option maxHeartbeats 4000000 in
theorem sx_ddiv  (fo : FO p s m meth c mi) (sv : SV D cy s) (sh : SH L0 x0 s s.heap) (hd : dec mi pc = some (.ddiv, len, rz)) (hI : IV D cy L0 x0 s mi ad P I L ls st lsA H locs) {w : FR × MM} (hs : stp pc (.ddiv) len rz ls st P I L C = some (.inl w)) (hcR : cells + w.2.2.2.2.1 ≤ R.cells + C.1) (hsR : slots + w.2.2.2.2.2 ≤ R.slots + C.2) (hfR : 8 ≤ R.frames) (hlR : 128 ≤ R.locals)
    (k : KN p l e R s m args below meth c cells slots Q D cy L0 x0 mi ad P C w) : W p l e R s m args below meth c H locs cells slots Q (F0 m pc lsA (cv ad st)) := by
  obtain ⟨hdec, hck⟩ := dec_ok hd
  obtain ⟨hx, hb, hml, hrt, hown, hlocks, htab, hnm⟩ := fo
  have hts : ∀ w ∈ GT, w.before args s = true := fun w hw => sv.1 w hw args
  obtain ⟨hP, hD, hwf, hS, hlh, hlv, hsv, hx1, hx2, hx3⟩ := id hI
  simp only [stp] at hs
  simp only [ckR, Bool.and_eq_true, beq_iff_eq, decide_eq_true_eq] at hck
  subst hck
  split at hs
  · split at hs
    · rename_i y x st1 hc
      cases hs
      have hv := (List.forall_mem_cons.mp (List.forall_mem_cons.mp hsv).2).2
      exact lv_ddiv (rest := cv ad st1) hx hb hdec hc (KN.pure k hI (List.forall_mem_cons.mpr ⟨vk_d P _, hv⟩))
    · cases hs
  · cases hs

set_option maxHeartbeats 4000000 in
theorem sx_goto {z : Int} (fo : FO p s m meth c mi) (sv : SV D cy s) (sh : SH L0 x0 s s.heap) (hd : dec mi pc = some (.goto z, len, rz)) (hI : IV D cy L0 x0 s mi ad P I L ls st lsA H locs) {w : FR × MM} (hs : stp pc (.goto z) len rz ls st P I L C = some (.inl w)) (hcR : cells + w.2.2.2.2.1 ≤ R.cells + C.1) (hsR : slots + w.2.2.2.2.2 ≤ R.slots + C.2) (hfR : 8 ≤ R.frames) (hlR : 128 ≤ R.locals)
    (k : KN p l e R s m args below meth c cells slots Q D cy L0 x0 mi ad P C w) : W p l e R s m args below meth c H locs cells slots Q (F0 m pc lsA (cv ad st)) := by
  obtain ⟨hdec, hck⟩ := dec_ok hd
  obtain ⟨hx, hb, hml, hrt, hown, hlocks, htab, hnm⟩ := fo
  have hts : ∀ w ∈ GT, w.before args s = true := fun w hw => sv.1 w hw args
  obtain ⟨hP, hD, hwf, hS, hlh, hlv, hsv, hx1, hx2, hx3⟩ := id hI
  simp only [stp] at hs
  simp only [ckR, Bool.and_eq_true, beq_iff_eq, decide_eq_true_eq] at hck
  obtain ⟨rfl, hv0⟩ := hck
  obtain ⟨t, rfl, ht⟩ := ckT1_inv hv0
  cases hs
  exact lv_goto (rest := cv ad st) hx hb hdec ht (KN.pure k hI hsv)

set_option maxHeartbeats 4000000 in
theorem sx_ifnull {z : Int} (fo : FO p s m meth c mi) (sv : SV D cy s) (sh : SH L0 x0 s s.heap) (hd : dec mi pc = some (.ifnull z, len, rz)) (hI : IV D cy L0 x0 s mi ad P I L ls st lsA H locs) {w : FR × MM} (hs : stp pc (.ifnull z) len rz ls st P I L C = some (.inl w)) (hcR : cells + w.2.2.2.2.1 ≤ R.cells + C.1) (hsR : slots + w.2.2.2.2.2 ≤ R.slots + C.2) (hfR : 8 ≤ R.frames) (hlR : 128 ≤ R.locals)
    (k : KN p l e R s m args below meth c cells slots Q D cy L0 x0 mi ad P C w) : W p l e R s m args below meth c H locs cells slots Q (F0 m pc lsA (cv ad st)) := by
  obtain ⟨hdec, hck⟩ := dec_ok hd
  obtain ⟨hx, hb, hml, hrt, hown, hlocks, htab, hnm⟩ := fo
  have hts : ∀ w ∈ GT, w.before args s = true := fun w hw => sv.1 w hw args
  obtain ⟨hP, hD, hwf, hS, hlh, hlv, hsv, hx1, hx2, hx3⟩ := id hI
  simp only [stp] at hs
  simp only [ckR, Bool.and_eq_true, beq_iff_eq, decide_eq_true_eq] at hck
  obtain ⟨rfl, hv0⟩ := hck
  split at hs
  · rename_i a st1
    cases hs
    exact lv_ifnull (x := ad a) (rest := cv ad st1) hx hb hdec (KN.pure k hI (List.forall_mem_cons.mp hsv).2)
  · cases hs

set_option maxHeartbeats 4000000 in
theorem sx_ifnonnull {z : Int} (fo : FO p s m meth c mi) (sv : SV D cy s) (sh : SH L0 x0 s s.heap) (hd : dec mi pc = some (.ifnonnull z, len, rz)) (hI : IV D cy L0 x0 s mi ad P I L ls st lsA H locs) {w : FR × MM} (hs : stp pc (.ifnonnull z) len rz ls st P I L C = some (.inl w)) (hcR : cells + w.2.2.2.2.1 ≤ R.cells + C.1) (hsR : slots + w.2.2.2.2.2 ≤ R.slots + C.2) (hfR : 8 ≤ R.frames) (hlR : 128 ≤ R.locals)
    (k : KN p l e R s m args below meth c cells slots Q D cy L0 x0 mi ad P C w) : W p l e R s m args below meth c H locs cells slots Q (F0 m pc lsA (cv ad st)) := by
  obtain ⟨hdec, hck⟩ := dec_ok hd
  obtain ⟨hx, hb, hml, hrt, hown, hlocks, htab, hnm⟩ := fo
  have hts : ∀ w ∈ GT, w.before args s = true := fun w hw => sv.1 w hw args
  obtain ⟨hP, hD, hwf, hS, hlh, hlv, hsv, hx1, hx2, hx3⟩ := id hI
  simp only [stp] at hs
  simp only [ckR, Bool.and_eq_true, beq_iff_eq, decide_eq_true_eq] at hck
  obtain ⟨rfl, hv0⟩ := hck
  obtain ⟨t, rfl, ht⟩ := ckT1_inv hv0
  split at hs
  · rename_i a st1 t1 h9
    cases h9
    cases hs
    exact lv_ifnonnull (x := ad a) (rest := cv ad st1) hx hb hdec ht (KN.pure k hI (List.forall_mem_cons.mp hsv).2)
  · cases hs

set_option maxHeartbeats 4000000 in
theorem sx_if_eq {z : Int} (fo : FO p s m meth c mi) (sv : SV D cy s) (sh : SH L0 x0 s s.heap) (hd : dec mi pc = some (.ifCond .eq z, len, rz)) (hI : IV D cy L0 x0 s mi ad P I L ls st lsA H locs) {w : FR × MM} (hs : stp pc (.ifCond .eq z) len rz ls st P I L C = some (.inl w)) (hcR : cells + w.2.2.2.2.1 ≤ R.cells + C.1) (hsR : slots + w.2.2.2.2.2 ≤ R.slots + C.2) (hfR : 8 ≤ R.frames) (hlR : 128 ≤ R.locals)
    (k : KN p l e R s m args below meth c cells slots Q D cy L0 x0 mi ad P C w) : W p l e R s m args below meth c H locs cells slots Q (F0 m pc lsA (cv ad st)) := by
  obtain ⟨hdec, hck⟩ := dec_ok hd
  obtain ⟨hx, hb, hml, hrt, hown, hlocks, htab, hnm⟩ := fo
  have hts : ∀ w ∈ GT, w.before args s = true := fun w hw => sv.1 w hw args
  obtain ⟨hP, hD, hwf, hS, hlh, hlv, hsv, hx1, hx2, hx3⟩ := id hI
  simp only [stp] at hs
  simp only [ckR, Bool.and_eq_true, beq_iff_eq, decide_eq_true_eq] at hck
  obtain ⟨rfl, hv0⟩ := hck
  obtain ⟨t, rfl, ht⟩ := ckT1_inv hv0
  split at hs
  · rename_i x st1 t1 h9
    cases h9
    have hv := (List.forall_mem_cons.mp hsv).2
    unfold brI at hs
    dsimp only at hs
    refine lv_if_eq (rest := cv ad st1) hx hb hdec ht (fun hc => ?_) (fun hc => ?_)
    · rw [if_pos hc] at hs
      cases hs
      exact KN.pure k hI hv
    · rw [if_neg hc] at hs
      cases hs
      exact KN.pure k hI hv
  · cases hs

set_option maxHeartbeats 4000000 in
theorem sx_icmp_eq {z : Int} (fo : FO p s m meth c mi) (sv : SV D cy s) (sh : SH L0 x0 s s.heap) (hd : dec mi pc = some (.if_icmp .eq z, len, rz)) (hI : IV D cy L0 x0 s mi ad P I L ls st lsA H locs) {w : FR × MM} (hs : stp pc (.if_icmp .eq z) len rz ls st P I L C = some (.inl w)) (hcR : cells + w.2.2.2.2.1 ≤ R.cells + C.1) (hsR : slots + w.2.2.2.2.2 ≤ R.slots + C.2) (hfR : 8 ≤ R.frames) (hlR : 128 ≤ R.locals)
    (k : KN p l e R s m args below meth c cells slots Q D cy L0 x0 mi ad P C w) : W p l e R s m args below meth c H locs cells slots Q (F0 m pc lsA (cv ad st)) := by
  obtain ⟨hdec, hck⟩ := dec_ok hd
  obtain ⟨hx, hb, hml, hrt, hown, hlocks, htab, hnm⟩ := fo
  have hts : ∀ w ∈ GT, w.before args s = true := fun w hw => sv.1 w hw args
  obtain ⟨hP, hD, hwf, hS, hlh, hlv, hsv, hx1, hx2, hx3⟩ := id hI
  simp only [stp] at hs
  simp only [ckR, Bool.and_eq_true, beq_iff_eq, decide_eq_true_eq] at hck
  obtain ⟨rfl, hv0⟩ := hck
  obtain ⟨t, rfl, ht⟩ := ckT1_inv hv0
  split at hs
  · rename_i y x st1 t1 h9
    cases h9
    have hv := (List.forall_mem_cons.mp (List.forall_mem_cons.mp hsv).2).2
    unfold brII at hs
    dsimp only at hs
    refine lv_icmp_eq (rest := cv ad st1) hx hb hdec ht (fun hc => ?_) (fun hc => ?_)
    · rw [if_pos hc] at hs
      cases hs
      exact KN.pure k hI hv
    · rw [if_neg hc] at hs
      cases hs
      exact KN.pure k hI hv
  · cases hs

set_option maxHeartbeats 4000000 in
theorem sx_if_ne {z : Int} (fo : FO p s m meth c mi) (sv : SV D cy s) (sh : SH L0 x0 s s.heap) (hd : dec mi pc = some (.ifCond .ne z, len, rz)) (hI : IV D cy L0 x0 s mi ad P I L ls st lsA H locs) {w : FR × MM} (hs : stp pc (.ifCond .ne z) len rz ls st P I L C = some (.inl w)) (hcR : cells + w.2.2.2.2.1 ≤ R.cells + C.1) (hsR : slots + w.2.2.2.2.2 ≤ R.slots + C.2) (hfR : 8 ≤ R.frames) (hlR : 128 ≤ R.locals)
    (k : KN p l e R s m args below meth c cells slots Q D cy L0 x0 mi ad P C w) : W p l e R s m args below meth c H locs cells slots Q (F0 m pc lsA (cv ad st)) := by
  obtain ⟨hdec, hck⟩ := dec_ok hd
  obtain ⟨hx, hb, hml, hrt, hown, hlocks, htab, hnm⟩ := fo
  have hts : ∀ w ∈ GT, w.before args s = true := fun w hw => sv.1 w hw args
  obtain ⟨hP, hD, hwf, hS, hlh, hlv, hsv, hx1, hx2, hx3⟩ := id hI
  simp only [stp] at hs
  simp only [ckR, Bool.and_eq_true, beq_iff_eq, decide_eq_true_eq] at hck
  obtain ⟨rfl, hv0⟩ := hck
  obtain ⟨t, rfl, ht⟩ := ckT1_inv hv0
  split at hs
  · rename_i x st1 t1 h9
    cases h9
    have hv := (List.forall_mem_cons.mp hsv).2
    unfold brI at hs
    dsimp only at hs
    refine lv_if_ne (rest := cv ad st1) hx hb hdec ht (fun hc => ?_) (fun hc => ?_)
    · rw [if_neg hc] at hs
      cases hs
      exact KN.pure k hI hv
    · rw [if_pos hc] at hs
      cases hs
      exact KN.pure k hI hv
  · cases hs

set_option maxHeartbeats 4000000 in
theorem sx_icmp_ne {z : Int} (fo : FO p s m meth c mi) (sv : SV D cy s) (sh : SH L0 x0 s s.heap) (hd : dec mi pc = some (.if_icmp .ne z, len, rz)) (hI : IV D cy L0 x0 s mi ad P I L ls st lsA H locs) {w : FR × MM} (hs : stp pc (.if_icmp .ne z) len rz ls st P I L C = some (.inl w)) (hcR : cells + w.2.2.2.2.1 ≤ R.cells + C.1) (hsR : slots + w.2.2.2.2.2 ≤ R.slots + C.2) (hfR : 8 ≤ R.frames) (hlR : 128 ≤ R.locals)
    (k : KN p l e R s m args below meth c cells slots Q D cy L0 x0 mi ad P C w) : W p l e R s m args below meth c H locs cells slots Q (F0 m pc lsA (cv ad st)) := by
  obtain ⟨hdec, hck⟩ := dec_ok hd
  obtain ⟨hx, hb, hml, hrt, hown, hlocks, htab, hnm⟩ := fo
  have hts : ∀ w ∈ GT, w.before args s = true := fun w hw => sv.1 w hw args
  obtain ⟨hP, hD, hwf, hS, hlh, hlv, hsv, hx1, hx2, hx3⟩ := id hI
  simp only [stp] at hs
  simp only [ckR, Bool.and_eq_true, beq_iff_eq, decide_eq_true_eq] at hck
  obtain ⟨rfl, hv0⟩ := hck
  obtain ⟨t, rfl, ht⟩ := ckT1_inv hv0
  split at hs
  · rename_i y x st1 t1 h9
    cases h9
    have hv := (List.forall_mem_cons.mp (List.forall_mem_cons.mp hsv).2).2
    unfold brII at hs
    dsimp only at hs
    refine lv_icmp_ne (rest := cv ad st1) hx hb hdec ht (fun hc => ?_) (fun hc => ?_)
    · rw [if_neg hc] at hs
      cases hs
      exact KN.pure k hI hv
    · rw [if_pos hc] at hs
      cases hs
      exact KN.pure k hI hv
  · cases hs

set_option maxHeartbeats 4000000 in
theorem sx_if_lt {z : Int} (fo : FO p s m meth c mi) (sv : SV D cy s) (sh : SH L0 x0 s s.heap) (hd : dec mi pc = some (.ifCond .lt z, len, rz)) (hI : IV D cy L0 x0 s mi ad P I L ls st lsA H locs) {w : FR × MM} (hs : stp pc (.ifCond .lt z) len rz ls st P I L C = some (.inl w)) (hcR : cells + w.2.2.2.2.1 ≤ R.cells + C.1) (hsR : slots + w.2.2.2.2.2 ≤ R.slots + C.2) (hfR : 8 ≤ R.frames) (hlR : 128 ≤ R.locals)
    (k : KN p l e R s m args below meth c cells slots Q D cy L0 x0 mi ad P C w) : W p l e R s m args below meth c H locs cells slots Q (F0 m pc lsA (cv ad st)) := by
  obtain ⟨hdec, hck⟩ := dec_ok hd
  obtain ⟨hx, hb, hml, hrt, hown, hlocks, htab, hnm⟩ := fo
  have hts : ∀ w ∈ GT, w.before args s = true := fun w hw => sv.1 w hw args
  obtain ⟨hP, hD, hwf, hS, hlh, hlv, hsv, hx1, hx2, hx3⟩ := id hI
  simp only [stp] at hs
  simp only [ckR, Bool.and_eq_true, beq_iff_eq, decide_eq_true_eq] at hck
  obtain ⟨rfl, hv0⟩ := hck
  obtain ⟨t, rfl, ht⟩ := ckT1_inv hv0
  split at hs
  · rename_i x st1 t1 h9
    cases h9
    have hv := (List.forall_mem_cons.mp hsv).2
    unfold brI at hs
    dsimp only at hs
    refine lv_if_lt (rest := cv ad st1) hx hb hdec ht (fun hc => ?_) (fun hc => ?_)
    · rw [if_pos hc] at hs
      cases hs
      exact KN.pure k hI hv
    · rw [if_neg hc] at hs
      cases hs
      exact KN.pure k hI hv
  · cases hs

set_option maxHeartbeats 4000000 in
theorem sx_icmp_lt {z : Int} (fo : FO p s m meth c mi) (sv : SV D cy s) (sh : SH L0 x0 s s.heap) (hd : dec mi pc = some (.if_icmp .lt z, len, rz)) (hI : IV D cy L0 x0 s mi ad P I L ls st lsA H locs) {w : FR × MM} (hs : stp pc (.if_icmp .lt z) len rz ls st P I L C = some (.inl w)) (hcR : cells + w.2.2.2.2.1 ≤ R.cells + C.1) (hsR : slots + w.2.2.2.2.2 ≤ R.slots + C.2) (hfR : 8 ≤ R.frames) (hlR : 128 ≤ R.locals)
    (k : KN p l e R s m args below meth c cells slots Q D cy L0 x0 mi ad P C w) : W p l e R s m args below meth c H locs cells slots Q (F0 m pc lsA (cv ad st)) := by
  obtain ⟨hdec, hck⟩ := dec_ok hd
  obtain ⟨hx, hb, hml, hrt, hown, hlocks, htab, hnm⟩ := fo
  have hts : ∀ w ∈ GT, w.before args s = true := fun w hw => sv.1 w hw args
  obtain ⟨hP, hD, hwf, hS, hlh, hlv, hsv, hx1, hx2, hx3⟩ := id hI
  simp only [stp] at hs
  simp only [ckR, Bool.and_eq_true, beq_iff_eq, decide_eq_true_eq] at hck
  obtain ⟨rfl, hv0⟩ := hck
  obtain ⟨t, rfl, ht⟩ := ckT1_inv hv0
  split at hs
  · rename_i y x st1 t1 h9
    cases h9
    have hv := (List.forall_mem_cons.mp (List.forall_mem_cons.mp hsv).2).2
    unfold brII at hs
    dsimp only at hs
    refine lv_icmp_lt (rest := cv ad st1) hx hb hdec ht (fun hc => ?_) (fun hc => ?_)
    · rw [if_pos hc] at hs
      cases hs
      exact KN.pure k hI hv
    · rw [if_neg hc] at hs
      cases hs
      exact KN.pure k hI hv
  · cases hs

set_option maxHeartbeats 4000000 in
theorem sx_if_ge {z : Int} (fo : FO p s m meth c mi) (sv : SV D cy s) (sh : SH L0 x0 s s.heap) (hd : dec mi pc = some (.ifCond .ge z, len, rz)) (hI : IV D cy L0 x0 s mi ad P I L ls st lsA H locs) {w : FR × MM} (hs : stp pc (.ifCond .ge z) len rz ls st P I L C = some (.inl w)) (hcR : cells + w.2.2.2.2.1 ≤ R.cells + C.1) (hsR : slots + w.2.2.2.2.2 ≤ R.slots + C.2) (hfR : 8 ≤ R.frames) (hlR : 128 ≤ R.locals)
    (k : KN p l e R s m args below meth c cells slots Q D cy L0 x0 mi ad P C w) : W p l e R s m args below meth c H locs cells slots Q (F0 m pc lsA (cv ad st)) := by
  obtain ⟨hdec, hck⟩ := dec_ok hd
  obtain ⟨hx, hb, hml, hrt, hown, hlocks, htab, hnm⟩ := fo
  have hts : ∀ w ∈ GT, w.before args s = true := fun w hw => sv.1 w hw args
  obtain ⟨hP, hD, hwf, hS, hlh, hlv, hsv, hx1, hx2, hx3⟩ := id hI
  simp only [stp] at hs
  simp only [ckR, Bool.and_eq_true, beq_iff_eq, decide_eq_true_eq] at hck
  obtain ⟨rfl, hv0⟩ := hck
  obtain ⟨t, rfl, ht⟩ := ckT1_inv hv0
  split at hs
  · rename_i x st1 t1 h9
    cases h9
    have hv := (List.forall_mem_cons.mp hsv).2
    unfold brI at hs
    dsimp only at hs
    refine lv_if_ge (rest := cv ad st1) hx hb hdec ht (fun hc => ?_) (fun hc => ?_)
    · rw [if_pos hc] at hs
      cases hs
      exact KN.pure k hI hv
    · rw [if_neg hc] at hs
      cases hs
      exact KN.pure k hI hv
  · cases hs

set_option maxHeartbeats 4000000 in
theorem sx_icmp_ge {z : Int} (fo : FO p s m meth c mi) (sv : SV D cy s) (sh : SH L0 x0 s s.heap) (hd : dec mi pc = some (.if_icmp .ge z, len, rz)) (hI : IV D cy L0 x0 s mi ad P I L ls st lsA H locs) {w : FR × MM} (hs : stp pc (.if_icmp .ge z) len rz ls st P I L C = some (.inl w)) (hcR : cells + w.2.2.2.2.1 ≤ R.cells + C.1) (hsR : slots + w.2.2.2.2.2 ≤ R.slots + C.2) (hfR : 8 ≤ R.frames) (hlR : 128 ≤ R.locals)
    (k : KN p l e R s m args below meth c cells slots Q D cy L0 x0 mi ad P C w) : W p l e R s m args below meth c H locs cells slots Q (F0 m pc lsA (cv ad st)) := by
  obtain ⟨hdec, hck⟩ := dec_ok hd
  obtain ⟨hx, hb, hml, hrt, hown, hlocks, htab, hnm⟩ := fo
  have hts : ∀ w ∈ GT, w.before args s = true := fun w hw => sv.1 w hw args
  obtain ⟨hP, hD, hwf, hS, hlh, hlv, hsv, hx1, hx2, hx3⟩ := id hI
  simp only [stp] at hs
  simp only [ckR, Bool.and_eq_true, beq_iff_eq, decide_eq_true_eq] at hck
  obtain ⟨rfl, hv0⟩ := hck
  obtain ⟨t, rfl, ht⟩ := ckT1_inv hv0
  split at hs
  · rename_i y x st1 t1 h9
    cases h9
    have hv := (List.forall_mem_cons.mp (List.forall_mem_cons.mp hsv).2).2
    unfold brII at hs
    dsimp only at hs
    refine lv_icmp_ge (rest := cv ad st1) hx hb hdec ht (fun hc => ?_) (fun hc => ?_)
    · rw [if_pos hc] at hs
      cases hs
      exact KN.pure k hI hv
    · rw [if_neg hc] at hs
      cases hs
      exact KN.pure k hI hv
  · cases hs

set_option maxHeartbeats 4000000 in
theorem sx_if_gt {z : Int} (fo : FO p s m meth c mi) (sv : SV D cy s) (sh : SH L0 x0 s s.heap) (hd : dec mi pc = some (.ifCond .gt z, len, rz)) (hI : IV D cy L0 x0 s mi ad P I L ls st lsA H locs) {w : FR × MM} (hs : stp pc (.ifCond .gt z) len rz ls st P I L C = some (.inl w)) (hcR : cells + w.2.2.2.2.1 ≤ R.cells + C.1) (hsR : slots + w.2.2.2.2.2 ≤ R.slots + C.2) (hfR : 8 ≤ R.frames) (hlR : 128 ≤ R.locals)
    (k : KN p l e R s m args below meth c cells slots Q D cy L0 x0 mi ad P C w) : W p l e R s m args below meth c H locs cells slots Q (F0 m pc lsA (cv ad st)) := by
  obtain ⟨hdec, hck⟩ := dec_ok hd
  obtain ⟨hx, hb, hml, hrt, hown, hlocks, htab, hnm⟩ := fo
  have hts : ∀ w ∈ GT, w.before args s = true := fun w hw => sv.1 w hw args
  obtain ⟨hP, hD, hwf, hS, hlh, hlv, hsv, hx1, hx2, hx3⟩ := id hI
  simp only [stp] at hs
  simp only [ckR, Bool.and_eq_true, beq_iff_eq, decide_eq_true_eq] at hck
  obtain ⟨rfl, hv0⟩ := hck
  obtain ⟨t, rfl, ht⟩ := ckT1_inv hv0
  split at hs
  · rename_i x st1 t1 h9
    cases h9
    have hv := (List.forall_mem_cons.mp hsv).2
    unfold brI at hs
    dsimp only at hs
    refine lv_if_gt (rest := cv ad st1) hx hb hdec ht (fun hc => ?_) (fun hc => ?_)
    · rw [if_pos hc] at hs
      cases hs
      exact KN.pure k hI hv
    · rw [if_neg hc] at hs
      cases hs
      exact KN.pure k hI hv
  · cases hs

set_option maxHeartbeats 4000000 in
theorem sx_icmp_gt {z : Int} (fo : FO p s m meth c mi) (sv : SV D cy s) (sh : SH L0 x0 s s.heap) (hd : dec mi pc = some (.if_icmp .gt z, len, rz)) (hI : IV D cy L0 x0 s mi ad P I L ls st lsA H locs) {w : FR × MM} (hs : stp pc (.if_icmp .gt z) len rz ls st P I L C = some (.inl w)) (hcR : cells + w.2.2.2.2.1 ≤ R.cells + C.1) (hsR : slots + w.2.2.2.2.2 ≤ R.slots + C.2) (hfR : 8 ≤ R.frames) (hlR : 128 ≤ R.locals)
    (k : KN p l e R s m args below meth c cells slots Q D cy L0 x0 mi ad P C w) : W p l e R s m args below meth c H locs cells slots Q (F0 m pc lsA (cv ad st)) := by
  obtain ⟨hdec, hck⟩ := dec_ok hd
  obtain ⟨hx, hb, hml, hrt, hown, hlocks, htab, hnm⟩ := fo
  have hts : ∀ w ∈ GT, w.before args s = true := fun w hw => sv.1 w hw args
  obtain ⟨hP, hD, hwf, hS, hlh, hlv, hsv, hx1, hx2, hx3⟩ := id hI
  simp only [stp] at hs
  simp only [ckR, Bool.and_eq_true, beq_iff_eq, decide_eq_true_eq] at hck
  obtain ⟨rfl, hv0⟩ := hck
  obtain ⟨t, rfl, ht⟩ := ckT1_inv hv0
  split at hs
  · rename_i y x st1 t1 h9
    cases h9
    have hv := (List.forall_mem_cons.mp (List.forall_mem_cons.mp hsv).2).2
    unfold brII at hs
    dsimp only at hs
    refine lv_icmp_gt (rest := cv ad st1) hx hb hdec ht (fun hc => ?_) (fun hc => ?_)
    · rw [if_pos hc] at hs
      cases hs
      exact KN.pure k hI hv
    · rw [if_neg hc] at hs
      cases hs
      exact KN.pure k hI hv
  · cases hs

set_option maxHeartbeats 4000000 in
theorem sx_if_le {z : Int} (fo : FO p s m meth c mi) (sv : SV D cy s) (sh : SH L0 x0 s s.heap) (hd : dec mi pc = some (.ifCond .le z, len, rz)) (hI : IV D cy L0 x0 s mi ad P I L ls st lsA H locs) {w : FR × MM} (hs : stp pc (.ifCond .le z) len rz ls st P I L C = some (.inl w)) (hcR : cells + w.2.2.2.2.1 ≤ R.cells + C.1) (hsR : slots + w.2.2.2.2.2 ≤ R.slots + C.2) (hfR : 8 ≤ R.frames) (hlR : 128 ≤ R.locals)
    (k : KN p l e R s m args below meth c cells slots Q D cy L0 x0 mi ad P C w) : W p l e R s m args below meth c H locs cells slots Q (F0 m pc lsA (cv ad st)) := by
  obtain ⟨hdec, hck⟩ := dec_ok hd
  obtain ⟨hx, hb, hml, hrt, hown, hlocks, htab, hnm⟩ := fo
  have hts : ∀ w ∈ GT, w.before args s = true := fun w hw => sv.1 w hw args
  obtain ⟨hP, hD, hwf, hS, hlh, hlv, hsv, hx1, hx2, hx3⟩ := id hI
  simp only [stp] at hs
  simp only [ckR, Bool.and_eq_true, beq_iff_eq, decide_eq_true_eq] at hck
  obtain ⟨rfl, hv0⟩ := hck
  obtain ⟨t, rfl, ht⟩ := ckT1_inv hv0
  split at hs
  · rename_i x st1 t1 h9
    cases h9
    have hv := (List.forall_mem_cons.mp hsv).2
    unfold brI at hs
    dsimp only at hs
    refine lv_if_le (rest := cv ad st1) hx hb hdec ht (fun hc => ?_) (fun hc => ?_)
    · rw [if_pos hc] at hs
      cases hs
      exact KN.pure k hI hv
    · rw [if_neg hc] at hs
      cases hs
      exact KN.pure k hI hv
  · cases hs

set_option maxHeartbeats 4000000 in
theorem sx_icmp_le {z : Int} (fo : FO p s m meth c mi) (sv : SV D cy s) (sh : SH L0 x0 s s.heap) (hd : dec mi pc = some (.if_icmp .le z, len, rz)) (hI : IV D cy L0 x0 s mi ad P I L ls st lsA H locs) {w : FR × MM} (hs : stp pc (.if_icmp .le z) len rz ls st P I L C = some (.inl w)) (hcR : cells + w.2.2.2.2.1 ≤ R.cells + C.1) (hsR : slots + w.2.2.2.2.2 ≤ R.slots + C.2) (hfR : 8 ≤ R.frames) (hlR : 128 ≤ R.locals)
    (k : KN p l e R s m args below meth c cells slots Q D cy L0 x0 mi ad P C w) : W p l e R s m args below meth c H locs cells slots Q (F0 m pc lsA (cv ad st)) := by
  obtain ⟨hdec, hck⟩ := dec_ok hd
  obtain ⟨hx, hb, hml, hrt, hown, hlocks, htab, hnm⟩ := fo
  have hts : ∀ w ∈ GT, w.before args s = true := fun w hw => sv.1 w hw args
  obtain ⟨hP, hD, hwf, hS, hlh, hlv, hsv, hx1, hx2, hx3⟩ := id hI
  simp only [stp] at hs
  simp only [ckR, Bool.and_eq_true, beq_iff_eq, decide_eq_true_eq] at hck
  obtain ⟨rfl, hv0⟩ := hck
  obtain ⟨t, rfl, ht⟩ := ckT1_inv hv0
  split at hs
  · rename_i y x st1 t1 h9
    cases h9
    have hv := (List.forall_mem_cons.mp (List.forall_mem_cons.mp hsv).2).2
    unfold brII at hs
    dsimp only at hs
    refine lv_icmp_le (rest := cv ad st1) hx hb hdec ht (fun hc => ?_) (fun hc => ?_)
    · rw [if_pos hc] at hs
      cases hs
      exact KN.pure k hI hv
    · rw [if_neg hc] at hs
      cases hs
      exact KN.pure k hI hv
  · cases hs

set_option maxHeartbeats 4000000 in
theorem sx_tableswitch {dflt lo hi : Int} {offs : Array Int} (fo : FO p s m meth c mi) (sv : SV D cy s) (sh : SH L0 x0 s s.heap) (hd : dec mi pc = some (.tableswitch dflt lo hi offs, len, rz)) (hI : IV D cy L0 x0 s mi ad P I L ls st lsA H locs) {w : FR × MM} (hs : stp pc (.tableswitch dflt lo hi offs) len rz ls st P I L C = some (.inl w)) (hcR : cells + w.2.2.2.2.1 ≤ R.cells + C.1) (hsR : slots + w.2.2.2.2.2 ≤ R.slots + C.2) (hfR : 8 ≤ R.frames) (hlR : 128 ≤ R.locals)
    (k : KN p l e R s m args below meth c cells slots Q D cy L0 x0 mi ad P C w) : W p l e R s m args below meth c H locs cells slots Q (F0 m pc lsA (cv ad st)) := by
  obtain ⟨hdec, hck⟩ := dec_ok hd
  obtain ⟨hx, hb, hml, hrt, hown, hlocks, htab, hnm⟩ := fo
  have hts : ∀ w ∈ GT, w.before args s = true := fun w hw => sv.1 w hw args
  obtain ⟨hP, hD, hwf, hS, hlh, hlv, hsv, hx1, hx2, hx3⟩ := id hI
  simp only [stp] at hs
  simp only [ckR, Bool.and_eq_true, beq_iff_eq, decide_eq_true_eq] at hck
  split at hs
  · rename_i x st1
    have hv := (List.forall_mem_cons.mp hsv).2
    split at hs
    · rename_i hc
      split at hs
      · rename_i h0
        cases hs
        exact lv_tableOut (rest := cv ad st1) hx hb hdec hc (by omega) (KN.pure k hI hv)
      · cases hs
    · rename_i hc
      split at hs
      · rename_i o ho
        split at hs
        · rename_i h0
          cases hs
          exact lv_tableIn (rest := cv ad st1) hx hb hdec (fun q => hc (Or.inl q)) (fun q => hc (Or.inr q)) ho (by omega) (KN.pure k hI hv)
        · cases hs
      · cases hs
  · cases hs

set_option maxHeartbeats 4000000 in
theorem sx_lookupswitch {dflt : Int} {ps : Array (Int × Int)} (fo : FO p s m meth c mi) (sv : SV D cy s) (sh : SH L0 x0 s s.heap) (hd : dec mi pc = some (.lookupswitch dflt ps, len, rz)) (hI : IV D cy L0 x0 s mi ad P I L ls st lsA H locs) {w : FR × MM} (hs : stp pc (.lookupswitch dflt ps) len rz ls st P I L C = some (.inl w)) (hcR : cells + w.2.2.2.2.1 ≤ R.cells + C.1) (hsR : slots + w.2.2.2.2.2 ≤ R.slots + C.2) (hfR : 8 ≤ R.frames) (hlR : 128 ≤ R.locals)
    (k : KN p l e R s m args below meth c cells slots Q D cy L0 x0 mi ad P C w) : W p l e R s m args below meth c H locs cells slots Q (F0 m pc lsA (cv ad st)) := by
  obtain ⟨hdec, hck⟩ := dec_ok hd
  obtain ⟨hx, hb, hml, hrt, hown, hlocks, htab, hnm⟩ := fo
  have hts : ∀ w ∈ GT, w.before args s = true := fun w hw => sv.1 w hw args
  obtain ⟨hP, hD, hwf, hS, hlh, hlv, hsv, hx1, hx2, hx3⟩ := id hI
  simp only [stp] at hs
  simp only [ckR, Bool.and_eq_true, beq_iff_eq, decide_eq_true_eq] at hck
  split at hs
  · rename_i x st1
    have hv := (List.forall_mem_cons.mp hsv).2
    split at hs
    · rename_i h0
      cases hs
      exact lv_lookup (rest := cv ad st1) hx hb hdec hck rfl (by omega) (KN.pure k hI hv)
    · cases hs
  · cases hs

end SND
