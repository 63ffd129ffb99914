/-! THE CLAIM OUT OF ONE WALK OF THE LAW'S BODY. Your part is whole_start (and what it stands on); all else here is the same for every law, but numbers. -/
def R_law : String := "FindTablesLaw"
def lw_P (b : Addr) (xs : List Int32) (args : Array Value) (s : State) : Prop := args = #[.ref b] ∧ s.IntsAt b xs ∧ xs.length ≤ 260 ∧ (Jvm.Cond.and given_1 narrow_1).before args s = true
/-- what a walk over the start with the record d0 says of its end, said of the start itself -/
theorem lw_closed {s t : State} {o : Outcome} {d0 : Drawn} {L : List Loc} {k n : Nat} (hd0 : s.drawn.sameBut d0 lw_cs) (hv : ∃ v, o = .returned v) (hW : (s.setDrawn d0).WarmedH t.vm) (hs : (s.setDrawn d0).sameButNew ({ t with vm := s.vm } : State) L k n) : State.butDraws s t lw_cs (fun t1 => Framed s o t1 L k n) := by
  have h2 : t.drawn = d0 := congrArg State.drawn hs.1
  refine ⟨⟨hv, hW, State.sameButNew.setDrawn hs s.drawn⟩, ?_, by decide⟩
  rw [h2]
  exact hd0
def lw_Q (_ : Array Value) (s : State) (o : Outcome) (t : State) : Prop := o = .returned (some (.int 1)) ∧ State.butDraws s t lw_cs (fun t1 => Framed s o t1 [] 700389 7000602)
def lw_Z (below : List Frame) (a : Array Value) (s : State) : State → Prop := fun t => ∃ o, t.status = .running ∧ Ended t below o ∧ lw_Q a s o t
/-- the law's own end, with 1 on the stack, nothing written that was there before, its room as the claim has it; d0: the record of draws at this point (at the entry s.drawn: begin with 'refine W.base ?_' and 'have hd0 := Drawn.sameBut.refl s.drawn lw_cs') -/
theorem lw_ret {p : Program} {l : Launch} {e : Env} {s : State} {m : MethodId} {below : List Frame} {meth : Method} {c : Code} {b : Nat} {d0 : Drawn} (hd0 : s.drawn.sameBut d0 lw_cs) (hx : p.tables.exec = Jvm.exec) (hb : c.code = code) (hr : meth.sig.returnType = ret) (hlocks : meth.locks = false) {pc : Nat} {H : Heap} {ls : Array Slot} (hdg : decode code pc = .ok (.ireturn, 1)) : W p l e room_1 (s.setDrawn d0) m #[Value.ref b] below meth c H [] 700389 7000602 (lw_Z below #[Value.ref b] s) (F0 m pc ls [.int 1]) := by
  intro T hT X
  obtain ⟨fs, hret, hrun, hended, hW, hframe⟩ := X.leave (v := some (.int 1)) (hlocks := hlocks) (fun h => by rw [hr] at h; cases h)
  have hmeth' : T.vm.method? m = some meth := X.method'
  refine ⟨T.setFrames fs, ?_, .returned (some (.int 1)), hrun, hended, rfl, lw_closed hd0 ⟨_, rfl⟩ hW hframe⟩
  jvm_step X.here [X.here.top, hx, hb, hdg, hmeth', hr, ret, narrow_b1]
  (try refine ⟨rfl, ?_⟩); (try refine ⟨rfl, ?_⟩)
  first | (intro acts; rw [hret _ acts rfl rfl rfl]) | rw [hret _ _ rfl rfl rfl]
  exact Steps.refl _
/-- what holds at the law's entry: the machine, the code, the tables' words (any of lw_tbl by 'hts w (by decide +kernel)'), the script of L ints xs at the cell b, what the Statement gives of the start (any of its parts by flat_of_before) -/
def lw_At (p : Program) (s : State) (m : MethodId) (meth : Method) (c : Code) (b L : Nat) (xs : Nat → Int32) : Prop :=
  p.tables.exec = Jvm.exec ∧ c.code = code ∧ meth.sig.returnType = ret ∧ c.maxLocals = 10 ∧ s.vm.findClass R_law = some m.cls ∧ (∀ w ∈ lw_tbl, w.before #[Value.ref b] s = true) ∧ va_X b L xs s s.heap ∧ b < s.heap.size ∧ meth.locks = false ∧ (Jvm.Cond.and given_1 narrow_1).before #[Value.ref b] s = true
theorem st_off {l : Launch} (h : l.flags = flags0) : l.stackTraces = false := by
  unfold Launch.stackTraces
  rw [h]
  decide +kernel
theorem in_ist : ∀ ci, ci < 10 → (Cond.instantiable (cn ci) (fN ci)) ∈ GT := fun ci h => match ci, h with
  | 0, _ => mem_GT1 (i := 236) (by decide +kernel) rfl
  | 1, _ => mem_GT1 (i := 203) (by decide +kernel) rfl
  | 2, _ => mem_GT1 (i := 108) (by decide +kernel) rfl
  | 3, _ => mem_GT1 (i := 85) (by decide +kernel) rfl
  | 4, _ => mem_GT1 (i := 197) (by decide +kernel) rfl
  | 5, _ => mem_GT1 (i := 156) (by decide +kernel) rfl
  | 6, _ => mem_GT1 (i := 30) (by decide +kernel) rfl
  | 7, _ => mem_GT1 (i := 36) (by decide +kernel) rfl
  | 8, _ => mem_GT1 (i := 176) (by decide +kernel) rfl
  | 9, _ => mem_GT1 (i := 22) (by decide +kernel) rfl
  | ci + 10, h => absurd h (by omega)
theorem st_arr {s : State} {args : Array Value} {ty : FieldType} (h : (Cond.arrayClass ty).before args s = true) (hn : ∀ C, ty ≠ .object C) : ∃ cA : ClassId, ArrOfT s cA ty ∧ va_RA s cA ty := by
  obtain ⟨cA, kA, comp, h1, h2, h3⟩ := Cond.arrayClass_spec h
  refine ⟨cA, fun n z => ⟨fun k h => ?_, kA, h2, comp, h3⟩, ?_⟩
  · cases h
  · unfold va_RA
    split
    · rename_i C
      exact absurd rfl (hn C)
    · exact h1
theorem st_arq {s : State} {args : Array Value} {C : String} (h : (Cond.arrayOver (.object C)).before args s = true) : ∃ cA : ClassId, ArrOfT s cA (.object C) ∧ va_RA s cA (.object C) := by
  obtain ⟨comp, cA, kA, h1, h2, h3, h4, h5⟩ := Cond.arrayOver_spec h
  exact ⟨cA, fun n z => ⟨fun k h => (by cases h), kA, h3, comp, h4⟩, kA, comp, h3, h4, h1, h5⟩
theorem st_str {s : State} {args : Array Value} {own : String} {k : Nat} {tx : String} (h1 : (Cond.stringRef own k tx).before args s = true) (h2 : (Cond.exactly (.string own k) "java/lang/String").before args s = true) : ∃ sa, vk_R own k tx sa s := by
  obtain ⟨a, c, cell, kk, q1, -⟩ := Cond.exactly_spec h2
  exact ⟨a, vk_R.of h1 q1⟩
/-- what the Statement gives at the start, in the words of the soundness -/
theorem sv_start {s : State} {b : Nat} (hts : ∀ w ∈ lw_tbl, w.before #[Value.ref b] s = true) (hgv : (Jvm.Cond.and given_1 narrow_1).before #[Value.ref b] s = true) : ∃ (D : va_G) (cy : CY), SV D cy s := by
  have hfl := flat_of_before _ hgv
  have hG : ∀ w ∈ GT, ∀ a : Array Value, w.before a s = true := fun w hw a => tw_moves (List.mem_filter.mp hw).2 (State.WarmedH.refl s) (hts w (List.mem_filter.mp hw).1)
  have hG1 : ∀ w ∈ GT, w.before #[Value.ref b] s = true := fun w hw => hG w hw _
  have hT : ∀ (i : Nat) (w : Cond), tables_1[i]? = some w → w.before #[Value.ref b] s = true := fun i w h => hts w (List.mem_append_right _ (List.mem_of_getElem? h))
  have hKn : ∀ ci, ci < 10 → ∃ (cC : ClassId) (iS : Nat → Nat), u_Kn s (cn ci) (fT ci) (fN ci) cC iS := fun ci h => u_known (ws := GT) hG1 (in_at h) (hG1 _ (in_ist ci h))
  obtain ⟨D, hD⟩ : ∃ D : va_G, ∀ ci, ci < 10 → u_Kn s (cn ci) (fT ci) (fN ci) (D.1 ci) (D.2 ci) := by
    refine ⟨(fun ci => if h : ci < 10 then (hKn ci h).choose else 0, fun ci => if h : ci < 10 then (hKn ci h).choose_spec.choose else fun _ => 0), fun ci h => ?_⟩
    dsimp only
    rw [dif_pos h, dif_pos h]
    exact (hKn ci h).choose_spec.choose_spec
  obtain ⟨c1, a1, b1⟩ := st_arr (ty := .int) (hT 83 _ (by decide +kernel)) (fun C h => by cases h)
  obtain ⟨c2, a2, b2⟩ := st_arr (ty := .long) (hT 266 _ (by decide +kernel)) (fun C h => by cases h)
  obtain ⟨c3, a3, b3⟩ := st_arr (ty := .byte) (hT 193 _ (by decide +kernel)) (fun C h => by cases h)
  obtain ⟨c4, a4, b4⟩ := st_arq (C := RX6) (hT 162 _ (by decide +kernel))
  refine ⟨D, (c1, c2, c3, c4), hG, ⟨fun c q hq => ?_, fun k q hq => ?_⟩, ?_, ?_, va_AO.of (hT 162 _ (by decide +kernel))⟩
  · have hc : c < 10 := (List.getElem?_eq_some_iff.mp hq).1
    cases Option.some.inj ((cl_at hc).symm.trans hq)
    exact hD c hc
  · match k, hq with
    | 0, hq => cases hq; exact ⟨a1, b1⟩
    | 1, hq => cases hq; exact ⟨a2, b2⟩
    | 2, hq => cases hq; exact ⟨a3, b3⟩
    | 3, hq => cases hq; exact ⟨a4, b4⟩
    | k + 4, hq => cases hq
  · intro q hq
    unfold strT at hq
    simp only [List.mem_cons, List.not_mem_nil, or_false] at hq
    rcases hq with rfl | rfl | rfl | rfl | rfl | rfl | rfl | rfl | rfl | rfl
    · exact st_str (hT 519 _ (by decide +kernel)) (hfl _ (by decide +kernel))
    · exact st_str (hT 446 _ (by decide +kernel)) (hfl _ (by decide +kernel))
    · exact st_str (hT 667 _ (by decide +kernel)) (hfl _ (by decide +kernel))
    · exact st_str (hT 671 _ (by decide +kernel)) (hfl _ (by decide +kernel))
    · exact st_str (hT 594 _ (by decide +kernel)) (hfl _ (by decide +kernel))
    · exact st_str (hT 616 _ (by decide +kernel)) (hfl _ (by decide +kernel))
    · exact st_str (hT 624 _ (by decide +kernel)) (hfl _ (by decide +kernel))
    · exact st_str (hT 801 _ (by decide +kernel)) (hfl _ (by decide +kernel))
    · exact st_str (hT 900 _ (by decide +kernel)) (hfl _ (by decide +kernel))
    · exact st_str (hT 352 _ (by decide +kernel)) (hfl _ (by decide +kernel))
  · intro i j hi hj hn
    rcases (by omega : (i = 0 ∧ j = 1) ∨ (i = 0 ∧ j = 2) ∨ (i = 1 ∧ j = 0) ∨ (i = 1 ∧ j = 2) ∨ (i = 2 ∧ j = 0) ∨ (i = 2 ∧ j = 1)) with ⟨rfl, rfl⟩ | ⟨rfl, rfl⟩ | ⟨rfl, rfl⟩ | ⟨rfl, rfl⟩ | ⟨rfl, rfl⟩ | ⟨rfl, rfl⟩
    · exact va_Nc.of (args := #[Value.ref b]) (hfl _ (by decide +kernel))
    · exact va_Nc.of (args := #[Value.ref b]) (hfl _ (by decide +kernel))
    · exact va_Nc.of (args := #[Value.ref b]) (hfl _ (by decide +kernel))
    · exact va_Nc.of (args := #[Value.ref b]) (hfl _ (by decide +kernel))
    · exact va_Nc.of (args := #[Value.ref b]) (hfl _ (by decide +kernel))
    · exact va_Nc.of (args := #[Value.ref b]) (hfl _ (by decide +kernel))
/-- the end of the walk is the claim's end -/
theorem end_of {s t : State} {b : Nat} {o : Outcome} {D : va_G} {cy : CY} {x0 : XX} {adE : Nat → Nat} {mE : Nat} {r : RV × MM} (hr : r.1 = .inl (some (.int (nI 1)))) (h : vx_Q (QC D cy s.heap.size x0 adE mE r) (XC D cy s.heap.size x0 adE mE r) 700389 7000602 (AL s.heap.size) #[Value.ref b] s o t) : lw_Q #[Value.ref b] s o t := by
  rcases h with ⟨⟨v, ad1, hv, -, ho, -⟩, L, ⟨⟨v9, hv9⟩, hW, hs⟩, hf⟩ | ⟨q, -, E, ce, L, ⟨e9, ad1, hv, -⟩, -⟩
  · rw [hr] at hv
    cases hv
    refine ⟨ho, lw_closed (d0 := s.drawn) (Drawn.sameBut.refl s.drawn lw_cs) ⟨_, hv9⟩ hW ?_⟩
    obtain ⟨h1, h2, h3, h4, h5, h6⟩ := hs
    refine ⟨h1, h2, h3, h4, h5, fun a c hac => ?_⟩
    obtain ⟨c', e1, e2, e3, e4⟩ := h6 a c hac
    exact ⟨c', e1, e2, e3, fun i _ => e4 i (fun hm => absurd (hf _ hm) (Nat.not_le.mpr (Array.getElem?_eq_some_iff.mp hac).1))⟩
  · rw [hr] at hv
    cases hv
theorem law_start {p : Program} {e : Env} {s : State} {m : MethodId} {below : List Frame} {meth : Method} {c : Code} (l : Launch) (hflags : l.flags = flags0) {b L : Nat} {xs : Nat → Int32} (hL : L ≤ 260) (ht : c.exceptionTable.toList = []) (hnm : meth.name = x.name) (C0 : lw_At p s m meth c b L xs) : W p l e room_1 s m #[Value.ref b] below meth c s.heap [] 0 0 (lw_Z below #[Value.ref b] s) (entryFrame m ([Value.ref b] : List Value).toArray 10) := by
  obtain ⟨hx, hb, hr, hml, hown, hts, hX, hbl, hlocks, hgv⟩ := id C0
  have hfl := flat_of_before _ hgv
  have hT : ∀ (i : Nat) (w : Cond), tables_1[i]? = some w → w.before #[Value.ref b] s = true := fun i w h => hts w (List.mem_append_right _ (List.mem_of_getElem? h))
  obtain ⟨D, cy, hSV⟩ := sv_start hts hgv
  have hSH : SH s.heap.size (b, L, xs) s s.heap := ⟨vx_Zqof (args := #[Value.ref b]) (hT 338 _ (by decide +kernel)) (hT 11 _ (by decide +kernel)) (hfl _ (by decide +kernel)) (fun a h => Nat.not_le.mpr h), vx_Zqof (args := #[Value.ref b]) (hT 340 _ (by decide +kernel)) (hT 11 _ (by decide +kernel)) (hfl _ (by decide +kernel)) (fun a h => Nat.not_le.mpr h), hX, hbl, Nat.le_refl _⟩
  let P0 : MP := (fun k => if k = 0 then (30, L) else (0, 0), fun _ _ => none, 0)
  let I0 : MI := fun k => if k = 0 then xs else fun _ => 0
  have hgo' : X 100 226 0 [.ref 0, UN, UN, UN, UN, UN, UN, UN, UN, UN] [] P0 I0 (fun _ _ => 0) (0, 0) (fun r _ _ _ C => r = .inl (some (.int (nI 1))) ∧ C.1 ≤ 300000 ∧ C.2 ≤ 2000000) := law_go (len := L) (xs := xs) (by omega)
  obtain ⟨f, r, hex, hr1, hc1, hc2⟩ := hgo'
  have hwf : wf P0 := by
    refine ⟨fun k h => ?_, fun k f a h => by cases h⟩
    by_cases z : k = 0
    · subst z; exact .inl ⟨rfl, rfl⟩
    · exact absurd (by show (if k = 0 then ((30, L) : Nat × Nat) else (0, 0)).1 = 0; rw [if_neg z]) h
  have w1 : va_P D vwCl (wl cy (fun _ => b) P0 I0 (fun _ _ => 0)) s.heap := fun k q h => nomatch h
  have w2 : va_D (fun q => s.heap.size ≤ q) (wl cy (fun _ => b) P0 I0 (fun _ _ => 0)) := ⟨fun i j p q h => (nomatch h), fun k q h => nomatch h⟩
  have w3 : ∀ v ∈ ent 226 [.ref 0], vk P0 v := ent_vk (fun v hv => by
    rw [List.mem_singleton] at hv
    subst hv
    intro k h
    cases h
    exact Nat.zero_le _)
  have w4 : lh ((lg_sl ([.ref b]) ++ List.replicate (10 - (lg_sl ([.ref b])).length) Slot.unset).toArray) 10 (fun _ => b) (ent 226 [.ref 0]) := ent_lh (mj := 226) (as := [.ref 0]) (ad := fun _ => b) (by decide +kernel)
  have hIV : IV D cy s.heap.size (b, L, xs) s 226 (fun _ => b) P0 I0 (fun _ _ => 0) [.ref 0, UN, UN, UN, UN, UN, UN, UN, UN, UN] [] (lg_sl ([.ref b]) ++ List.replicate (10 - (lg_sl ([.ref b])).length) Slot.unset).toArray s.heap [] := ⟨w1, w2, hwf, va_S.rf, w4, w3, fun v h => (nomatch h), rfl, rfl, rfl⟩
  have K := snd_all (st_off hflags) f 100 226 0 _ _ _ _ _ _ r hex (by omega) (p := p) (e := e) (R := room_1) (args := #[Value.ref b]) (below := below) (cells := 0) (slots := 0) (mc := 700389) (ms := 7000602) (mE := 0) (adE := fun _ => b) ⟨hx, hb, hml, hr, hown, hlocks, ht, hnm⟩ hSV hSH hIV (fun _ _ => rfl) (Nat.le_refl _) (by omega) (by omega) (Nat.le_refl _) (Nat.le_refl _) (Nat.le_of_ble_eq_true rfl) (Nat.le_of_ble_eq_true rfl)
  rw [lg_entry_eq]
  intro T hT9 X9
  obtain ⟨t, a1, o, q1, q2, q3⟩ := K T hT9 X9
  exact ⟨t, a1, o, q1, q2, end_of hr1 q3⟩
set_option maxHeartbeats 4000000 in
theorem lw_walk (l : Launch) (hflags : l.flags = flags0) (b : Addr) (xs : List Int32) : MetFree l x (headSpec (Jvm.Cond.code x code maxLocals ret :: tables_1) room_1) (lw_P b xs) (fun _ _ _ _ _ => True) lw_Q := by
  refine MetFree.of_bodyS (code := code) (maxLocals := maxLocals) (ret := ret) (by decide) ?_ ?_
  · intro args s m h hn
    obtain ⟨meth, c, h1, h2, h3, h4, h5, h6, -, -⟩ := Cond.code_spec hn (atoms_spec (ws := Jvm.Cond.code x code maxLocals ret :: tables_1) h _ List.mem_cons_self)
    exact ⟨meth, c, h1, h2, h3, h4, h5, h6⟩
  · intro p e s m args below meth c s₁ B hml0 hP _
    obtain ⟨rfl, hx, hbd, hgv⟩ := hP
    obtain ⟨scr, harrAt, hlist, hof, hsmall⟩ := hx
    obtain ⟨hcb, hkn, -, -⟩ := State.arrayAt?_spec harrAt
    have hown : s.vm.findClass R_law = some m.cls := findClass_of_methodNamed B.named
    have hts0 : ∀ c ∈ (Jvm.Cond.code x code maxLocals ret :: tables_1), c.before #[Value.ref b] s = true := atoms_spec (ws := Jvm.Cond.code x code maxLocals ret :: tables_1) B.pre
    have hts : ∀ w ∈ lw_tbl, w.before #[Value.ref b] s = true := k2_hts_sels lw_privs (fun w hw => hts0 w (List.mem_cons_of_mem _ hw)) lw_privs_ok
    have ht9 : c.exceptionTable.toList = [] := by
      obtain ⟨mk9, hn9⟩ := Cond.code_named (hts0 _ List.mem_cons_self)
      obtain ⟨meth9, c9, q1, q2, -, -, -, -, q7, -⟩ := Cond.code_spec hn9 (hts0 _ List.mem_cons_self)
      cases Option.some.inj (hn9.symm.trans B.named)
      cases Option.some.inj (q1.symm.trans B.method)
      cases Option.some.inj (q2.symm.trans (Stand.of_body B).code)
      rw [Array.isEmpty_iff.mp q7]
    have hnm9 : meth.name = x.name := (name_of_methodNamed B.named B.method).1
    have hml : c.maxLocals = 10 := B.maxLocals_eq (hts0 _ List.mem_cons_self)
    have X₀ : Stand p l e room_1 s m #[Value.ref b] below meth c s₁ [] 0 0 := Stand.of_body B
    have hh0 : s₁.heap = s.heap := by rw [B.state]; rfl
    have hsz : scr.slots.size = xs.length := by rw [← Array.length_toList, hlist, List.length_map]
    have hval : ∀ j : Nat, j < xs.length → scr.slots[j]? = some (.int (xs.getD j 0)) := fun j hj => by
      rw [← Array.getElem?_toList, hlist]
      simp [hj]
    have hbl : b < s.heap.size := (Array.getElem?_eq_some_iff.mp hcb).1
    have hX : va_X b xs.length (fun j => xs.getD j 0) s s.heap := ⟨scr, hcb, hof, hkn, hsz, hval⟩
    have K : W p l e room_1 s m #[Value.ref b] below meth c s₁.heap [] 0 0 (lw_Z below #[Value.ref b] s) (entryFrame m ([Value.ref b] : List Value).toArray 10) := by
      rw [hh0]
      exact law_start l hflags hbd ht9 hnm9 ⟨B.exec, B.bytes, B.returns, hml, hown, hts, hX, hbl, B.notSynchronized, hgv⟩
    obtain ⟨t, a1, o, b1, b2, b3⟩ := K s₁ rfl X₀
    exact ⟨t, o, a1, b1, b2, b3⟩
theorem lw_pre_spec {args : Array Value} {s : State} (h : (Jvm.Cond.and given_1 narrow_1).before args s = true) (hr : rest_1_c.before args s = true) : ∃ (b : Addr) (xs : List Int32), lw_P b xs args s := by
  have hs := flat_of_before _ h
  have hq := flat_of_before _ hr
  have hc : (Cond.count 1).before args s = true := hs _ (by decide +kernel)
  have harr : (Cond.arrayOf (.arg 0) .int).before args s = true := hs _ (by decide +kernel)
  have hle : (Cond.le (.length (.arg 0)) (.int 260)).before args s = true := hs _ (by decide +kernel)
  have hlen : (Cond.isInt (.length (.arg 0))).before args s = true := hq _ (by decide +kernel)
  have hall : (Cond.all (.arg 0) (.isInt (.elem (.arg 0) (.index 0)))).before args s = true := hq _ (by decide +kernel)
  obtain ⟨b, xs, hb, hx⟩ := State.ints_of_pre rfl harr hlen hall
  have hsm : xs.length < 2 ^ 31 := hx.choose_spec.2.2.2
  have hev : (Term.length (.arg 0)).eval args s none [] s = some (.int xs.length.toInt32) := hx.length_eval hb
  have hv := Cond.le_ints hev (show (Term.int 260).eval args s none [] s = some (.int 260) from rfl)
  have hd : xs.length.toInt32 ≤ 260 := by
    simpa [Cond.before, Cond.holds, hv] using hle
  have hN : xs.length ≤ 260 := (Int32.ofNat_le_ofNat hsm (by decide)).mp (show Int32.ofNat xs.length ≤ Int32.ofNat 260 from hd)
  exact ⟨b, xs, Cond.one_arg hc (show args[0]? = some (.ref b) from hb), hx, hN, h⟩
theorem lw_comes (l : Launch) (hflags : l.flags = flags0) : Comes l x (Jvm.Cond.code x code maxLocals ret :: tables_1) room_1 (fun tb e args s => Calls_1 tb e args s ∧ rest_1 tb e args s ∧ Pre_1 tb e args s)
    (fun _ _ args s o t => lw_Q args s o t) := by
  intro p e ha hc hk s m args below hf hfit hheap happ hpre
  obtain ⟨b, xs, hP⟩ := lw_pre_spec hpre.2.2 hpre.2.1
  obtain ⟨k, o, h1, h2, h3, hQ⟩ := lw_walk l hflags b xs p e ha hc hk s m args below hf ((Spec.applies_iff_loose hf).mp happ).1 hP trivial
  exact ⟨k, o, h1, h2, h3, hQ⟩
theorem lw_frame {s t : State} {o : Outcome} {args : Array Value} (h : State.butDraws s t lw_cs (fun t1 => Framed s o t1 [] 700389 7000602)) :
    State.butDraws s t [Jvm.Choice.named "NaN.bits"] (fun t1 => Framed s o t1 (fieldLocs frame_1_writes args s ++ arrayLocs frame_1_arrays args s ++ staticLocs frame_1_statics s) 700389 7000602) := h
theorem lw_limb (L : Cond) (hL : ∀ (args : Array Value) (s t : State), L.after args s (.returned (some (.int 1))) t = true) :
    ArmFor flags0 classFile x code maxLocals ret World_1 tables_1 room_1 Calls_1 rest_1 Pre_1
      (fun tb e a s o t => postC L tb e a s o t ∧ State.butDraws s t [Jvm.Choice.named "NaN.bits"] (fun t1 => Framed s o t1 (fieldLocs frame_1_writes a s ++ arrayLocs frame_1_arrays a s ++ staticLocs frame_1_statics s) 700389 7000602)) := by
  intro l hflags _ _ p e ha hc hk s m args below hf hfit hheap happ hpre
  obtain ⟨k, o, h1, h2, h3, rfl, hF⟩ := lw_comes l hflags p e ha hc hk s m args below hf hfit hheap happ hpre
  exact ⟨k, _, h1, h2, h3, hL args s _, lw_frame hF⟩
theorem i_vc : Claimed_1_1 ∧ Claimed_1_2 := ⟨lw_limb limb_1_1 (fun args s t => by simp [limb_1_1, Cond.after, Cond.holds, Cond.value]), lw_limb limb_1_2 (fun args s t => Cond.after_iff.mpr (by
  first | (rw [show limb_1_2 = Cond.eq .result (.int 1) from rfl, Cond.eq_ints (x := 1) (y := 1) rfl rfl]; simp; done) | (simp [limb_1_2, Cond.value, Term.eval]; done)))⟩
