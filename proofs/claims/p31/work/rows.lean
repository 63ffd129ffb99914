section
-- ===== PART A: goes FIRST, ahead of the names: the tables' words, and 'selects' of the private methods out of them =====
/-- a private method of a class that the tables say can be made, by its rows of tables_1 -/
def lw_okq (q : MethodName × Nat) : Prop := (q.1.cls ≠ "java/lang/invoke/MethodHandle" ∧ q.1.cls ≠ "java/lang/invoke/VarHandle") ∧ Cond.instantiable q.1.cls q.2 ∈ tables_1 ∧ Cond.privateMethod q.1 ∈ tables_1 ∧ Cond.instanceMethod q.1 ∈ tables_1
theorem lw_p0 : lw_okq (⟨"java/lang/Throwable", "fillInStackTrace", "(I)Ljava/lang/Throwable;"⟩, 6) := ⟨⟨by decide +kernel, by decide +kernel⟩, List.mem_of_getElem? (i := 350) (by decide +kernel), List.mem_of_getElem? (i := 348) (by decide +kernel), List.mem_of_getElem? (i := 349) (by decide +kernel)⟩
theorem lw_p1 : lw_okq (⟨"FindTables$Saved", "slotBehind", "(I)LFindTables$State;"⟩, 3) := ⟨⟨by decide +kernel, by decide +kernel⟩, List.mem_of_getElem? (i := 156) (by decide +kernel), List.mem_of_getElem? (i := 383) (by decide +kernel), List.mem_of_getElem? (i := 384) (by decide +kernel)⟩
theorem lw_p2 : lw_okq (⟨"FindTables", "tellValue", "(I)I"⟩, 9) := ⟨⟨by decide +kernel, by decide +kernel⟩, List.mem_of_getElem? (i := 22) (by decide +kernel), List.mem_of_getElem? (i := 454) (by decide +kernel), List.mem_of_getElem? (i := 455) (by decide +kernel)⟩
theorem lw_p3 : lw_okq (⟨"FindTables", "tellTable", "(II)I"⟩, 9) := ⟨⟨by decide +kernel, by decide +kernel⟩, List.mem_of_getElem? (i := 22) (by decide +kernel), List.mem_of_getElem? (i := 527) (by decide +kernel), List.mem_of_getElem? (i := 528) (by decide +kernel)⟩
theorem lw_p4 : lw_okq (⟨"FindTables", "prepareFirstDraw", "(I)V"⟩, 9) := ⟨⟨by decide +kernel, by decide +kernel⟩, List.mem_of_getElem? (i := 22) (by decide +kernel), List.mem_of_getElem? (i := 533) (by decide +kernel), List.mem_of_getElem? (i := 534) (by decide +kernel)⟩
theorem lw_p5 : lw_okq (⟨"FindTables$Draw", "weigh", "(LFindTables$State;III)V"⟩, 3) := ⟨⟨by decide +kernel, by decide +kernel⟩, List.mem_of_getElem? (i := 203) (by decide +kernel), List.mem_of_getElem? (i := 546) (by decide +kernel), List.mem_of_getElem? (i := 547) (by decide +kernel)⟩
theorem lw_p6 : lw_okq (⟨"FindTables$Draw", "reaches", "(LFindTables$Tables;II)Z"⟩, 3) := ⟨⟨by decide +kernel, by decide +kernel⟩, List.mem_of_getElem? (i := 203) (by decide +kernel), List.mem_of_getElem? (i := 560) (by decide +kernel), List.mem_of_getElem? (i := 561) (by decide +kernel)⟩
theorem lw_p7 : lw_okq (⟨"FindTables", "needEntry", "(II)V"⟩, 9) := ⟨⟨by decide +kernel, by decide +kernel⟩, List.mem_of_getElem? (i := 22) (by decide +kernel), List.mem_of_getElem? (i := 591) (by decide +kernel), List.mem_of_getElem? (i := 592) (by decide +kernel)⟩
theorem lw_p8 : lw_okq (⟨"FindTables", "tellEntry", "(III)I"⟩, 9) := ⟨⟨by decide +kernel, by decide +kernel⟩, List.mem_of_getElem? (i := 22) (by decide +kernel), List.mem_of_getElem? (i := 596) (by decide +kernel), List.mem_of_getElem? (i := 597) (by decide +kernel)⟩
theorem lw_p9 : lw_okq (⟨"FindTables", "saveState", "()V"⟩, 9) := ⟨⟨by decide +kernel, by decide +kernel⟩, List.mem_of_getElem? (i := 22) (by decide +kernel), List.mem_of_getElem? (i := 642) (by decide +kernel), List.mem_of_getElem? (i := 643) (by decide +kernel)⟩
theorem lw_p10 : lw_okq (⟨"FindTables$Tables", "moveEntry", "(II)V"⟩, 8) := ⟨⟨by decide +kernel, by decide +kernel⟩, List.mem_of_getElem? (i := 36) (by decide +kernel), List.mem_of_getElem? (i := 689) (by decide +kernel), List.mem_of_getElem? (i := 690) (by decide +kernel)⟩
theorem lw_p11 : lw_okq (⟨"FindTables$Opening", "drawItem", "(LFindTables$State;I)V"⟩, 4) := ⟨⟨by decide +kernel, by decide +kernel⟩, List.mem_of_getElem? (i := 197) (by decide +kernel), List.mem_of_getElem? (i := 735) (by decide +kernel), List.mem_of_getElem? (i := 736) (by decide +kernel)⟩
theorem lw_p12 : lw_okq (⟨"FindTables$Opening", "takeItem", "(LFindTables$State;II)V"⟩, 4) := ⟨⟨by decide +kernel, by decide +kernel⟩, List.mem_of_getElem? (i := 197) (by decide +kernel), List.mem_of_getElem? (i := 765) (by decide +kernel), List.mem_of_getElem? (i := 766) (by decide +kernel)⟩
theorem lw_p13 : lw_okq (⟨"FindTables$Chances", "goOn", "(LFindTables$State;IIIJ)V"⟩, 7) := ⟨⟨by decide +kernel, by decide +kernel⟩, List.mem_of_getElem? (i := 236) (by decide +kernel), List.mem_of_getElem? (i := 829) (by decide +kernel), List.mem_of_getElem? (i := 830) (by decide +kernel)⟩
theorem lw_p14 : lw_okq (⟨"FindTables$Chances", "endOpening", "(IIJ)V"⟩, 7) := ⟨⟨by decide +kernel, by decide +kernel⟩, List.mem_of_getElem? (i := 236) (by decide +kernel), List.mem_of_getElem? (i := 834) (by decide +kernel), List.mem_of_getElem? (i := 835) (by decide +kernel)⟩
theorem lw_p15 : lw_okq (⟨"FindTables$Chances", "handOn", "(LFindTables$State;IIIIJ)V"⟩, 7) := ⟨⟨by decide +kernel, by decide +kernel⟩, List.mem_of_getElem? (i := 236) (by decide +kernel), List.mem_of_getElem? (i := 840) (by decide +kernel), List.mem_of_getElem? (i := 841) (by decide +kernel)⟩
def lw_privs_1 : List (MethodName × Nat) := [(⟨"java/lang/Throwable", "fillInStackTrace", "(I)Ljava/lang/Throwable;"⟩, 6), (⟨"FindTables$Saved", "slotBehind", "(I)LFindTables$State;"⟩, 3), (⟨"FindTables", "tellValue", "(I)I"⟩, 9), (⟨"FindTables", "tellTable", "(II)I"⟩, 9), (⟨"FindTables", "prepareFirstDraw", "(I)V"⟩, 9), (⟨"FindTables$Draw", "weigh", "(LFindTables$State;III)V"⟩, 3), (⟨"FindTables$Draw", "reaches", "(LFindTables$Tables;II)Z"⟩, 3), (⟨"FindTables", "needEntry", "(II)V"⟩, 9), (⟨"FindTables", "tellEntry", "(III)I"⟩, 9), (⟨"FindTables", "saveState", "()V"⟩, 9), (⟨"FindTables$Tables", "moveEntry", "(II)V"⟩, 8), (⟨"FindTables$Opening", "drawItem", "(LFindTables$State;I)V"⟩, 4), (⟨"FindTables$Opening", "takeItem", "(LFindTables$State;II)V"⟩, 4), (⟨"FindTables$Chances", "goOn", "(LFindTables$State;IIIJ)V"⟩, 7), (⟨"FindTables$Chances", "endOpening", "(IIJ)V"⟩, 7), (⟨"FindTables$Chances", "handOn", "(LFindTables$State;IIIIJ)V"⟩, 7)]
theorem lw_r1 : ∀ q ∈ lw_privs_1, lw_okq q := List.forall_mem_cons.mpr ⟨lw_p0, List.forall_mem_cons.mpr ⟨lw_p1, List.forall_mem_cons.mpr ⟨lw_p2, List.forall_mem_cons.mpr ⟨lw_p3, List.forall_mem_cons.mpr ⟨lw_p4, List.forall_mem_cons.mpr ⟨lw_p5, List.forall_mem_cons.mpr ⟨lw_p6, List.forall_mem_cons.mpr ⟨lw_p7, List.forall_mem_cons.mpr ⟨lw_p8, List.forall_mem_cons.mpr ⟨lw_p9, List.forall_mem_cons.mpr ⟨lw_p10, List.forall_mem_cons.mpr ⟨lw_p11, List.forall_mem_cons.mpr ⟨lw_p12, List.forall_mem_cons.mpr ⟨lw_p13, List.forall_mem_cons.mpr ⟨lw_p14, List.forall_mem_cons.mpr ⟨lw_p15, fun _ h => absurd h List.not_mem_nil⟩⟩⟩⟩⟩⟩⟩⟩⟩⟩⟩⟩⟩⟩⟩⟩
def lw_privs : List (MethodName × Nat) := lw_privs_1
def lw_tbl : List Cond := k2_sels lw_privs ++ tables_1
theorem lw_privs_ok : ∀ q ∈ lw_privs, lw_okq q := lw_r1
/-- the streams that the claim lets the run draw from -/
abbrev lw_cs : List Choice := [Jvm.Choice.named "NaN.bits"]
theorem lw_bits : nanBits ∈ lw_cs := by first | decide | exact List.mem_cons_self | simp [lw_cs, nanBits]
-- ===== end of PART A; then your names; then what follows =====
end
section
/-! ===== BEGIN words of one list among another's, by their places ===== -/
theorem goodIn_r {big : List Cond} (ws : List Cond) (ps : List Nat) (hp : ws = ps.filterMap (fun i => big[i]?)) (h : ws.all goodWord = true) : GoodIn big ws := by
  intro w hw
  have h1 := List.all_eq_true.mp h w hw
  rw [hp] at hw
  obtain ⟨i, -, hi⟩ := List.mem_filterMap.mp hw
  have hm : w ∈ big := by first | exact List.mem_of_getElem? hi | exact List.getElem?_mem hi
  exact ⟨hm, good_of_word h1⟩
theorem goodIn_app {big a b : List Cond} (ha : GoodIn big a) (hb : GoodIn big b) : GoodIn big (a ++ b) := fun w h => (List.mem_append.mp h).elim (ha w) (hb w)
theorem goodIn_ca {big a b : List Cond} {c : Cond} (ha : GoodIn big (c :: a)) (hb : GoodIn big b) : GoodIn big (c :: (a ++ b)) := fun w h => (List.mem_cons.mp h).elim (fun e => ha w (List.mem_cons.mpr (Or.inl e))) (fun h => (List.mem_append.mp h).elim (fun h => ha w (List.mem_cons.mpr (Or.inr h))) (hb w))
theorem goodIn_sub {big ws : List Cond} (hm : ∀ w ∈ ws, w ∈ big) (h : ws.all goodWord = true) : GoodIn big ws := fun w hw => ⟨hm w hw, good_of_word (List.all_eq_true.mp h w hw)⟩
/-! ===== END ===== -/
/-! ===== BEGIN exceptions that leave a method, and their catching by the caller (launches without stack traces) ===== -/
section VXA
/-! The laws vx_back, vx_callV, vx_callS, vx_callSW, vx_throw0, vx_throwS follow proofs of the library, with one case more: JvmDerived/Free/Laws.lean (Back.of_free), Shelf42/LK1.lean (callV, callS), Shelf/KitTraced.lean (throwNew0V, throwNewS). -/
/-- where a method has thrown q: the class by its name, the cell, what was written, the world -/
def vx_T (XC : String → State → State → Prop) (st : State) (q : Addr) (t : State) (mc ms : Nat) (free : Addr → Prop) : Prop :=
  ∃ (E : String) (ce : Cell) (L : List Loc), XC E st t ∧ t.heap[q]? = some ce ∧ ce.vm = .none ∧ st.vm.findClass E = some ce.cls ∧ st.WarmedH t.vm ∧ st.sameButNew ({ t with vm := st.vm } : State) L mc ms ∧ ∀ z ∈ L, free z.base
def vx_Q (Qc : Array Value → State → Outcome → State → Prop) (XC : String → State → State → Prop) (mc ms : Nat) (free : Addr → Prop) : Array Value → State → Outcome → State → Prop := fun a st o t =>
  (Qc a st o t ∧ ∃ L, FrameEnd st o t L mc ms ∧ ∀ q ∈ L, free q.base) ∨ ∃ q, o = .threw q ∧ vx_T XC st q t mc ms free
/-- a callee that returns or throws -/
def vx_Met (l : Launch) (y : MethodName) (ws : List Cond) (rm : Room) (Pc : Array Value → State → Prop) (Qc : Array Value → State → Outcome → State → Prop) (XC : String → State → State → Prop) (mc ms : Nat) (free : Addr → Prop) : Prop :=
  MetFree l y (headSpec ws rm) Pc (fun _ _ _ _ _ => True) (vx_Q Qc XC mc ms free)
def vx_Post (XC : String → State → State → Prop) (mc ms : Nat) (free : Addr → Prop) : Pt → Array Value → Addr → Pt → Prop := fun A a q B =>
  ∃ (g : JFrame) (mk : MethodId) (t : State) (L : List Loc) (E : String) (ce : Cell), B.U.heap = t.heap ∧ B.U.vm = t.vm ∧ XC E (A.U.calling g mk a) t ∧ t.heap[q]? = some ce ∧ ce.vm = .none ∧ A.U.vm.findClass E = some ce.cls ∧ B.locs = A.locs ++ L ∧ (∀ z ∈ L, free z.base) ∧ B.cells = A.cells + mc ∧ B.slots = A.slots + ms
def vx_Back (l : Launch) (R : Room) (p : Program) (e : Env) (below : List Frame) (s : State) (sargs : Array Value) (y : MethodName) (len W9 : Nat)
    (Pre : Pt → Array Value → Prop) (Post : Pt → Array Value → Option Value → Pt → Prop) (PostX : Pt → Array Value → Addr → Pt → Prop) : Prop :=
  ∀ (m : MethodId) (meth : Method) (c : Code) (A : Pt) (g : JFrame) (ig : Instr) (mk : MethodId) (a : Array Value),
    Stand p l e R s m sargs below meth c A.U A.locs A.cells A.slots → g.method = m → g.locals.size = c.maxLocals → decode c.code g.pc = .ok (ig, len) →
    2 * g.monitorRoom + (g.stack.map fun v => v.category).sum ≤ W9 → A.U.methodNamed? y = some mk → Pre A a →
    (∃ (v : Option Value) (B : Pt), Stand p l e R s m sargs below meth c B.U B.locs B.cells B.slots ∧ Post A a v B ∧
      Steps p.tables e below (doInvoke e (A.U.setTop g) [] mk a).1 (B.U.setTop { g with pc := g.pc + len, stack := v.toList ++ g.stack })) ∨
    (∃ (q : Addr) (B : Pt), Stand p l e R s m sargs below meth c B.U B.locs B.cells B.slots ∧ PostX A a q B ∧
      Steps p.tables e below (doInvoke e (A.U.setTop g) [] mk a).1 ((B.U.setTop g).pushFrame (.throwing q)))
section Payer
variable {l : Launch} {R : Room} {p : Program} {e : Env} {below : List Frame} {s : State} {sargs : Array Value} {y : MethodName} {len W9 : Nat}
theorem vx_back {ws : List Cond} {rm : Room} {Pc : Array Value → State → Prop} {Qc : Array Value → State → Outcome → State → Prop} {XC : String → State → State → Prop} {mc ms : Nat} {free : Addr → Prop} {bytes : ByteArray} {maxL : Nat} {ret : Option FieldType}
    (hM : vx_Met l y ws rm Pc Qc XC mc ms free) (hblind : FrameBlind Pc) (hrc : rm.cells = mc) (hrs : rm.slots = ms)
    (hframes : rm.frames + 1 ≤ R.frames) (hlocals : W9 + (maxL + 11) + rm.locals ≤ R.locals)
    (hws : ∀ w ∈ ws, ∀ a' U, s.WarmedH U.vm → w.before a' U = true) (hcode : Cond.code y bytes maxL ret ∈ ws) (hinit : ∀ a' U, s.WarmedH U.vm → (Cond.initialized y.cls).before a' U = true) :
    vx_Back l R p e below s sargs y len W9 (PreOf R mc ms Pc) (PostOf Qc mc ms free) (vx_Post XC mc ms free) := by
  intro m meth c A g ig mk a X hg hsize hdg hW hn hp
  have h1 : (headSpec ws rm).pre.before a A.U = true := atoms_intro fun w hw => hws w hw _ _ X.warmed
  have h2 : (Cond.code y bytes maxL ret).before a A.U = true := hws _ hcode _ _ X.warmed
  have h3 : (Cond.initialized y.cls).before a A.U = true := hinit _ _ X.warmed
  have h4 : A.cells + (headSpec ws rm).room.cells ≤ R.cells := by rw [show (headSpec ws rm).room.cells = mc from hrc]; exact hp.1
  have h5 : A.slots + (headSpec ws rm).room.slots ≤ R.slots := by rw [show (headSpec ws rm).room.slots = ms from hrs]; exact hp.2.1
  have hPc : Pc a (A.U.calling g mk a) := hblind _ _ _ _ hp.2.2
  obtain ⟨U, Ls, c0, s0⟩ := A
  dsimp only [Pt.U, Pt.locs, Pt.cells, Pt.slots] at h1 h2 h3 h4 h5 X hn hPc ⊢
  obtain ⟨methY, cY, hmY, hcY, -, hlY, -, -, -, -⟩ := Cond.code_spec hn h2
  obtain ⟨kY, hkY, -⟩ := className_of_methodNamed hn
  have hinitY : kY.init = .initialized := Cond.initialized_spec (findClass_of_methodNamed hn) hkY h3
  have h : At U g.method c below := by rw [hg]; exact X.here
  have hlocals9 : W9 + (maxL + 11) + (headSpec ws rm).room.locals ≤ R.locals := hlocals
  have happ : (headSpec ws rm).appliesLoose y e.platform (U.calling g mk a) = true :=
    Spec.appliesLoose_calling (g := g) h hdg hn hkY hinitY
      (X.room_calling (g := g) (R' := (headSpec ws rm).room) hsize hmY hcY hframes (by rw [hlY]; omega) h4 h5) h1
  obtain ⟨mid, hmid⟩ := h.above
  have hfr : (U.setTop g).frames = (.java g :: mid) ++ below := by rw [State.frames_setTop' g h.top, hmid]; rfl
  obtain ⟨o, s₂, hsteps, -, hend, hq⟩ := Steps.callFree hM p X.admits X.cas X.clock (acts := []) hfr happ hPc trivial
  have hq' : vx_Q Qc XC mc ms free a (U.calling g mk a) o s₂ := hq
  rw [State.frames_setTop' g h.top] at hend
  obtain ⟨g₀, hg0⟩ := Option.isSome_iff_exists.mp h.top
  obtain ⟨r, hr⟩ := State.topJava?_eq_some.mp hg0
  have hr' : (({ U with heap := s₂.heap, slotsUsed := s₂.slotsUsed } : State).setVm s₂.vm).frames = .java g₀ :: r := hr
  rcases hq' with ⟨hqc, L, hfe, hL⟩ | ⟨q, rfl, E, ce, L, hx, hce, hcv, hcl, hW₂, hsm, hL⟩
  · obtain ⟨⟨v, rfl⟩, hW₂, e2, q2, q3, q4, q5, q6⟩ := id hfe
    have e3 : s₂ = ({ (U.calling g mk a).setFrames s₂.frames with heap := s₂.heap, slotsUsed := s₂.slotsUsed } : State).setVm s₂.vm := by
      have : s₂ = ({ s₂ with vm := (U.calling g mk a).vm } : State).setVm s₂.vm := rfl
      rw [e2] at this
      exact this
    obtain ⟨c₂, i₂, len₂, hc₂, hd₂, hf₂⟩ := hend
    have hW' : U.WarmedH s₂.vm := hW₂
    have hcc : c₂ = c := by
      have h1 : s₂.code? g.method = U.code? g.method := by
        rw [State.code?_eq, State.code?_eq, hW'.alike.method?]
      exact Option.some.inj (hc₂.symm.trans (h1.trans h.code))
    subst hcc
    have hlen : len₂ = len := by rw [hdg] at hd₂; cases hd₂; rfl
    subst hlen
    have hs₂ : s₂ = (({ U with heap := s₂.heap, slotsUsed := s₂.slotsUsed } : State).setVm s₂.vm).setTop { g with pc := g.pc + len₂, stack := v.toList ++ g.stack } := by
      refine e3.trans ?_
      rw [hf₂, State.calling_eq h.top, State.setFrames_setFrames, State.setTop_of_frames _ hr', hr]
      rfl
    have hsame : U.sameButNew ({ U with heap := s₂.heap, slotsUsed := s₂.slotsUsed } : State) L mc ms := by
      refine ⟨?_, q2, q3, q4, q5, q6⟩
      obtain ⟨t, ht, -⟩ := State.frames_cons hr
      show ({ U with heap := s₂.heap, slotsUsed := s₂.slotsUsed } : State) = { U.setFrames U.frames with heap := s₂.heap, slotsUsed := s₂.slotsUsed }
      rw [State.setFrames_self ht]
    subst hg
    refine Or.inl ⟨v, ⟨(({ U with heap := s₂.heap, slotsUsed := s₂.slotsUsed } : State).setVm s₂.vm), Ls ++ L, c0 + mc, s0 + ms⟩,
      ⟨X.admits, X.cas, X.clock, X.frames, X.room, X.hears, X.method, X.code, (X.here.setHeapUsed s₂.heap s₂.slotsUsed).setVm hW'.alike, X.tail, State.WarmedH.trans X.warmed hW', X.limits, X.bytes, X.same.trans (hsame.setVm s.vm)⟩,
      ⟨g, mk, s₂, L, rfl, rfl, hqc, rfl, hL, rfl, rfl⟩, ?_⟩
    show Steps p.tables e below _ ((({ U with heap := s₂.heap, slotsUsed := s₂.slotsUsed } : State).setVm s₂.vm).setTop { g with pc := g.pc + len₂, stack := v.toList ++ g.stack })
    rw [← hs₂]
    exact hsteps
  · obtain ⟨e2, q2, q3, q4, q5, q6⟩ := id hsm
    have e3 : s₂ = ({ (U.calling g mk a).setFrames s₂.frames with heap := s₂.heap, slotsUsed := s₂.slotsUsed } : State).setVm s₂.vm := by
      have : s₂ = ({ s₂ with vm := (U.calling g mk a).vm } : State).setVm s₂.vm := rfl
      rw [e2] at this
      exact this
    have hf₂ : s₂.frames = .throwing q :: .java g :: U.frames.tail := hend
    have hW' : U.WarmedH s₂.vm := hW₂
    have hs₂ : s₂ = ((({ U with heap := s₂.heap, slotsUsed := s₂.slotsUsed } : State).setVm s₂.vm).setTop g).pushFrame (.throwing q) := by
      refine e3.trans ?_
      rw [hf₂, State.calling_eq h.top, State.setFrames_setFrames, State.pushFrame, State.frames_setTop _ hr', State.setTop_of_frames _ hr', State.setFrames_setFrames, hr]
      rfl
    have hsame : U.sameButNew ({ U with heap := s₂.heap, slotsUsed := s₂.slotsUsed } : State) L mc ms := by
      refine ⟨?_, q2, q3, q4, q5, q6⟩
      obtain ⟨t, ht, -⟩ := State.frames_cons hr
      show ({ U with heap := s₂.heap, slotsUsed := s₂.slotsUsed } : State) = { U.setFrames U.frames with heap := s₂.heap, slotsUsed := s₂.slotsUsed }
      rw [State.setFrames_self ht]
    subst hg
    refine Or.inr ⟨q, ⟨(({ U with heap := s₂.heap, slotsUsed := s₂.slotsUsed } : State).setVm s₂.vm), Ls ++ L, c0 + mc, s0 + ms⟩,
      ⟨X.admits, X.cas, X.clock, X.frames, X.room, X.hears, X.method, X.code, (X.here.setHeapUsed s₂.heap s₂.slotsUsed).setVm hW'.alike, X.tail, State.WarmedH.trans X.warmed hW', X.limits, X.bytes, X.same.trans (hsame.setVm s.vm)⟩,
      ⟨g, mk, s₂, L, E, ce, rfl, rfl, hx, hce, hcv, hcl, rfl, hL, rfl, rfl⟩, ?_⟩
    show Steps p.tables e below _ (((({ U with heap := s₂.heap, slotsUsed := s₂.slotsUsed } : State).setVm s₂.vm).setTop g).pushFrame (.throwing q))
    rw [← hs₂]
    exact hsteps
end Payer
section Calls
variable {p : Program} {l : Launch} {e : Env} {R : Room} {s : State} {m : MethodId} {args : Array Value} {below : List Frame} {meth : Method} {c : Code} {T : State} {locs : List Loc} {cells slots : Nat}
theorem vx_callV (X : Stand p l e R s m args below meth c T locs cells slots) (hexec : p.tables.exec = Jvm.exec) {own C : String} {index : Nat} {y : MethodName} {bytes : ByteArray} {maxL : Nat} {ret : Option FieldType}
    (hown : s.vm.findClass own = some m.cls) (hlink : (Cond.methodLink own index y).before args s = true) (hinst : (Cond.instanceMethod y).before args s = true) (hsel : (Cond.selects C y y).before args s = true)
    (hcode : (Cond.code y bytes maxL ret).before args s = true) (hy : y.cls ≠ "java/lang/invoke/MethodHandle" ∧ y.cls ≠ "java/lang/invoke/VarHandle")
    {W9 : Nat} {Pre : Pt → Array Value → Prop} {Post : Pt → Array Value → Option Value → Pt → Prop} {PostX : Pt → Array Value → Addr → Pt → Prop} (hK : vx_Back l R p e below s args y 3 W9 Pre Post PostX)
    {b : Addr} {cellB : Cell} (hcell : T.heap[b]? = some cellB) (hobj : cellB.vm.isStatics = false) (hcls : s.vm.findClass C = some cellB.cls)
    {g : JFrame} (hg : g.method = m) (hsize : g.locals.size = c.maxLocals) {argsL rest : List Value} (hlen : ∀ sig, parseMethodDescriptor y.desc = some sig → argsL.length = sig.parameters.length)
    (hstack : g.stack = argsL.reverse ++ .ref b :: rest) (hW : 2 * g.monitorRoom + (rest.map fun v => v.category).sum ≤ W9) (hdg : decode c.code g.pc = .ok (.invokevirtual index, 3))
    (hpre : ∀ vm₁, s.WarmedH vm₁ → Pre ⟨T.setVm vm₁, locs, cells, slots⟩ (Value.ref b :: argsL).toArray) :
    (∃ (v : Option Value) (vm₁ : Vm) (B : Pt), s.WarmedH vm₁ ∧ Stand p l e R s m args below meth c B.U B.locs B.cells B.slots ∧ Post ⟨T.setVm vm₁, locs, cells, slots⟩ (Value.ref b :: argsL).toArray v B ∧
      ∀ target, Steps p.tables e below (B.U.setTop { g with pc := g.pc + 3, stack := v.toList ++ rest }) target → Steps p.tables e below (T.setTop g) target) ∨
    (∃ (q : Addr) (vm₁ : Vm) (B : Pt), s.WarmedH vm₁ ∧ Stand p l e R s m args below meth c B.U B.locs B.cells B.slots ∧ PostX ⟨T.setVm vm₁, locs, cells, slots⟩ (Value.ref b :: argsL).toArray q B ∧
      Steps p.tables e below (T.setTop g) ((B.U.setTop { g with stack := rest }).pushFrame (.throwing q))) := by
  obtain ⟨mk, methM, hnamed, hmethM, hstM, habM⟩ := Cond.instanceMethod_spec hinst
  obtain ⟨methM', cM, hmethM', -, -, -, -, -, -, hsigM⟩ := Cond.code_spec hnamed hcode
  cases hmethM.symm.trans hmethM'
  obtain ⟨c2, r2, m2, q1, q2, q3, q4, kP, hkP, hkPi⟩ := Cond.selects_spec hsel
  cases hcls.symm.trans q1
  cases (State.methodFound?_of_named hnamed hy).symm.trans q2
  cases hnamed.symm.trans q3
  have hselP : selectMethod e.platform s.vm cellB.cls mk = .method mk := by rw [Launch.admits_selectMethod X.admits]; exact q4
  obtain ⟨vm₁, X₁, hstep₁⟩ := X.invokevirtual hexec hown hlink hnamed hmethM hstM hkP hkPi hy (a := b) (cell := cellB) hcell
    (fun z h => by rw [h] at hobj; cases hobj) hselP hmethM habM hkP hkPi (g := g) hg (argsL := argsL) (rest := rest) (hlen _ hsigM) hstack hdg
  rcases hK m meth c ⟨T.setVm vm₁, locs, cells, slots⟩ { g with stack := rest } (.invokevirtual index) mk (Value.ref b :: argsL).toArray X₁ hg hsize hdg hW (X₁.named hnamed) (hpre vm₁ X₁.warmed) with ⟨v, B, X', hpost, hsteps⟩ | ⟨q, B, X', hpost, hsteps⟩
  · exact Or.inl ⟨v, vm₁, B, X₁.warmed, X', hpost, fun target h => hstep₁ _ fun acts => by rw [doInvoke_state]; exact hsteps.trans h⟩
  · exact Or.inr ⟨q, vm₁, B, X₁.warmed, X', hpost, hstep₁ _ fun acts => by rw [doInvoke_state]; exact hsteps⟩
theorem vx_callS (X : Stand p l e R s m args below meth c T locs cells slots) (hexec : p.tables.exec = Jvm.exec) {own : String} {index : Nat} {y : MethodName} {bytes : ByteArray} {maxL : Nat} {ret : Option FieldType}
    (hown : s.vm.findClass own = some m.cls) (hlink : (Cond.methodLink own index y).before args s = true) (hstat : (Cond.static y).before args s = true) (hinit : (Cond.initialized y.cls).before args s = true)
    (hcode : (Cond.code y bytes maxL ret).before args s = true) (hy : y.cls ≠ "java/lang/invoke/MethodHandle" ∧ y.cls ≠ "java/lang/invoke/VarHandle")
    {W9 : Nat} {Pre : Pt → Array Value → Prop} {Post : Pt → Array Value → Option Value → Pt → Prop} {PostX : Pt → Array Value → Addr → Pt → Prop} (hK : vx_Back l R p e below s args y 3 W9 Pre Post PostX)
    {g : JFrame} (hg : g.method = m) (hsize : g.locals.size = c.maxLocals) {argsL rest : List Value} (hlen : ∀ sig, parseMethodDescriptor y.desc = some sig → argsL.length = sig.parameters.length)
    (hstack : g.stack = argsL.reverse ++ rest) (hW : 2 * g.monitorRoom + (rest.map fun v => v.category).sum ≤ W9) (hdg : decode c.code g.pc = .ok (.invokestatic index, 3))
    (hpre : ∀ vm₁, s.WarmedH vm₁ → Pre ⟨T.setVm vm₁, locs, cells, slots⟩ argsL.toArray) :
    (∃ (v : Option Value) (vm₁ : Vm) (B : Pt), s.WarmedH vm₁ ∧ Stand p l e R s m args below meth c B.U B.locs B.cells B.slots ∧ Post ⟨T.setVm vm₁, locs, cells, slots⟩ argsL.toArray v B ∧
      ∀ target, Steps p.tables e below (B.U.setTop { g with pc := g.pc + 3, stack := v.toList ++ rest }) target → Steps p.tables e below (T.setTop g) target) ∨
    (∃ (q : Addr) (vm₁ : Vm) (B : Pt), s.WarmedH vm₁ ∧ Stand p l e R s m args below meth c B.U B.locs B.cells B.slots ∧ PostX ⟨T.setVm vm₁, locs, cells, slots⟩ argsL.toArray q B ∧
      Steps p.tables e below (T.setTop g) ((B.U.setTop { g with stack := rest }).pushFrame (.throwing q))) := by
  obtain ⟨mk, hnamed⟩ := Cond.code_named hcode
  obtain ⟨methM, cM, hmethM, -, -, -, -, -, -, hsigM⟩ := Cond.code_spec hnamed hcode
  have hstatic : methM.isStatic = true := Cond.static_spec hnamed hmethM hstat
  obtain ⟨kP, hkP, -⟩ := className_of_methodNamed hnamed
  have hinitP : kP.init = .initialized := Cond.initialized_spec (findClass_of_methodNamed hnamed) hkP hinit
  obtain ⟨vm₁, X₁, hstep₁⟩ := X.invokestatic hexec hown hlink hnamed hmethM hstatic hkP hinitP hy (g := g) hg (argsL := argsL) (rest := rest) (hlen _ hsigM) hstack hdg
  rcases hK m meth c ⟨T.setVm vm₁, locs, cells, slots⟩ { g with stack := rest } (.invokestatic index) mk argsL.toArray X₁ hg hsize hdg hW (X₁.named hnamed) (hpre vm₁ X₁.warmed) with ⟨v, B, X', hpost, hsteps⟩ | ⟨q, B, X', hpost, hsteps⟩
  · exact Or.inl ⟨v, vm₁, B, X₁.warmed, X', hpost, fun target h => hstep₁ _ fun acts => by rw [doInvoke_state]; exact hsteps.trans h⟩
  · exact Or.inr ⟨q, vm₁, B, X₁.warmed, X', hpost, hstep₁ _ fun acts => by rw [doInvoke_state]; exact hsteps⟩
end Calls
theorem vx_cls {s : State} {T : State} {vm₁ : Vm} {E : String} {k : ClassId} (hW : s.WarmedH vm₁) (h : (T.setVm vm₁).vm.findClass E = some k) : s.vm.findClass E = some k := by
  have h1 : vm₁.findClass E = some k := h
  rw [hW.alike.findClass] at h1
  exact h1
/-- the method's frame g, with q thrown over it -/
def vx_W (p : Program) (l : Launch) (e : Env) (R : Room) (s : State) (m : MethodId) (args : Array Value) (below : List Frame) (meth : Method) (c : Code) (H : Heap) (locs : List Loc) (cells slots : Nat) (Q : State → Prop) (g : JFrame) (q : Addr) : Prop :=
  ∀ T : State, T.heap = H → Stand p l e R s m args below meth c T locs cells slots → ∃ t, Steps p.tables e below ((T.setTop g).pushFrame (.throwing q)) t ∧ Q t
def vx_Run (p : Program) (l : Launch) (e : Env) (R : Room) (s : State) (m : MethodId) (args : Array Value) (below : List Frame) (meth : Method) (c : Code) (H : Heap) (locs : List Loc) (cells slots mc ms : Nat) (g : JFrame) (rest : List Value) (Qa : State → Outcome → State → Prop) (XC : String → State → State → Prop) (free : Addr → Prop) : Prop :=
  ∀ T : State, T.heap = H → Stand p l e R s m args below meth c T locs cells slots →
    (∃ (v : Option Value) (st₀ t T' : State) (L : List Loc), st₀.heap = H ∧ Stand p l e R s m args below meth c T' (locs ++ L) (cells + mc) (slots + ms) ∧ (∀ q ∈ L, free q.base) ∧ T'.heap = t.heap ∧ T'.vm = t.vm ∧ Qa st₀ (.returned v) t ∧
      Goes p e below T g T' { g with pc := g.pc + 3, stack := v.toList ++ rest }) ∨
    (∃ (q : Addr) (st₀ t T' : State) (L : List Loc) (E : String) (ce : Cell), st₀.heap = H ∧ Stand p l e R s m args below meth c T' (locs ++ L) (cells + mc) (slots + ms) ∧ (∀ z ∈ L, free z.base) ∧ T'.heap = t.heap ∧ T'.vm = t.vm ∧ XC E st₀ t ∧ t.heap[q]? = some ce ∧ ce.vm = .none ∧ s.vm.findClass E = some ce.cls ∧
      Steps p.tables e below (T.setTop g) ((T'.setTop { g with stack := rest }).pushFrame (.throwing q)))
def vx_X {S : Type} (px : S → Prop) (B : String → S → State → Prop) (A : Nat → Prop) : String → State → State → Prop := fun E st t => ∃ u : S, px u ∧ B E u t ∧ va_F A st t
section Runs
variable {p : Program} {l : Launch} {e : Env} {R : Room} {s : State} {m : MethodId} {args : Array Value} {below : List Frame} {meth : Method} {c : Code} {H : Heap} {locs : List Loc} {cells slots : Nat}
variable {y : MethodName} {bytes cc : ByteArray} {maxL nL mc ms n index : Nat} {ret : Option FieldType} {ws : List Cond} {rm : Room} {Pc : Array Value → State → Prop} {Qc : Array Value → State → Outcome → State → Prop} {XC : String → State → State → Prop} {free : Addr → Prop} {Ts : List Cond} {own C : String} {b : Addr} {As rest : List Value} {g : JFrame}
theorem vx_callBack (cb : CallB R s args own index y bytes maxL ret ws rm mc ms n) (hM : vx_Met l y ws rm Pc Qc XC mc ms free) (hbl : FrameBlind Pc) : vx_Back l R p e below s args y 3 8 (PreOf R mc ms Pc) (PostOf Qc mc ms free) (vx_Post XC mc ms free) := by
  obtain ⟨hrc, hrs, hfr, hlo, hws, hcw, -, hini, -⟩ := cb
  exact vx_back (bytes := bytes) (maxL := maxL) (ret := ret) hM hbl hrc hrs hfr hlo hws hcw (fun a' U hW => word_at hW (Or.inl (by first | rfl | simp [Cond.onTables, Cond.keeps, Cond.steady])) hini)
theorem vx_runV (S : CallFix p m c cc nL s args Ts own) (hM : vx_Met l y ws rm Pc Qc XC mc ms free) (cw : CallW R s args own C index y bytes maxL ret ws rm mc ms n) (hp : PreV s H C b Pc As)
    (hg : g.method = m) (hn : As.length = n) (hsize : g.locals.size = nL) (hstack : g.stack = As.reverse ++ .ref b :: rest) (hW : 2 * g.monitorRoom + (rest.map fun v => v.category).sum ≤ 8) (hdg : decode cc g.pc = .ok (.invokevirtual index, 3)) (hf : cells + mc ≤ R.cells ∧ slots + ms ≤ R.slots) :
    vx_Run p l e R s m args below meth c H locs cells slots mc ms g rest (Qc (Value.ref b :: As).toArray) XC free := by
  have hK : vx_Back l R p e below s args y 3 8 (PreOf R mc ms Pc) (PostOf Qc mc ms free) (vx_Post XC mc ms free) := vx_callBack cw.1 hM hp.1
  obtain ⟨⟨-, -, -, -, -, -, hcode, -, hy, hlen, hl⟩, hin, hse⟩ := cw
  obtain ⟨hx, hb, hml, ho, -⟩ := S
  obtain ⟨-, ⟨cellB, hcB, hoB, hclB⟩, hPc⟩ := hp
  intro T hT X
  rcases vx_callV X hx (C := C) (bytes := bytes) (maxL := maxL) (ret := ret) ho hl hin hse hcode hy hK (by rw [hT]; exact hcB) hoB hclB hg (hsize.trans hml.symm) (argsL := As) (rest := rest) (fun sig h => hn.trans (hlen sig h)) hstack hW (by rw [hb]; exact hdg)
    (fun vm₁ hW₁ => ⟨hf.1, hf.2, hPc (T.setVm vm₁) hT hW₁⟩) with ⟨v, vm₁, ⟨U', l2, c2, s2⟩, hW₁, X', ⟨g', mk, t, L, e1, e2, hq, h1, hL, h2, h3⟩, st⟩ | ⟨q, vm₁, ⟨U', l2, c2, s2⟩, hW₁, X', ⟨g', mk, t, L, E, ce, e1, e2, hq, hce, hcv, hcl, h1, hL, h2, h3⟩, st⟩
  · dsimp only [Pt.U, Pt.locs, Pt.cells, Pt.slots] at X' e1 e2 h1 h2 h3 st
    subst h1; subst h2; subst h3
    exact Or.inl ⟨v, (T.setVm vm₁).calling g' mk (Value.ref b :: As).toArray, t, U', L, hT, X', hL, e1, e2, hq, st⟩
  · dsimp only [Pt.U, Pt.locs, Pt.cells, Pt.slots] at X' e1 e2 h1 h2 h3 st hcl
    subst h1; subst h2; subst h3
    exact Or.inr ⟨q, (T.setVm vm₁).calling g' mk (Value.ref b :: As).toArray, t, U', L, E, ce, hT, X', hL, e1, e2, hq, hce, hcv, vx_cls hW₁ hcl, st⟩
theorem vx_runS (S : CallFix p m c cc nL s args Ts own) (hM : vx_Met l y ws rm Pc Qc XC mc ms free) (cw : CallB R s args own index y bytes maxL ret ws rm mc ms n ∧ (Cond.static y).before args s = true) (hp : PreS s H Pc As)
    (hg : g.method = m) (hn : As.length = n) (hsize : g.locals.size = nL) (hstack : g.stack = As.reverse ++ rest) (hW : 2 * g.monitorRoom + (rest.map fun v => v.category).sum ≤ 8) (hdg : decode cc g.pc = .ok (.invokestatic index, 3)) (hf : cells + mc ≤ R.cells ∧ slots + ms ≤ R.slots) :
    vx_Run p l e R s m args below meth c H locs cells slots mc ms g rest (Qc As.toArray) XC free := by
  have hK : vx_Back l R p e below s args y 3 8 (PreOf R mc ms Pc) (PostOf Qc mc ms free) (vx_Post XC mc ms free) := vx_callBack cw.1 hM hp.1
  obtain ⟨⟨-, -, -, -, -, -, hcode, hini, hy, hlen, hl⟩, hstt⟩ := cw
  obtain ⟨hx, hb, hml, ho, -⟩ := S
  intro T hT X
  rcases vx_callS X hx (bytes := bytes) (maxL := maxL) (ret := ret) ho hl hstt hini hcode hy hK hg (hsize.trans hml.symm) (argsL := As) (rest := rest) (fun sig h => hn.trans (hlen sig h)) hstack hW (by rw [hb]; exact hdg)
    (fun vm₁ hW₁ => ⟨hf.1, hf.2, hp.2 (T.setVm vm₁) hT hW₁⟩) with ⟨v, vm₁, ⟨U', l2, c2, s2⟩, hW₁, X', ⟨g', mk, t, L, e1, e2, hq, h1, hL, h2, h3⟩, st⟩ | ⟨q, vm₁, ⟨U', l2, c2, s2⟩, hW₁, X', ⟨g', mk, t, L, E, ce, e1, e2, hq, hce, hcv, hcl, h1, hL, h2, h3⟩, st⟩
  · dsimp only [Pt.U, Pt.locs, Pt.cells, Pt.slots] at X' e1 e2 h1 h2 h3 st
    subst h1; subst h2; subst h3
    exact Or.inl ⟨v, (T.setVm vm₁).calling g' mk As.toArray, t, U', L, hT, X', hL, e1, e2, hq, st⟩
  · dsimp only [Pt.U, Pt.locs, Pt.cells, Pt.slots] at X' e1 e2 h1 h2 h3 st hcl
    subst h1; subst h2; subst h3
    exact Or.inr ⟨q, (T.setVm vm₁).calling g' mk As.toArray, t, U', L, E, ce, hT, X', hL, e1, e2, hq, hce, hcv, vx_cls hW₁ hcl, st⟩
end Runs
section Rows
variable {p : Program} {l : Launch} {e : Env} {R : Room} {s : State} {m : MethodId} {args : Array Value} {below : List Frame} {meth : Method} {c : Code} {H : Heap} {locs : List Loc} {cells slots : Nat} {Q : State → Prop}
variable {mc ms : Nat} {free : Addr → Prop} {A0 A1 : Nat → Prop} {H0 : Heap} {a : Array Value} {pc : Nat} {ls : Array Slot} {st0 rest : List Value}
theorem vx_keep {st₀ t T' : State} {L : List Loc} (h0 : st₀.heap = H) (e1 : T'.heap = t.heap) (hS : va_S A0 H0 H locs) (hA : ∀ q, q < H.size → A1 q → A0 q) (hf : ∀ q, free q → A0 q) (hL : ∀ q ∈ L, free q.base) (hF : va_F A1 st₀ t) :
    H.size ≤ T'.heap.size ∧ (∀ q : Nat, q < H.size → ¬ A1 q → T'.heap[q]? = H[q]?) ∧ va_S A0 H0 T'.heap (locs ++ L) := by
  obtain ⟨hz, hk⟩ := hF
  rw [h0] at hz hk
  exact ⟨by rw [e1]; exact hz, fun q h1 h2 => by rw [e1]; exact hk q h1 h2,
    ⟨Nat.le_trans hS.1 (by rw [e1]; exact hz), fun q h1 h2 => by rw [e1, hk q (Nat.lt_of_lt_of_le h1 hS.1) (fun z => h2 (hA q (Nat.lt_of_lt_of_le h1 hS.1) z))]; exact hS.2.1 q h1 h2, fun q hq => by
      rcases List.mem_append.mp hq with h | h
      · exact hS.2.2 q h
      · exact hf _ (hL q h)⟩⟩
theorem vx_calli {S SX : Type} {post : Int32 → S → Prop} {px : SX → Prop} {B : S → State → Prop} {BX : String → SX → State → Prop} {AX : Nat → Prop} (hr : vx_Run p l e R s m args below meth c H locs cells slots mc ms (F0 m pc ls st0) rest (va_Qi post B A1 a) (vx_X px BX AX) free) (hS : va_S A0 H0 H locs) (hA : ∀ q, q < H.size → A1 q → A0 q) (hf : ∀ q, free q → A0 q) (hAX : ∀ q, q < H.size → AX q → A0 q)
    (kx : ∀ (E : String) (ce : Cell) (q9 : Addr) (u : SX) (t : State) (H1 : Heap) (locs1 : List Loc), t.heap = H1 → s.vm.Alike t.vm → px u → BX E u t → H.size ≤ H1.size → (∀ q : Nat, q < H.size → ¬ AX q → H1[q]? = H[q]?) → va_S A0 H0 H1 locs1 → H1[q9]? = some ce → ce.vm = .none → s.vm.findClass E = some ce.cls → vx_W p l e R s m args below meth c H1 locs1 (cells + mc) (slots + ms) Q (F0 m pc ls rest) q9)
    (kk : ∀ (r : Int32) (u : S) (t : State) (H1 : Heap) (locs1 : List Loc), t.heap = H1 → s.vm.Alike t.vm → post r u → B u t → H.size ≤ H1.size → (∀ q : Nat, q < H.size → ¬ A1 q → H1[q]? = H[q]?) → va_S A0 H0 H1 locs1 → W p l e R s m args below meth c H1 locs1 (cells + mc) (slots + ms) Q (F0 m (pc + 3) ls (.int r :: rest))) : W p l e R s m args below meth c H locs cells slots Q (F0 m pc ls st0) := by
  intro T hT X
  rcases hr T hT X with ⟨v, st₀, t, T', L, h0, X', hL, e1, e2, ⟨⟨r, u, hv, hp, hb⟩, hF⟩, st⟩ | ⟨q, st₀, t, T', L, E, ce, h0, X', hL, e1, e2, ⟨u, hp, hb, hF⟩, hce, hcv, hcl, st⟩
  · cases hv
    obtain ⟨k1, k2, k3⟩ := vx_keep h0 e1 hS hA hf hL hF
    obtain ⟨t2, a1, b1⟩ := kk r u t T'.heap (locs ++ L) e1.symm (by rw [← e2]; exact X'.warmed.alike) hp hb k1 k2 k3 T' rfl X'
    exact ⟨t2, st t2 a1, b1⟩
  · obtain ⟨k1, k2, k3⟩ := vx_keep h0 e1 hS hAX hf hL hF
    obtain ⟨t2, a1, b1⟩ := kx E ce q u t T'.heap (locs ++ L) e1.symm (by rw [← e2]; exact X'.warmed.alike) hp hb k1 k2 k3 (by rw [e1]; exact hce) hcv hcl T' rfl X'
    exact ⟨t2, st.trans a1, b1⟩
theorem vx_calll {S SX : Type} {post : Int64 → S → Prop} {px : SX → Prop} {B : S → State → Prop} {BX : String → SX → State → Prop} {AX : Nat → Prop} (hr : vx_Run p l e R s m args below meth c H locs cells slots mc ms (F0 m pc ls st0) rest (va_Ql post B A1 a) (vx_X px BX AX) free) (hS : va_S A0 H0 H locs) (hA : ∀ q, q < H.size → A1 q → A0 q) (hf : ∀ q, free q → A0 q) (hAX : ∀ q, q < H.size → AX q → A0 q)
    (kx : ∀ (E : String) (ce : Cell) (q9 : Addr) (u : SX) (t : State) (H1 : Heap) (locs1 : List Loc), t.heap = H1 → s.vm.Alike t.vm → px u → BX E u t → H.size ≤ H1.size → (∀ q : Nat, q < H.size → ¬ AX q → H1[q]? = H[q]?) → va_S A0 H0 H1 locs1 → H1[q9]? = some ce → ce.vm = .none → s.vm.findClass E = some ce.cls → vx_W p l e R s m args below meth c H1 locs1 (cells + mc) (slots + ms) Q (F0 m pc ls rest) q9)
    (kk : ∀ (r : Int64) (u : S) (t : State) (H1 : Heap) (locs1 : List Loc), t.heap = H1 → s.vm.Alike t.vm → post r u → B u t → H.size ≤ H1.size → (∀ q : Nat, q < H.size → ¬ A1 q → H1[q]? = H[q]?) → va_S A0 H0 H1 locs1 → W p l e R s m args below meth c H1 locs1 (cells + mc) (slots + ms) Q (F0 m (pc + 3) ls (.long r :: rest))) : W p l e R s m args below meth c H locs cells slots Q (F0 m pc ls st0) := by
  intro T hT X
  rcases hr T hT X with ⟨v, st₀, t, T', L, h0, X', hL, e1, e2, ⟨⟨r, u, hv, hp, hb⟩, hF⟩, st⟩ | ⟨q, st₀, t, T', L, E, ce, h0, X', hL, e1, e2, ⟨u, hp, hb, hF⟩, hce, hcv, hcl, st⟩
  · cases hv
    obtain ⟨k1, k2, k3⟩ := vx_keep h0 e1 hS hA hf hL hF
    obtain ⟨t2, a1, b1⟩ := kk r u t T'.heap (locs ++ L) e1.symm (by rw [← e2]; exact X'.warmed.alike) hp hb k1 k2 k3 T' rfl X'
    exact ⟨t2, st t2 a1, b1⟩
  · obtain ⟨k1, k2, k3⟩ := vx_keep h0 e1 hS hAX hf hL hF
    obtain ⟨t2, a1, b1⟩ := kx E ce q u t T'.heap (locs ++ L) e1.symm (by rw [← e2]; exact X'.warmed.alike) hp hb k1 k2 k3 (by rw [e1]; exact hce) hcv hcl T' rfl X'
    exact ⟨t2, st.trans a1, b1⟩
theorem vx_callf {S SX : Type} {post : UInt32 → S → Prop} {px : SX → Prop} {B : S → State → Prop} {BX : String → SX → State → Prop} {AX : Nat → Prop} (hr : vx_Run p l e R s m args below meth c H locs cells slots mc ms (F0 m pc ls st0) rest (va_Qf post B A1 a) (vx_X px BX AX) free) (hS : va_S A0 H0 H locs) (hA : ∀ q, q < H.size → A1 q → A0 q) (hf : ∀ q, free q → A0 q) (hAX : ∀ q, q < H.size → AX q → A0 q)
    (kx : ∀ (E : String) (ce : Cell) (q9 : Addr) (u : SX) (t : State) (H1 : Heap) (locs1 : List Loc), t.heap = H1 → s.vm.Alike t.vm → px u → BX E u t → H.size ≤ H1.size → (∀ q : Nat, q < H.size → ¬ AX q → H1[q]? = H[q]?) → va_S A0 H0 H1 locs1 → H1[q9]? = some ce → ce.vm = .none → s.vm.findClass E = some ce.cls → vx_W p l e R s m args below meth c H1 locs1 (cells + mc) (slots + ms) Q (F0 m pc ls rest) q9)
    (kk : ∀ (r : UInt32) (u : S) (t : State) (H1 : Heap) (locs1 : List Loc), t.heap = H1 → s.vm.Alike t.vm → post r u → B u t → H.size ≤ H1.size → (∀ q : Nat, q < H.size → ¬ A1 q → H1[q]? = H[q]?) → va_S A0 H0 H1 locs1 → W p l e R s m args below meth c H1 locs1 (cells + mc) (slots + ms) Q (F0 m (pc + 3) ls (.float r :: rest))) : W p l e R s m args below meth c H locs cells slots Q (F0 m pc ls st0) := by
  intro T hT X
  rcases hr T hT X with ⟨v, st₀, t, T', L, h0, X', hL, e1, e2, ⟨⟨r, u, hv, hp, hb⟩, hF⟩, st⟩ | ⟨q, st₀, t, T', L, E, ce, h0, X', hL, e1, e2, ⟨u, hp, hb, hF⟩, hce, hcv, hcl, st⟩
  · cases hv
    obtain ⟨k1, k2, k3⟩ := vx_keep h0 e1 hS hA hf hL hF
    obtain ⟨t2, a1, b1⟩ := kk r u t T'.heap (locs ++ L) e1.symm (by rw [← e2]; exact X'.warmed.alike) hp hb k1 k2 k3 T' rfl X'
    exact ⟨t2, st t2 a1, b1⟩
  · obtain ⟨k1, k2, k3⟩ := vx_keep h0 e1 hS hAX hf hL hF
    obtain ⟨t2, a1, b1⟩ := kx E ce q u t T'.heap (locs ++ L) e1.symm (by rw [← e2]; exact X'.warmed.alike) hp hb k1 k2 k3 (by rw [e1]; exact hce) hcv hcl T' rfl X'
    exact ⟨t2, st.trans a1, b1⟩
theorem vx_calld {S SX : Type} {post : UInt64 → S → Prop} {px : SX → Prop} {B : S → State → Prop} {BX : String → SX → State → Prop} {AX : Nat → Prop} (hr : vx_Run p l e R s m args below meth c H locs cells slots mc ms (F0 m pc ls st0) rest (va_Qd post B A1 a) (vx_X px BX AX) free) (hS : va_S A0 H0 H locs) (hA : ∀ q, q < H.size → A1 q → A0 q) (hf : ∀ q, free q → A0 q) (hAX : ∀ q, q < H.size → AX q → A0 q)
    (kx : ∀ (E : String) (ce : Cell) (q9 : Addr) (u : SX) (t : State) (H1 : Heap) (locs1 : List Loc), t.heap = H1 → s.vm.Alike t.vm → px u → BX E u t → H.size ≤ H1.size → (∀ q : Nat, q < H.size → ¬ AX q → H1[q]? = H[q]?) → va_S A0 H0 H1 locs1 → H1[q9]? = some ce → ce.vm = .none → s.vm.findClass E = some ce.cls → vx_W p l e R s m args below meth c H1 locs1 (cells + mc) (slots + ms) Q (F0 m pc ls rest) q9)
    (kk : ∀ (r : UInt64) (u : S) (t : State) (H1 : Heap) (locs1 : List Loc), t.heap = H1 → s.vm.Alike t.vm → post r u → B u t → H.size ≤ H1.size → (∀ q : Nat, q < H.size → ¬ A1 q → H1[q]? = H[q]?) → va_S A0 H0 H1 locs1 → W p l e R s m args below meth c H1 locs1 (cells + mc) (slots + ms) Q (F0 m (pc + 3) ls (.double r :: rest))) : W p l e R s m args below meth c H locs cells slots Q (F0 m pc ls st0) := by
  intro T hT X
  rcases hr T hT X with ⟨v, st₀, t, T', L, h0, X', hL, e1, e2, ⟨⟨r, u, hv, hp, hb⟩, hF⟩, st⟩ | ⟨q, st₀, t, T', L, E, ce, h0, X', hL, e1, e2, ⟨u, hp, hb, hF⟩, hce, hcv, hcl, st⟩
  · cases hv
    obtain ⟨k1, k2, k3⟩ := vx_keep h0 e1 hS hA hf hL hF
    obtain ⟨t2, a1, b1⟩ := kk r u t T'.heap (locs ++ L) e1.symm (by rw [← e2]; exact X'.warmed.alike) hp hb k1 k2 k3 T' rfl X'
    exact ⟨t2, st t2 a1, b1⟩
  · obtain ⟨k1, k2, k3⟩ := vx_keep h0 e1 hS hAX hf hL hF
    obtain ⟨t2, a1, b1⟩ := kx E ce q u t T'.heap (locs ++ L) e1.symm (by rw [← e2]; exact X'.warmed.alike) hp hb k1 k2 k3 (by rw [e1]; exact hce) hcv hcl T' rfl X'
    exact ⟨t2, st.trans a1, b1⟩
theorem vx_callv {S SX : Type} {post : S → Prop} {px : SX → Prop} {B : S → State → Prop} {BX : String → SX → State → Prop} {AX : Nat → Prop} (hr : vx_Run p l e R s m args below meth c H locs cells slots mc ms (F0 m pc ls st0) rest (va_Qv post B A1 a) (vx_X px BX AX) free) (hS : va_S A0 H0 H locs) (hA : ∀ q, q < H.size → A1 q → A0 q) (hf : ∀ q, free q → A0 q) (hAX : ∀ q, q < H.size → AX q → A0 q)
    (kx : ∀ (E : String) (ce : Cell) (q9 : Addr) (u : SX) (t : State) (H1 : Heap) (locs1 : List Loc), t.heap = H1 → s.vm.Alike t.vm → px u → BX E u t → H.size ≤ H1.size → (∀ q : Nat, q < H.size → ¬ AX q → H1[q]? = H[q]?) → va_S A0 H0 H1 locs1 → H1[q9]? = some ce → ce.vm = .none → s.vm.findClass E = some ce.cls → vx_W p l e R s m args below meth c H1 locs1 (cells + mc) (slots + ms) Q (F0 m pc ls rest) q9)
    (kk : ∀ (u : S) (t : State) (H1 : Heap) (locs1 : List Loc), t.heap = H1 → s.vm.Alike t.vm → post u → B u t → H.size ≤ H1.size → (∀ q : Nat, q < H.size → ¬ A1 q → H1[q]? = H[q]?) → va_S A0 H0 H1 locs1 → W p l e R s m args below meth c H1 locs1 (cells + mc) (slots + ms) Q (F0 m (pc + 3) ls (rest))) : W p l e R s m args below meth c H locs cells slots Q (F0 m pc ls st0) := by
  intro T hT X
  rcases hr T hT X with ⟨v, st₀, t, T', L, h0, X', hL, e1, e2, ⟨⟨u, hv, hp, hb⟩, hF⟩, st⟩ | ⟨q, st₀, t, T', L, E, ce, h0, X', hL, e1, e2, ⟨u, hp, hb, hF⟩, hce, hcv, hcl, st⟩
  · cases hv
    obtain ⟨k1, k2, k3⟩ := vx_keep h0 e1 hS hA hf hL hF
    obtain ⟨t2, a1, b1⟩ := kk u t T'.heap (locs ++ L) e1.symm (by rw [← e2]; exact X'.warmed.alike) hp hb k1 k2 k3 T' rfl X'
    exact ⟨t2, st t2 a1, b1⟩
  · obtain ⟨k1, k2, k3⟩ := vx_keep h0 e1 hS hAX hf hL hF
    obtain ⟨t2, a1, b1⟩ := kx E ce q u t T'.heap (locs ++ L) e1.symm (by rw [← e2]; exact X'.warmed.alike) hp hb k1 k2 k3 (by rw [e1]; exact hce) hcv hcl T' rfl X'
    exact ⟨t2, st.trans a1, b1⟩
/-- caught by the row x of this method's table; the rows ahead don't take it -/
theorem vx_catch {own name : String} {E : String} {ce : Cell} {q : Addr} (hown : s.vm.findClass own = some m.cls) (pre : List ExceptionTableEntry) (x : ExceptionTableEntry) (suf : List ExceptionTableEntry) (hsplit : c.exceptionTable.toList = pre ++ x :: suf)
    (hpass : ∀ z ∈ pre, covers z pc = false ∨ (z.catchType ≠ 0 ∧ ∃ nm : String, (Cond.classLink own z.catchType nm).before args s = true ∧ va_Nc E nm s)) (hx : covers x pc = true) (h0 : x.catchType ≠ 0)
    (hlink : (Cond.classLink own x.catchType name).before args s = true) (hcast : (Cond.castable E name).before args s = true) (hcell : H[q]? = some ce) (hv : ce.vm = .none) (hcl : s.vm.findClass E = some ce.cls)
    (kk : W p l e R s m args below meth c H locs cells slots Q (F0 m x.handlerPc ls [.ref q])) : vx_W p l e R s m args below meth c H locs cells slots Q (F0 m pc ls rest) q := by
  intro T hT X
  have hpl : e.platform.magicAccessors = ({} : Platform).magicAccessors := by rw [X.admits.platform]
  obtain ⟨c3, c4, hc3, hc4, hasg⟩ := Cond.castable_spec hcast
  cases Option.some.inj (hc3.symm.trans hcl)
  obtain ⟨c5, hc5, hcl5⟩ := Cond.classLink_spec hown hlink e.platform hpl
  cases Option.some.inj (hc4.symm.trans hc5)
  obtain ⟨vm', X', st⟩ := X.thenCaughtThrough q (g := F0 m pc ls rest) rfl (Steps.refl _) (by rw [hT]; exact hcell) (by rw [hv]; rfl) (by obtain ⟨k9, h9, -⟩ := Vm.findClass_spec hcl; exact ⟨k9, h9⟩) pre x suf hsplit
    (fun z hz => by
      rcases hpass z hz with h | ⟨hz0, nm, hl1, hn1⟩
      · exact Or.inl h
      · obtain ⟨c6, hc6, hcl6⟩ := Cond.classLink_spec hown hl1 e.platform hpl
        obtain ⟨a8, b8, h1, h2, h3⟩ := hn1
        cases Option.some.inj (h1.symm.trans hcl)
        cases Option.some.inj (h2.symm.trans hc6)
        exact Or.inr ⟨hz0, _, hcl6, h3⟩) hx (Or.inr ⟨h0, c4, hcl5, hasg⟩)
  obtain ⟨t, a1, b1⟩ := kk (T.setVm vm') hT X'
  exact ⟨t, st.trans a1, b1⟩
end Rows
section Ends
variable {p : Program} {l : Launch} {e : Env} {R : Room} {s : State} {m : MethodId} {args : Array Value} {below : List Frame} {meth : Method} {c : Code} {H : Heap} {locs : List Loc} {cells slots : Nat} {Q : State → Prop}
variable {mc ms : Nat} {free : Addr → Prop} {A0 A1 : Nat → Prop} {H0 : Heap} {a : Array Value} {ls : Array Slot} {st0 rest : List Value}
variable {Qc : Array Value → State → Outcome → State → Prop} {XC : String → State → State → Prop}
/-- what a body that may throw owes at its end -/
def vx_MQ (below : List Frame) (Qc : Array Value → State → Outcome → State → Prop) (XC : String → State → State → Prop) (a : Array Value) (s : State) (mc ms : Nat) (free : Addr → Prop) : State → Prop := fun t =>
  ∃ o, t.status = .running ∧ Ended t below o ∧ vx_Q Qc XC mc ms free a s o t
theorem vx_ret {g : JFrame} {mc ms : Nat} (k : W p l e R s m args below meth c H locs cells slots (MQ below Qc args s mc ms free) g) : W p l e R s m args below meth c H locs cells slots (vx_MQ below Qc XC args s mc ms free) g := by
  intro T hT X
  obtain ⟨t, a1, o, b1, b2, b3, b4⟩ := k T hT X
  exact ⟨t, a1, o, b1, b2, Or.inl ⟨b3, b4⟩⟩
/-- not caught here: it goes on to the caller -/
theorem vx_widen {g : JFrame} {q : Addr} {k n : Nat} (h1 : cells ≤ k) (h2 : slots ≤ n) (kk : vx_W p l e R s m args below meth c H locs k n Q g q) : vx_W p l e R s m args below meth c H locs cells slots Q g q := fun T hT X => kk T hT (stand_widen X h1 h2)
theorem vx_out {pc : Nat} {E : String} {ce : Cell} {q : Addr} {mc ms : Nat} (hout : ∀ x ∈ c.exceptionTable.toList, covers x pc = false) (hlocks : meth.locks = false) (hcell : H[q]? = some ce) (hv : ce.vm = .none) (hcl : s.vm.findClass E = some ce.cls)
    (hx : ∀ t : State, t.heap = H → s.vm.Alike t.vm → XC E s t) (hf : ∀ z ∈ locs, free z.base) (hc : cells ≤ mc) (hs : slots ≤ ms) :
    vx_W p l e R s m args below meth c H locs cells slots (vx_MQ below Qc XC args s mc ms free) (F0 m pc ls rest) q := by
  intro T hT X
  obtain ⟨st1, hrun, hend, hW, hsm⟩ := X.leaveThrown q (g := F0 m pc ls rest) rfl rfl rfl hout hlocks
  have hcell9 : (T.setFrames (.throwing q :: below)).heap[q]? = some ce := by
    show T.heap[q]? = some ce
    rw [hT]; exact hcell
  exact ⟨_, st1, .threw q, hrun, hend, Or.inr ⟨q, rfl, E, ce, locs, hx _ hT hW.alike, hcell9, hv, hcl, hW, hsm.mono hc hs, hf⟩⟩
theorem vx_frame {U : State} {k n : Nat} (h : s.sameButNew ({ U with vm := s.vm } : State) locs k n) : s.heap.size ≤ U.heap.size ∧ ∀ q : Nat, q < s.heap.size → (∀ z ∈ locs, z.base ≠ q) → U.heap[q]? = s.heap[q]? := by
  obtain ⟨-, h2, -, -, -, h6⟩ := h
  refine ⟨h2, fun q hq hz => ?_⟩
  obtain ⟨c9, e1, e2, e3, e4⟩ := h6 q _ (Array.getElem?_eq_getElem hq)
  have hs : c9.slots = (s.heap[q]).slots := Array.ext_getElem? fun i => e4 i fun hm => hz _ hm rfl
  have h9 : c9 = s.heap[q] := by
    rw [hs] at e2
    exact e2
  have e5 : U.heap[q]? = some c9 := e1
  rw [e5, h9, Array.getElem?_eq_getElem hq]
/-- the words of a throw but the four that speak of the heap -/
def vx_no (w : Cond) : Bool := decide (w ≠ .isRef (.static Bundle.tN "UNASSIGNED_STACK" Bundle.steD)) && decide (w ≠ .isRef (.static Bundle.tN "SUPPRESSED_SENTINEL" Bundle.listD)) && decide (w ≠ .laysStatic Bundle.tN "UNASSIGNED_STACK" Bundle.steD) && decide (w ≠ .laysStatic Bundle.tN "SUPPRESSED_SENTINEL" Bundle.listD)
def vx_at0 (own : String) (ic : Nat) (X : String) (names : List String) : List Cond := (Bundle.ownAtoms0 own ic X names).filter vx_no
def vx_atS (own : String) (ic : Nat) (X : String) (names : List String) : List Cond := (Bundle.ownAtoms own ic X names).filter vx_no
/-- a word that the tables alone decide, or a good one -/
def vx_ot (w : Cond) : Bool := w.onTables || goodWord w
theorem vx_ot_at {args a' : Array Value} {s U : State} {w : Cond} (hW : s.WarmedH U.vm) (hvm : s.vm = U.vm) (hg : vx_ot w = true) (h : w.before args s = true) : w.before a' U = true := by
  simp only [vx_ot, Bool.or_eq_true] at hg
  rcases hg with hg | hg
  · exact va_tabs hg hvm h
  · exact word_at hW (good_of_word hg) h
/-- a list's words: the good ones out of the method's own list, the others by premises of their own -/
theorem vx_hat {args : Array Value} {s : State} {L B : List Cond} (h1 : ∀ w ∈ L.filter goodWord, w.before args s = true) (h2 : ∀ w ∈ L.filter (fun w => !goodWord w), w ∈ B) (h3 : ∀ w ∈ B, w.before args s = true) : ∀ w ∈ L, w.before args s = true := by
  intro w hw
  by_cases g : goodWord w = true
  · exact h1 w (List.mem_filter.mpr ⟨hw, g⟩)
  · refine h3 w (h2 w (List.mem_filter.mpr ⟨hw, ?_⟩))
    show (!goodWord w) = true
    cases hgw : goodWord w
    · rfl
    · exact absurd hgw g
theorem vx_c {args : Array Value} {s : State} {w : Cond} {B : List Cond} (h : w.before args s = true) (t : ∀ w ∈ B, w.before args s = true) : ∀ w' ∈ w :: B, w'.before args s = true := fun w' h' => (List.mem_cons.mp h').elim (fun e => by rw [e]; exact h) (t w')
theorem vx_n {args : Array Value} {s : State} : ∀ w ∈ ([] : List Cond), w.before args s = true := fun _ h => nomatch h
theorem vx_own {args : Array Value} {s : State} {L : List Cond} (h1 : ∀ w ∈ L.filter vx_no, w.before args s = true)
    (hU : (Cond.isRef (.static Bundle.tN "UNASSIGNED_STACK" Bundle.steD)).before args s = true) (hN : (Cond.isRef (.static Bundle.tN "SUPPRESSED_SENTINEL" Bundle.listD)).before args s = true)
    (lU : (Cond.laysStatic Bundle.tN "UNASSIGNED_STACK" Bundle.steD).before args s = true) (lN : (Cond.laysStatic Bundle.tN "SUPPRESSED_SENTINEL" Bundle.listD).before args s = true) : ∀ w ∈ L, w.before args s = true := by
  intro w hw
  by_cases e1 : w = .isRef (.static Bundle.tN "UNASSIGNED_STACK" Bundle.steD)
  · rw [e1]; exact hU
  · by_cases e2 : w = .isRef (.static Bundle.tN "SUPPRESSED_SENTINEL" Bundle.listD)
    · rw [e2]; exact hN
    · by_cases e3 : w = .laysStatic Bundle.tN "UNASSIGNED_STACK" Bundle.steD
      · rw [e3]; exact lU
      · by_cases e4 : w = .laysStatic Bundle.tN "SUPPRESSED_SENTINEL" Bundle.listD
        · rw [e4]; exact lN
        · exact h1 w (List.mem_filter.mpr ⟨hw, by unfold vx_no; rw [decide_eq_true e1, decide_eq_true e2, decide_eq_true e3, decide_eq_true e4]; rfl⟩)
/-- where a static field lies, its class's statics cell in H -/
def vx_L (C n d : String) (A : Nat → Prop) (U : State) (H : Heap) : Prop := ∃ (c : ClassId) (k : Class) (i : Nat) (f : Field) (a : Nat) (cell : Cell), U.vm.findClass C = some c ∧ U.fieldFound? C n d = some (c, k, i, f) ∧ f.isStatic = true ∧ k.statics = some a ∧ H[a]? = some cell ∧ cell.vm.isStatics = true ∧ cell.cls = c ∧ f.slot < cell.slots.size ∧ k.staticTypes[f.slot]? = some f.type ∧ ¬ A a
theorem vx_L.moved {C n d : String} {A : Nat → Prop} {u U : State} {H : Heap} (hvm : u.vm.Alike U.vm) (h : vx_L C n d A u H) : vx_L C n d A U H := by
  obtain ⟨c, k, i, f, a, cell, h1, h2, h3, h4, h5, h6, h7, h8, h9, h10⟩ := h
  obtain ⟨k', hi', he⟩ := State.fieldFound?_setVm hvm h2
  exact ⟨c, k', i, f, a, cell, by rw [hvm.findClass]; exact h1, hi', h3, by rw [he]; exact h4, h5, h6, h7, h8, by rw [he]; exact h9, h10⟩
theorem vx_L.kept {C n d : String} {A : Nat → Prop} {U : State} {H H1 : Heap} (h : vx_L C n d A U H) (hq : ∀ a : Nat, a < H.size → ¬ A a → H1[a]? = H[a]?) : vx_L C n d A U H1 := by
  obtain ⟨c, k, i, f, a, cell, h1, h2, h3, h4, h5, h6, h7, h8, h9, h10⟩ := h
  exact ⟨c, k, i, f, a, cell, h1, h2, h3, h4, by rw [hq a (Array.getElem?_eq_some_iff.mp h5).1 h10]; exact h5, h6, h7, h8, h9, h10⟩
theorem vx_L.narrow {C n d : String} {A B : Nat → Prop} {U : State} {H : Heap} (h : vx_L C n d A U H) (hAB : ∀ q, B q → A q) : vx_L C n d B U H := by
  obtain ⟨c, k, i, f, a, cell, h1, h2, h3, h4, h5, h6, h7, h8, h9, h10⟩ := h
  exact ⟨c, k, i, f, a, cell, h1, h2, h3, h4, h5, h6, h7, h8, h9, fun z => h10 (hAB _ z)⟩
theorem vx_L.word {C n d : String} {A : Nat → Prop} {s : State} {args : Array Value} (h : vx_L C n d A s s.heap) : (Cond.laysStatic C n d).before args s = true := by
  obtain ⟨c, k, i, f, a, cell, h1, h2, h3, h4, h5, h6, h7, h8, h9, -⟩ := h
  show (Cond.laysStatic C n d).holds args s none s [] = true
  exact Cond.laysStatic_of h1 h2 h3 h4 h5 h6 h7 h8 h9
/-- .. and what it holds: null or some reference -/
def vx_Zq (C n d : String) (A : Nat → Prop) (U : State) (H : Heap) : Prop := va_Zq C n d A U H ∧ vx_L C n d A U H
theorem vx_Zq.moved {C n d : String} {A : Nat → Prop} {u U : State} {H : Heap} (hvm : u.vm.Alike U.vm) (h : vx_Zq C n d A u H) : vx_Zq C n d A U H := ⟨va_Zq.moved hvm h.1, vx_L.moved hvm h.2⟩
theorem vx_Zq.kept {C n d : String} {A : Nat → Prop} {U : State} {H H1 : Heap} (h : vx_Zq C n d A U H) (hq : ∀ a : Nat, a < H.size → ¬ A a → H1[a]? = H[a]?) : vx_Zq C n d A U H1 := ⟨va_Zq.kept h.1 hq, vx_L.kept h.2 hq⟩
theorem vx_Zq.narrow {C n d : String} {A B : Nat → Prop} {U : State} {H : Heap} (h : vx_Zq C n d A U H) (hAB : ∀ q, B q → A q) : vx_Zq C n d B U H := ⟨va_Zq.narrow h.1 hAB, vx_L.narrow h.2 hAB⟩
theorem vx_Zqof {args : Array Value} {s : State} {C n d : String} {A : Nat → Prop} (hl : (Cond.laysStatic C n d).before args s = true) (hini : (Cond.initialized C).before args s = true) (h : (Cond.isRef (.static C n d)).before args s = true) (hA : ∀ a : Nat, a < s.heap.size → ¬ A a) : vx_Zq C n d A s s.heap := by
  refine ⟨va_Zqof hl hini h hA, ?_⟩
  obtain ⟨c, k, i, f, a, cell, h1, h2, h3, h4, h5, h6, h7, h8, h9⟩ := Cond.laysStatic_spec hl
  exact ⟨c, k, i, f, a, cell, h1, h2, h3, h4, h5, h6, h7, h8, h9, hA a (Array.getElem?_eq_some_iff.mp h5).1⟩
theorem vx_isRef {C n d : String} {v : Value} {A : Nat → Prop} {s : State} {args : Array Value} (h : va_Z C n d v A s s.heap) (hv : v.isRef = true) : (Cond.isRef (.static C n d)).before args s = true := by
  obtain ⟨cf, kf, fi, f, a, cell, h1, h2, h3, h4, h5, h6, h7, -⟩ := h
  have he : (Term.static C n d).eval args s none [] s = some v := by
    simp [Term.eval, State.fieldNamed?, h1, h2, h4, h5, h6, h7]
  simp only [Cond.before, Cond.holds, Cond.value, he]
  cases v <;> simp_all [Value.isRef]
theorem vx_isRefq {C n d : String} {A : Nat → Prop} {s : State} {args : Array Value} (h : va_Zq C n d A s s.heap) : (Cond.isRef (.static C n d)).before args s = true := by
  rcases h with h | ⟨t, h⟩
  · exact vx_isRef h rfl
  · exact vx_isRef h rfl
/-- the same frame, seen from here: as if the method were called anew in this heap -/
theorem vx_rebase {T : State} (X : Stand p l e R s m args below meth c T locs cells slots) {R' : Room} (hf : R'.frames ≤ R.frames) (hl : R'.locals ≤ R.locals) (hc : cells + R'.cells ≤ R.cells) (hs : slots + R'.slots ≤ R.slots) :
    Stand p l e R' ((T.setVm s.vm).setFrames (.invoking m args :: below)) m args below meth c T [] 0 0 := by
  have htop : (T.setVm s.vm).topJava?.isSome := X.here.top
  have hF : ((T.setVm s.vm).setFrames (.invoking m args :: below)).frames = .invoking m args :: below := State.frames_setFrames _ (State.cur_lt_of_top htop)
  obtain ⟨g₀, hg0⟩ := Option.isSome_iff_exists.mp htop
  obtain ⟨r, hr⟩ := State.topJava?_eq_some.mp hg0
  have hl9 : e.platform.stackLimits (T.setVm s.vm).me = e.platform.stackLimits s.me := X.limits
  have hb9 : (T.setVm s.vm).me.stackBytes = s.me.stackBytes := X.bytes
  refine ⟨X.admits, X.cas, X.clock, hF, ?_, X.hears, X.method, X.code, X.here, X.tail, X.warmed, ?_, ?_, ?_⟩
  · have h := X.room
    have hU : ((T.setVm s.vm).setFrames (.invoking m args :: below)).localsInUse = s.localsInUse := by
      rw [State.localsInUse_invoking hF (meth := meth) (c := c) X.method X.code, State.localsInUse_invoking X.frames X.method X.code]
    simp only [State.hasRoom, Bool.and_eq_true, decide_eq_true_eq] at h ⊢
    obtain ⟨⟨⟨⟨h1, h2, h3, h4, h5, h6⟩, h7⟩, h8⟩, h9⟩ := h
    rw [X.frames, List.length_cons] at h2 h3
    have q1 := X.heapSize
    have q2 := X.used
    simp only [hF, hU, List.length_cons, State.stackLimits_setFrames, State.stackBytes_setFrames, hl9, hb9]
    refine ⟨⟨⟨⟨by omega, by omega, by omega, by omega, by omega, h6⟩, ?_⟩, ?_⟩, X.book⟩
    · show T.heap.size + R'.cells ≤ e.platform.maxCells
      omega
    · show T.slotsUsed + R'.slots ≤ e.platform.maxSlots
      omega
  · rw [State.stackLimits_setFrames]; rfl
  · rw [State.stackBytes_setFrames]; rfl
  · refine ⟨?_, Nat.le_refl _, Nat.le_refl _, ?_, ?_, fun a c9 h9 => ⟨c9, h9, rfl, rfl, fun _ _ => rfl⟩⟩
    · obtain ⟨t, ht, -⟩ := State.frames_cons hr
      show T.setVm s.vm = { ((T.setVm s.vm).setFrames (.invoking m args :: below)).setFrames (T.setVm s.vm).frames with heap := T.heap, slotsUsed := T.slotsUsed }
      rw [State.setFrames_setFrames, State.setFrames_self ht]
      rfl
    · show T.slotsUsed = T.slotsUsed + ((T.heap.toList.drop T.heap.size).map (·.slots.size)).sum
      rw [List.drop_eq_nil_of_le (Nat.le_of_eq Array.length_toList)]
      rfl
    · show ((T.heap.toList.drop T.heap.size).map (·.slots.size)).sum ≤ 0
      rw [List.drop_eq_nil_of_le (Nat.le_of_eq Array.length_toList)]
      exact Nat.le_refl _
/-- 'throw new E()': new; dup; invokespecial; athrow -/
theorem vx_throw0 {cc : ByteArray} {pc : Nat} (hexec : p.tables.exec = Jvm.exec) (hb : c.code = cc) (hl : l.stackTraces = false) {own cls : String} {names : List String} {ik ic mc ms : Nat} {A : Nat → Prop}
    (hown : s.vm.findClass own = some m.cls) (hcls : Bundle.fit cls = true) (hnames : ∀ n ∈ names, Bundle.fit n = true)
    (hk : (Cond.classLink own ik cls).before args s = true) (hini : (Cond.initialized cls).before args s = true) (hat : ∀ w ∈ vx_at0 own ic cls names, w.before args s = true)
    (hgood : ∀ w ∈ Cond.classLink own ik cls :: Cond.initialized cls :: vx_at0 own ic cls names, vx_ot w = true)
    (hU : vx_Zq Bundle.tN "UNASSIGNED_STACK" Bundle.steD A s s.heap) (hN : vx_Zq Bundle.tN "SUPPRESSED_SENTINEL" Bundle.listD A s s.heap) (hS : va_S A s.heap H locs) (hsize : ls.size = c.maxLocals)
    (d0 : decode cc pc = .ok (.new ik, 3)) (d3 : decode cc (pc + 3) = .ok (.dup, 1)) (d4 : decode cc (pc + 4) = .ok (.invokespecial ic, 3)) (d7 : decode cc (pc + 7) = .ok (.athrow, 1))
    (hout : ∀ x ∈ c.exceptionTable.toList, covers x (pc + 7) = false)
    (hRframes : names.length + 3 < R.frames) (hRlocals : (rest.map fun v => v.category).sum + (13 * (names.length + 1) + 42) ≤ R.locals) (hRcells : cells + 1 ≤ R.cells) (hRslots : slots + 6 ≤ R.slots) (hlocks : meth.locks = false)
    (hx : ∀ t : State, s.vm.Alike t.vm → H.size ≤ t.heap.size → (∀ q : Nat, q < H.size → t.heap[q]? = H[q]?) → XC cls s t)
    (hf : ∀ z ∈ locs, free z.base) (hc : cells + 1 ≤ mc) (hs : slots + 6 ≤ ms) :
    W p l e R s m args below meth c H locs cells slots (vx_MQ below Qc XC args s mc ms free) (F0 m pc ls rest) := by
  intro T hT X
  have htr : e.platform.stackTraces = false := (show e.platform.stackTraces = l.stackTraces by rw [X.admits.platform]).trans hl
  have Y := vx_rebase X (R' := { frames := R.frames, locals := R.locals, cells := 1, slots := 6 }) (Nat.le_refl _) (Nat.le_refl _) hRcells hRslots
  obtain ⟨s', hA⟩ : ∃ z, z = (T.setVm s.vm).setFrames (.invoking m args :: below) := ⟨_, rfl⟩
  rw [← hA] at Y
  have hvm : s'.vm = s.vm := by rw [hA]; rfl
  have hhp : s'.heap = H := by rw [hA]; exact hT
  have hW0 : s.WarmedH s'.vm := by rw [hvm]; exact State.WarmedH.refl s
  have hat' : ∀ w ∈ vx_at0 own ic cls names, w.before args s' = true := fun w hw => vx_ot_at hW0 hvm.symm (hgood w (List.mem_cons_of_mem _ (List.mem_cons_of_mem _ hw))) (hat w hw)
  have hk' : (Cond.classLink own ik cls).before args s' = true := vx_ot_at hW0 hvm.symm (hgood _ List.mem_cons_self) hk
  have hini' : (Cond.initialized cls).before args s' = true := vx_ot_at hW0 hvm.symm (hgood _ (List.mem_cons_of_mem _ List.mem_cons_self)) hini
  have hU' : vx_Zq Bundle.tN "UNASSIGNED_STACK" Bundle.steD A s' s'.heap := by rw [hhp]; exact vx_Zq.moved hW0.alike (hU.kept hS.2.1)
  have hN' : vx_Zq Bundle.tN "SUPPRESSED_SENTINEL" Bundle.listD A s' s'.heap := by rw [hhp]; exact vx_Zq.moved hW0.alike (hN.kept hS.2.1)
  have h : ∀ w ∈ Bundle.ownAtoms0 own ic cls names, w.before args s' = true := vx_own hat' (vx_isRefq hU'.1) (vx_isRefq hN'.1) hU'.2.word hN'.2.word
  have hown' : s'.vm.findClass own = some m.cls := by rw [hvm]; exact hown
  have hins : (Cond.instantiable cls 6).before args s' = true := h _ (by simp [Bundle.ownAtoms0])
  obtain ⟨vm₁, cX, kX, hfX, hkX, -, -, X₁, st1⟩ := Y.newCold hexec (own := own) (C := cls) (index := ik) (n := 6) hown' hk' hins hini'
    (g := F0 m pc ls rest) rfl (by rw [hb]; exact d0) (Nat.le_refl _) (Nat.le_refl _)
  generalize hT1 : (T.setVm vm₁).pushCell { cls := cX, slots := kX.instanceTypes.map defaultValue, vm := .none } = T1 at X₁ st1
  have hcat : (Value.ref T.heap.size).category = 1 := rfl
  have hcellA : T1.heap[T.heap.size]? = some (freshCell cX kX) := by rw [← hT1]; exact State.heap_pushCell_size _ _
  have d3' : decode c.code (pc + 3) = .ok (.dup, 1) := by rw [hb]; exact d3
  obtain ⟨U, hsteps, hrun, hend, hW, hsame, ce, hce, hO⟩ := X₁.ctorThrow0 hexec htr (own := own) (cls := cls) (names := names) (ic := ic) hown' hcls hnames h (fun x hx => nomatch hx) hfX hkX hcellA (by rw [hhp, hT]; exact Nat.le_refl _)
    (g := { method := m, pc := pc + 4, locals := ls, stack := .ref T.heap.size :: .ref T.heap.size :: rest, locked := none }) rfl hsize rfl rfl (rest := rest) rfl
    (by rw [hb]; exact d4) (by rw [hb]; exact d7) hout hRframes (by simp only [List.map_cons, List.sum_cons, hcat]; omega) hlocks
  obtain ⟨f1, f2⟩ := vx_frame hsame
  rw [hhp] at f1 f2
  have hWs : s.WarmedH U.vm := State.WarmedH.trans hW0 hW
  have hcl : s.vm.findClass cls = some ce.cls := by
    have h9 := hO.cls
    rw [hvm] at h9
    exact h9
  have hall : s.sameButNew ({ U with vm := s.vm } : State) locs mc ms := by
    subst hA
    obtain ⟨e1, e2⟩ := hsame
    rw [State.setFrames_setFrames] at e1
    have h2 : (T.setVm s.vm).sameButNew ({ U with vm := s.vm } : State) [] (0 + 1) (0 + 6) := ⟨e1, e2⟩
    have h3 := X.same.trans h2
    rw [List.append_nil] at h3
    exact h3.mono hc hs
  refine ⟨U, ?_, .threw T.heap.size, hrun, hend, Or.inr ⟨T.heap.size, rfl, cls, ce, locs, hx U hWs.alike f1 (fun q hq => f2 q hq (fun z hz => nomatch hz)), hce, hO.vm, hcl, hWs, hall, hf⟩⟩
  refine st1 _ ?_
  show Steps p.tables e below (T1.setTop { method := m, pc := pc + 3, locals := ls, stack := .ref T.heap.size :: rest, locked := none }) _
  jvm_step X₁.here [X₁.here.top, hexec, d3', Value.category]
  exact hsteps
/-- 'throw new E("text")': new; dup; ldc; invokespecial; athrow -/
theorem vx_throwS {cc : ByteArray} {pc : Nat} (hexec : p.tables.exec = Jvm.exec) (hb : c.code = cc) (hl : l.stackTraces = false) {own cls text : String} {names : List String} {ik is ic mc ms sa : Nat} {A : Nat → Prop}
    (hown : s.vm.findClass own = some m.cls) (hcls : Bundle.fit cls = true) (hnames : ∀ n ∈ names, Bundle.fit n = true)
    (hk : (Cond.classLink own ik cls).before args s = true) (hini : (Cond.initialized cls).before args s = true) (hstr : vk_R own is text sa s) (hat : ∀ w ∈ vx_atS own ic cls names, w.before args s = true)
    (hgood : ∀ w ∈ Cond.classLink own ik cls :: Cond.initialized cls :: vx_atS own ic cls names, vx_ot w = true)
    (hU : vx_Zq Bundle.tN "UNASSIGNED_STACK" Bundle.steD A s s.heap) (hN : vx_Zq Bundle.tN "SUPPRESSED_SENTINEL" Bundle.listD A s s.heap) (hS : va_S A s.heap H locs) (hsize : ls.size = c.maxLocals)
    (d0 : decode cc pc = .ok (.new ik, 3)) (d3 : decode cc (pc + 3) = .ok (.dup, 1)) (d4 : decode cc (pc + 4) = .ok (.ldc is, 2)) (d6 : decode cc (pc + 6) = .ok (.invokespecial ic, 3)) (d9 : decode cc (pc + 9) = .ok (.athrow, 1))
    (hout : ∀ x ∈ c.exceptionTable.toList, covers x (pc + 9) = false)
    (hRframes : names.length + 3 < R.frames) (hRlocals : (rest.map fun v => v.category).sum + (13 * (names.length + 1) + 43) ≤ R.locals) (hRcells : cells + 1 ≤ R.cells) (hRslots : slots + 6 ≤ R.slots) (hlocks : meth.locks = false)
    (hx : ∀ t : State, s.vm.Alike t.vm → H.size ≤ t.heap.size → (∀ q : Nat, q < H.size → t.heap[q]? = H[q]?) → XC cls s t)
    (hf : ∀ z ∈ locs, free z.base) (hc : cells + 1 ≤ mc) (hs : slots + 6 ≤ ms) :
    W p l e R s m args below meth c H locs cells slots (vx_MQ below Qc XC args s mc ms free) (F0 m pc ls rest) := by
  intro T hT X
  have htr : e.platform.stackTraces = false := (show e.platform.stackTraces = l.stackTraces by rw [X.admits.platform]).trans hl
  have Y := vx_rebase X (R' := { frames := R.frames, locals := R.locals, cells := 1, slots := 6 }) (Nat.le_refl _) (Nat.le_refl _) hRcells hRslots
  obtain ⟨s', hA⟩ : ∃ z, z = (T.setVm s.vm).setFrames (.invoking m args :: below) := ⟨_, rfl⟩
  rw [← hA] at Y
  have hvm : s'.vm = s.vm := by rw [hA]; rfl
  have hhp : s'.heap = H := by rw [hA]; exact hT
  have hW0 : s.WarmedH s'.vm := by rw [hvm]; exact State.WarmedH.refl s
  have hat' : ∀ w ∈ vx_atS own ic cls names, w.before args s' = true := fun w hw => vx_ot_at hW0 hvm.symm (hgood w (List.mem_cons_of_mem _ (List.mem_cons_of_mem _ hw))) (hat w hw)
  have hk' : (Cond.classLink own ik cls).before args s' = true := vx_ot_at hW0 hvm.symm (hgood _ List.mem_cons_self) hk
  have hini' : (Cond.initialized cls).before args s' = true := vx_ot_at hW0 hvm.symm (hgood _ (List.mem_cons_of_mem _ List.mem_cons_self)) hini
  have hU' : vx_Zq Bundle.tN "UNASSIGNED_STACK" Bundle.steD A s' s'.heap := by rw [hhp]; exact vx_Zq.moved hW0.alike (hU.kept hS.2.1)
  have hN' : vx_Zq Bundle.tN "SUPPRESSED_SENTINEL" Bundle.listD A s' s'.heap := by rw [hhp]; exact vx_Zq.moved hW0.alike (hN.kept hS.2.1)
  have h : ∀ w ∈ Bundle.ownAtoms own ic cls names, w.before args s' = true := vx_own hat' (vx_isRefq hU'.1) (vx_isRefq hN'.1) hU'.2.word hN'.2.word
  have hown' : s'.vm.findClass own = some m.cls := by rw [hvm]; exact hown
  have hins : (Cond.instantiable cls 6).before args s' = true := h _ (by simp [Bundle.ownAtoms])
  obtain ⟨vm₁, cX, kX, hfX, hkX, -, -, X₁, st1⟩ := Y.newCold hexec (own := own) (C := cls) (index := ik) (n := 6) hown' hk' hins hini'
    (g := F0 m pc ls rest) rfl (by rw [hb]; exact d0) (Nat.le_refl _) (Nat.le_refl _)
  generalize hT1 : (T.setVm vm₁).pushCell { cls := cX, slots := kX.instanceTypes.map defaultValue, vm := .none } = T1 at X₁ st1
  have hcat : (Value.ref T.heap.size).category = 1 := rfl
  have hcellA : T1.heap[T.heap.size]? = some (freshCell cX kX) := by rw [← hT1]; exact State.heap_pushCell_size _ _
  have d3' : decode c.code (pc + 3) = .ok (.dup, 1) := by rw [hb]; exact d3
  have d4' : decode c.code (pc + 4) = .ok (.ldc is, 2) := by rw [hb]; exact d4
  have hstr' : vk_R own is text sa s' := vk_R.warm hW0 hstr
  obtain ⟨U, hsteps, hrun, hend, hW, hsame, ce, hce, hO⟩ := X₁.ctorThrowS hexec htr (own := own) (cls := cls) (names := names) (ic := ic) hown' hcls hnames h (fun x hx => nomatch hx) hfX hkX hcellA (by rw [hhp, hT]; exact Nat.le_refl _) (msg := .ref sa) rfl
    (g := { method := m, pc := pc + 6, locals := ls, stack := .ref sa :: .ref T.heap.size :: .ref T.heap.size :: rest, locked := none }) rfl hsize rfl rfl (rest := rest) rfl
    (by rw [hb]; exact d6) (by rw [hb]; exact d9) hout hRframes (by simp only [List.map_cons, List.sum_cons, hcat]; omega) hlocks
  obtain ⟨f1, f2⟩ := vx_frame hsame
  rw [hhp] at f1 f2
  have hWs : s.WarmedH U.vm := State.WarmedH.trans hW0 hW
  have hcl : s.vm.findClass cls = some ce.cls := by
    have h9 := hO.cls
    rw [hvm] at h9
    exact h9
  have hall : s.sameButNew ({ U with vm := s.vm } : State) locs mc ms := by
    subst hA
    obtain ⟨e1, e2⟩ := hsame
    rw [State.setFrames_setFrames] at e1
    have h2 : (T.setVm s.vm).sameButNew ({ U with vm := s.vm } : State) [] (0 + 1) (0 + 6) := ⟨e1, e2⟩
    have h3 := X.same.trans h2
    rw [List.append_nil] at h3
    exact h3.mono hc hs
  refine ⟨U, ?_, .threw T.heap.size, hrun, hend, Or.inr ⟨T.heap.size, rfl, cls, ce, locs, hx U hWs.alike f1 (fun q hq => f2 q hq (fun z hz => nomatch hz)), hce, hO.vm, hcl, hWs, hall, hf⟩⟩
  refine st1 _ ?_
  show Steps p.tables e below (T1.setTop { method := m, pc := pc + 3, locals := ls, stack := .ref T.heap.size :: rest, locked := none }) _
  jvm_step X₁.here [X₁.here.top, hexec, d3', Value.category]
  exact X₁.ldcString hexec (own := own) (text := text) (index := is) (a := sa) hown' hstr'.1 hstr'.2
    (g := { method := m, pc := pc + 4, locals := ls, stack := .ref T.heap.size :: .ref T.heap.size :: rest, locked := none }) rfl d4' _ hsteps
/-- 'throw new E("text")', the text by a wide index -/
theorem vx_throwSW {cc : ByteArray} {pc : Nat} (hexec : p.tables.exec = Jvm.exec) (hb : c.code = cc) (hl : l.stackTraces = false) {own cls text : String} {names : List String} {ik is ic mc ms sa : Nat} {A : Nat → Prop}
    (hown : s.vm.findClass own = some m.cls) (hcls : Bundle.fit cls = true) (hnames : ∀ n ∈ names, Bundle.fit n = true)
    (hk : (Cond.classLink own ik cls).before args s = true) (hini : (Cond.initialized cls).before args s = true) (hstr : vk_R own is text sa s) (hat : ∀ w ∈ vx_atS own ic cls names, w.before args s = true)
    (hgood : ∀ w ∈ Cond.classLink own ik cls :: Cond.initialized cls :: vx_atS own ic cls names, vx_ot w = true)
    (hU : vx_Zq Bundle.tN "UNASSIGNED_STACK" Bundle.steD A s s.heap) (hN : vx_Zq Bundle.tN "SUPPRESSED_SENTINEL" Bundle.listD A s s.heap) (hS : va_S A s.heap H locs) (hsize : ls.size = c.maxLocals)
    (d0 : decode cc pc = .ok (.new ik, 3)) (d3 : decode cc (pc + 3) = .ok (.dup, 1)) (d4 : decode cc (pc + 4) = .ok (.ldc_w is, 3)) (d7 : decode cc (pc + 7) = .ok (.invokespecial ic, 3)) (d10 : decode cc (pc + 10) = .ok (.athrow, 1))
    (hout : ∀ x ∈ c.exceptionTable.toList, covers x (pc + 10) = false)
    (hRframes : names.length + 3 < R.frames) (hRlocals : (rest.map fun v => v.category).sum + (13 * (names.length + 1) + 43) ≤ R.locals) (hRcells : cells + 1 ≤ R.cells) (hRslots : slots + 6 ≤ R.slots) (hlocks : meth.locks = false)
    (hx : ∀ t : State, s.vm.Alike t.vm → H.size ≤ t.heap.size → (∀ q : Nat, q < H.size → t.heap[q]? = H[q]?) → XC cls s t)
    (hf : ∀ z ∈ locs, free z.base) (hc : cells + 1 ≤ mc) (hs : slots + 6 ≤ ms) :
    W p l e R s m args below meth c H locs cells slots (vx_MQ below Qc XC args s mc ms free) (F0 m pc ls rest) := by
  intro T hT X
  have htr : e.platform.stackTraces = false := (show e.platform.stackTraces = l.stackTraces by rw [X.admits.platform]).trans hl
  have Y := vx_rebase X (R' := { frames := R.frames, locals := R.locals, cells := 1, slots := 6 }) (Nat.le_refl _) (Nat.le_refl _) hRcells hRslots
  obtain ⟨s', hA⟩ : ∃ z, z = (T.setVm s.vm).setFrames (.invoking m args :: below) := ⟨_, rfl⟩
  rw [← hA] at Y
  have hvm : s'.vm = s.vm := by rw [hA]; rfl
  have hhp : s'.heap = H := by rw [hA]; exact hT
  have hW0 : s.WarmedH s'.vm := by rw [hvm]; exact State.WarmedH.refl s
  have hat' : ∀ w ∈ vx_atS own ic cls names, w.before args s' = true := fun w hw => vx_ot_at hW0 hvm.symm (hgood w (List.mem_cons_of_mem _ (List.mem_cons_of_mem _ hw))) (hat w hw)
  have hk' : (Cond.classLink own ik cls).before args s' = true := vx_ot_at hW0 hvm.symm (hgood _ List.mem_cons_self) hk
  have hini' : (Cond.initialized cls).before args s' = true := vx_ot_at hW0 hvm.symm (hgood _ (List.mem_cons_of_mem _ List.mem_cons_self)) hini
  have hU' : vx_Zq Bundle.tN "UNASSIGNED_STACK" Bundle.steD A s' s'.heap := by rw [hhp]; exact vx_Zq.moved hW0.alike (hU.kept hS.2.1)
  have hN' : vx_Zq Bundle.tN "SUPPRESSED_SENTINEL" Bundle.listD A s' s'.heap := by rw [hhp]; exact vx_Zq.moved hW0.alike (hN.kept hS.2.1)
  have h : ∀ w ∈ Bundle.ownAtoms own ic cls names, w.before args s' = true := vx_own hat' (vx_isRefq hU'.1) (vx_isRefq hN'.1) hU'.2.word hN'.2.word
  have hown' : s'.vm.findClass own = some m.cls := by rw [hvm]; exact hown
  have hins : (Cond.instantiable cls 6).before args s' = true := h _ (by simp [Bundle.ownAtoms])
  obtain ⟨vm₁, cX, kX, hfX, hkX, -, -, X₁, st1⟩ := Y.newCold hexec (own := own) (C := cls) (index := ik) (n := 6) hown' hk' hins hini'
    (g := F0 m pc ls rest) rfl (by rw [hb]; exact d0) (Nat.le_refl _) (Nat.le_refl _)
  generalize hT1 : (T.setVm vm₁).pushCell { cls := cX, slots := kX.instanceTypes.map defaultValue, vm := .none } = T1 at X₁ st1
  have hcat : (Value.ref T.heap.size).category = 1 := rfl
  have hcellA : T1.heap[T.heap.size]? = some (freshCell cX kX) := by rw [← hT1]; exact State.heap_pushCell_size _ _
  have d3' : decode c.code (pc + 3) = .ok (.dup, 1) := by rw [hb]; exact d3
  have d4' : decode c.code (pc + 4) = .ok (.ldc_w is, 3) := by rw [hb]; exact d4
  have hstr' : vk_R own is text sa s' := vk_R.warm hW0 hstr
  obtain ⟨U, hsteps, hrun, hend, hW, hsame, ce, hce, hO⟩ := X₁.ctorThrowS hexec htr (own := own) (cls := cls) (names := names) (ic := ic) hown' hcls hnames h (fun x hx => nomatch hx) hfX hkX hcellA (by rw [hhp, hT]; exact Nat.le_refl _) (msg := .ref sa) rfl
    (g := { method := m, pc := pc + 7, locals := ls, stack := .ref sa :: .ref T.heap.size :: .ref T.heap.size :: rest, locked := none }) rfl hsize rfl rfl (rest := rest) rfl
    (by rw [hb]; exact d7) (by rw [hb]; exact d10) hout hRframes (by simp only [List.map_cons, List.sum_cons, hcat]; omega) hlocks
  obtain ⟨f1, f2⟩ := vx_frame hsame
  rw [hhp] at f1 f2
  have hWs : s.WarmedH U.vm := State.WarmedH.trans hW0 hW
  have hcl : s.vm.findClass cls = some ce.cls := by
    have h9 := hO.cls
    rw [hvm] at h9
    exact h9
  have hall : s.sameButNew ({ U with vm := s.vm } : State) locs mc ms := by
    subst hA
    obtain ⟨e1, e2⟩ := hsame
    rw [State.setFrames_setFrames] at e1
    have h2 : (T.setVm s.vm).sameButNew ({ U with vm := s.vm } : State) [] (0 + 1) (0 + 6) := ⟨e1, e2⟩
    have h3 := X.same.trans h2
    rw [List.append_nil] at h3
    exact h3.mono hc hs
  refine ⟨U, ?_, .threw T.heap.size, hrun, hend, Or.inr ⟨T.heap.size, rfl, cls, ce, locs, hx U hWs.alike f1 (fun q hq => f2 q hq (fun z hz => nomatch hz)), hce, hO.vm, hcl, hWs, hall, hf⟩⟩
  refine st1 _ ?_
  show Steps p.tables e below (T1.setTop { method := m, pc := pc + 3, locals := ls, stack := .ref T.heap.size :: rest, locked := none }) _
  jvm_step X₁.here [X₁.here.top, hexec, d3', Value.category]
  exact X₁.ldcStringW hexec (own := own) (text := text) (index := is) (a := sa) hown' hstr'.1 hstr'.2
    (g := { method := m, pc := pc + 4, locals := ls, stack := .ref T.heap.size :: .ref T.heap.size :: rest, locked := none }) rfl d4' _ hsteps
end Ends
section Bodies
variable {l : Launch}
theorem vx_ofW {y : MethodName} {ws ws' : List Cond} {rm : Room} {Pc : Array Value → State → Prop} {Qc : Array Value → State → Outcome → State → Prop} {XC : String → State → State → Prop} {mc ms : Nat} {free : Addr → Prop} {cc : ByteArray} {maxL : Nat} {ret : Option FieldType}
    (hy : plainName y.cls = true) (hw : ws = Cond.code y cc maxL ret :: ws')
    (body : ∀ p e s m args below meth c s₁, BodyLoose p l y (headSpec ws rm) cc maxL ret e s m args below meth c s₁ → c.maxLocals = maxL → (∀ x ∈ c.exceptionTable.toList, False) → Pc args s →
      W p l e (headSpec ws rm).room s m args below meth c s.heap [] 0 0 (vx_MQ below Qc XC args s mc ms free) (entryFrame m args maxL)) : vx_Met l y ws rm Pc Qc XC mc ms free := by
  refine MetFree.of_bodyS (code := cc) (maxLocals := maxL) (ret := ret) hy ?_ ?_
  · intro args s m h hn
    obtain ⟨meth, c, h1, h2, h3, h4, h5, h6, -, -⟩ := Cond.code_spec hn (atoms_spec (ws := ws) h _ (by rw [hw]; exact List.mem_cons_self))
    exact ⟨meth, c, h1, h2, h3, h4, h5, h6⟩
  · intro p e s m args below meth c s₁ B hml hP _
    have hh0 : s₁.heap = s.heap := by rw [B.state]; rfl
    have ht : ∀ x ∈ c.exceptionTable.toList, False := by
      obtain ⟨meth9, c9, h1, h2, -, -, -, -, h7, -⟩ := Cond.code_spec B.named (atoms_spec (ws := ws) B.pre _ (by rw [hw]; exact List.mem_cons_self))
      cases Option.some.inj (h1.symm.trans B.method)
      cases Option.some.inj (h2.symm.trans (Stand.of_body B).code)
      intro x hx
      rw [Array.isEmpty_iff.mp h7] at hx
      cases hx
    obtain ⟨t, a1, o, b1, b2, b3⟩ := body p e s m args below meth c s₁ B hml ht hP s₁ hh0 (Stand.of_body B)
    exact ⟨t, o, a1, b1, b2, b3⟩
/-- the table of a body with handlers -/
theorem vx_table {p : Program} {x y : MethodName} {S : Spec} {cc bytes : ByteArray} {maxL maxL' : Nat} {ret ret' : Option FieldType} {e : Env} {s s₁ : State} {m : MethodId} {args : Array Value} {below : List Frame} {meth : Method} {c : Code} {hh : List (Nat × Nat × Nat × Nat)}
    (B : BodyLoose p l y S cc maxL ret e s m args below meth c s₁) (h : (Cond.codeWith y bytes maxL' ret' hh).before args s = true) : c.exceptionTable.toList = tableOf hh := by
  obtain ⟨m9, meth9, c9, hn9, h1, h2, -, -, h6, -⟩ := Cond.codeWith_spec h
  cases Option.some.inj (hn9.symm.trans B.named)
  cases Option.some.inj (h1.symm.trans B.method)
  cases Option.some.inj (h2.symm.trans (Stand.of_body B).code)
  rw [← h6, table_eq]
end Bodies
end VXA
/-! ===== END ===== -/
/-! ===== BEGIN a static call of a method with an exception table ===== -/
section VXS
variable {p : Program} {l : Launch} {e : Env} {R : Room} {s : State} {m : MethodId} {args : Array Value} {below : List Frame} {meth : Method} {c : Code} {T : State} {H : Heap} {locs : List Loc} {cells slots : Nat}
abbrev vx_CSW (R : Room) (s : State) (args : Array Value) (own : String) (index : Nat) (y : MethodName) (bytes : ByteArray) (maxL : Nat) (ret : Option FieldType) (hh : List (Nat × Nat × Nat × Nat)) (ws : List Cond) (rm : Room) (mc ms n : Nat) : Prop :=
  (rm.cells = mc ∧ rm.slots = ms ∧ rm.frames + 1 ≤ R.frames ∧ 8 + (maxL + 11) + rm.locals ≤ R.locals ∧ (∀ w ∈ ws, ∀ (a' : Array Value) (U : State), s.WarmedH U.vm → w.before a' U = true) ∧ Cond.codeWith y bytes maxL ret hh ∈ ws) ∧
  (Cond.codeWith y bytes maxL ret hh).before args s = true ∧ (Cond.initialized y.cls).before args s = true ∧ (y.cls ≠ "java/lang/invoke/MethodHandle" ∧ y.cls ≠ "java/lang/invoke/VarHandle") ∧
  (∀ sig, parseMethodDescriptor y.desc = some sig → n = sig.parameters.length) ∧ (Cond.methodLink own index y).before args s = true ∧ (Cond.static y).before args s = true
theorem vx_cwSW {own : String} {index maxL mc ms : Nat} {y : MethodName} {bytes : ByteArray} {ret : Option FieldType} {hh : List (Nat × Nat × Nat × Nat)} {Ts ws ws' : List Cond} {rm : Room} (n : Nat) (ht : ∀ w ∈ Ts, w.before args s = true) (hT : GoodIn Ts (va_wsS own index y ws)) (hw : ws = Cond.codeWith y bytes maxL ret hh :: ws') (hrc : rm.cells = mc) (hrs : rm.slots = ms)
    (hd : y.cls ≠ "java/lang/invoke/MethodHandle" ∧ y.cls ≠ "java/lang/invoke/VarHandle" ∧ (parseMethodDescriptor y.desc).map (fun d => d.parameters.length) = some n) (hR : rm.frames + 1 ≤ R.frames ∧ 8 + (maxL + 11) + rm.locals ≤ R.locals) :
    vx_CSW R s args own index y bytes maxL ret hh ws rm mc ms n := by
  have ok : ∀ w ∈ va_wsS own index y ws, w.before args s = true := fun w h => ht w (hT w h).1
  have hG : GoodIn Ts ws := fun w h => hT w (by unfold va_wsS; exact List.mem_append_right _ h)
  have hc : Cond.codeWith y bytes maxL ret hh ∈ ws := by rw [hw]; exact List.mem_cons_self
  refine ⟨⟨hrc, hrs, hR.1, hR.2, pay_in ht hG, hc⟩, ht _ (hG _ hc).1, ok _ (by simp [va_wsS]), ⟨hd.1, hd.2.1⟩, fun sig h => ?_, ok _ (by simp [va_wsS]), ok _ (by simp [va_wsS])⟩
  have h2 := hd.2.2
  rw [h] at h2
  exact (Option.some.inj h2).symm
theorem vx_callSW (X : Stand p l e R s m args below meth c T locs cells slots) (hexec : p.tables.exec = Jvm.exec) {own : String} {index : Nat} {y : MethodName} {bytes : ByteArray} {maxL : Nat} {ret : Option FieldType} {hh : List (Nat × Nat × Nat × Nat)}
    (hown : s.vm.findClass own = some m.cls) (hlink : (Cond.methodLink own index y).before args s = true) (hstat : (Cond.static y).before args s = true) (hinit : (Cond.initialized y.cls).before args s = true)
    (hcode : (Cond.codeWith y bytes maxL ret hh).before args s = true) (hy : y.cls ≠ "java/lang/invoke/MethodHandle" ∧ y.cls ≠ "java/lang/invoke/VarHandle")
    {W9 : Nat} {Pre : Pt → Array Value → Prop} {Post : Pt → Array Value → Option Value → Pt → Prop} (hK : Back l R p e below s args y 3 W9 Pre Post)
    {g : JFrame} (hg : g.method = m) (hsize : g.locals.size = c.maxLocals) {argsL rest : List Value} (hlen : ∀ sig, parseMethodDescriptor y.desc = some sig → argsL.length = sig.parameters.length)
    (hstack : g.stack = argsL.reverse ++ rest) (hW : 2 * g.monitorRoom + (rest.map fun v => v.category).sum ≤ W9) (hdg : decode c.code g.pc = .ok (.invokestatic index, 3))
    (hpre : ∀ vm₁, s.WarmedH vm₁ → Pre ⟨T.setVm vm₁, locs, cells, slots⟩ argsL.toArray) :
    ∃ (v : Option Value) (vm₁ : Vm) (B : Pt), s.WarmedH vm₁ ∧ Stand p l e R s m args below meth c B.U B.locs B.cells B.slots ∧ Post ⟨T.setVm vm₁, locs, cells, slots⟩ argsL.toArray v B ∧
      ∀ target, Steps p.tables e below (B.U.setTop { g with pc := g.pc + 3, stack := v.toList ++ rest }) target → Steps p.tables e below (T.setTop g) target := by
  obtain ⟨mk, methM, cM, hnamed, hmethM, -, -, -, -, -, -, hsigM⟩ := Cond.codeWith_spec hcode
  have hstatic : methM.isStatic = true := Cond.static_spec hnamed hmethM hstat
  obtain ⟨kP, hkP, -⟩ := className_of_methodNamed hnamed
  have hinitP : kP.init = .initialized := Cond.initialized_spec (findClass_of_methodNamed hnamed) hkP hinit
  obtain ⟨vm₁, X₁, hstep₁⟩ := X.invokestatic hexec hown hlink hnamed hmethM hstatic hkP hinitP hy (g := g) hg (argsL := argsL) (rest := rest) (hlen _ hsigM) hstack hdg
  obtain ⟨v, B, X', hpost, hsteps⟩ := hK m meth c ⟨T.setVm vm₁, locs, cells, slots⟩ { g with stack := rest } (.invokestatic index) mk argsL.toArray X₁ hg hsize hdg hW (X₁.named hnamed) (hpre vm₁ X₁.warmed)
  exact ⟨v, vm₁, B, X₁.warmed, X', hpost, fun target h => hstep₁ _ fun acts => by rw [doInvoke_state]; exact hsteps.trans h⟩
theorem vx_runSW {y : MethodName} {bytes cc : ByteArray} {maxL nL mc ms n index : Nat} {ret : Option FieldType} {hh : List (Nat × Nat × Nat × Nat)} {ws : List Cond} {rm : Room} {Pc : Array Value → State → Prop} {Qc : Array Value → State → Outcome → State → Prop} {free : Addr → Prop} {Ts : List Cond} {own : String} {As rest : List Value} {g : JFrame}
    (S : CallFix p m c cc nL s args Ts own) (hM : Met l y ws rm Pc Qc mc ms free) (cw : vx_CSW R s args own index y bytes maxL ret hh ws rm mc ms n) (hp : PreS s H Pc As)
    (hg : g.method = m) (hn : As.length = n) (hsize : g.locals.size = nL) (hstack : g.stack = As.reverse ++ rest) (hW : 2 * g.monitorRoom + (rest.map fun v => v.category).sum ≤ 8) (hdg : decode cc g.pc = .ok (.invokestatic index, 3)) (hf : cells + mc ≤ R.cells ∧ slots + ms ≤ R.slots) :
    va_Run p l e R s m args below meth c H locs cells slots mc ms g rest (Qc As.toArray) (free) := by
  obtain ⟨⟨hrc, hrs, hfr, hlo, hws, hcw⟩, hcode, hini, hy, hlen, hl, hstt⟩ := cw
  have hK : Back l R p e below s args y 3 8 (PreOf R mc ms Pc) (PostOf Qc mc ms free) := va_backW (hh := hh) (bytes := bytes) (maxL := maxL) (ret := ret) hM hp.1 hrc hrs hfr hlo hws hcw (fun a' U hW => word_at hW (Or.inl (by first | rfl | simp [Cond.onTables, Cond.keeps, Cond.steady])) hini)
  obtain ⟨hx, hb, hml, ho, -⟩ := S
  intro T hT X
  obtain ⟨v, vm₁, ⟨U', l2, c2, s2⟩, hW₁, X', ⟨g', mk, t, L, e1, e2, hq, h1, hL, h2, h3⟩, st⟩ := vx_callSW X hx (hh := hh) (bytes := bytes) (maxL := maxL) (ret := ret) ho hl hstt hini hcode hy hK hg (hsize.trans hml.symm) (argsL := As) (rest := rest) (fun sig h => hn.trans (hlen sig h)) hstack hW (by rw [hb]; exact hdg)
    (fun vm₁ hW₁ => ⟨hf.1, hf.2, hp.2 (T.setVm vm₁) hT hW₁⟩)
  dsimp only [Pt.U, Pt.locs, Pt.cells, Pt.slots] at X' e1 e2 h1 h2 h3 st
  subst h1; subst h2; subst h3
  exact ⟨v, (T.setVm vm₁).calling g' mk As.toArray, t, U', L, hT, X', hL, e1, e2, hq, st⟩
/-- not caught here, past rows that name other classes: it goes on to the caller -/
theorem vx_outP {p : Program} {l : Launch} {e : Env} {R : Room} {s : State} {m : MethodId} {args : Array Value} {below : List Frame} {meth : Method} {c : Code} {H : Heap} {locs : List Loc} {cells slots : Nat} {free : Addr → Prop} {ls : Array Slot} {rest : List Value} {Qc : Array Value → State → Outcome → State → Prop} {XC : String → State → State → Prop}
    {pc : Nat} {own E : String} {ce : Cell} {q : Addr} {mc ms : Nat} (hown : s.vm.findClass own = some m.cls) (hlocks : meth.locks = false)
    (hpass : ∀ z ∈ c.exceptionTable.toList, covers z pc = false ∨ (z.catchType ≠ 0 ∧ ∃ nm : String, (Cond.classLink own z.catchType nm).before args s = true ∧ va_Nc E nm s)) (hcell : H[q]? = some ce) (hv : ce.vm = .none) (hcl : s.vm.findClass E = some ce.cls)
    (hx : ∀ t : State, t.heap = H → s.vm.Alike t.vm → XC E s t) (hf : ∀ z ∈ locs, free z.base) (hc : cells ≤ mc) (hs : slots ≤ ms) :
    vx_W p l e R s m args below meth c H locs cells slots (vx_MQ below Qc XC args s mc ms free) (F0 m pc ls rest) q := by
  intro T hT X
  have hpl : e.platform.magicAccessors = ({} : Platform).magicAccessors := by rw [X.admits.platform]
  obtain ⟨vm', hW', X', st⟩ := X.outThrough hlocks q (g := F0 m pc ls rest) rfl rfl rfl (cell := ce) (by rw [hT]; exact hcell) (by rw [hv]; rfl)
    (by obtain ⟨k9, h9, -⟩ := Vm.findClass_spec hcl; exact ⟨k9, h9⟩) (fun z hz => by
      rcases hpass z hz with h | ⟨hz0, nm, hl1, hn1⟩
      · exact Or.inl h
      · obtain ⟨c6, hc6, hcl6⟩ := Cond.classLink_spec hown hl1 e.platform hpl
        obtain ⟨a8, b8, h1, h2, h3⟩ := hn1
        cases Option.some.inj (h1.symm.trans hcl)
        cases Option.some.inj (h2.symm.trans hc6)
        exact Or.inr ⟨hz0, _, hcl6, h3⟩)
  obtain ⟨g₀, hfr⟩ := X'.frames_eq
  have hcell9 : ((T.setVm vm').setFrames (.throwing q :: below)).heap[q]? = some ce := by
    show T.heap[q]? = some ce
    rw [hT]; exact hcell
  have hend : Ended ((T.setVm vm').setFrames (.throwing q :: below)) below (.threw q) := State.frames_setFrames _ (State.cur_lt_of_frames hfr)
  refine ⟨(T.setVm vm').setFrames (.throwing q :: below), ?_, .threw q, X'.here.running, hend, Or.inr ⟨q, rfl, E, ce, locs, hx _ hT (X'.ends _).1.alike, hcell9, hv, hcl, (X'.ends _).1, (X'.ends _).2.mono hc hs, hf⟩⟩
  rw [X.pushThrowing_eq]
  exact st
/-- a thing of a world lies in the heap -/
theorem vx_lt {D : va_G} {cl : List vw_C} {ws : va_W} {H1 : Heap} (h : va_P D cl ws H1) {k : Nat} {q : Nat × va_E} (hk : ws[k]? = some q) : q.1 < H1.size := (h k q hk).lt
end VXS
/-! ===== END ===== -/
/-! ===== BEGIN methods with a table of their own: called by a name, returning or throwing ===== -/
section VXH
/-! vx_backW, vx_callVX, vx_callSX, vx_callVW, vx_runVW, vx_runVX, vx_runSX, vx_ofWH follow the same proofs as their sisters above (Free/Laws.lean, Shelf42/LK1.lean); vx_outP calls Shelf42/NT130.lean (outThrough). -/
section
variable {l : Launch} {R : Room} {p : Program} {e : Env} {below : List Frame} {s : State} {sargs : Array Value} {y : MethodName} {len W9 : Nat}
theorem vx_backW {ws : List Cond} {rm : Room} {Pc : Array Value → State → Prop} {Qc : Array Value → State → Outcome → State → Prop} {XC : String → State → State → Prop} {mc ms : Nat} {free : Addr → Prop} {bytes : ByteArray} {maxL : Nat} {ret : Option FieldType} {hh : List (Nat × Nat × Nat × Nat)}
    (hM : vx_Met l y ws rm Pc Qc XC mc ms free) (hblind : FrameBlind Pc) (hrc : rm.cells = mc) (hrs : rm.slots = ms)
    (hframes : rm.frames + 1 ≤ R.frames) (hlocals : W9 + (maxL + 11) + rm.locals ≤ R.locals)
    (hws : ∀ w ∈ ws, ∀ a' U, s.WarmedH U.vm → w.before a' U = true) (hcode : Cond.codeWith y bytes maxL ret hh ∈ ws) (hinit : ∀ a' U, s.WarmedH U.vm → (Cond.initialized y.cls).before a' U = true) :
    vx_Back l R p e below s sargs y len W9 (PreOf R mc ms Pc) (PostOf Qc mc ms free) (vx_Post XC mc ms free) := by
  intro m meth c A g ig mk a X hg hsize hdg hW hn hp
  have h1 : (headSpec ws rm).pre.before a A.U = true := atoms_intro fun w hw => hws w hw _ _ X.warmed
  have h2 : (Cond.codeWith y bytes maxL ret hh).before a A.U = true := hws _ hcode _ _ X.warmed
  have h3 : (Cond.initialized y.cls).before a A.U = true := hinit _ _ X.warmed
  have h4 : A.cells + (headSpec ws rm).room.cells ≤ R.cells := by rw [show (headSpec ws rm).room.cells = mc from hrc]; exact hp.1
  have h5 : A.slots + (headSpec ws rm).room.slots ≤ R.slots := by rw [show (headSpec ws rm).room.slots = ms from hrs]; exact hp.2.1
  have hPc : Pc a (A.U.calling g mk a) := hblind _ _ _ _ hp.2.2
  obtain ⟨U, Ls, c0, s0⟩ := A
  dsimp only [Pt.U, Pt.locs, Pt.cells, Pt.slots] at h1 h2 h3 h4 h5 X hn hPc ⊢
  obtain ⟨m9, methY, cY, hn9, hmY, hcY, -, hlY, -⟩ := Cond.codeWith_spec h2
  cases Option.some.inj (hn9.symm.trans hn)
  obtain ⟨kY, hkY, -⟩ := className_of_methodNamed hn
  have hinitY : kY.init = .initialized := Cond.initialized_spec (findClass_of_methodNamed hn) hkY h3
  have h : At U g.method c below := by rw [hg]; exact X.here
  have hlocals9 : W9 + (maxL + 11) + (headSpec ws rm).room.locals ≤ R.locals := hlocals
  have happ : (headSpec ws rm).appliesLoose y e.platform (U.calling g mk a) = true :=
    Spec.appliesLoose_calling (g := g) h hdg hn hkY hinitY
      (X.room_calling (g := g) (R' := (headSpec ws rm).room) hsize hmY hcY hframes (by rw [hlY]; omega) h4 h5) h1
  obtain ⟨mid, hmid⟩ := h.above
  have hfr : (U.setTop g).frames = (.java g :: mid) ++ below := by rw [State.frames_setTop' g h.top, hmid]; rfl
  obtain ⟨o, s₂, hsteps, -, hend, hq⟩ := Steps.callFree hM p X.admits X.cas X.clock (acts := []) hfr happ hPc trivial
  have hq' : vx_Q Qc XC mc ms free a (U.calling g mk a) o s₂ := hq
  rw [State.frames_setTop' g h.top] at hend
  obtain ⟨g₀, hg0⟩ := Option.isSome_iff_exists.mp h.top
  obtain ⟨r, hr⟩ := State.topJava?_eq_some.mp hg0
  have hr' : (({ U with heap := s₂.heap, slotsUsed := s₂.slotsUsed } : State).setVm s₂.vm).frames = .java g₀ :: r := hr
  rcases hq' with ⟨hqc, L, hfe, hL⟩ | ⟨q, rfl, E, ce, L, hx, hce, hcv, hcl, hW₂, hsm, hL⟩
  · obtain ⟨⟨v, rfl⟩, hW₂, e2, q2, q3, q4, q5, q6⟩ := id hfe
    have e3 : s₂ = ({ (U.calling g mk a).setFrames s₂.frames with heap := s₂.heap, slotsUsed := s₂.slotsUsed } : State).setVm s₂.vm := by
      have : s₂ = ({ s₂ with vm := (U.calling g mk a).vm } : State).setVm s₂.vm := rfl
      rw [e2] at this
      exact this
    obtain ⟨c₂, i₂, len₂, hc₂, hd₂, hf₂⟩ := hend
    have hW' : U.WarmedH s₂.vm := hW₂
    have hcc : c₂ = c := by
      have h1 : s₂.code? g.method = U.code? g.method := by
        rw [State.code?_eq, State.code?_eq, hW'.alike.method?]
      exact Option.some.inj (hc₂.symm.trans (h1.trans h.code))
    subst hcc
    have hlen : len₂ = len := by rw [hdg] at hd₂; cases hd₂; rfl
    subst hlen
    have hs₂ : s₂ = (({ U with heap := s₂.heap, slotsUsed := s₂.slotsUsed } : State).setVm s₂.vm).setTop { g with pc := g.pc + len₂, stack := v.toList ++ g.stack } := by
      refine e3.trans ?_
      rw [hf₂, State.calling_eq h.top, State.setFrames_setFrames, State.setTop_of_frames _ hr', hr]
      rfl
    have hsame : U.sameButNew ({ U with heap := s₂.heap, slotsUsed := s₂.slotsUsed } : State) L mc ms := by
      refine ⟨?_, q2, q3, q4, q5, q6⟩
      obtain ⟨t, ht, -⟩ := State.frames_cons hr
      show ({ U with heap := s₂.heap, slotsUsed := s₂.slotsUsed } : State) = { U.setFrames U.frames with heap := s₂.heap, slotsUsed := s₂.slotsUsed }
      rw [State.setFrames_self ht]
    subst hg
    refine Or.inl ⟨v, ⟨(({ U with heap := s₂.heap, slotsUsed := s₂.slotsUsed } : State).setVm s₂.vm), Ls ++ L, c0 + mc, s0 + ms⟩,
      ⟨X.admits, X.cas, X.clock, X.frames, X.room, X.hears, X.method, X.code, (X.here.setHeapUsed s₂.heap s₂.slotsUsed).setVm hW'.alike, X.tail, State.WarmedH.trans X.warmed hW', X.limits, X.bytes, X.same.trans (hsame.setVm s.vm)⟩,
      ⟨g, mk, s₂, L, rfl, rfl, hqc, rfl, hL, rfl, rfl⟩, ?_⟩
    show Steps p.tables e below _ ((({ U with heap := s₂.heap, slotsUsed := s₂.slotsUsed } : State).setVm s₂.vm).setTop { g with pc := g.pc + len₂, stack := v.toList ++ g.stack })
    rw [← hs₂]
    exact hsteps
  · obtain ⟨e2, q2, q3, q4, q5, q6⟩ := id hsm
    have e3 : s₂ = ({ (U.calling g mk a).setFrames s₂.frames with heap := s₂.heap, slotsUsed := s₂.slotsUsed } : State).setVm s₂.vm := by
      have : s₂ = ({ s₂ with vm := (U.calling g mk a).vm } : State).setVm s₂.vm := rfl
      rw [e2] at this
      exact this
    have hf₂ : s₂.frames = .throwing q :: .java g :: U.frames.tail := hend
    have hW' : U.WarmedH s₂.vm := hW₂
    have hs₂ : s₂ = ((({ U with heap := s₂.heap, slotsUsed := s₂.slotsUsed } : State).setVm s₂.vm).setTop g).pushFrame (.throwing q) := by
      refine e3.trans ?_
      rw [hf₂, State.calling_eq h.top, State.setFrames_setFrames, State.pushFrame, State.frames_setTop _ hr', State.setTop_of_frames _ hr', State.setFrames_setFrames, hr]
      rfl
    have hsame : U.sameButNew ({ U with heap := s₂.heap, slotsUsed := s₂.slotsUsed } : State) L mc ms := by
      refine ⟨?_, q2, q3, q4, q5, q6⟩
      obtain ⟨t, ht, -⟩ := State.frames_cons hr
      show ({ U with heap := s₂.heap, slotsUsed := s₂.slotsUsed } : State) = { U.setFrames U.frames with heap := s₂.heap, slotsUsed := s₂.slotsUsed }
      rw [State.setFrames_self ht]
    subst hg
    refine Or.inr ⟨q, ⟨(({ U with heap := s₂.heap, slotsUsed := s₂.slotsUsed } : State).setVm s₂.vm), Ls ++ L, c0 + mc, s0 + ms⟩,
      ⟨X.admits, X.cas, X.clock, X.frames, X.room, X.hears, X.method, X.code, (X.here.setHeapUsed s₂.heap s₂.slotsUsed).setVm hW'.alike, X.tail, State.WarmedH.trans X.warmed hW', X.limits, X.bytes, X.same.trans (hsame.setVm s.vm)⟩,
      ⟨g, mk, s₂, L, E, ce, rfl, rfl, hx, hce, hcv, hcl, rfl, hL, rfl, rfl⟩, ?_⟩
    show Steps p.tables e below _ (((({ U with heap := s₂.heap, slotsUsed := s₂.slotsUsed } : State).setVm s₂.vm).setTop g).pushFrame (.throwing q))
    rw [← hs₂]
    exact hsteps
end
variable {p : Program} {l : Launch} {e : Env} {R : Room} {s : State} {m : MethodId} {args : Array Value} {below : List Frame} {meth : Method} {c : Code} {T : State} {H : Heap} {locs : List Loc} {cells slots : Nat}
theorem vx_callVX (X : Stand p l e R s m args below meth c T locs cells slots) (hexec : p.tables.exec = Jvm.exec) {own C : String} {index : Nat} {y : MethodName} {bytes : ByteArray} {maxL : Nat} {ret : Option FieldType} {hh : List (Nat × Nat × Nat × Nat)}
    (hown : s.vm.findClass own = some m.cls) (hlink : (Cond.methodLink own index y).before args s = true) (hinst : (Cond.instanceMethod y).before args s = true) (hsel : (Cond.selects C y y).before args s = true)
    (hcode : (Cond.codeWith y bytes maxL ret hh).before args s = true) (hy : y.cls ≠ "java/lang/invoke/MethodHandle" ∧ y.cls ≠ "java/lang/invoke/VarHandle")
    {W9 : Nat} {Pre : Pt → Array Value → Prop} {Post : Pt → Array Value → Option Value → Pt → Prop} {PostX : Pt → Array Value → Addr → Pt → Prop} (hK : vx_Back l R p e below s args y 3 W9 Pre Post PostX)
    {b : Addr} {cellB : Cell} (hcell : T.heap[b]? = some cellB) (hobj : cellB.vm.isStatics = false) (hcls : s.vm.findClass C = some cellB.cls)
    {g : JFrame} (hg : g.method = m) (hsize : g.locals.size = c.maxLocals) {argsL rest : List Value} (hlen : ∀ sig, parseMethodDescriptor y.desc = some sig → argsL.length = sig.parameters.length)
    (hstack : g.stack = argsL.reverse ++ .ref b :: rest) (hW : 2 * g.monitorRoom + (rest.map fun v => v.category).sum ≤ W9) (hdg : decode c.code g.pc = .ok (.invokevirtual index, 3))
    (hpre : ∀ vm₁, s.WarmedH vm₁ → Pre ⟨T.setVm vm₁, locs, cells, slots⟩ (Value.ref b :: argsL).toArray) :
    (∃ (v : Option Value) (vm₁ : Vm) (B : Pt), s.WarmedH vm₁ ∧ Stand p l e R s m args below meth c B.U B.locs B.cells B.slots ∧ Post ⟨T.setVm vm₁, locs, cells, slots⟩ (Value.ref b :: argsL).toArray v B ∧
      ∀ target, Steps p.tables e below (B.U.setTop { g with pc := g.pc + 3, stack := v.toList ++ rest }) target → Steps p.tables e below (T.setTop g) target) ∨
    (∃ (q : Addr) (vm₁ : Vm) (B : Pt), s.WarmedH vm₁ ∧ Stand p l e R s m args below meth c B.U B.locs B.cells B.slots ∧ PostX ⟨T.setVm vm₁, locs, cells, slots⟩ (Value.ref b :: argsL).toArray q B ∧
      Steps p.tables e below (T.setTop g) ((B.U.setTop { g with stack := rest }).pushFrame (.throwing q))) := by
  obtain ⟨mk, methM, hnamed, hmethM, hstM, habM⟩ := Cond.instanceMethod_spec hinst
  obtain ⟨m8, methM', cM, hn8, hmethM', -, -, -, -, -, -, hsigM⟩ := Cond.codeWith_spec hcode
  cases Option.some.inj (hn8.symm.trans hnamed)
  cases hmethM.symm.trans hmethM'
  obtain ⟨c2, r2, m2, q1, q2, q3, q4, kP, hkP, hkPi⟩ := Cond.selects_spec hsel
  cases hcls.symm.trans q1
  cases (State.methodFound?_of_named hnamed hy).symm.trans q2
  cases hnamed.symm.trans q3
  have hselP : selectMethod e.platform s.vm cellB.cls mk = .method mk := by rw [Launch.admits_selectMethod X.admits]; exact q4
  obtain ⟨vm₁, X₁, hstep₁⟩ := X.invokevirtual hexec hown hlink hnamed hmethM hstM hkP hkPi hy (a := b) (cell := cellB) hcell
    (fun z h => by rw [h] at hobj; cases hobj) hselP hmethM habM hkP hkPi (g := g) hg (argsL := argsL) (rest := rest) (hlen _ hsigM) hstack hdg
  rcases hK m meth c ⟨T.setVm vm₁, locs, cells, slots⟩ { g with stack := rest } (.invokevirtual index) mk (Value.ref b :: argsL).toArray X₁ hg hsize hdg hW (X₁.named hnamed) (hpre vm₁ X₁.warmed) with ⟨v, B, X', hpost, hsteps⟩ | ⟨q, B, X', hpost, hsteps⟩
  · exact Or.inl ⟨v, vm₁, B, X₁.warmed, X', hpost, fun target h => hstep₁ _ fun acts => by rw [doInvoke_state]; exact hsteps.trans h⟩
  · exact Or.inr ⟨q, vm₁, B, X₁.warmed, X', hpost, hstep₁ _ fun acts => by rw [doInvoke_state]; exact hsteps⟩
theorem vx_callSX (X : Stand p l e R s m args below meth c T locs cells slots) (hexec : p.tables.exec = Jvm.exec) {own : String} {index : Nat} {y : MethodName} {bytes : ByteArray} {maxL : Nat} {ret : Option FieldType} {hh : List (Nat × Nat × Nat × Nat)}
    (hown : s.vm.findClass own = some m.cls) (hlink : (Cond.methodLink own index y).before args s = true) (hstat : (Cond.static y).before args s = true) (hinit : (Cond.initialized y.cls).before args s = true)
    (hcode : (Cond.codeWith y bytes maxL ret hh).before args s = true) (hy : y.cls ≠ "java/lang/invoke/MethodHandle" ∧ y.cls ≠ "java/lang/invoke/VarHandle")
    {W9 : Nat} {Pre : Pt → Array Value → Prop} {Post : Pt → Array Value → Option Value → Pt → Prop} {PostX : Pt → Array Value → Addr → Pt → Prop} (hK : vx_Back l R p e below s args y 3 W9 Pre Post PostX)
    {g : JFrame} (hg : g.method = m) (hsize : g.locals.size = c.maxLocals) {argsL rest : List Value} (hlen : ∀ sig, parseMethodDescriptor y.desc = some sig → argsL.length = sig.parameters.length)
    (hstack : g.stack = argsL.reverse ++ rest) (hW : 2 * g.monitorRoom + (rest.map fun v => v.category).sum ≤ W9) (hdg : decode c.code g.pc = .ok (.invokestatic index, 3))
    (hpre : ∀ vm₁, s.WarmedH vm₁ → Pre ⟨T.setVm vm₁, locs, cells, slots⟩ argsL.toArray) :
    (∃ (v : Option Value) (vm₁ : Vm) (B : Pt), s.WarmedH vm₁ ∧ Stand p l e R s m args below meth c B.U B.locs B.cells B.slots ∧ Post ⟨T.setVm vm₁, locs, cells, slots⟩ argsL.toArray v B ∧
      ∀ target, Steps p.tables e below (B.U.setTop { g with pc := g.pc + 3, stack := v.toList ++ rest }) target → Steps p.tables e below (T.setTop g) target) ∨
    (∃ (q : Addr) (vm₁ : Vm) (B : Pt), s.WarmedH vm₁ ∧ Stand p l e R s m args below meth c B.U B.locs B.cells B.slots ∧ PostX ⟨T.setVm vm₁, locs, cells, slots⟩ argsL.toArray q B ∧
      Steps p.tables e below (T.setTop g) ((B.U.setTop { g with stack := rest }).pushFrame (.throwing q))) := by
  obtain ⟨mk, methM, cM, hnamed, hmethM, -, -, -, -, -, -, hsigM⟩ := Cond.codeWith_spec hcode
  have hstatic : methM.isStatic = true := Cond.static_spec hnamed hmethM hstat
  obtain ⟨kP, hkP, -⟩ := className_of_methodNamed hnamed
  have hinitP : kP.init = .initialized := Cond.initialized_spec (findClass_of_methodNamed hnamed) hkP hinit
  obtain ⟨vm₁, X₁, hstep₁⟩ := X.invokestatic hexec hown hlink hnamed hmethM hstatic hkP hinitP hy (g := g) hg (argsL := argsL) (rest := rest) (hlen _ hsigM) hstack hdg
  rcases hK m meth c ⟨T.setVm vm₁, locs, cells, slots⟩ { g with stack := rest } (.invokestatic index) mk argsL.toArray X₁ hg hsize hdg hW (X₁.named hnamed) (hpre vm₁ X₁.warmed) with ⟨v, B, X', hpost, hsteps⟩ | ⟨q, B, X', hpost, hsteps⟩
  · exact Or.inl ⟨v, vm₁, B, X₁.warmed, X', hpost, fun target h => hstep₁ _ fun acts => by rw [doInvoke_state]; exact hsteps.trans h⟩
  · exact Or.inr ⟨q, vm₁, B, X₁.warmed, X', hpost, hstep₁ _ fun acts => by rw [doInvoke_state]; exact hsteps⟩
theorem vx_callVW (X : Stand p l e R s m args below meth c T locs cells slots) (hexec : p.tables.exec = Jvm.exec) {own C : String} {index : Nat} {y : MethodName} {bytes : ByteArray} {maxL : Nat} {ret : Option FieldType} {hh : List (Nat × Nat × Nat × Nat)}
    (hown : s.vm.findClass own = some m.cls) (hlink : (Cond.methodLink own index y).before args s = true) (hinst : (Cond.instanceMethod y).before args s = true) (hsel : (Cond.selects C y y).before args s = true)
    (hcode : (Cond.codeWith y bytes maxL ret hh).before args s = true) (hy : y.cls ≠ "java/lang/invoke/MethodHandle" ∧ y.cls ≠ "java/lang/invoke/VarHandle")
    {W9 : Nat} {Pre : Pt → Array Value → Prop} {Post : Pt → Array Value → Option Value → Pt → Prop} (hK : Back l R p e below s args y 3 W9 Pre Post)
    {b : Addr} {cellB : Cell} (hcell : T.heap[b]? = some cellB) (hobj : cellB.vm.isStatics = false) (hcls : s.vm.findClass C = some cellB.cls)
    {g : JFrame} (hg : g.method = m) (hsize : g.locals.size = c.maxLocals) {argsL rest : List Value} (hlen : ∀ sig, parseMethodDescriptor y.desc = some sig → argsL.length = sig.parameters.length)
    (hstack : g.stack = argsL.reverse ++ .ref b :: rest) (hW : 2 * g.monitorRoom + (rest.map fun v => v.category).sum ≤ W9) (hdg : decode c.code g.pc = .ok (.invokevirtual index, 3))
    (hpre : ∀ vm₁, s.WarmedH vm₁ → Pre ⟨T.setVm vm₁, locs, cells, slots⟩ (Value.ref b :: argsL).toArray) :
    ∃ (v : Option Value) (vm₁ : Vm) (B : Pt), s.WarmedH vm₁ ∧ Stand p l e R s m args below meth c B.U B.locs B.cells B.slots ∧ Post ⟨T.setVm vm₁, locs, cells, slots⟩ (Value.ref b :: argsL).toArray v B ∧
      ∀ target, Steps p.tables e below (B.U.setTop { g with pc := g.pc + 3, stack := v.toList ++ rest }) target → Steps p.tables e below (T.setTop g) target := by
  obtain ⟨mk, methM, hnamed, hmethM, hstM, habM⟩ := Cond.instanceMethod_spec hinst
  obtain ⟨m8, methM', cM, hn8, hmethM', -, -, -, -, -, -, hsigM⟩ := Cond.codeWith_spec hcode
  cases Option.some.inj (hn8.symm.trans hnamed)
  cases hmethM.symm.trans hmethM'
  obtain ⟨c2, r2, m2, q1, q2, q3, q4, kP, hkP, hkPi⟩ := Cond.selects_spec hsel
  cases hcls.symm.trans q1
  cases (State.methodFound?_of_named hnamed hy).symm.trans q2
  cases hnamed.symm.trans q3
  have hselP : selectMethod e.platform s.vm cellB.cls mk = .method mk := by rw [Launch.admits_selectMethod X.admits]; exact q4
  obtain ⟨vm₁, X₁, hstep₁⟩ := X.invokevirtual hexec hown hlink hnamed hmethM hstM hkP hkPi hy (a := b) (cell := cellB) hcell
    (fun z h => by rw [h] at hobj; cases hobj) hselP hmethM habM hkP hkPi (g := g) hg (argsL := argsL) (rest := rest) (hlen _ hsigM) hstack hdg
  obtain ⟨v, B, X', hpost, hsteps⟩ := hK m meth c ⟨T.setVm vm₁, locs, cells, slots⟩ { g with stack := rest } (.invokevirtual index) mk (Value.ref b :: argsL).toArray X₁ hg hsize hdg hW (X₁.named hnamed) (hpre vm₁ X₁.warmed)
  exact ⟨v, vm₁, B, X₁.warmed, X', hpost, fun target h => hstep₁ _ fun acts => by rw [doInvoke_state]; exact hsteps.trans h⟩
abbrev vx_CVW (R : Room) (s : State) (args : Array Value) (own C : String) (index : Nat) (y : MethodName) (bytes : ByteArray) (maxL : Nat) (ret : Option FieldType) (hh : List (Nat × Nat × Nat × Nat)) (ws : List Cond) (rm : Room) (mc ms n : Nat) : Prop :=
  (rm.cells = mc ∧ rm.slots = ms ∧ rm.frames + 1 ≤ R.frames ∧ 8 + (maxL + 11) + rm.locals ≤ R.locals ∧ (∀ w ∈ ws, ∀ (a' : Array Value) (U : State), s.WarmedH U.vm → w.before a' U = true) ∧ Cond.codeWith y bytes maxL ret hh ∈ ws) ∧
  (Cond.codeWith y bytes maxL ret hh).before args s = true ∧ (Cond.initialized y.cls).before args s = true ∧ (y.cls ≠ "java/lang/invoke/MethodHandle" ∧ y.cls ≠ "java/lang/invoke/VarHandle") ∧
  (∀ sig, parseMethodDescriptor y.desc = some sig → n = sig.parameters.length) ∧ (Cond.methodLink own index y).before args s = true ∧ (Cond.instanceMethod y).before args s = true ∧ (Cond.selects C y y).before args s = true
theorem vx_cwVW {own C : String} {index maxL mc ms : Nat} {y : MethodName} {bytes : ByteArray} {ret : Option FieldType} {hh : List (Nat × Nat × Nat × Nat)} {Ts ws ws' : List Cond} {rm : Room} (n : Nat) (ht : ∀ w ∈ Ts, w.before args s = true) (hT : GoodIn Ts (wsV own index C y ws)) (hw : ws = Cond.codeWith y bytes maxL ret hh :: ws') (hrc : rm.cells = mc) (hrs : rm.slots = ms)
    (hd : y.cls = C ∧ y.cls ≠ "java/lang/invoke/MethodHandle" ∧ y.cls ≠ "java/lang/invoke/VarHandle" ∧ (parseMethodDescriptor y.desc).map (fun d => d.parameters.length) = some n) (hR : rm.frames + 1 ≤ R.frames ∧ 8 + (maxL + 11) + rm.locals ≤ R.locals) :
    vx_CVW R s args own C index y bytes maxL ret hh ws rm mc ms n := by
  obtain ⟨hC, hd⟩ := hd
  subst hC
  have ok : ∀ w ∈ wsV own index y.cls y ws, w.before args s = true := fun w h => ht w (hT w h).1
  have hG : GoodIn Ts ws := fun w h => hT w (by unfold wsV; exact List.mem_append_right _ h)
  have hc : Cond.codeWith y bytes maxL ret hh ∈ ws := by rw [hw]; exact List.mem_cons_self
  refine ⟨⟨hrc, hrs, hR.1, hR.2, pay_in ht hG, hc⟩, ht _ (hG _ hc).1, ok _ (by simp [wsV]), ⟨hd.1, hd.2.1⟩, fun sig h => ?_, ok _ (by simp [wsV]), ok _ (by simp [wsV]), ok _ (by simp [wsV])⟩
  have h2 := hd.2.2
  rw [h] at h2
  exact (Option.some.inj h2).symm
theorem vx_runVW {y : MethodName} {bytes cc : ByteArray} {maxL nL mc ms n index : Nat} {ret : Option FieldType} {hh : List (Nat × Nat × Nat × Nat)} {ws : List Cond} {rm : Room} {Pc : Array Value → State → Prop} {Qc : Array Value → State → Outcome → State → Prop} {free : Addr → Prop} {Ts : List Cond} {own C : String} {b : Addr} {As rest : List Value} {g : JFrame}
    (S : CallFix p m c cc nL s args Ts own) (hM : Met l y ws rm Pc Qc mc ms free) (cw : vx_CVW R s args own C index y bytes maxL ret hh ws rm mc ms n) (hp : PreV s H C b Pc As)
    (hg : g.method = m) (hn : As.length = n) (hsize : g.locals.size = nL) (hstack : g.stack = As.reverse ++ .ref b :: rest) (hW : 2 * g.monitorRoom + (rest.map fun v => v.category).sum ≤ 8) (hdg : decode cc g.pc = .ok (.invokevirtual index, 3)) (hf : cells + mc ≤ R.cells ∧ slots + ms ≤ R.slots) :
    va_Run p l e R s m args below meth c H locs cells slots mc ms g rest (Qc (Value.ref b :: As).toArray) free := by
  obtain ⟨⟨hrc, hrs, hfr, hlo, hws, hcw⟩, hcode, hini, hy, hlen, hl, hin, hse⟩ := cw
  have hK : Back l R p e below s args y 3 8 (PreOf R mc ms Pc) (PostOf Qc mc ms free) := va_backW (hh := hh) (bytes := bytes) (maxL := maxL) (ret := ret) hM hp.1 hrc hrs hfr hlo hws hcw (fun a' U hW => word_at hW (Or.inl (by first | rfl | simp [Cond.onTables, Cond.keeps, Cond.steady])) hini)
  obtain ⟨hx, hb, hml, ho, -⟩ := S
  obtain ⟨-, ⟨cellB, hcB, hoB, hclB⟩, hPc⟩ := hp
  intro T hT X
  obtain ⟨v, vm₁, ⟨U', l2, c2, s2⟩, hW₁, X', ⟨g', mk, t, L, e1, e2, hq, h1, hL, h2, h3⟩, st⟩ := vx_callVW X hx (C := C) (hh := hh) (bytes := bytes) (maxL := maxL) (ret := ret) ho hl hin hse hcode hy hK (by rw [hT]; exact hcB) hoB hclB hg (hsize.trans hml.symm) (argsL := As) (rest := rest) (fun sig h => hn.trans (hlen sig h)) hstack hW (by rw [hb]; exact hdg)
    (fun vm₁ hW₁ => ⟨hf.1, hf.2, hPc (T.setVm vm₁) hT hW₁⟩)
  dsimp only [Pt.U, Pt.locs, Pt.cells, Pt.slots] at X' e1 e2 h1 h2 h3 st
  subst h1; subst h2; subst h3
  exact ⟨v, (T.setVm vm₁).calling g' mk (Value.ref b :: As).toArray, t, U', L, hT, X', hL, e1, e2, hq, st⟩
section
variable {y : MethodName} {bytes cc : ByteArray} {maxL nL mc ms n index : Nat} {ret : Option FieldType} {ws : List Cond} {rm : Room} {Pc : Array Value → State → Prop} {Qc : Array Value → State → Outcome → State → Prop} {XC : String → State → State → Prop} {free : Addr → Prop} {Ts : List Cond} {own C : String} {b : Addr} {As rest : List Value} {g : JFrame}
theorem vx_runVX {hh : List (Nat × Nat × Nat × Nat)} (S : CallFix p m c cc nL s args Ts own) (hM : vx_Met l y ws rm Pc Qc XC mc ms free) (cw : vx_CVW R s args own C index y bytes maxL ret hh ws rm mc ms n) (hp : PreV s H C b Pc As)
    (hg : g.method = m) (hn : As.length = n) (hsize : g.locals.size = nL) (hstack : g.stack = As.reverse ++ .ref b :: rest) (hW : 2 * g.monitorRoom + (rest.map fun v => v.category).sum ≤ 8) (hdg : decode cc g.pc = .ok (.invokevirtual index, 3)) (hf : cells + mc ≤ R.cells ∧ slots + ms ≤ R.slots) :
    vx_Run p l e R s m args below meth c H locs cells slots mc ms g rest (Qc (Value.ref b :: As).toArray) XC free := by
  obtain ⟨⟨hrc, hrs, hfr, hlo, hws, hcw⟩, hcode, hini, hy, hlen, hl, hin, hse⟩ := cw
  have hK : vx_Back l R p e below s args y 3 8 (PreOf R mc ms Pc) (PostOf Qc mc ms free) (vx_Post XC mc ms free) := vx_backW (hh := hh) (bytes := bytes) (maxL := maxL) (ret := ret) hM hp.1 hrc hrs hfr hlo hws hcw (fun a' U hW => word_at hW (Or.inl (by first | rfl | simp [Cond.onTables, Cond.keeps, Cond.steady])) hini)
  obtain ⟨hx, hb, hml, ho, -⟩ := S
  obtain ⟨-, ⟨cellB, hcB, hoB, hclB⟩, hPc⟩ := hp
  intro T hT X
  rcases vx_callVX X hx (C := C) (hh := hh) (bytes := bytes) (maxL := maxL) (ret := ret) ho hl hin hse hcode hy hK (by rw [hT]; exact hcB) hoB hclB hg (hsize.trans hml.symm) (argsL := As) (rest := rest) (fun sig h => hn.trans (hlen sig h)) hstack hW (by rw [hb]; exact hdg)
    (fun vm₁ hW₁ => ⟨hf.1, hf.2, hPc (T.setVm vm₁) hT hW₁⟩) with ⟨v, vm₁, ⟨U', l2, c2, s2⟩, hW₁, X', ⟨g', mk, t, L, e1, e2, hq, h1, hL, h2, h3⟩, st⟩ | ⟨q, vm₁, ⟨U', l2, c2, s2⟩, hW₁, X', ⟨g', mk, t, L, E, ce, e1, e2, hq, hce, hcv, hcl, h1, hL, h2, h3⟩, st⟩
  · dsimp only [Pt.U, Pt.locs, Pt.cells, Pt.slots] at X' e1 e2 h1 h2 h3 st
    subst h1; subst h2; subst h3
    exact Or.inl ⟨v, (T.setVm vm₁).calling g' mk (Value.ref b :: As).toArray, t, U', L, hT, X', hL, e1, e2, hq, st⟩
  · dsimp only [Pt.U, Pt.locs, Pt.cells, Pt.slots] at X' e1 e2 h1 h2 h3 st hcl
    subst h1; subst h2; subst h3
    exact Or.inr ⟨q, (T.setVm vm₁).calling g' mk (Value.ref b :: As).toArray, t, U', L, E, ce, hT, X', hL, e1, e2, hq, hce, hcv, vx_cls hW₁ hcl, st⟩
theorem vx_runSX {hh : List (Nat × Nat × Nat × Nat)} (S : CallFix p m c cc nL s args Ts own) (hM : vx_Met l y ws rm Pc Qc XC mc ms free) (cw : vx_CSW R s args own index y bytes maxL ret hh ws rm mc ms n) (hp : PreS s H Pc As)
    (hg : g.method = m) (hn : As.length = n) (hsize : g.locals.size = nL) (hstack : g.stack = As.reverse ++ rest) (hW : 2 * g.monitorRoom + (rest.map fun v => v.category).sum ≤ 8) (hdg : decode cc g.pc = .ok (.invokestatic index, 3)) (hf : cells + mc ≤ R.cells ∧ slots + ms ≤ R.slots) :
    vx_Run p l e R s m args below meth c H locs cells slots mc ms g rest (Qc As.toArray) XC free := by
  obtain ⟨⟨hrc, hrs, hfr, hlo, hws, hcw⟩, hcode, hini, hy, hlen, hl, hstt⟩ := cw
  have hK : vx_Back l R p e below s args y 3 8 (PreOf R mc ms Pc) (PostOf Qc mc ms free) (vx_Post XC mc ms free) := vx_backW (hh := hh) (bytes := bytes) (maxL := maxL) (ret := ret) hM hp.1 hrc hrs hfr hlo hws hcw (fun a' U hW => word_at hW (Or.inl (by first | rfl | simp [Cond.onTables, Cond.keeps, Cond.steady])) hini)
  obtain ⟨hx, hb, hml, ho, -⟩ := S
  intro T hT X
  rcases vx_callSX X hx (hh := hh) (bytes := bytes) (maxL := maxL) (ret := ret) ho hl hstt hini hcode hy hK hg (hsize.trans hml.symm) (argsL := As) (rest := rest) (fun sig h => hn.trans (hlen sig h)) hstack hW (by rw [hb]; exact hdg)
    (fun vm₁ hW₁ => ⟨hf.1, hf.2, hp.2 (T.setVm vm₁) hT hW₁⟩) with ⟨v, vm₁, ⟨U', l2, c2, s2⟩, hW₁, X', ⟨g', mk, t, L, e1, e2, hq, h1, hL, h2, h3⟩, st⟩ | ⟨q, vm₁, ⟨U', l2, c2, s2⟩, hW₁, X', ⟨g', mk, t, L, E, ce, e1, e2, hq, hce, hcv, hcl, h1, hL, h2, h3⟩, st⟩
  · dsimp only [Pt.U, Pt.locs, Pt.cells, Pt.slots] at X' e1 e2 h1 h2 h3 st
    subst h1; subst h2; subst h3
    exact Or.inl ⟨v, (T.setVm vm₁).calling g' mk As.toArray, t, U', L, hT, X', hL, e1, e2, hq, st⟩
  · dsimp only [Pt.U, Pt.locs, Pt.cells, Pt.slots] at X' e1 e2 h1 h2 h3 st hcl
    subst h1; subst h2; subst h3
    exact Or.inr ⟨q, (T.setVm vm₁).calling g' mk As.toArray, t, U', L, E, ce, hT, X', hL, e1, e2, hq, hce, hcv, vx_cls hW₁ hcl, st⟩
end
end VXH
theorem vx_ofWH {l : Launch} {y : MethodName} {ws ws' : List Cond} {rm : Room} {Pc : Array Value → State → Prop} {Qc : Array Value → State → Outcome → State → Prop} {XC : String → State → State → Prop} {mc ms : Nat} {free : Addr → Prop} {cc : ByteArray} {maxL : Nat} {ret : Option FieldType} {hh : List (Nat × Nat × Nat × Nat)}
    (hy : plainName y.cls = true) (hw : ws = Cond.codeWith y cc maxL ret hh :: ws')
    (body : ∀ p e s m args below meth c s₁, BodyLoose p l y (headSpec ws rm) cc maxL ret e s m args below meth c s₁ → c.maxLocals = maxL → Pc args s →
      W p l e (headSpec ws rm).room s m args below meth c s.heap [] 0 0 (vx_MQ below Qc XC args s mc ms free) (entryFrame m args maxL)) : vx_Met l y ws rm Pc Qc XC mc ms free := by
  refine MetFree.of_bodyS (code := cc) (maxLocals := maxL) (ret := ret) hy ?_ ?_
  · intro args s m h hn
    obtain ⟨m9, meth, c, hn9, h1, h2, h3, h4, -, h5, h6, -⟩ := Cond.codeWith_spec (atoms_spec (ws := ws) h _ (by rw [hw]; exact List.mem_cons_self))
    cases hn.symm.trans hn9
    exact ⟨meth, c, h1, h2, h3, h4, h5, h6⟩
  · intro p e s m args below meth c s₁ B hml hP _
    have hh0 : s₁.heap = s.heap := by rw [B.state]; rfl
    obtain ⟨t, a1, o, b1, b2, b3⟩ := body p e s m args below meth c s₁ B hml hP s₁ hh0 (Stand.of_body B)
    exact ⟨t, o, a1, b1, b2, b3⟩
/-! ===== END ===== -/
/-! ===== BEGIN what the machine throws by itself, no traces kept ===== -/
section VXM
set_option maxHeartbeats 1000000 in
/-- the machine throws cls with the message text, no traces kept: from its note over the frame g to 'throwing' over the same frame (follows the proofs of Stand.vmThrowsMessage, Shelf/KitTracedVmS.lean, and Stand.throwsMessageColdBareV, StandMessageColdV.lean, without the step out of the frame) -/
theorem vx_vmAt {p : Program} {l : Launch} {e : Env} {R : Room} {s : State} {m₀ : MethodId} {args : Array Value} {below : List Frame} {meth : Method} {c : Code} {W : State} {locs : List Loc} {cells slots : Nat}
    (X : Stand p l e R s m₀ args below meth c W locs cells slots) (hexec : p.tables.exec = Jvm.exec) (htr : e.platform.stackTraces = false) {cls : String} {names : List String} {text : String}
    (hcls : Bundle.fit cls = true) (hnames : ∀ n ∈ names, Bundle.fit n = true) (hsoe : (cls == "java/lang/StackOverflowError") = false) (hoom : (cls == "java/lang/OutOfMemoryError") = false)
    (h : ∀ a ∈ Bundle.messageArmAtoms cls names, a.before args s = true)
    (hlocs : ∀ x ∈ locs, ∀ cell, s.heap[x.base]? = some cell → cell.vm.isStatics = false)
    (htext : (text == notModelled) = false) (hlimit : ¬ (stringBytes (stringToUtf16 text)).size > e.platform.arrayLengthLimit) (hheap : ¬ (stringBytes (stringToUtf16 text)).size * componentBytes .byte > e.platform.maxHeapBytes)
    {g : JFrame} (hg : g.method = m₀) (hsize : g.locals.size = c.maxLocals)
    (hRframes : names.length + 4 < R.frames) (hRlocals : 2 * g.monitorRoom + (g.stack.map fun v => v.category).sum + 10240 ≤ R.locals) (hshort : 13 * names.length + 55 ≤ 10240)
    (hRcells : cells + 3 ≤ R.cells) (hRslots : slots + ((stringBytes (stringToUtf16 text)).size + 4 + 6) ≤ R.slots) (hlocks : meth.locks = false) :
    ∃ (S : State) (q : Addr) (ce : Cell), (∀ target, Steps p.tables e below ((S.setTop g).pushFrame (.throwing q)) target → Steps p.tables e below ((W.setTop g).pushFrame (.throwNew cls (some text) none)) target) ∧
      Stand p l e R s m₀ args below meth c S locs (cells + 3) (slots + ((stringBytes (stringToUtf16 text)).size + 4 + 6)) ∧ S.heap[q]? = some ce ∧ s.vm.findClass cls = some ce.cls ∧ ce.vm = .none := by
  have howns : e.platform.frameOwnsMonitors = true := by rw [X.admits.platform]
  have hfin : e.platform.finalization = false := by rw [X.admits.platform]
  have hpl : e.platform.magicAccessors = ({} : Platform).magicAccessors := by rw [X.admits.platform]
  have a : ∀ x, x ∈ Bundle.messageArmAtoms cls names → x.holds args s none s [] = true := fun x hx => h x hx
  obtain ⟨T, Z0, L, -, Y⟩ := ThrowableC.of_atoms (args := args) howns hfin hpl (fun x hx => h x (by simp [Bundle.messageArmAtoms, hx]))
  obtain ⟨Z, M, LZ, LM, hnZ⟩ := Init0T.ofS_atoms (args := args) hpl L Y (fun x hx => h x (by simp [Bundle.messageArmAtoms, hx]))
  obtain ⟨P1, Ps, hlen, L1, hL, hP1m, hlink1, hlink⟩ := Bundle.chainS (args := args) hpl hnZ names cls hcls hnames (fun x hx => h x (by simp [Bundle.messageArmAtoms, hx]))
  obtain ⟨Zs, LZs, hn4, hfitv, hfitc⟩ := StringT.of_atoms (args := args) (fun x hx => h x (by simp [Bundle.messageArmAtoms, hx]))
  have hfound : s.vm.findClass cls = some P1.m.cls := findClass_of_methodNamed hP1m
  obtain ⟨c1, kX, hc1, hk, hord, -, -, hn6⟩ := Cond.instantiable_spec (a (.instantiable cls 6) (by simp [Bundle.messageArmAtoms]))
  cases Option.some.inj (hc1.symm.trans hfound)
  have hinit := Cond.initialized_spec hfound hk (a (.initialized cls) (by simp [Bundle.messageArmAtoms]))
  have hctor : kX.findMethod "<init>" "(Ljava/lang/String;)V" = some P1.m.idx := findMethod_of_methodNamed hP1m hk
  have hsel0 : selectMethod e.platform s.vm P1.m.cls T.fill0 = .method T.fill0 := by
    obtain ⟨c2, r2, m2, q1, q2, q3, q4, -⟩ := Cond.selects_spec (a (.selects cls Bundle.tFill0 Bundle.tFill0) (by simp [Bundle.messageArmAtoms]))
    cases Option.some.inj (q1.symm.trans hfound)
    cases Option.some.inj (q2.symm.trans (State.methodFound?_of_named Y.fill0 (by decide)))
    cases Option.some.inj (q3.symm.trans Y.fill0)
    rw [Launch.admits_selectMethod X.admits]; exact q4
  have hselF : selectMethod e.platform s.vm P1.m.cls T.fill = .method T.fill := by
    obtain ⟨c2, r2, m2, q1, q2, q3, q4, -⟩ := Cond.selects_spec (a (.selects cls Bundle.tFill Bundle.tFill) (by simp [Bundle.messageArmAtoms]))
    cases Option.some.inj (q1.symm.trans hfound)
    cases Option.some.inj (q2.symm.trans (State.methodFound?_of_named Y.fill (by decide)))
    cases Option.some.inj (q3.symm.trans Y.fill)
    rw [Launch.admits_selectMethod X.admits]; exact q4
  obtain ⟨cellS0, hcS0, hiss⟩ := Y.statics
  obtain ⟨u0, hu0⟩ := Cond.staticRefV Y.unassigned L.unassignedStatic L.statics hcS0 hiss (a (.isRef (.static Bundle.tN "UNASSIGNED_STACK" Bundle.steD)) (by simp [Bundle.messageArmAtoms]))
  obtain ⟨sen, hsen⟩ := Cond.staticRefV Y.sentinel L.sentinelStatic L.statics hcS0 hiss (a (.isRef (.static Bundle.tN "SUPPRESSED_SENTINEL" Bundle.listD)) (by simp [Bundle.messageArmAtoms]))
  obtain ⟨ci198, i198, fB, hk198, hg198, ha198, hsB, -, hnB, htB, hffB⟩ := Cond.ownField (t := .object "java/lang/Object") Y.found L.cls (by decide +kernel) (a (.fieldLink Bundle.tN 198 Bundle.tN "backtrace" "Ljava/lang/Object;") (by simp [Bundle.messageArmAtoms])) (a (.lays Bundle.tN Bundle.tN "backtrace" "Ljava/lang/Object;") (by simp [Bundle.messageArmAtoms])) e.platform hpl
  obtain ⟨cellS, hcS', heS, -, hkeep⟩ := X.same.2.2.2.2.2 T.aS cellS0 hcS0
  have hcellS : W.heap[T.aS]? = some cellS := hcS'
  have hout' : ∀ i, (⟨T.aS, i⟩ : Loc) ∉ locs := fun i hmem => by
    have := hlocs _ hmem cellS0 hcS0
    rw [hiss] at this; cases this
  have hknownS : cellS.vm ≠ .unknown := by
    rw [heS]; intro hu
    rw [show cellS0.vm = .unknown from hu] at hiss
    cases hiss
  have hvU : cellS.slots[T.fUnassigned.slot]? = some u0.v := by rw [hkeep _ (hout' _)]; exact hu0
  have hvSen : cellS.slots[T.fSentinel.slot]? = some sen.v := by rw [hkeep _ (hout' _)]; exact hsen
  obtain ⟨iM, hffM⟩ := Y.msg
  obtain ⟨tyC, dC, hdC, hdnC⟩ := Cond.laysAt hfound hk Y.cause (a (.lays cls Bundle.tN "cause" "Ljava/lang/Throwable;") (by simp [Bundle.messageArmAtoms]))
  obtain ⟨tyS, dS, hdS, hdnS⟩ := Cond.laysAt hfound hk Y.stack (a (.lays cls Bundle.tN "stackTrace" Bundle.steD) (by simp [Bundle.messageArmAtoms]))
  obtain ⟨tyP, dP, hdP, hdnP⟩ := Cond.laysAt hfound hk Y.supp (a (.lays cls Bundle.tN "suppressedExceptions" Bundle.listD) (by simp [Bundle.messageArmAtoms]))
  obtain ⟨tyM, dM, hdM, hdnM⟩ := Cond.laysAt hfound hk hffM (a (.lays cls Bundle.tN "detailMessage" "Ljava/lang/String;") (by simp [Bundle.messageArmAtoms]))
  obtain ⟨tyB, dB, hdB, hdnB⟩ := Cond.laysAt hfound hk hffB (a (.lays cls Bundle.tN "backtrace" "Ljava/lang/Object;") (by simp [Bundle.messageArmAtoms]))
  have bC := Cond.laysApart hdB hdC hdnB hdnC (by rw [hnB, Y.causeName]; decide)
  have bS := Cond.laysApart hdB hdS hdnB hdnS (by rw [hnB, Y.stackName]; decide)
  have bP := Cond.laysApart hdB hdP hdnB hdnP (by rw [hnB, Y.suppName]; decide)
  have hbk : ((preparedCellV T.toThrowableT (freshCell P1.m.cls kX) (W.heap.size + 2) u0 sen).withEntry W.cur).slots[fB.slot]? = some .null := by
    have := fresh_default (c := P1.m.cls) tyB
    rw [htB] at this
    simpa [preparedCellV, Cell.setSlot, Cell.withEntry, Array.getElem?_setIfInBounds, bC, bS, bP, bC.symm, bS.symm, bP.symm, defaultValue] using this
  have tkC := Takes.of_laid (v := .ref (W.heap.size + 2)) hk hord tyC (by rw [Y.causeType]; rfl)
  have tkS := Takes.of_laid (v := u0.v) hk hord tyS (by rw [Y.stackType]; exact fits_refV_array _ u0)
  have tkP := Takes.of_laid (v := sen.v) hk hord tyP (by rw [Y.suppType]; exact fits_refV_object _ sen)
  have tkM := Takes.of_laid (v := .ref (W.heap.size + 1)) hk hord tyM (by rw [Y.msgType]; rfl)
  have hskip : SkipFacts T e.platform s (fun u => u) u0 ((preparedCellV T.toThrowableT (freshCell P1.m.cls kX) (W.heap.size + 2) u0 sen).withEntry W.cur) := ⟨{ ci198 := ci198, i198 := i198, fBack := fB }, ⟨hk198, hg198, ha198, hsB⟩, hbk, fun _ _ => rfl⟩
  have h0 : At W g.method c below := by rw [hg]; exact X.here
  obtain ⟨hbeyond, hfreeW⟩ := X.vmMayThrow hsize (.throwNew cls (some text) none) (fun f hf => by cases hf) rfl hRlocals
  have hfr' : W.frames.length + Ps.length + 4 < (e.platform.stackLimits W.me).1 := by have := X.framesAbove hRframes; omega
  have hwd' : (stackUse (.java g :: W.frames.tail)).2 + 13 * Ps.length + 55 ≤ (e.platform.stackLimits W.me).2 := by have := X.stackAbove hsize (K := 13 * Ps.length + 55) (by omega); omega
  have hslots : W.slotsUsed + (stringBytes (stringToUtf16 text)).size + Zs.kS.instanceTypes.size + kX.instanceTypes.size ≤ e.platform.maxSlots := by
    have := X.slotsAbove hRslots
    rw [hn4, hn6]
    omega
  obtain ⟨vm', hW', st⟩ := Steps.vmThrowsMessageColdByV p (s₀ := s) (S := W) (g := g) h0 hexec T L Z LZ M LM X.warmed (t := W.cur) rfl Zs LZs P1 L1 Ps hL hlink1 hlink hsoe hoom hfound hk hinit hord hctor
    (Launch.admits_hotImplicitExceptions X.admits) hbeyond hfreeW htext hlimit hheap (X.cellsAbove hRcells) hslots (hfitv _) (hfitc _)
    (Nn := fun u => u) heapOnly_id (fun _ _ => rfl) (fun _ => rfl) (fun u x y => setCell_twice _ _ _ _) (fun _ => Nat.le_refl _) (cN := ((preparedCellV T.toThrowableT (freshCell P1.m.cls kX) (W.heap.size + 2) u0 sen).withEntry W.cur))
    hsel0 hcellS hknownS hvU tkS (fun _ hu => hu) (fun _ hu => hu) rfl rfl rfl (by simp [preparedCellV, Cell.setSlot, Cell.withEntry]) hskip (fun _ _ hA hW _ hroom _ hrest => L.nativeOff p htr hA hW hroom hrest) hselF hvSen tkC tkP tkM Y.objLocals rfl hfr' hwd'
  rw [plainBareV_eq T.toThrowableT (W.heap.size + 2) u0 sen (.ref (W.heap.size + 1)) W.cur rfl rfl] at st
  obtain ⟨-, -, w3, w4, -, -, -⟩ := withThrown_facts e.platform W Zs text P1.m.cls kX
  have X3 := ((X.pushed (bytesOf Zs.cB (stringToUtf16 text))).pushed (stringAt Zs.cS Zs.kS Zs.fv Zs.fc (stringToUtf16 text) W.heap.size)).pushed (freshCell P1.m.cls kX)
  rw [← withString_eq] at X3
  have X4 := X3.noted hW'
  have ha : (W.heap.size + 2) < ((withThrown W Zs text P1.m.cls kX).setVm vm').heap.size := by show _ < (withThrown W Zs text P1.m.cls kX).heap.size; rw [w3]; omega
  have hcell : ((withThrown W Zs text P1.m.cls kX).setVm vm').heap[(W.heap.size + 2)]? = some (freshCell P1.m.cls kX) := w4
  have X5 := ((((X4.stored hcell T.fCause.slot (.ref (W.heap.size + 2))).storedAgain ha T.fStack.slot u0.v).storedAgain ha T.fSupp.slot sen.v).storedAgain ha T.fStack.slot u0.v).storedAgain ha T.fMsg.slot (.ref (W.heap.size + 1))
  obtain ⟨g₁, hfrM⟩ := X5.frames_eq
  have hU : ((((withThrown W Zs text P1.m.cls kX).setVm vm').setCell (W.heap.size + 2) (plainBareV T.toThrowableT (freshCell P1.m.cls kX) (W.heap.size + 2) u0 sen (.ref (W.heap.size + 1)))).setTop g).pushFrame (.throwing (W.heap.size + 2)) = (((withThrown W Zs text P1.m.cls kX).setVm vm').setCell (W.heap.size + 2) (plainBareV T.toThrowableT (freshCell P1.m.cls kX) (W.heap.size + 2) u0 sen (.ref (W.heap.size + 1)))).setFrames (.throwing (W.heap.size + 2) :: .java g :: below) := by
    rw [State.pushFrame, State.frames_setTop _ hfrM, State.setTop_of_frames _ hfrM, State.setFrames_setFrames]
  have b1 : (bytesOf Zs.cB (stringToUtf16 text)).slots.size = (stringBytes (stringToUtf16 text)).size := by
    rw [(Cell.writeAll_facts _ _).2.2]; simp [bytes0]
  have b2 : (stringAt Zs.cS Zs.kS Zs.fv Zs.fc (stringToUtf16 text) W.heap.size).slots.size = 4 := by simp [string0, Cell.setSlot, hn4]
  have b3 : (freshCell P1.m.cls kX).slots.size = 6 := by simp [hn6]
  rw [b1, b2, b3] at X5
  have e9 : slots + (stringBytes (stringToUtf16 text)).size + 4 + 6 = slots + ((stringBytes (stringToUtf16 text)).size + 4 + 6) := by omega
  rw [e9] at X5
  simp only [List.append_assoc, List.cons_append, List.nil_append] at X5
  refine ⟨((withThrown W Zs text P1.m.cls kX).setVm vm').setCell (W.heap.size + 2) (plainBareV T.toThrowableT (freshCell P1.m.cls kX) (W.heap.size + 2) u0 sen (.ref (W.heap.size + 1))), W.heap.size + 2, _, fun target ht => st _ (by rw [X.tail, ← hU]; exact ht),
    X5.forget (fun y hy => ?_), heapAt_setCell_self _ ha, hfound, rfl⟩
  simp only [List.mem_cons, List.not_mem_nil, or_false] at hy
  have hge : s.heap.size ≤ W.heap.size := X.same.2.1
  rcases hy with rfl | rfl | rfl | rfl | rfl <;> exact Nat.le_trans hge (Nat.le_add_right _ 2)
set_option maxHeartbeats 1000000 in
/-- the machine throws NullPointerException, no traces kept: from its note over the frame g to 'throwing' over the same frame (follows the proof of Stand.vmThrowsNpe, Shelf42/KT2.lean; throwsNpeColdBareVAt, Shelf42/NT91.lean, called) -/
theorem vx_npeAt {p : Program} {l : Launch} {e : Env} {R : Room} {s : State} {m₀ : MethodId} {args : Array Value} {below : List Frame} {meth : Method} {c : Code} {W : State} {locs : List Loc} {cells slots : Nat}
    (X : Stand p l e R s m₀ args below meth c W locs cells slots) (hexec : p.tables.exec = Jvm.exec) (htr : e.platform.stackTraces = false) {n : Nat}
    (h : ∀ a ∈ Bundle.npeArmAtoms n, a.before args s = true)
    (hlocs : ∀ x ∈ locs, ∀ cell, s.heap[x.base]? = some cell → cell.vm.isStatics = false)
    {g : JFrame} (hg : g.method = m₀) (hsize : g.locals.size = c.maxLocals)
    (hRframes : 7 < R.frames) (hRlocals : 2 * g.monitorRoom + (g.stack.map fun v => v.category).sum + 10240 ≤ R.locals)
    (hRcells : cells + 1 ≤ R.cells) (hRslots : slots + n ≤ R.slots) (hlocks : meth.locks = false) :
    ∃ (S : State) (q : Addr) (ce : Cell), (∀ target, Steps p.tables e below ((S.setTop g).pushFrame (.throwing q)) target → Steps p.tables e below ((W.setTop g).pushFrame (.throwNew "java/lang/NullPointerException" none none)) target) ∧
      Stand p l e R s m₀ args below meth c S locs (cells + 1) (slots + n) ∧ S.heap[q]? = some ce ∧ s.vm.findClass "java/lang/NullPointerException" = some ce.cls ∧ ce.vm = .none := by
  have howns : e.platform.frameOwnsMonitors = true := by rw [X.admits.platform]
  have hfin : e.platform.finalization = false := by rw [X.admits.platform]
  have hpl : e.platform.magicAccessors = ({} : Platform).magicAccessors := by rw [X.admits.platform]
  have hpl2 : e.platform.arrayCloneIsPublic = true := by rw [X.admits.platform]
  have a' : ∀ x, x ∈ Bundle.npeArmAtoms n → x.holds args s none s [] = true := fun x hx => h x hx
  obtain ⟨T, Z, L, LZ, Y⟩ := ThrowableC.of_atoms (args := args) howns hfin hpl (fun x hx => h x (by simp [Bundle.npeArmAtoms, hx]))
  obtain ⟨N, LN, hcN, hnNF, hordN, hffS⟩ := NpeC.of_atoms (args := args) hpl hpl2 L Y (fun x hx => h x (by simp [Bundle.npeArmAtoms, hx]))
  obtain ⟨P1, L1, hP1m, hP1s⟩ := PassC.of_atoms (args := args) (s := s) hpl (X := Bundle.nN) (Y := Bundle.rN) (by decide) (by decide) LibCode.NullPointerException.Init0.at_0 LibCode.NullPointerException.Init0.at_1 LibCode.NullPointerException.Init0.at_4 (fun x hx => h x (by simp [Bundle.npeArmAtoms, hx]))
  obtain ⟨PR, LR, hPRm, hPRs⟩ := PassC.of_atoms (args := args) (s := s) hpl (X := Bundle.rN) (Y := Bundle.eN) (by decide) (by decide) LibCode.RuntimeException.Init0.at_0 LibCode.RuntimeException.Init0.at_1 LibCode.RuntimeException.Init0.at_4 (fun x hx => h x (by simp [Bundle.npeArmAtoms, hx]))
  obtain ⟨PE, LEx, hPEm, hPEs⟩ := PassC.of_atoms (args := args) (s := s) hpl (X := Bundle.eN) (Y := Bundle.tN) (by decide) (by decide) LibCode.Exception.Init0.at_0 LibCode.Exception.Init0.at_1 LibCode.Exception.Init0.at_4 (fun x hx => h x (by simp [Bundle.npeArmAtoms, hx]))
  have hfound : s.vm.findClass Bundle.nN = some P1.m.cls := findClass_of_methodNamed hP1m
  have ecls : N.cN = P1.m.cls := Option.some.inj (hcN.symm.trans hfound)
  have hk : s.vm.classes[P1.m.cls]? = some N.kN := by rw [← ecls]; exact LN.cls
  have hinit := Cond.initialized_spec hfound hk (a' (.initialized Bundle.nN) (by simp [Bundle.npeArmAtoms]))
  have hctor : N.kN.findMethod "<init>" "()V" = some P1.m.idx := findMethod_of_methodNamed hP1m hk
  obtain ⟨c1, k1, hc1, hk1, -, -, -, hn⟩ := Cond.instantiable_spec (a' (.instantiable Bundle.nN n) (by simp [Bundle.npeArmAtoms]))
  cases Option.some.inj (hc1.symm.trans hfound)
  cases Option.some.inj (hk1.symm.trans hk)
  have hfsz : (freshCell P1.m.cls N.kN).slots.size = n := by simp [hn]
  have hlink1 : P1.sup = PR.m := Option.some.inj (hP1s.symm.trans hPRm)
  have hlinkR : PR.sup = PE.m := Option.some.inj (hPRs.symm.trans hPEm)
  have hlinkE : PE.sup = Z.m T.toThrowableT := Option.some.inj (hPEs.symm.trans Y.init0)
  have hLs : ∀ P, P ∈ [PR, PE] → P.Links0 e.platform s := fun P hP => by
    simp only [List.mem_cons, List.not_mem_nil, or_false] at hP
    rcases hP with rfl | rfl
    · exact LR
    · exact LEx
  have hsel0 : selectMethod e.platform s.vm P1.m.cls T.fill0 = .method T.fill0 := by
    obtain ⟨c2, r2, m2, q1, q2, q3, q4, -⟩ := Cond.selects_spec (a' (.selects Bundle.nN Bundle.tFill0 Bundle.tFill0) (by simp [Bundle.npeArmAtoms]))
    cases Option.some.inj (q1.symm.trans hfound)
    cases Option.some.inj (q2.symm.trans (State.methodFound?_of_named Y.fill0 (by decide)))
    cases Option.some.inj (q3.symm.trans Y.fill0)
    rw [Launch.admits_selectMethod X.admits]; exact q4
  have hselF : selectMethod e.platform s.vm P1.m.cls T.fill = .method N.fill := by
    obtain ⟨c2, r2, m2, q1, q2, q3, q4, -⟩ := Cond.selects_spec (a' (.selects Bundle.nN Bundle.tFill Bundle.nFill) (by simp [Bundle.npeArmAtoms]))
    cases Option.some.inj (q1.symm.trans hfound)
    cases Option.some.inj (q2.symm.trans (State.methodFound?_of_named Y.fill (by decide)))
    cases Option.some.inj (q3.symm.trans hnNF)
    rw [Launch.admits_selectMethod X.admits]; exact q4
  obtain ⟨cellS0, hcS0, hiss⟩ := Y.statics
  obtain ⟨u0, hu0⟩ := Cond.staticRefV Y.unassigned L.unassignedStatic L.statics hcS0 hiss (a' (.isRef (.static Bundle.tN "UNASSIGNED_STACK" Bundle.steD)) (by simp [Bundle.npeArmAtoms]))
  obtain ⟨sen, hsen⟩ := Cond.staticRefV Y.sentinel L.sentinelStatic L.statics hcS0 hiss (a' (.isRef (.static Bundle.tN "SUPPRESSED_SENTINEL" Bundle.listD)) (by simp [Bundle.npeArmAtoms]))
  obtain ⟨ci198, i198, fB, hk198, hg198, ha198, hsB, -, hnB, htB, hffB⟩ := Cond.ownField (t := .object "java/lang/Object") Y.found L.cls (by decide +kernel) (a' (.fieldLink Bundle.tN 198 Bundle.tN "backtrace" Bundle.objD) (by simp [Bundle.npeArmAtoms])) (a' (.lays Bundle.tN Bundle.tN "backtrace" Bundle.objD) (by simp [Bundle.npeArmAtoms])) e.platform hpl
  obtain ⟨cellS, hcS', heS, -, hkeep⟩ := X.same.2.2.2.2.2 T.aS cellS0 hcS0
  have hcellS : W.heap[T.aS]? = some cellS := hcS'
  have hout' : ∀ i, (⟨T.aS, i⟩ : Loc) ∉ locs := fun i hmem => by
    have := hlocs _ hmem cellS0 hcS0
    rw [hiss] at this; cases this
  have hknownS : cellS.vm ≠ .unknown := by
    rw [heS]; intro hu
    rw [show cellS0.vm = .unknown from hu] at hiss
    cases hiss
  have hvU : cellS.slots[T.fUnassigned.slot]? = some u0.v := by rw [hkeep _ (hout' _)]; exact hu0
  have hvSen : cellS.slots[T.fSentinel.slot]? = some sen.v := by rw [hkeep _ (hout' _)]; exact hsen
  obtain ⟨tyC, dC, hdC, hdnC⟩ := Cond.laysAt hfound hk Y.cause (a' (.lays Bundle.nN Bundle.tN "cause" "Ljava/lang/Throwable;") (by simp [Bundle.npeArmAtoms]))
  obtain ⟨tyS, dS, hdS, hdnS⟩ := Cond.laysAt hfound hk Y.stack (a' (.lays Bundle.nN Bundle.tN "stackTrace" Bundle.steD) (by simp [Bundle.npeArmAtoms]))
  obtain ⟨tyP, dP, hdP, hdnP⟩ := Cond.laysAt hfound hk Y.supp (a' (.lays Bundle.nN Bundle.tN "suppressedExceptions" Bundle.listD) (by simp [Bundle.npeArmAtoms]))
  obtain ⟨tyX, dX, hdX, hdnX⟩ := Cond.laysAt hfound hk hffS (a' (.lays Bundle.nN Bundle.nN "extendedMessageState" "I") (by simp [Bundle.npeArmAtoms, Bundle.npeAtoms]))
  obtain ⟨hnX, htX⟩ := State.fieldFound?_type hffS (t := .int) (by decide +kernel)
  have xC := Cond.laysApart hdC hdX hdnC hdnX (by rw [hnX, Y.causeName]; decide)
  have xS := Cond.laysApart hdS hdX hdnS hdnX (by rw [hnX, Y.stackName]; decide)
  have xP := Cond.laysApart hdP hdX hdnP hdnX (by rw [hnX, Y.suppName]; decide)
  have hv0 : (freshCell P1.m.cls N.kN).slots[N.fState.slot]? = some (.int 0) := by
    have := fresh_default (c := P1.m.cls) tyX
    rw [htX] at this; exact this
  obtain ⟨tyB, dB, hdB, hdnB⟩ := Cond.laysAt hfound hk hffB (a' (.lays Bundle.nN Bundle.tN "backtrace" Bundle.objD) (by simp [Bundle.npeArmAtoms]))
  have bC := Cond.laysApart hdB hdC hdnB hdnC (by rw [hnB, Y.causeName]; decide)
  have bS := Cond.laysApart hdB hdS hdnB hdnS (by rw [hnB, Y.stackName]; decide)
  have bP := Cond.laysApart hdB hdP hdnB hdnP (by rw [hnB, Y.suppName]; decide)
  have bX := Cond.laysApart hdB hdX hdnB hdnX (by rw [hnB, hnX]; decide)
  have hbk : ((npeCell N.toNpeT (preparedCellV T.toThrowableT (freshCell P1.m.cls N.kN) W.heap.size u0 sen) W.cur).withEntry W.cur).slots[fB.slot]? = some .null := by
    have := fresh_default (c := P1.m.cls) tyB
    rw [htB] at this
    simpa [npeCell, preparedCellV, Cell.setSlot, Cell.withEntry, Array.getElem?_setIfInBounds, bC, bS, bP, bX, bC.symm, bS.symm, bP.symm, bX.symm, defaultValue] using this
  have tkC := Takes.of_laid (v := .ref W.heap.size) hk hordN tyC (by rw [Y.causeType]; rfl)
  have tkS := Takes.of_laid (v := u0.v) hk hordN tyS (by rw [Y.stackType]; exact fits_refV_array _ u0)
  have tkP := Takes.of_laid (v := sen.v) hk hordN tyP (by rw [Y.suppType]; exact fits_refV_object _ sen)
  have tkX := Takes.of_laid (v := .int 1) hk hordN tyX (by rw [htX]; rfl)
  have hskip : SkipFacts T e.platform s (fun u => u) u0 ((npeCell N.toNpeT (preparedCellV T.toThrowableT (freshCell P1.m.cls N.kN) W.heap.size u0 sen) W.cur).withEntry W.cur) := ⟨{ ci198 := ci198, i198 := i198, fBack := fB }, ⟨hk198, hg198, ha198, hsB⟩, hbk, fun _ _ => rfl⟩
  obtain ⟨vm', X3, st, -⟩ := X.throwsNpeColdBareVAt hexec hg hsize T L Z LZ N LN P1 L1 [PR, PE] hLs hlink1 ⟨hlinkR, hlinkE, trivial⟩ hfound hk hinit hordN hctor hsel0 hselF hcellS hknownS hvU hvSen
    hv0 xC xS xP tkC tkS tkP tkX Y.objLocals hskip (fun _ _ hA hW _ hroom _ hrest => L.nativeOff p htr hA hW hroom hrest) (by simpa using hRframes) hRlocals (by simp) hRcells (by rw [hn]; exact hRslots)
  have hlt : W.heap.size < ((W.pushCell (freshCell P1.m.cls N.kN)).setVm vm').heap.size := by
    show W.heap.size < (W.pushCell (freshCell P1.m.cls N.kN)).heap.size
    rw [State.heap_size_pushCell]; omega
  rw [hfsz] at X3
  obtain ⟨g₁, hfrM⟩ := X3.frames_eq
  have hU : ((((W.pushCell (freshCell P1.m.cls N.kN)).setVm vm').setCell W.heap.size (npeBareV T.toThrowableT N.toNpeT (freshCell P1.m.cls N.kN) W.heap.size u0 sen)).setTop g).pushFrame (.throwing W.heap.size) = (((W.pushCell (freshCell P1.m.cls N.kN)).setVm vm').setCell W.heap.size (npeBareV T.toThrowableT N.toNpeT (freshCell P1.m.cls N.kN) W.heap.size u0 sen)).setFrames (.throwing W.heap.size :: .java g :: below) := by
    rw [State.pushFrame, State.frames_setTop _ hfrM, State.setTop_of_frames _ hfrM, State.setFrames_setFrames]
  refine ⟨_, W.heap.size, _, fun target ht => st.trans (by rw [← hU]; exact ht), X3.forget (fun y hy => ?_), heapAt_setCell_self _ hlt, hfound, rfl⟩
  simp only [List.mem_cons, List.not_mem_nil, or_false] at hy
  have hge : s.heap.size ≤ W.heap.size := X.same.2.1
  rcases hy with rfl | rfl | rfl | rfl | rfl <;> exact hge
/-- the words of a machine's NullPointerException, but the four that speak of the heap -/
def vx_atN (n : Nat) : List Cond := (Bundle.npeArmAtoms n).filter vx_no
/-- the words of a machine's throw with a message, but the four that speak of the heap -/
def vx_atM (X : String) (names : List String) : List Cond := (Bundle.messageArmAtoms X names).filter vx_no
section
variable {p : Program} {l : Launch} {e : Env} {R : Room} {s : State} {m : MethodId} {args : Array Value} {below : List Frame} {meth : Method} {c : Code} {H : Heap} {locs : List Loc} {cells slots : Nat}
/-- a frame seen from a rebased start, seen from the first start again -/
theorem vx_back9 {T S : State} {R' : Room} {k n : Nat} (X : Stand p l e R s m args below meth c T locs cells slots) (Y : Stand p l e R' ((T.setVm s.vm).setFrames (.invoking m args :: below)) m args below meth c T [] 0 0) (Z : Stand p l e R' ((T.setVm s.vm).setFrames (.invoking m args :: below)) m args below meth c S [] k n) :
    Stand p l e R s m args below meth c S locs (cells + k) (slots + n) := by
  have hW0 : s.WarmedH ((T.setVm s.vm).setFrames (.invoking m args :: below)).vm := State.WarmedH.refl s
  refine { admits := X.admits, cas := X.cas, clock := X.clock, frames := X.frames, room := X.room, hears := X.hears, method := X.method, code := X.code, here := Z.here, tail := Z.tail, warmed := State.WarmedH.trans hW0 Z.warmed, limits := Z.limits.trans (Y.limits.symm.trans X.limits), bytes := Z.bytes.trans (Y.bytes.symm.trans X.bytes), same := ?_ }
  obtain ⟨e1, e2⟩ := Z.same
  rw [State.setFrames_setFrames] at e1
  have h2 : (T.setVm s.vm).sameButNew (S.setVm s.vm) [] k n := ⟨e1, e2⟩
  have h3 := X.same.trans h2
  rw [List.append_nil] at h3
  exact h3
/-- from the machine's note that E is thrown here with this text -/
def vx_Note (p : Program) (l : Launch) (e : Env) (R : Room) (s : State) (m : MethodId) (args : Array Value) (below : List Frame) (meth : Method) (c : Code) (H : Heap) (locs : List Loc) (cells slots : Nat) (Q : State → Prop) (g : JFrame) (E text : String) : Prop :=
  ∀ T : State, T.heap = H → Stand p l e R s m args below meth c T locs cells slots → ∃ t, Steps p.tables e below ((T.setTop g).pushFrame (.throwNew E (some text) none)) t ∧ Q t
theorem vx_vm {pc : Nat} {ls : Array Slot} {rest : List Value} {Q : State → Prop} (hexec : p.tables.exec = Jvm.exec) (hl : l.stackTraces = false) {cls text : String} {names : List String} {nb : Nat} {A : Nat → Prop}
    (hcls : Bundle.fit cls = true) (hnames : ∀ n ∈ names, Bundle.fit n = true) (hsoe : (cls == "java/lang/StackOverflowError") = false) (hoom : (cls == "java/lang/OutOfMemoryError") = false)
    (hat : ∀ w ∈ vx_atM cls names, w.before args s = true) (hgood : ∀ w ∈ vx_atM cls names, vx_ot w = true)
    (hU : vx_Zq Bundle.tN "UNASSIGNED_STACK" Bundle.steD A s s.heap) (hN : vx_Zq Bundle.tN "SUPPRESSED_SENTINEL" Bundle.listD A s s.heap) (hS : va_S A s.heap H locs) (hsize : ls.size = c.maxLocals)
    (htext : (text == notModelled) = false) (hnb : (stringBytes (stringToUtf16 text)).size ≤ nb) (hnb1 : nb ≤ 1000)
    (hRframes : names.length + 4 < R.frames) (hRlocals : (rest.map fun v => v.category).sum + 10240 ≤ R.locals) (hshort : 13 * names.length + 55 ≤ 10240) (hRcells : cells + 3 ≤ R.cells) (hRslots : slots + (nb + 10) ≤ R.slots) (hlocks : meth.locks = false)
    (k : ∀ (H1 : Heap) (q9 : Addr) (ce : Cell), H.size ≤ H1.size → (∀ q : Nat, q < H.size → H1[q]? = H[q]?) → va_S A s.heap H1 locs → H1[q9]? = some ce → ce.vm = .none → s.vm.findClass cls = some ce.cls → vx_W p l e R s m args below meth c H1 locs (cells + 3) (slots + (nb + 10)) Q (F0 m pc ls rest) q9) :
    vx_Note p l e R s m args below meth c H locs cells slots Q (F0 m pc ls rest) cls text := by
  intro T hT X
  have htr : e.platform.stackTraces = false := (show e.platform.stackTraces = l.stackTraces by rw [X.admits.platform]).trans hl
  have Y := vx_rebase X (R' := { frames := R.frames, locals := R.locals, cells := 3, slots := nb + 10 }) (Nat.le_refl _) (Nat.le_refl _) hRcells hRslots
  have hhp : ((T.setVm s.vm).setFrames (.invoking m args :: below)).heap = H := hT
  have hW0 : s.WarmedH ((T.setVm s.vm).setFrames (.invoking m args :: below)).vm := State.WarmedH.refl s
  have hat' : ∀ w ∈ vx_atM cls names, w.before args ((T.setVm s.vm).setFrames (.invoking m args :: below)) = true := fun w hw => vx_ot_at hW0 rfl (hgood w hw) (hat w hw)
  have hU' : vx_Zq Bundle.tN "UNASSIGNED_STACK" Bundle.steD A ((T.setVm s.vm).setFrames (.invoking m args :: below)) ((T.setVm s.vm).setFrames (.invoking m args :: below)).heap := by rw [hhp]; exact vx_Zq.moved hW0.alike (hU.kept hS.2.1)
  have hN' : vx_Zq Bundle.tN "SUPPRESSED_SENTINEL" Bundle.listD A ((T.setVm s.vm).setFrames (.invoking m args :: below)) ((T.setVm s.vm).setFrames (.invoking m args :: below)).heap := by rw [hhp]; exact vx_Zq.moved hW0.alike (hN.kept hS.2.1)
  obtain ⟨S, q, ce, st, Z, hce, hcl', hv⟩ := vx_vmAt Y hexec htr (cls := cls) (names := names) (text := text) hcls hnames hsoe hoom (vx_own hat' (vx_isRefq hU'.1) (vx_isRefq hN'.1) hU'.2.word hN'.2.word) (fun x hx => nomatch hx) htext
    (by rw [Launch.admits_arrayLengthLimit X.admits]; omega) (by rw [Launch.admits_maxHeapBytes X.admits]; simp only [componentBytes]; omega)
    (g := F0 m pc ls rest) rfl hsize hRframes (by show 2 * 0 + (rest.map fun v => v.category).sum + 10240 ≤ R.locals; omega) hshort (by show 0 + 3 ≤ 3; omega) (by show 0 + (_ + 4 + 6) ≤ nb + 10; omega) hlocks
  obtain ⟨f1, f2⟩ := vx_frame Z.same
  have f1' : H.size ≤ S.heap.size := by rw [← hT]; exact f1
  have f2' : ∀ q : Nat, q < H.size → S.heap[q]? = H[q]? := fun q hq => by
    rw [← hT]
    exact f2 q (by rw [← hT] at hq; exact hq) (fun z hz => nomatch hz)
  have X5 := vx_back9 X Y Z
  have X6 : Stand p l e R s m args below meth c S locs (cells + 3) (slots + (nb + 10)) := { X5 with same := X5.same.mono (by omega) (by omega) }
  obtain ⟨t, a1, b1⟩ := k S.heap q ce f1' f2' ⟨Nat.le_trans hS.1 f1', fun q h1 h2 => (f2' q (Nat.lt_of_lt_of_le h1 hS.1)).trans (hS.2.1 q h1 h2), hS.2.2⟩ hce hv hcl' S rfl X6
  exact ⟨t, st t a1, b1⟩
/-- from the machine's note that NullPointerException is thrown here -/
def vx_NoteN (p : Program) (l : Launch) (e : Env) (R : Room) (s : State) (m : MethodId) (args : Array Value) (below : List Frame) (meth : Method) (c : Code) (H : Heap) (locs : List Loc) (cells slots : Nat) (Q : State → Prop) (g : JFrame) : Prop :=
  ∀ T : State, T.heap = H → Stand p l e R s m args below meth c T locs cells slots → ∃ t, Steps p.tables e below ((T.setTop g).pushFrame (.throwNew "java/lang/NullPointerException" none none)) t ∧ Q t
theorem vx_npe {pc : Nat} {ls : Array Slot} {rest : List Value} {Q : State → Prop} (hexec : p.tables.exec = Jvm.exec) (hl : l.stackTraces = false) {nb : Nat} {A : Nat → Prop}
    (hat : ∀ w ∈ vx_atN nb, w.before args s = true) (hgood : ∀ w ∈ vx_atN nb, vx_ot w = true)
    (hU : vx_Zq Bundle.tN "UNASSIGNED_STACK" Bundle.steD A s s.heap) (hN : vx_Zq Bundle.tN "SUPPRESSED_SENTINEL" Bundle.listD A s s.heap) (hS : va_S A s.heap H locs) (hsize : ls.size = c.maxLocals)
    (hRframes : 7 < R.frames) (hRlocals : (rest.map fun v => v.category).sum + 10240 ≤ R.locals) (hRcells : cells + 1 ≤ R.cells) (hRslots : slots + nb ≤ R.slots) (hlocks : meth.locks = false)
    (k : ∀ (H1 : Heap) (q9 : Addr) (ce : Cell), H.size ≤ H1.size → (∀ q : Nat, q < H.size → H1[q]? = H[q]?) → va_S A s.heap H1 locs → H1[q9]? = some ce → ce.vm = .none → s.vm.findClass "java/lang/NullPointerException" = some ce.cls → vx_W p l e R s m args below meth c H1 locs (cells + 1) (slots + nb) Q (F0 m pc ls rest) q9) :
    vx_NoteN p l e R s m args below meth c H locs cells slots Q (F0 m pc ls rest) := by
  intro T hT X
  have htr : e.platform.stackTraces = false := (show e.platform.stackTraces = l.stackTraces by rw [X.admits.platform]).trans hl
  have Y := vx_rebase X (R' := { frames := R.frames, locals := R.locals, cells := 1, slots := nb }) (Nat.le_refl _) (Nat.le_refl _) hRcells hRslots
  have hhp : ((T.setVm s.vm).setFrames (.invoking m args :: below)).heap = H := hT
  have hW0 : s.WarmedH ((T.setVm s.vm).setFrames (.invoking m args :: below)).vm := State.WarmedH.refl s
  have hat' : ∀ w ∈ vx_atN nb, w.before args ((T.setVm s.vm).setFrames (.invoking m args :: below)) = true := fun w hw => vx_ot_at hW0 rfl (hgood w hw) (hat w hw)
  have hU' : vx_Zq Bundle.tN "UNASSIGNED_STACK" Bundle.steD A ((T.setVm s.vm).setFrames (.invoking m args :: below)) ((T.setVm s.vm).setFrames (.invoking m args :: below)).heap := by rw [hhp]; exact vx_Zq.moved hW0.alike (hU.kept hS.2.1)
  have hN' : vx_Zq Bundle.tN "SUPPRESSED_SENTINEL" Bundle.listD A ((T.setVm s.vm).setFrames (.invoking m args :: below)) ((T.setVm s.vm).setFrames (.invoking m args :: below)).heap := by rw [hhp]; exact vx_Zq.moved hW0.alike (hN.kept hS.2.1)
  obtain ⟨S, q, ce, st, Z, hce, hcl', hv⟩ := vx_npeAt Y hexec htr (n := nb) (vx_own hat' (vx_isRefq hU'.1) (vx_isRefq hN'.1) hU'.2.word hN'.2.word) (fun x hx => nomatch hx)
    (g := F0 m pc ls rest) rfl hsize hRframes (by show 2 * 0 + (rest.map fun v => v.category).sum + 10240 ≤ R.locals; omega) (by show 0 + 1 ≤ 1; omega) (by show 0 + nb ≤ nb; omega) hlocks
  obtain ⟨f1, f2⟩ := vx_frame Z.same
  have f1' : H.size ≤ S.heap.size := by rw [← hT]; exact f1
  have f2' : ∀ q : Nat, q < H.size → S.heap[q]? = H[q]? := fun q hq => by
    rw [← hT]
    exact f2 q (by rw [← hT] at hq; exact hq) (fun z hz => nomatch hz)
  have X5 := vx_back9 X Y Z
  have X6 : Stand p l e R s m args below meth c S locs (cells + 1) (slots + nb) := { X5 with same := X5.same.mono (by omega) (by omega) }
  obtain ⟨t, a1, b1⟩ := k S.heap q ce f1' f2' ⟨Nat.le_trans hS.1 f1', fun q h1 h2 => (f2' q (Nat.lt_of_lt_of_le h1 hS.1)).trans (hS.2.1 q h1 h2), hS.2.2⟩ hce hv hcl' S rfl X6
  exact ⟨t, st t a1, b1⟩
variable {Q : State → Prop} {cc : ByteArray} {pc : Nat} {ls : Array Slot} {rest : List Value}
theorem vx_idivZ (hexec : p.tables.exec = Jvm.exec) (hb : c.code = cc) {a b : Int32} (h0 : b = 0) (d : decode cc pc = .ok (.idiv, 1)) (k : vx_Note p l e R s m args below meth c H locs cells slots Q (F0 m pc ls rest) "java/lang/ArithmeticException" "/ by zero") :
    W p l e R s m args below meth c H locs cells slots Q (F0 m pc ls (.int b :: .int a :: rest)) := by
  intro T hT X
  obtain ⟨t, st, q⟩ := k T hT X
  exact ⟨t, X.idivZero hexec (g := F0 m pc ls (.int b :: .int a :: rest)) rfl (a := a) (rest := rest) (by rw [h0]) (by rw [hb]; exact d) t st, q⟩
theorem vx_iremZ (hexec : p.tables.exec = Jvm.exec) (hb : c.code = cc) {a b : Int32} (h0 : b = 0) (d : decode cc pc = .ok (.irem, 1)) (k : vx_Note p l e R s m args below meth c H locs cells slots Q (F0 m pc ls rest) "java/lang/ArithmeticException" "/ by zero") :
    W p l e R s m args below meth c H locs cells slots Q (F0 m pc ls (.int b :: .int a :: rest)) := by
  intro T hT X
  obtain ⟨t, st, q⟩ := k T hT X
  exact ⟨t, X.iremZero hexec (g := F0 m pc ls (.int b :: .int a :: rest)) rfl (a := a) (rest := rest) (by rw [h0]) (by rw [hb]; exact d) t st, q⟩
theorem vx_ldivZ (hexec : p.tables.exec = Jvm.exec) (hb : c.code = cc) {a b : Int64} (h0 : b = 0) (d : decode cc pc = .ok (.ldiv, 1)) (k : vx_Note p l e R s m args below meth c H locs cells slots Q (F0 m pc ls rest) "java/lang/ArithmeticException" "/ by zero") :
    W p l e R s m args below meth c H locs cells slots Q (F0 m pc ls (.long b :: .long a :: rest)) := by
  intro T hT X
  obtain ⟨t, st, q⟩ := k T hT X
  exact ⟨t, X.ldivZero hexec (g := F0 m pc ls (.long b :: .long a :: rest)) rfl (a := a) (rest := rest) (by rw [h0]) (by rw [hb]; exact d) t st, q⟩
theorem vx_lremZ (hexec : p.tables.exec = Jvm.exec) (hb : c.code = cc) {a b : Int64} (h0 : b = 0) (d : decode cc pc = .ok (.lrem, 1)) (k : vx_Note p l e R s m args below meth c H locs cells slots Q (F0 m pc ls rest) "java/lang/ArithmeticException" "/ by zero") :
    W p l e R s m args below meth c H locs cells slots Q (F0 m pc ls (.long b :: .long a :: rest)) := by
  intro T hT X
  obtain ⟨t, st, q⟩ := k T hT X
  exact ⟨t, X.lremZero hexec (g := F0 m pc ls (.long b :: .long a :: rest)) rfl (a := a) (rest := rest) (by rw [h0]) (by rw [hb]; exact d) t st, q⟩
theorem vx_ialdZ {D : va_G} {cl : List vw_C} {ws : va_W} {tys : List (ClassId × FieldType)} {a : Nat} (hexec : p.tables.exec = Jvm.exec) (hb : c.code = cc) (hK : va_K D cl tys s) (hP : va_P D cl ws H) (q0 t0 : Nat) {cA : ClassId} {n : Nat} {f : Nat → Int32} (ha : ws[q0]? = some (a, .inl (cA, n, .inl f))) (ht : tys[t0]? = some (cA, .int)) {i : Int32} (hout : ¬ vp_in i n) (hdg : decode cc pc = .ok (.iaload, 1))
    (k : ∀ tx : String, tx = (toString "Index " ++ toString i ++ toString " out of bounds for length " ++ toString n : String) → vx_Note p l e R s m args below meth c H locs cells slots Q (F0 m pc ls rest) "java/lang/ArrayIndexOutOfBoundsException" tx) : W p l e R s m args below meth c H locs cells slots Q (F0 m pc ls (.int i :: .ref a :: rest)) := by
  intro T hT X
  obtain ⟨t, st, q⟩ := k _ rfl T hT X
  refine ⟨t, ?_, q⟩
  have h1 := X.ialoadOut hexec (by rw [hT]; exact hP q0 _ ha) ((hK.2 t0 _ ht).1 n (fun j => .int (f j))) (j := i) (by show (i < 0 ∨ (arrV _ _ _).slots.size ≤ _); rw [arrV_size]; exact Classical.byContradiction hout) (g := F0 m pc ls (.int i :: .ref a :: rest)) rfl (rest := rest) rfl (by rw [hb]; exact hdg) t
  simp only [arrV_size] at h1
  exact h1 st
theorem vx_iastZ {D : va_G} {cl : List vw_C} {ws : va_W} {tys : List (ClassId × FieldType)} {a : Nat} (hexec : p.tables.exec = Jvm.exec) (hb : c.code = cc) (hK : va_K D cl tys s) (hP : va_P D cl ws H) (q0 t0 : Nat) {cA : ClassId} {n : Nat} {f : Nat → Int32} (ha : ws[q0]? = some (a, .inl (cA, n, .inl f))) (ht : tys[t0]? = some (cA, .int)) {i : Int32} {x : Int32} (hout : ¬ vp_in i n) (hdg : decode cc pc = .ok (.iastore, 1))
    (k : ∀ tx : String, tx = (toString "Index " ++ toString i ++ toString " out of bounds for length " ++ toString n : String) → vx_Note p l e R s m args below meth c H locs cells slots Q (F0 m pc ls rest) "java/lang/ArrayIndexOutOfBoundsException" tx) : W p l e R s m args below meth c H locs cells slots Q (F0 m pc ls (.int x :: .int i :: .ref a :: rest)) := by
  intro T hT X
  obtain ⟨t, st, q⟩ := k _ rfl T hT X
  refine ⟨t, ?_, q⟩
  have h1 := X.iastoreOut hexec (by rw [hT]; exact hP q0 _ ha) ((hK.2 t0 _ ht).1 n (fun j => .int (f j))) (j := i) (by show (i < 0 ∨ (arrV _ _ _).slots.size ≤ _); rw [arrV_size]; exact Classical.byContradiction hout) (g := F0 m pc ls (.int x :: .int i :: .ref a :: rest)) rfl (rest := rest) rfl (by rw [hb]; exact hdg) t
  simp only [arrV_size] at h1
  exact h1 st
theorem vx_baldZ {D : va_G} {cl : List vw_C} {ws : va_W} {tys : List (ClassId × FieldType)} {a : Nat} (hexec : p.tables.exec = Jvm.exec) (hb : c.code = cc) (hK : va_K D cl tys s) (hP : va_P D cl ws H) (q0 t0 : Nat) {cA : ClassId} {n : Nat} {f : Nat → Int32} (ha : ws[q0]? = some (a, .inl (cA, n, .inl f))) (ht : tys[t0]? = some (cA, .byte)) {i : Int32} (hout : ¬ vp_in i n) (hdg : decode cc pc = .ok (.baload, 1))
    (k : ∀ tx : String, tx = (toString "Index " ++ toString i ++ toString " out of bounds for length " ++ toString n : String) → vx_Note p l e R s m args below meth c H locs cells slots Q (F0 m pc ls rest) "java/lang/ArrayIndexOutOfBoundsException" tx) : W p l e R s m args below meth c H locs cells slots Q (F0 m pc ls (.int i :: .ref a :: rest)) := by
  intro T hT X
  obtain ⟨t, st, q⟩ := k _ rfl T hT X
  refine ⟨t, ?_, q⟩
  have h1 := X.baloadOut hexec (by rw [hT]; exact hP q0 _ ha) ((hK.2 t0 _ ht).1 n (fun j => .int (f j))) (j := i) (by show (i < 0 ∨ (arrV _ _ _).slots.size ≤ _); rw [arrV_size]; exact Classical.byContradiction hout) (g := F0 m pc ls (.int i :: .ref a :: rest)) rfl (rest := rest) rfl (by rw [hb]; exact hdg) t
  simp only [arrV_size] at h1
  exact h1 st
theorem vx_bastZ {D : va_G} {cl : List vw_C} {ws : va_W} {tys : List (ClassId × FieldType)} {a : Nat} (hexec : p.tables.exec = Jvm.exec) (hb : c.code = cc) (hK : va_K D cl tys s) (hP : va_P D cl ws H) (q0 t0 : Nat) {cA : ClassId} {n : Nat} {f : Nat → Int32} (ha : ws[q0]? = some (a, .inl (cA, n, .inl f))) (ht : tys[t0]? = some (cA, .byte)) {i : Int32} {x : Int32} (hout : ¬ vp_in i n) (hdg : decode cc pc = .ok (.bastore, 1))
    (k : ∀ tx : String, tx = (toString "Index " ++ toString i ++ toString " out of bounds for length " ++ toString n : String) → vx_Note p l e R s m args below meth c H locs cells slots Q (F0 m pc ls rest) "java/lang/ArrayIndexOutOfBoundsException" tx) : W p l e R s m args below meth c H locs cells slots Q (F0 m pc ls (.int x :: .int i :: .ref a :: rest)) := by
  intro T hT X
  obtain ⟨t, st, q⟩ := k _ rfl T hT X
  refine ⟨t, ?_, q⟩
  have h1 := X.bastoreOut hexec (by rw [hT]; exact hP q0 _ ha) ((hK.2 t0 _ ht).1 n (fun j => .int (f j))) (j := i) (by show (i < 0 ∨ (arrV _ _ _).slots.size ≤ _); rw [arrV_size]; exact Classical.byContradiction hout) (g := F0 m pc ls (.int x :: .int i :: .ref a :: rest)) rfl (rest := rest) rfl (by rw [hb]; exact hdg) t
  simp only [arrV_size] at h1
  exact h1 st
theorem vx_zaldZ {D : va_G} {cl : List vw_C} {ws : va_W} {tys : List (ClassId × FieldType)} {a : Nat} (hexec : p.tables.exec = Jvm.exec) (hb : c.code = cc) (hK : va_K D cl tys s) (hP : va_P D cl ws H) (q0 t0 : Nat) {cA : ClassId} {n : Nat} {f : Nat → Int32} (ha : ws[q0]? = some (a, .inl (cA, n, .inl f))) (ht : tys[t0]? = some (cA, .boolean)) {i : Int32} (hout : ¬ vp_in i n) (hdg : decode cc pc = .ok (.baload, 1))
    (k : ∀ tx : String, tx = (toString "Index " ++ toString i ++ toString " out of bounds for length " ++ toString n : String) → vx_Note p l e R s m args below meth c H locs cells slots Q (F0 m pc ls rest) "java/lang/ArrayIndexOutOfBoundsException" tx) : W p l e R s m args below meth c H locs cells slots Q (F0 m pc ls (.int i :: .ref a :: rest)) := by
  intro T hT X
  obtain ⟨t, st, q⟩ := k _ rfl T hT X
  refine ⟨t, ?_, q⟩
  have h1 := X.baloadOut hexec (by rw [hT]; exact hP q0 _ ha) ((hK.2 t0 _ ht).1 n (fun j => .int (f j))) (j := i) (by show (i < 0 ∨ (arrV _ _ _).slots.size ≤ _); rw [arrV_size]; exact Classical.byContradiction hout) (g := F0 m pc ls (.int i :: .ref a :: rest)) rfl (rest := rest) rfl (by rw [hb]; exact hdg) t
  simp only [arrV_size] at h1
  exact h1 st
theorem vx_zastZ {D : va_G} {cl : List vw_C} {ws : va_W} {tys : List (ClassId × FieldType)} {a : Nat} (hexec : p.tables.exec = Jvm.exec) (hb : c.code = cc) (hK : va_K D cl tys s) (hP : va_P D cl ws H) (q0 t0 : Nat) {cA : ClassId} {n : Nat} {f : Nat → Int32} (ha : ws[q0]? = some (a, .inl (cA, n, .inl f))) (ht : tys[t0]? = some (cA, .boolean)) {i : Int32} {x : Int32} (hout : ¬ vp_in i n) (hdg : decode cc pc = .ok (.bastore, 1))
    (k : ∀ tx : String, tx = (toString "Index " ++ toString i ++ toString " out of bounds for length " ++ toString n : String) → vx_Note p l e R s m args below meth c H locs cells slots Q (F0 m pc ls rest) "java/lang/ArrayIndexOutOfBoundsException" tx) : W p l e R s m args below meth c H locs cells slots Q (F0 m pc ls (.int x :: .int i :: .ref a :: rest)) := by
  intro T hT X
  obtain ⟨t, st, q⟩ := k _ rfl T hT X
  refine ⟨t, ?_, q⟩
  have h1 := X.bastoreOut hexec (by rw [hT]; exact hP q0 _ ha) ((hK.2 t0 _ ht).1 n (fun j => .int (f j))) (j := i) (by show (i < 0 ∨ (arrV _ _ _).slots.size ≤ _); rw [arrV_size]; exact Classical.byContradiction hout) (g := F0 m pc ls (.int x :: .int i :: .ref a :: rest)) rfl (rest := rest) rfl (by rw [hb]; exact hdg) t
  simp only [arrV_size] at h1
  exact h1 st
theorem vx_caldZ {D : va_G} {cl : List vw_C} {ws : va_W} {tys : List (ClassId × FieldType)} {a : Nat} (hexec : p.tables.exec = Jvm.exec) (hb : c.code = cc) (hK : va_K D cl tys s) (hP : va_P D cl ws H) (q0 t0 : Nat) {cA : ClassId} {n : Nat} {f : Nat → Int32} (ha : ws[q0]? = some (a, .inl (cA, n, .inl f))) (ht : tys[t0]? = some (cA, .char)) {i : Int32} (hout : ¬ vp_in i n) (hdg : decode cc pc = .ok (.caload, 1))
    (k : ∀ tx : String, tx = (toString "Index " ++ toString i ++ toString " out of bounds for length " ++ toString n : String) → vx_Note p l e R s m args below meth c H locs cells slots Q (F0 m pc ls rest) "java/lang/ArrayIndexOutOfBoundsException" tx) : W p l e R s m args below meth c H locs cells slots Q (F0 m pc ls (.int i :: .ref a :: rest)) := by
  intro T hT X
  obtain ⟨t, st, q⟩ := k _ rfl T hT X
  refine ⟨t, ?_, q⟩
  have h1 := X.caloadOut hexec (by rw [hT]; exact hP q0 _ ha) ((hK.2 t0 _ ht).1 n (fun j => .int (f j))) (j := i) (by show (i < 0 ∨ (arrV _ _ _).slots.size ≤ _); rw [arrV_size]; exact Classical.byContradiction hout) (g := F0 m pc ls (.int i :: .ref a :: rest)) rfl (rest := rest) rfl (by rw [hb]; exact hdg) t
  simp only [arrV_size] at h1
  exact h1 st
theorem vx_castZ {D : va_G} {cl : List vw_C} {ws : va_W} {tys : List (ClassId × FieldType)} {a : Nat} (hexec : p.tables.exec = Jvm.exec) (hb : c.code = cc) (hK : va_K D cl tys s) (hP : va_P D cl ws H) (q0 t0 : Nat) {cA : ClassId} {n : Nat} {f : Nat → Int32} (ha : ws[q0]? = some (a, .inl (cA, n, .inl f))) (ht : tys[t0]? = some (cA, .char)) {i : Int32} {x : Int32} (hout : ¬ vp_in i n) (hdg : decode cc pc = .ok (.castore, 1))
    (k : ∀ tx : String, tx = (toString "Index " ++ toString i ++ toString " out of bounds for length " ++ toString n : String) → vx_Note p l e R s m args below meth c H locs cells slots Q (F0 m pc ls rest) "java/lang/ArrayIndexOutOfBoundsException" tx) : W p l e R s m args below meth c H locs cells slots Q (F0 m pc ls (.int x :: .int i :: .ref a :: rest)) := by
  intro T hT X
  obtain ⟨t, st, q⟩ := k _ rfl T hT X
  refine ⟨t, ?_, q⟩
  have h1 := X.castoreOut hexec (by rw [hT]; exact hP q0 _ ha) ((hK.2 t0 _ ht).1 n (fun j => .int (f j))) (j := i) (by show (i < 0 ∨ (arrV _ _ _).slots.size ≤ _); rw [arrV_size]; exact Classical.byContradiction hout) (g := F0 m pc ls (.int x :: .int i :: .ref a :: rest)) rfl (rest := rest) rfl (by rw [hb]; exact hdg) t
  simp only [arrV_size] at h1
  exact h1 st
theorem vx_saldZ {D : va_G} {cl : List vw_C} {ws : va_W} {tys : List (ClassId × FieldType)} {a : Nat} (hexec : p.tables.exec = Jvm.exec) (hb : c.code = cc) (hK : va_K D cl tys s) (hP : va_P D cl ws H) (q0 t0 : Nat) {cA : ClassId} {n : Nat} {f : Nat → Int32} (ha : ws[q0]? = some (a, .inl (cA, n, .inl f))) (ht : tys[t0]? = some (cA, .short)) {i : Int32} (hout : ¬ vp_in i n) (hdg : decode cc pc = .ok (.saload, 1))
    (k : ∀ tx : String, tx = (toString "Index " ++ toString i ++ toString " out of bounds for length " ++ toString n : String) → vx_Note p l e R s m args below meth c H locs cells slots Q (F0 m pc ls rest) "java/lang/ArrayIndexOutOfBoundsException" tx) : W p l e R s m args below meth c H locs cells slots Q (F0 m pc ls (.int i :: .ref a :: rest)) := by
  intro T hT X
  obtain ⟨t, st, q⟩ := k _ rfl T hT X
  refine ⟨t, ?_, q⟩
  have h1 := X.saloadOut hexec (by rw [hT]; exact hP q0 _ ha) ((hK.2 t0 _ ht).1 n (fun j => .int (f j))) (j := i) (by show (i < 0 ∨ (arrV _ _ _).slots.size ≤ _); rw [arrV_size]; exact Classical.byContradiction hout) (g := F0 m pc ls (.int i :: .ref a :: rest)) rfl (rest := rest) rfl (by rw [hb]; exact hdg) t
  simp only [arrV_size] at h1
  exact h1 st
theorem vx_sastZ {D : va_G} {cl : List vw_C} {ws : va_W} {tys : List (ClassId × FieldType)} {a : Nat} (hexec : p.tables.exec = Jvm.exec) (hb : c.code = cc) (hK : va_K D cl tys s) (hP : va_P D cl ws H) (q0 t0 : Nat) {cA : ClassId} {n : Nat} {f : Nat → Int32} (ha : ws[q0]? = some (a, .inl (cA, n, .inl f))) (ht : tys[t0]? = some (cA, .short)) {i : Int32} {x : Int32} (hout : ¬ vp_in i n) (hdg : decode cc pc = .ok (.sastore, 1))
    (k : ∀ tx : String, tx = (toString "Index " ++ toString i ++ toString " out of bounds for length " ++ toString n : String) → vx_Note p l e R s m args below meth c H locs cells slots Q (F0 m pc ls rest) "java/lang/ArrayIndexOutOfBoundsException" tx) : W p l e R s m args below meth c H locs cells slots Q (F0 m pc ls (.int x :: .int i :: .ref a :: rest)) := by
  intro T hT X
  obtain ⟨t, st, q⟩ := k _ rfl T hT X
  refine ⟨t, ?_, q⟩
  have h1 := X.sastoreOut hexec (by rw [hT]; exact hP q0 _ ha) ((hK.2 t0 _ ht).1 n (fun j => .int (f j))) (j := i) (by show (i < 0 ∨ (arrV _ _ _).slots.size ≤ _); rw [arrV_size]; exact Classical.byContradiction hout) (g := F0 m pc ls (.int x :: .int i :: .ref a :: rest)) rfl (rest := rest) rfl (by rw [hb]; exact hdg) t
  simp only [arrV_size] at h1
  exact h1 st
theorem vx_laldZ {D : va_G} {cl : List vw_C} {ws : va_W} {tys : List (ClassId × FieldType)} {a : Nat} (hexec : p.tables.exec = Jvm.exec) (hb : c.code = cc) (hK : va_K D cl tys s) (hP : va_P D cl ws H) (q0 t0 : Nat) {cA : ClassId} {n : Nat} {f : Nat → Int64} (ha : ws[q0]? = some (a, .inl (cA, n, .inr (.inl f)))) (ht : tys[t0]? = some (cA, .long)) {i : Int32} (hout : ¬ vp_in i n) (hdg : decode cc pc = .ok (.laload, 1))
    (k : ∀ tx : String, tx = (toString "Index " ++ toString i ++ toString " out of bounds for length " ++ toString n : String) → vx_Note p l e R s m args below meth c H locs cells slots Q (F0 m pc ls rest) "java/lang/ArrayIndexOutOfBoundsException" tx) : W p l e R s m args below meth c H locs cells slots Q (F0 m pc ls (.int i :: .ref a :: rest)) := by
  intro T hT X
  obtain ⟨t, st, q⟩ := k _ rfl T hT X
  refine ⟨t, ?_, q⟩
  have h1 := X.laloadOut hexec (by rw [hT]; exact hP q0 _ ha) ((hK.2 t0 _ ht).1 n (fun j => .long (f j))) (j := i) (by show (i < 0 ∨ (arrV _ _ _).slots.size ≤ _); rw [arrV_size]; exact Classical.byContradiction hout) (g := F0 m pc ls (.int i :: .ref a :: rest)) rfl (rest := rest) rfl (by rw [hb]; exact hdg) t
  simp only [arrV_size] at h1
  exact h1 st
theorem vx_lastZ {D : va_G} {cl : List vw_C} {ws : va_W} {tys : List (ClassId × FieldType)} {a : Nat} (hexec : p.tables.exec = Jvm.exec) (hb : c.code = cc) (hK : va_K D cl tys s) (hP : va_P D cl ws H) (q0 t0 : Nat) {cA : ClassId} {n : Nat} {f : Nat → Int64} (ha : ws[q0]? = some (a, .inl (cA, n, .inr (.inl f)))) (ht : tys[t0]? = some (cA, .long)) {i : Int32} {x : Int64} (hout : ¬ vp_in i n) (hdg : decode cc pc = .ok (.lastore, 1))
    (k : ∀ tx : String, tx = (toString "Index " ++ toString i ++ toString " out of bounds for length " ++ toString n : String) → vx_Note p l e R s m args below meth c H locs cells slots Q (F0 m pc ls rest) "java/lang/ArrayIndexOutOfBoundsException" tx) : W p l e R s m args below meth c H locs cells slots Q (F0 m pc ls (.long x :: .int i :: .ref a :: rest)) := by
  intro T hT X
  obtain ⟨t, st, q⟩ := k _ rfl T hT X
  refine ⟨t, ?_, q⟩
  have h1 := X.lastoreOut hexec (by rw [hT]; exact hP q0 _ ha) ((hK.2 t0 _ ht).1 n (fun j => .long (f j))) (j := i) (by show (i < 0 ∨ (arrV _ _ _).slots.size ≤ _); rw [arrV_size]; exact Classical.byContradiction hout) (g := F0 m pc ls (.long x :: .int i :: .ref a :: rest)) rfl (rest := rest) rfl (by rw [hb]; exact hdg) t
  simp only [arrV_size] at h1
  exact h1 st
theorem vx_faldZ {D : va_G} {cl : List vw_C} {ws : va_W} {tys : List (ClassId × FieldType)} {a : Nat} (hexec : p.tables.exec = Jvm.exec) (hb : c.code = cc) (hK : va_K D cl tys s) (hP : va_P D cl ws H) (q0 t0 : Nat) {cA : ClassId} {n : Nat} {f : Nat → UInt32} (ha : ws[q0]? = some (a, .inl (cA, n, .inr (.inr (.inl f))))) (ht : tys[t0]? = some (cA, .float)) {i : Int32} (hout : ¬ vp_in i n) (hdg : decode cc pc = .ok (.faload, 1))
    (k : ∀ tx : String, tx = (toString "Index " ++ toString i ++ toString " out of bounds for length " ++ toString n : String) → vx_Note p l e R s m args below meth c H locs cells slots Q (F0 m pc ls rest) "java/lang/ArrayIndexOutOfBoundsException" tx) : W p l e R s m args below meth c H locs cells slots Q (F0 m pc ls (.int i :: .ref a :: rest)) := by
  intro T hT X
  obtain ⟨t, st, q⟩ := k _ rfl T hT X
  refine ⟨t, ?_, q⟩
  have h1 := X.faloadOut hexec (by rw [hT]; exact hP q0 _ ha) ((hK.2 t0 _ ht).1 n (fun j => .float (f j))) (j := i) (by show (i < 0 ∨ (arrV _ _ _).slots.size ≤ _); rw [arrV_size]; exact Classical.byContradiction hout) (g := F0 m pc ls (.int i :: .ref a :: rest)) rfl (rest := rest) rfl (by rw [hb]; exact hdg) t
  simp only [arrV_size] at h1
  exact h1 st
theorem vx_fastZ {D : va_G} {cl : List vw_C} {ws : va_W} {tys : List (ClassId × FieldType)} {a : Nat} (hexec : p.tables.exec = Jvm.exec) (hb : c.code = cc) (hK : va_K D cl tys s) (hP : va_P D cl ws H) (q0 t0 : Nat) {cA : ClassId} {n : Nat} {f : Nat → UInt32} (ha : ws[q0]? = some (a, .inl (cA, n, .inr (.inr (.inl f))))) (ht : tys[t0]? = some (cA, .float)) {i : Int32} {x : UInt32} (hout : ¬ vp_in i n) (hdg : decode cc pc = .ok (.fastore, 1))
    (k : ∀ tx : String, tx = (toString "Index " ++ toString i ++ toString " out of bounds for length " ++ toString n : String) → vx_Note p l e R s m args below meth c H locs cells slots Q (F0 m pc ls rest) "java/lang/ArrayIndexOutOfBoundsException" tx) : W p l e R s m args below meth c H locs cells slots Q (F0 m pc ls (.float x :: .int i :: .ref a :: rest)) := by
  intro T hT X
  obtain ⟨t, st, q⟩ := k _ rfl T hT X
  refine ⟨t, ?_, q⟩
  have h1 := X.fastoreOut hexec (by rw [hT]; exact hP q0 _ ha) ((hK.2 t0 _ ht).1 n (fun j => .float (f j))) (j := i) (by show (i < 0 ∨ (arrV _ _ _).slots.size ≤ _); rw [arrV_size]; exact Classical.byContradiction hout) (g := F0 m pc ls (.float x :: .int i :: .ref a :: rest)) rfl (rest := rest) rfl (by rw [hb]; exact hdg) t
  simp only [arrV_size] at h1
  exact h1 st
theorem vx_daldZ {D : va_G} {cl : List vw_C} {ws : va_W} {tys : List (ClassId × FieldType)} {a : Nat} (hexec : p.tables.exec = Jvm.exec) (hb : c.code = cc) (hK : va_K D cl tys s) (hP : va_P D cl ws H) (q0 t0 : Nat) {cA : ClassId} {n : Nat} {f : Nat → UInt64} (ha : ws[q0]? = some (a, .inl (cA, n, .inr (.inr (.inr (.inl f)))))) (ht : tys[t0]? = some (cA, .double)) {i : Int32} (hout : ¬ vp_in i n) (hdg : decode cc pc = .ok (.daload, 1))
    (k : ∀ tx : String, tx = (toString "Index " ++ toString i ++ toString " out of bounds for length " ++ toString n : String) → vx_Note p l e R s m args below meth c H locs cells slots Q (F0 m pc ls rest) "java/lang/ArrayIndexOutOfBoundsException" tx) : W p l e R s m args below meth c H locs cells slots Q (F0 m pc ls (.int i :: .ref a :: rest)) := by
  intro T hT X
  obtain ⟨t, st, q⟩ := k _ rfl T hT X
  refine ⟨t, ?_, q⟩
  have h1 := X.daloadOut hexec (by rw [hT]; exact hP q0 _ ha) ((hK.2 t0 _ ht).1 n (fun j => .double (f j))) (j := i) (by show (i < 0 ∨ (arrV _ _ _).slots.size ≤ _); rw [arrV_size]; exact Classical.byContradiction hout) (g := F0 m pc ls (.int i :: .ref a :: rest)) rfl (rest := rest) rfl (by rw [hb]; exact hdg) t
  simp only [arrV_size] at h1
  exact h1 st
theorem vx_dastZ {D : va_G} {cl : List vw_C} {ws : va_W} {tys : List (ClassId × FieldType)} {a : Nat} (hexec : p.tables.exec = Jvm.exec) (hb : c.code = cc) (hK : va_K D cl tys s) (hP : va_P D cl ws H) (q0 t0 : Nat) {cA : ClassId} {n : Nat} {f : Nat → UInt64} (ha : ws[q0]? = some (a, .inl (cA, n, .inr (.inr (.inr (.inl f)))))) (ht : tys[t0]? = some (cA, .double)) {i : Int32} {x : UInt64} (hout : ¬ vp_in i n) (hdg : decode cc pc = .ok (.dastore, 1))
    (k : ∀ tx : String, tx = (toString "Index " ++ toString i ++ toString " out of bounds for length " ++ toString n : String) → vx_Note p l e R s m args below meth c H locs cells slots Q (F0 m pc ls rest) "java/lang/ArrayIndexOutOfBoundsException" tx) : W p l e R s m args below meth c H locs cells slots Q (F0 m pc ls (.double x :: .int i :: .ref a :: rest)) := by
  intro T hT X
  obtain ⟨t, st, q⟩ := k _ rfl T hT X
  refine ⟨t, ?_, q⟩
  have h1 := X.dastoreOut hexec (by rw [hT]; exact hP q0 _ ha) ((hK.2 t0 _ ht).1 n (fun j => .double (f j))) (j := i) (by show (i < 0 ∨ (arrV _ _ _).slots.size ≤ _); rw [arrV_size]; exact Classical.byContradiction hout) (g := F0 m pc ls (.double x :: .int i :: .ref a :: rest)) rfl (rest := rest) rfl (by rw [hb]; exact hdg) t
  simp only [arrV_size] at h1
  exact h1 st
theorem vx_arraylengthN (hexec : p.tables.exec = Jvm.exec) (hb : c.code = cc) (hdg : decode cc pc = .ok (.arraylength, 1)) (k : vx_NoteN p l e R s m args below meth c H locs cells slots Q (F0 m pc ls rest)) : W p l e R s m args below meth c H locs cells slots Q (F0 m pc ls (.null :: rest)) := by
  intro T hT X
  obtain ⟨t, st, q⟩ := k T hT X
  exact ⟨t, X.arraylengthNull hexec (g := F0 m pc ls (.null :: rest)) rfl (rest := rest) rfl (by rw [hb]; exact hdg) t st, q⟩
theorem vx_ialoadN (hexec : p.tables.exec = Jvm.exec) (hb : c.code = cc) {i : Int32} (hdg : decode cc pc = .ok (.iaload, 1)) (k : vx_NoteN p l e R s m args below meth c H locs cells slots Q (F0 m pc ls rest)) : W p l e R s m args below meth c H locs cells slots Q (F0 m pc ls (.int i :: .null :: rest)) := by
  intro T hT X
  obtain ⟨t, st, q⟩ := k T hT X
  exact ⟨t, X.ialoadNull hexec (g := F0 m pc ls (.int i :: .null :: rest)) rfl (rest := rest) rfl (by rw [hb]; exact hdg) t st, q⟩
theorem vx_laloadN (hexec : p.tables.exec = Jvm.exec) (hb : c.code = cc) {i : Int32} (hdg : decode cc pc = .ok (.laload, 1)) (k : vx_NoteN p l e R s m args below meth c H locs cells slots Q (F0 m pc ls rest)) : W p l e R s m args below meth c H locs cells slots Q (F0 m pc ls (.int i :: .null :: rest)) := by
  intro T hT X
  obtain ⟨t, st, q⟩ := k T hT X
  exact ⟨t, X.laloadNull hexec (g := F0 m pc ls (.int i :: .null :: rest)) rfl (rest := rest) rfl (by rw [hb]; exact hdg) t st, q⟩
theorem vx_faloadN (hexec : p.tables.exec = Jvm.exec) (hb : c.code = cc) {i : Int32} (hdg : decode cc pc = .ok (.faload, 1)) (k : vx_NoteN p l e R s m args below meth c H locs cells slots Q (F0 m pc ls rest)) : W p l e R s m args below meth c H locs cells slots Q (F0 m pc ls (.int i :: .null :: rest)) := by
  intro T hT X
  obtain ⟨t, st, q⟩ := k T hT X
  exact ⟨t, X.faloadNull hexec (g := F0 m pc ls (.int i :: .null :: rest)) rfl (rest := rest) rfl (by rw [hb]; exact hdg) t st, q⟩
theorem vx_daloadN (hexec : p.tables.exec = Jvm.exec) (hb : c.code = cc) {i : Int32} (hdg : decode cc pc = .ok (.daload, 1)) (k : vx_NoteN p l e R s m args below meth c H locs cells slots Q (F0 m pc ls rest)) : W p l e R s m args below meth c H locs cells slots Q (F0 m pc ls (.int i :: .null :: rest)) := by
  intro T hT X
  obtain ⟨t, st, q⟩ := k T hT X
  exact ⟨t, X.daloadNull hexec (g := F0 m pc ls (.int i :: .null :: rest)) rfl (rest := rest) rfl (by rw [hb]; exact hdg) t st, q⟩
theorem vx_aaloadN (hexec : p.tables.exec = Jvm.exec) (hb : c.code = cc) {i : Int32} (hdg : decode cc pc = .ok (.aaload, 1)) (k : vx_NoteN p l e R s m args below meth c H locs cells slots Q (F0 m pc ls rest)) : W p l e R s m args below meth c H locs cells slots Q (F0 m pc ls (.int i :: .null :: rest)) := by
  intro T hT X
  obtain ⟨t, st, q⟩ := k T hT X
  exact ⟨t, X.aaloadNull hexec (g := F0 m pc ls (.int i :: .null :: rest)) rfl (rest := rest) rfl (by rw [hb]; exact hdg) t st, q⟩
theorem vx_baloadN (hexec : p.tables.exec = Jvm.exec) (hb : c.code = cc) {i : Int32} (hdg : decode cc pc = .ok (.baload, 1)) (k : vx_NoteN p l e R s m args below meth c H locs cells slots Q (F0 m pc ls rest)) : W p l e R s m args below meth c H locs cells slots Q (F0 m pc ls (.int i :: .null :: rest)) := by
  intro T hT X
  obtain ⟨t, st, q⟩ := k T hT X
  exact ⟨t, X.baloadNull hexec (g := F0 m pc ls (.int i :: .null :: rest)) rfl (rest := rest) rfl (by rw [hb]; exact hdg) t st, q⟩
theorem vx_caloadN (hexec : p.tables.exec = Jvm.exec) (hb : c.code = cc) {i : Int32} (hdg : decode cc pc = .ok (.caload, 1)) (k : vx_NoteN p l e R s m args below meth c H locs cells slots Q (F0 m pc ls rest)) : W p l e R s m args below meth c H locs cells slots Q (F0 m pc ls (.int i :: .null :: rest)) := by
  intro T hT X
  obtain ⟨t, st, q⟩ := k T hT X
  exact ⟨t, X.caloadNull hexec (g := F0 m pc ls (.int i :: .null :: rest)) rfl (rest := rest) rfl (by rw [hb]; exact hdg) t st, q⟩
theorem vx_saloadN (hexec : p.tables.exec = Jvm.exec) (hb : c.code = cc) {i : Int32} (hdg : decode cc pc = .ok (.saload, 1)) (k : vx_NoteN p l e R s m args below meth c H locs cells slots Q (F0 m pc ls rest)) : W p l e R s m args below meth c H locs cells slots Q (F0 m pc ls (.int i :: .null :: rest)) := by
  intro T hT X
  obtain ⟨t, st, q⟩ := k T hT X
  exact ⟨t, X.saloadNull hexec (g := F0 m pc ls (.int i :: .null :: rest)) rfl (rest := rest) rfl (by rw [hb]; exact hdg) t st, q⟩
theorem vx_iastoreN (hexec : p.tables.exec = Jvm.exec) (hb : c.code = cc) {x : Int32} {i : Int32} (hdg : decode cc pc = .ok (.iastore, 1)) (k : vx_NoteN p l e R s m args below meth c H locs cells slots Q (F0 m pc ls rest)) : W p l e R s m args below meth c H locs cells slots Q (F0 m pc ls (.int x :: .int i :: .null :: rest)) := by
  intro T hT X
  obtain ⟨t, st, q⟩ := k T hT X
  exact ⟨t, X.iastoreNull hexec (g := F0 m pc ls (.int x :: .int i :: .null :: rest)) rfl (rest := rest) rfl (by rw [hb]; exact hdg) t st, q⟩
theorem vx_lastoreN (hexec : p.tables.exec = Jvm.exec) (hb : c.code = cc) {x : Int64} {i : Int32} (hdg : decode cc pc = .ok (.lastore, 1)) (k : vx_NoteN p l e R s m args below meth c H locs cells slots Q (F0 m pc ls rest)) : W p l e R s m args below meth c H locs cells slots Q (F0 m pc ls (.long x :: .int i :: .null :: rest)) := by
  intro T hT X
  obtain ⟨t, st, q⟩ := k T hT X
  exact ⟨t, X.lastoreNull hexec (g := F0 m pc ls (.long x :: .int i :: .null :: rest)) rfl (rest := rest) rfl (by rw [hb]; exact hdg) t st, q⟩
theorem vx_fastoreN (hexec : p.tables.exec = Jvm.exec) (hb : c.code = cc) {x : UInt32} {i : Int32} (hdg : decode cc pc = .ok (.fastore, 1)) (k : vx_NoteN p l e R s m args below meth c H locs cells slots Q (F0 m pc ls rest)) : W p l e R s m args below meth c H locs cells slots Q (F0 m pc ls (.float x :: .int i :: .null :: rest)) := by
  intro T hT X
  obtain ⟨t, st, q⟩ := k T hT X
  exact ⟨t, X.fastoreNull hexec (g := F0 m pc ls (.float x :: .int i :: .null :: rest)) rfl (rest := rest) rfl (by rw [hb]; exact hdg) t st, q⟩
theorem vx_dastoreN (hexec : p.tables.exec = Jvm.exec) (hb : c.code = cc) {x : UInt64} {i : Int32} (hdg : decode cc pc = .ok (.dastore, 1)) (k : vx_NoteN p l e R s m args below meth c H locs cells slots Q (F0 m pc ls rest)) : W p l e R s m args below meth c H locs cells slots Q (F0 m pc ls (.double x :: .int i :: .null :: rest)) := by
  intro T hT X
  obtain ⟨t, st, q⟩ := k T hT X
  exact ⟨t, X.dastoreNull hexec (g := F0 m pc ls (.double x :: .int i :: .null :: rest)) rfl (rest := rest) rfl (by rw [hb]; exact hdg) t st, q⟩
theorem vx_bastoreN (hexec : p.tables.exec = Jvm.exec) (hb : c.code = cc) {x : Int32} {i : Int32} (hdg : decode cc pc = .ok (.bastore, 1)) (k : vx_NoteN p l e R s m args below meth c H locs cells slots Q (F0 m pc ls rest)) : W p l e R s m args below meth c H locs cells slots Q (F0 m pc ls (.int x :: .int i :: .null :: rest)) := by
  intro T hT X
  obtain ⟨t, st, q⟩ := k T hT X
  exact ⟨t, X.bastoreNull hexec (g := F0 m pc ls (.int x :: .int i :: .null :: rest)) rfl (rest := rest) rfl (by rw [hb]; exact hdg) t st, q⟩
theorem vx_castoreN (hexec : p.tables.exec = Jvm.exec) (hb : c.code = cc) {x : Int32} {i : Int32} (hdg : decode cc pc = .ok (.castore, 1)) (k : vx_NoteN p l e R s m args below meth c H locs cells slots Q (F0 m pc ls rest)) : W p l e R s m args below meth c H locs cells slots Q (F0 m pc ls (.int x :: .int i :: .null :: rest)) := by
  intro T hT X
  obtain ⟨t, st, q⟩ := k T hT X
  exact ⟨t, X.castoreNull hexec (g := F0 m pc ls (.int x :: .int i :: .null :: rest)) rfl (rest := rest) rfl (by rw [hb]; exact hdg) t st, q⟩
theorem vx_sastoreN (hexec : p.tables.exec = Jvm.exec) (hb : c.code = cc) {x : Int32} {i : Int32} (hdg : decode cc pc = .ok (.sastore, 1)) (k : vx_NoteN p l e R s m args below meth c H locs cells slots Q (F0 m pc ls rest)) : W p l e R s m args below meth c H locs cells slots Q (F0 m pc ls (.int x :: .int i :: .null :: rest)) := by
  intro T hT X
  obtain ⟨t, st, q⟩ := k T hT X
  exact ⟨t, X.sastoreNull hexec (g := F0 m pc ls (.int x :: .int i :: .null :: rest)) rfl (rest := rest) rfl (by rw [hb]; exact hdg) t st, q⟩
theorem vx_invokeN {own C : String} {index maxL : Nat} {y : MethodName} {bytes : ByteArray} {ret : Option FieldType} (hexec : p.tables.exec = Jvm.exec) (hb : c.code = cc) (hown : s.vm.findClass own = some m.cls) (hlink : (Cond.methodLink own index y).before args s = true) (hinst : (Cond.instanceMethod y).before args s = true) (hcode : (Cond.code y bytes maxL ret).before args s = true) (hsel : (Cond.selects C y y).before args s = true)
    (hx : y.cls ≠ "java/lang/invoke/MethodHandle" ∧ y.cls ≠ "java/lang/invoke/VarHandle") {As : List Value} (hlen : (parseMethodDescriptor y.desc).map (fun d => d.parameters.length) = some As.length) (hdg : decode cc pc = .ok (.invokevirtual index, 3))
    (k : vx_NoteN p l e R s m args below meth c H locs cells slots Q (F0 m pc ls rest)) {st0 : List Value} (hst : st0 = As.reverse ++ .null :: rest) : W p l e R s m args below meth c H locs cells slots Q (F0 m pc ls st0) := by
  intro T hT X
  obtain ⟨r0, r, hn, hrm, hstR, hsigR⟩ := va_Decl.of hinst hcode
  obtain ⟨c2, r2, m2, q1, q2, q3, q4, kP, hkP, hkPi⟩ := Cond.selects_spec hsel
  cases hn.symm.trans q3
  have hl9 : As.length = r.sig.parameters.length := by
    rw [hsigR] at hlen
    exact (Option.some.inj hlen).symm
  obtain ⟨vm', X1, st1⟩ := X.invokevirtualNull hexec hown hlink hn hrm hstR hkP hkPi hx (g := F0 m pc ls st0) rfl (argsL := As) (rest := rest) hl9 hst (by rw [hb]; exact hdg)
  obtain ⟨t, st, q⟩ := k (T.setVm vm') hT X1
  exact ⟨t, st1 t st, q⟩
theorem vx_newarrayZ {atype : ArrayType} (hexec : p.tables.exec = Jvm.exec) (hb : c.code = cc) {n : Int32} (h0 : n < 0) (hdg : decode cc pc = .ok (.newarray atype, 2)) (k : ∀ tx : String, tx = toString n → vx_Note p l e R s m args below meth c H locs cells slots Q (F0 m pc ls rest) "java/lang/NegativeArraySizeException" tx) : W p l e R s m args below meth c H locs cells slots Q (F0 m pc ls (.int n :: rest)) := by
  intro T hT X
  obtain ⟨t, st, q⟩ := k _ rfl T hT X
  exact ⟨t, X.newarrayNegative hexec (g := F0 m pc ls (.int n :: rest)) rfl h0 (rest := rest) rfl (by rw [hb]; exact hdg) t st, q⟩
end
end VXM
/-! ===== END ===== -/
/-! ===== BEGIN an exception as an object: made, kept, thrown later (no traces kept) ===== -/
section VXK
variable {p : Program} {l : Launch} {e : Env} {R : Room} {s : State} {m₀ : MethodId} {args : Array Value} {below : List Frame} {meth : Method} {c : Code} {W : State} {locs : List Loc} {cells slots : Nat}
set_option maxHeartbeats 1000000 in
theorem vx_ctorMadeS (X : Stand p l e R s m₀ args below meth c W locs cells slots) (hexec : p.tables.exec = Jvm.exec) (htr : e.platform.stackTraces = false) {own cls : String} {names : List String} {ic : Nat}
    (hown : s.vm.findClass own = some m₀.cls) (hcls : Bundle.fit cls = true) (hnames : ∀ n ∈ names, Bundle.fit n = true)
    (h : ∀ a ∈ Bundle.ownAtoms own ic cls names, a.before args s = true)
    (hlocs : ∀ x ∈ locs, ∀ cell, s.heap[x.base]? = some cell → cell.vm.isStatics = false)
    {a : Addr} {cX : ClassId} {kX : Class} (hfoundX : s.vm.findClass cls = some cX) (hkX : s.vm.classes[cX]? = some kX) (hcell : W.heap[a]? = some (freshCell cX kX)) (hnew : s.heap.size ≤ a)
    {msg : Value} (hmsg : msg.isRef = true)
    {g : JFrame} (hg : g.method = m₀) (hsize : g.locals.size = c.maxLocals) {rest : List Value} (hstack : g.stack = msg :: .ref a :: .ref a :: rest)
    (hd6 : decode c.code g.pc = .ok (.invokespecial ic, 3))
    (hRframes : names.length + 3 < R.frames) (hRlocals : 2 * g.monitorRoom + ((Value.ref a :: rest).map fun v => v.category).sum + (13 * (names.length + 1) + 42) ≤ R.locals) :
    ∃ (V : State) (ce : Cell) (L : List Loc), Stand p l e R s m₀ args below meth c (V.setCell a ce) (locs ++ L) cells slots ∧ (∀ y ∈ L, y.base = a) ∧ a < V.heap.size ∧ ce.cls = cX ∧ ce.vm = .none ∧
      ∀ target, Steps p.tables e below ((V.setCell a ce).setTop { g with stack := .ref a :: rest, pc := g.pc + 3 }) target → Steps p.tables e below (W.setTop g) target := by
  have howns : e.platform.frameOwnsMonitors = true := by rw [X.admits.platform]
  have hfin : e.platform.finalization = false := by rw [X.admits.platform]
  have hpl : e.platform.magicAccessors = ({} : Platform).magicAccessors := by rw [X.admits.platform]
  have a' : ∀ x, x ∈ Bundle.ownAtoms own ic cls names → x.holds args s none s [] = true := fun x hx => h x hx
  obtain ⟨T, Z0, L, -, Y⟩ := ThrowableC.of_atoms (args := args) howns hfin hpl (fun x hx => h x (by simp [Bundle.ownAtoms, hx]))
  obtain ⟨Z, M, LZ, LM, hnZ⟩ := Init0T.ofS_atoms (args := args) hpl L Y (fun x hx => h x (by simp [Bundle.ownAtoms, hx]))
  obtain ⟨P1, Ps, hlen, L1, hL, hP1m, hlink1, hlink⟩ := Bundle.chainS (args := args) hpl hnZ names cls hcls hnames (fun x hx => h x (by simp [Bundle.ownAtoms, hx]))
  have hfound : s.vm.findClass cls = some P1.m.cls := findClass_of_methodNamed hP1m
  cases Option.some.inj (hfoundX.symm.trans hfound)
  obtain ⟨c1, kX', hc1, hk, hord, -, -, hn6⟩ := Cond.instantiable_spec (a' (.instantiable cls 6) (by simp [Bundle.ownAtoms]))
  cases Option.some.inj (hc1.symm.trans hfound)
  cases Option.some.inj (hkX.symm.trans hk)
  have hsel0 : selectMethod e.platform s.vm P1.m.cls T.fill0 = .method T.fill0 := by
    obtain ⟨c2, r2, m2, q1, q2, q3, q4, -⟩ := Cond.selects_spec (a' (.selects cls Bundle.tFill0 Bundle.tFill0) (by simp [Bundle.ownAtoms]))
    cases Option.some.inj (q1.symm.trans hfound)
    cases Option.some.inj (q2.symm.trans (State.methodFound?_of_named Y.fill0 (by decide)))
    cases Option.some.inj (q3.symm.trans Y.fill0)
    rw [Launch.admits_selectMethod X.admits]; exact q4
  have hselF : selectMethod e.platform s.vm P1.m.cls T.fill = .method T.fill := by
    obtain ⟨c2, r2, m2, q1, q2, q3, q4, -⟩ := Cond.selects_spec (a' (.selects cls Bundle.tFill Bundle.tFill) (by simp [Bundle.ownAtoms]))
    cases Option.some.inj (q1.symm.trans hfound)
    cases Option.some.inj (q2.symm.trans (State.methodFound?_of_named Y.fill (by decide)))
    cases Option.some.inj (q3.symm.trans Y.fill)
    rw [Launch.admits_selectMethod X.admits]; exact q4
  obtain ⟨cellS0, hcS0, hiss⟩ := Y.statics
  obtain ⟨u0, hu0⟩ := Cond.staticRefV Y.unassigned L.unassignedStatic L.statics hcS0 hiss (a' (.isRef (.static Bundle.tN "UNASSIGNED_STACK" Bundle.steD)) (by simp [Bundle.ownAtoms]))
  obtain ⟨sen, hsen⟩ := Cond.staticRefV Y.sentinel L.sentinelStatic L.statics hcS0 hiss (a' (.isRef (.static Bundle.tN "SUPPRESSED_SENTINEL" Bundle.listD)) (by simp [Bundle.ownAtoms]))
  obtain ⟨ci198, i198, fB, hk198, hg198, ha198, hsB, -, hnB, htB, hffB⟩ := Cond.ownField (t := .object "java/lang/Object") Y.found L.cls (by decide +kernel) (a' (.fieldLink Bundle.tN 198 Bundle.tN "backtrace" "Ljava/lang/Object;") (by simp [Bundle.ownAtoms])) (a' (.lays Bundle.tN Bundle.tN "backtrace" "Ljava/lang/Object;") (by simp [Bundle.ownAtoms])) e.platform hpl
  obtain ⟨cellS, hcS', heS, -, hkeep⟩ := X.same.2.2.2.2.2 T.aS cellS0 hcS0
  have hcellS : W.heap[T.aS]? = some cellS := hcS'
  have hout' : ∀ i, (⟨T.aS, i⟩ : Loc) ∉ locs := fun i hmem => by
    have := hlocs _ hmem cellS0 hcS0
    rw [hiss] at this; cases this
  have hknownS : cellS.vm ≠ .unknown := by
    rw [heS]; intro hu
    rw [show cellS0.vm = .unknown from hu] at hiss
    cases hiss
  have hneS : T.aS ≠ a := Nat.ne_of_lt (Nat.lt_of_lt_of_le (Array.getElem?_eq_some_iff.mp hcS0).1 hnew)
  obtain ⟨iM, hffM⟩ := Y.msg
  obtain ⟨tyC, dC, hdC, hdnC⟩ := Cond.laysAt hfound hk Y.cause (a' (.lays cls Bundle.tN "cause" "Ljava/lang/Throwable;") (by simp [Bundle.ownAtoms]))
  obtain ⟨tyS, dS, hdS, hdnS⟩ := Cond.laysAt hfound hk Y.stack (a' (.lays cls Bundle.tN "stackTrace" Bundle.steD) (by simp [Bundle.ownAtoms]))
  obtain ⟨tyP, dP, hdP, hdnP⟩ := Cond.laysAt hfound hk Y.supp (a' (.lays cls Bundle.tN "suppressedExceptions" Bundle.listD) (by simp [Bundle.ownAtoms]))
  obtain ⟨tyM, dM, hdM, hdnM⟩ := Cond.laysAt hfound hk hffM (a' (.lays cls Bundle.tN "detailMessage" "Ljava/lang/String;") (by simp [Bundle.ownAtoms]))
  obtain ⟨tyB, dB, hdB, hdnB⟩ := Cond.laysAt hfound hk hffB (a' (.lays cls Bundle.tN "backtrace" "Ljava/lang/Object;") (by simp [Bundle.ownAtoms]))
  have bC := Cond.laysApart hdB hdC hdnB hdnC (by rw [hnB, Y.causeName]; decide)
  have bS := Cond.laysApart hdB hdS hdnB hdnS (by rw [hnB, Y.stackName]; decide)
  have bP := Cond.laysApart hdB hdP hdnB hdnP (by rw [hnB, Y.suppName]; decide)
  have hskip : SkipFacts T e.platform s (fun u => u) u0 ((preparedCellV T.toThrowableT (freshCell P1.m.cls kX) a u0 sen).withEntry W.cur) :=
    ⟨{ ci198 := ci198, i198 := i198, fBack := fB }, ⟨hk198, hg198, ha198, hsB⟩, by
      have := fresh_default (c := P1.m.cls) tyB
      rw [htB] at this
      simpa [preparedCellV, Cell.setSlot, Cell.withEntry, Array.getElem?_setIfInBounds, bC, bS, bP, bC.symm, bS.symm, bP.symm, defaultValue] using this, fun _ _ => rfl⟩
  obtain ⟨tm, methC, cdC, kC, vm₁, hnC, -, -, -, -, -, -, -, hW₁, st1⟩ := Steps.initColdS (tb := p.tables) (e := e) (below := below) (s := s) (U := W) X.here hexec X.warmed hpl hown (t := Bundle.initS cls) rfl rfl (Bundle.fit_spec hcls).2
    (a' (.methodLink own ic (Bundle.initS cls)) (by simp [Bundle.ownAtoms])) (h (.instanceMethod (Bundle.initS cls)) (by cases names <;> simp [Bundle.ownAtoms, Bundle.chainSAtoms, Bundle.passSAtoms])) (bytes := Bundle.six) (maxL := 2) (h (.code (Bundle.initS cls) Bundle.six 2 none) (by cases names <;> simp [Bundle.ownAtoms, Bundle.chainSAtoms, Bundle.passSAtoms]))
    (f := g) hg (a := a) (msg := msg) (rest := .ref a :: rest) hstack hd6
  cases Option.some.inj (hnC.symm.trans hP1m)
  have X₁ := X.noted hW₁
  obtain ⟨vm₂, X₂, st2⟩ := X₁.ctorMessageOffV hexec (g := { g with stack := .ref a :: rest }) hg hsize T L Z LZ M LM (P1 :: Ps)
    (fun P hP => by rcases List.mem_cons.mp hP with rfl | hP; exact L1; exact hL P hP) ⟨hlink1, hlink⟩ (u0 := u0) (sen := sen) (self := a) hmsg (cell := freshCell P1.m.cls kX) (cellS := cellS)
    hcell (fun _ => by simp) (by simp) rfl rfl hsel0 hselF hcellS hneS hknownS (by rw [hkeep _ (hout' _)]; exact hu0) (by rw [hkeep _ (hout' _)]; exact hsen)
    (Takes.of_laid hk hord tyC (by rw [Y.causeType]; rfl)) (Takes.of_laid hk hord tyS (by rw [Y.stackType]; exact fits_refV_array _ u0)) (Takes.of_laid hk hord tyP (by rw [Y.suppType]; exact fits_refV_object _ sen))
    (Takes.of_laid hk hord tyM (by rw [Y.msgType]; exact fits_refV_object _ ⟨msg, hmsg⟩)) Y.objLocals hskip htr [] hd6
    (by simp only [List.length_cons, hlen]; omega) (by simp only [List.length_cons, hlen]; exact hRlocals)
  have hlt : a < ((W.setVm vm₁).setVm vm₂).heap.size := (Array.getElem?_eq_some_iff.mp hcell).1
  refine ⟨(W.setVm vm₁).setVm vm₂, _, _, X₂, fun y hy => ?_, hlt, rfl, rfl, fun target hwalk => st1 _ (fun acts => ?_)⟩
  · simp only [List.mem_cons, List.not_mem_nil, or_false] at hy
    rcases hy with rfl | rfl | rfl | rfl | rfl <;> rfl
  · rw [doInvoke_state]
    exact st2 _ hwalk
set_option maxHeartbeats 1000000 in
theorem vx_ctorMade0 (X : Stand p l e R s m₀ args below meth c W locs cells slots) (hexec : p.tables.exec = Jvm.exec) (htr : e.platform.stackTraces = false) {own cls : String} {names : List String} {ic : Nat}
    (hown : s.vm.findClass own = some m₀.cls) (hcls : Bundle.fit cls = true) (hnames : ∀ n ∈ names, Bundle.fit n = true)
    (h : ∀ a ∈ Bundle.ownAtoms0 own ic cls names, a.before args s = true)
    (hlocs : ∀ x ∈ locs, ∀ cell, s.heap[x.base]? = some cell → cell.vm.isStatics = false)
    {a : Addr} {cX : ClassId} {kX : Class} (hfoundX : s.vm.findClass cls = some cX) (hkX : s.vm.classes[cX]? = some kX) (hcell : W.heap[a]? = some (freshCell cX kX)) (hnew : s.heap.size ≤ a)
    {g : JFrame} (hg : g.method = m₀) (hsize : g.locals.size = c.maxLocals) {rest : List Value} (hstack : g.stack = .ref a :: .ref a :: rest)
    (hd6 : decode c.code g.pc = .ok (.invokespecial ic, 3))
    (hRframes : names.length + 3 < R.frames) (hRlocals : 2 * g.monitorRoom + ((Value.ref a :: rest).map fun v => v.category).sum + (13 * (names.length + 1) + 41) ≤ R.locals) :
    ∃ (V : State) (ce : Cell) (L : List Loc), Stand p l e R s m₀ args below meth c (V.setCell a ce) (locs ++ L) cells slots ∧ (∀ y ∈ L, y.base = a) ∧ a < V.heap.size ∧ ce.cls = cX ∧ ce.vm = .none ∧
      ∀ target, Steps p.tables e below ((V.setCell a ce).setTop { g with stack := .ref a :: rest, pc := g.pc + 3 }) target → Steps p.tables e below (W.setTop g) target := by
  have howns : e.platform.frameOwnsMonitors = true := by rw [X.admits.platform]
  have hfin : e.platform.finalization = false := by rw [X.admits.platform]
  have hpl : e.platform.magicAccessors = ({} : Platform).magicAccessors := by rw [X.admits.platform]
  have a' : ∀ x, x ∈ Bundle.ownAtoms0 own ic cls names → x.holds args s none s [] = true := fun x hx => h x hx
  obtain ⟨T, Z, L, LZ, Y⟩ := ThrowableC.of_atoms (args := args) howns hfin hpl (fun x hx => h x (by simp [Bundle.ownAtoms0, hx]))
  obtain ⟨P1, Ps, hlen, L1, hL, hP1m, hlink1, hlink⟩ := Bundle.chain0 (args := args) hpl Y.init0 names cls hcls hnames (fun x hx => h x (by simp [Bundle.ownAtoms0, hx]))
  have hfound : s.vm.findClass cls = some P1.m.cls := findClass_of_methodNamed hP1m
  cases Option.some.inj (hfoundX.symm.trans hfound)
  obtain ⟨c1, kX', hc1, hk, hord, -, -, hn6⟩ := Cond.instantiable_spec (a' (.instantiable cls 6) (by simp [Bundle.ownAtoms0]))
  cases Option.some.inj (hc1.symm.trans hfound)
  cases Option.some.inj (hkX.symm.trans hk)
  have hsel0 : selectMethod e.platform s.vm P1.m.cls T.fill0 = .method T.fill0 := by
    obtain ⟨c2, r2, m2, q1, q2, q3, q4, -⟩ := Cond.selects_spec (a' (.selects cls Bundle.tFill0 Bundle.tFill0) (by simp [Bundle.ownAtoms0]))
    cases Option.some.inj (q1.symm.trans hfound)
    cases Option.some.inj (q2.symm.trans (State.methodFound?_of_named Y.fill0 (by decide)))
    cases Option.some.inj (q3.symm.trans Y.fill0)
    rw [Launch.admits_selectMethod X.admits]; exact q4
  have hselF : selectMethod e.platform s.vm P1.m.cls T.fill = .method T.fill := by
    obtain ⟨c2, r2, m2, q1, q2, q3, q4, -⟩ := Cond.selects_spec (a' (.selects cls Bundle.tFill Bundle.tFill) (by simp [Bundle.ownAtoms0]))
    cases Option.some.inj (q1.symm.trans hfound)
    cases Option.some.inj (q2.symm.trans (State.methodFound?_of_named Y.fill (by decide)))
    cases Option.some.inj (q3.symm.trans Y.fill)
    rw [Launch.admits_selectMethod X.admits]; exact q4
  obtain ⟨cellS0, hcS0, hiss⟩ := Y.statics
  obtain ⟨u0, hu0⟩ := Cond.staticRefV Y.unassigned L.unassignedStatic L.statics hcS0 hiss (a' (.isRef (.static Bundle.tN "UNASSIGNED_STACK" Bundle.steD)) (by simp [Bundle.ownAtoms0]))
  obtain ⟨sen, hsen⟩ := Cond.staticRefV Y.sentinel L.sentinelStatic L.statics hcS0 hiss (a' (.isRef (.static Bundle.tN "SUPPRESSED_SENTINEL" Bundle.listD)) (by simp [Bundle.ownAtoms0]))
  obtain ⟨ci198, i198, fB, hk198, hg198, ha198, hsB, -, hnB, htB, hffB⟩ := Cond.ownField (t := .object "java/lang/Object") Y.found L.cls (by decide +kernel) (a' (.fieldLink Bundle.tN 198 Bundle.tN "backtrace" "Ljava/lang/Object;") (by simp [Bundle.ownAtoms0])) (a' (.lays Bundle.tN Bundle.tN "backtrace" "Ljava/lang/Object;") (by simp [Bundle.ownAtoms0])) e.platform hpl
  obtain ⟨cellS, hcS', heS, -, hkeep⟩ := X.same.2.2.2.2.2 T.aS cellS0 hcS0
  have hcellS : W.heap[T.aS]? = some cellS := hcS'
  have hout' : ∀ i, (⟨T.aS, i⟩ : Loc) ∉ locs := fun i hmem => by
    have := hlocs _ hmem cellS0 hcS0
    rw [hiss] at this; cases this
  have hknownS : cellS.vm ≠ .unknown := by
    rw [heS]; intro hu
    rw [show cellS0.vm = .unknown from hu] at hiss
    cases hiss
  have hneS : T.aS ≠ a := Nat.ne_of_lt (Nat.lt_of_lt_of_le (Array.getElem?_eq_some_iff.mp hcS0).1 hnew)
  obtain ⟨iM, hffM⟩ := Y.msg
  obtain ⟨tyC, dC, hdC, hdnC⟩ := Cond.laysAt hfound hk Y.cause (a' (.lays cls Bundle.tN "cause" "Ljava/lang/Throwable;") (by simp [Bundle.ownAtoms0]))
  obtain ⟨tyS, dS, hdS, hdnS⟩ := Cond.laysAt hfound hk Y.stack (a' (.lays cls Bundle.tN "stackTrace" Bundle.steD) (by simp [Bundle.ownAtoms0]))
  obtain ⟨tyP, dP, hdP, hdnP⟩ := Cond.laysAt hfound hk Y.supp (a' (.lays cls Bundle.tN "suppressedExceptions" Bundle.listD) (by simp [Bundle.ownAtoms0]))
  obtain ⟨tyM, dM, hdM, hdnM⟩ := Cond.laysAt hfound hk hffM (a' (.lays cls Bundle.tN "detailMessage" "Ljava/lang/String;") (by simp [Bundle.ownAtoms0]))
  obtain ⟨tyB, dB, hdB, hdnB⟩ := Cond.laysAt hfound hk hffB (a' (.lays cls Bundle.tN "backtrace" "Ljava/lang/Object;") (by simp [Bundle.ownAtoms0]))
  have bC := Cond.laysApart hdB hdC hdnB hdnC (by rw [hnB, Y.causeName]; decide)
  have bS := Cond.laysApart hdB hdS hdnB hdnS (by rw [hnB, Y.stackName]; decide)
  have bP := Cond.laysApart hdB hdP hdnB hdnP (by rw [hnB, Y.suppName]; decide)
  have hskip : SkipFacts T e.platform s (fun u => u) u0 ((preparedCellV T.toThrowableT (freshCell P1.m.cls kX) a u0 sen).withEntry W.cur) :=
    ⟨{ ci198 := ci198, i198 := i198, fBack := fB }, ⟨hk198, hg198, ha198, hsB⟩, by
      have := fresh_default (c := P1.m.cls) tyB
      rw [htB] at this
      simpa [preparedCellV, Cell.setSlot, Cell.withEntry, Array.getElem?_setIfInBounds, bC, bS, bP, bC.symm, bS.symm, bP.symm, defaultValue] using this, fun _ _ => rfl⟩
  obtain ⟨tm, methC, cdC, kC, vm₁, hnC, -, -, -, -, -, -, -, hW₁, st1⟩ := Steps.initCold (tb := p.tables) (e := e) (below := below) (s := s) (U := W) X.here hexec X.warmed hpl hown (t := Bundle.init0 cls) rfl rfl (Bundle.fit_spec hcls).2
    (a' (.methodLink own ic (Bundle.init0 cls)) (by simp [Bundle.ownAtoms0])) (h (.instanceMethod (Bundle.init0 cls)) (by cases names <;> simp [Bundle.ownAtoms0, Bundle.chain0Atoms, Bundle.passAtoms])) (bytes := Bundle.five) (maxL := 1) (h (.code (Bundle.init0 cls) Bundle.five 1 none) (by cases names <;> simp [Bundle.ownAtoms0, Bundle.chain0Atoms, Bundle.passAtoms]))
    (f := g) hg (a := a) (rest := .ref a :: rest) hstack hd6
  cases Option.some.inj (hnC.symm.trans hP1m)
  have X₁ := X.noted hW₁
  obtain ⟨vm₂, X₂, st2⟩ := X₁.ctorPlainOffV hexec (g := { g with stack := .ref a :: rest }) hg hsize T L Z LZ (P1 :: Ps)
    (fun P hP => by rcases List.mem_cons.mp hP with rfl | hP; exact L1; exact hL P hP) ⟨hlink1, hlink⟩ (u0 := u0) (sen := sen) (self := a) (cell := freshCell P1.m.cls kX) (cellS := cellS)
    hcell (fun _ => by simp) (by simp) rfl rfl hsel0 hselF hcellS hneS hknownS (by rw [hkeep _ (hout' _)]; exact hu0) (by rw [hkeep _ (hout' _)]; exact hsen)
    (Takes.of_laid hk hord tyC (by rw [Y.causeType]; rfl)) (Takes.of_laid hk hord tyS (by rw [Y.stackType]; exact fits_refV_array _ u0)) (Takes.of_laid hk hord tyP (by rw [Y.suppType]; exact fits_refV_object _ sen)) Y.objLocals hskip htr [] hd6
    (by simp only [List.length_cons, hlen]; omega) (by simp only [List.length_cons, hlen]; exact hRlocals)
  have hlt : a < ((W.setVm vm₁).setVm vm₂).heap.size := (Array.getElem?_eq_some_iff.mp hcell).1
  refine ⟨(W.setVm vm₁).setVm vm₂, _, _, X₂, fun y hy => ?_, hlt, rfl, rfl, fun target hwalk => st1 _ (fun acts => ?_)⟩
  · simp only [List.mem_cons, List.not_mem_nil, or_false] at hy
    rcases hy with rfl | rfl | rfl | rfl <;> rfl
  · rw [doInvoke_state]
    exact st2 _ hwalk
end VXK
section VXK2
variable {p : Program} {l : Launch} {e : Env} {R : Room} {s : State} {m : MethodId} {args : Array Value} {below : List Frame} {meth : Method} {c : Code} {H : Heap} {locs : List Loc} {cells slots : Nat} {Q : State → Prop}
variable {ls : Array Slot} {rest : List Value} {D : va_G} {cl : List vw_C} {tys : List (ClassId × FieldType)} {ws : va_W}
/-- 'new E("text")' that isn't thrown at once: the object goes on the stack -/
theorem vx_makeS {cc : ByteArray} {pc : Nat} (hexec : p.tables.exec = Jvm.exec) (hb : c.code = cc) (hl : l.stackTraces = false) {own cls text : String} {names : List String} {ik is ic sa ci : Nat} {A : Nat → Prop} {T0 : u_T}
    (hown : s.vm.findClass own = some m.cls) (hcls : Bundle.fit cls = true) (hnames : ∀ n ∈ names, Bundle.fit n = true)
    (hk : (Cond.classLink own ik cls).before args s = true) (hini : (Cond.initialized cls).before args s = true) (hstr : vk_R own is text sa s) (hat : ∀ w ∈ vx_atS own ic cls names, w.before args s = true)
    (hgood : ∀ w ∈ Cond.classLink own ik cls :: Cond.initialized cls :: vx_atS own ic cls names, vx_ot w = true)
    (hU : vx_Zq Bundle.tN "UNASSIGNED_STACK" Bundle.steD A s s.heap) (hN : vx_Zq Bundle.tN "SUPPRESSED_SENTINEL" Bundle.listD A s s.heap) (hS : va_S A s.heap H locs) (hsize : ls.size = c.maxLocals)
    (d0 : decode cc pc = .ok (.new ik, 3)) (d3 : decode cc (pc + 3) = .ok (.dup, 1)) (d4 : decode cc (pc + 4) = .ok (.ldc is, 2)) (d6 : decode cc (pc + 6) = .ok (.invokespecial ic, 3))
    (hK : va_K D cl tys s) (hP : va_P D cl ws H) (hD : va_D A ws) (hA : ∀ q, s.heap.size ≤ q → A q) (hc : cl[ci]? = some (cls, T0, 0))
    (hRframes : names.length + 3 < R.frames) (hRlocals : (rest.map fun v => v.category).sum + (13 * (names.length + 1) + 43) ≤ R.locals) (hRcells : cells + 1 ≤ R.cells) (hRslots : slots + 6 ≤ R.slots)
    (kk : ∀ (q : Nat) (H1 : Heap), va_P D cl (ws ++ [(q, .inr (ci, []))]) H1 → va_D A (ws ++ [(q, .inr (ci, []))]) → va_S A s.heap H1 locs → W p l e R s m args below meth c H1 locs (cells + 1) (slots + 6) Q (F0 m (pc + 9) ls (.ref q :: rest))) :
    W p l e R s m args below meth c H locs cells slots Q (F0 m pc ls rest) := by
  intro T hT X
  subst hT
  have htr : e.platform.stackTraces = false := (show e.platform.stackTraces = l.stackTraces by rw [X.admits.platform]).trans hl
  have Y := vx_rebase X (R' := { frames := R.frames, locals := R.locals, cells := 1, slots := 6 }) (Nat.le_refl _) (Nat.le_refl _) hRcells hRslots
  obtain ⟨s', hA'⟩ : ∃ z, z = (T.setVm s.vm).setFrames (.invoking m args :: below) := ⟨_, rfl⟩
  rw [← hA'] at Y
  have hvm : s'.vm = s.vm := by rw [hA']; rfl
  have hhp : s'.heap = T.heap := by rw [hA']; rfl
  have hW0 : s.WarmedH s'.vm := by rw [hvm]; exact State.WarmedH.refl s
  have hat' : ∀ w ∈ vx_atS own ic cls names, w.before args s' = true := fun w hw => vx_ot_at hW0 hvm.symm (hgood w (List.mem_cons_of_mem _ (List.mem_cons_of_mem _ hw))) (hat w hw)
  have hk' : (Cond.classLink own ik cls).before args s' = true := vx_ot_at hW0 hvm.symm (hgood _ List.mem_cons_self) hk
  have hini' : (Cond.initialized cls).before args s' = true := vx_ot_at hW0 hvm.symm (hgood _ (List.mem_cons_of_mem _ List.mem_cons_self)) hini
  have hU' : vx_Zq Bundle.tN "UNASSIGNED_STACK" Bundle.steD A s' s'.heap := by rw [hhp]; exact vx_Zq.moved hW0.alike (hU.kept hS.2.1)
  have hN' : vx_Zq Bundle.tN "SUPPRESSED_SENTINEL" Bundle.listD A s' s'.heap := by rw [hhp]; exact vx_Zq.moved hW0.alike (hN.kept hS.2.1)
  have h : ∀ w ∈ Bundle.ownAtoms own ic cls names, w.before args s' = true := vx_own hat' (vx_isRefq hU'.1) (vx_isRefq hN'.1) hU'.2.word hN'.2.word
  have hown' : s'.vm.findClass own = some m.cls := by rw [hvm]; exact hown
  have hins : (Cond.instantiable cls 6).before args s' = true := h _ (by simp [Bundle.ownAtoms])
  obtain ⟨vm₁, cX, kX, hfX, hkX, -, -, X₁, st1⟩ := Y.newCold hexec (own := own) (C := cls) (index := ik) (n := 6) hown' hk' hins hini'
    (g := F0 m pc ls rest) rfl (by rw [hb]; exact d0) (Nat.le_refl _) (Nat.le_refl _)
  generalize hT1 : (T.setVm vm₁).pushCell { cls := cX, slots := kX.instanceTypes.map defaultValue, vm := .none } = T1 at X₁ st1
  have hcat : (Value.ref T.heap.size).category = 1 := rfl
  have hcellA : T1.heap[T.heap.size]? = some (freshCell cX kX) := by rw [← hT1]; exact State.heap_pushCell_size _ _
  have d3' : decode c.code (pc + 3) = .ok (.dup, 1) := by rw [hb]; exact d3
  have d4' : decode c.code (pc + 4) = .ok (.ldc is, 2) := by rw [hb]; exact d4
  have hstr' : vk_R own is text sa s' := vk_R.warm hW0 hstr
  obtain ⟨V, ce, L, Z, hL, hlt, hcl9, hvm9, st⟩ := vx_ctorMadeS X₁ hexec htr (own := own) (cls := cls) (names := names) (ic := ic) hown' hcls hnames h (fun x hx => nomatch hx) hfX hkX hcellA (by rw [hhp]; exact Nat.le_refl _) (msg := .ref sa) rfl
    (g := { method := m, pc := pc + 6, locals := ls, stack := .ref sa :: .ref T.heap.size :: .ref T.heap.size :: rest, locked := none }) rfl hsize (rest := rest) rfl
    (by rw [hb]; exact d6) hRframes (by simp only [List.map_cons, List.sum_cons, hcat]; omega)
  have Z0 := Stand.forget (locs := []) Z (fun y hy => by rw [hL y hy, hhp]; exact Nat.le_refl _)
  obtain ⟨f1, f2⟩ := vx_frame Z0.same
  rw [hhp] at f1 f2
  have hcid : ce.cls = D.1 ci := by
    rw [hcl9]
    have h1 := (hK.1 ci _ hc).2.1
    rw [hvm] at hfX
    exact Option.some.inj (hfX.symm.trans h1)
  have hh : (V.setCell T.heap.size ce).heap[T.heap.size]? = some ce := heapAt_setCell_self (s := V) ce hlt
  subst hA'
  have X5 := vx_back9 X Y Z0
  have X6 : Stand p l e R s m args below meth c (V.setCell T.heap.size ce) locs (cells + 1) (slots + 6) := { X5 with same := X5.same.mono (by omega) (by omega) }
  have hk9 : ∀ (k : Nat) (x : Nat × va_E), ws[k]? = some x → (V.setCell T.heap.size ce).heap[x.1]? = T.heap[x.1]? := fun k x hx => f2 x.1 ((hP k x hx).lt) (fun z hz => nomatch hz)
  obtain ⟨t, a1, b1⟩ := kk T.heap.size (V.setCell T.heap.size ce).heap ((hP.kept hk9).app (fun k x hx => by
      have hz : k < 1 := (List.getElem?_eq_some_iff.mp hx).1
      rw [show k = 0 by omega] at hx
      cases hx
      exact ⟨_, hc, ce, hh, hcid, hvm9, fun k hk => absurd hk (Nat.not_lt_zero k)⟩)) (hD.push hP rfl (hA _ hS.1)) ⟨Nat.le_trans hS.1 f1, fun q h1 h2 => (f2 q (Nat.lt_of_lt_of_le h1 hS.1) (fun z hz => nomatch hz)).trans (hS.2.1 q h1 h2), hS.2.2⟩ _ rfl X6
  refine ⟨t, st1 _ ?_, b1⟩
  show Steps p.tables e below (T1.setTop { method := m, pc := pc + 3, locals := ls, stack := .ref T.heap.size :: rest, locked := none }) _
  jvm_step X₁.here [X₁.here.top, hexec, d3', Value.category]
  exact X₁.ldcString hexec (own := own) (text := text) (index := is) (a := sa) hown' hstr'.1 hstr'.2
    (g := { method := m, pc := pc + 4, locals := ls, stack := .ref T.heap.size :: .ref T.heap.size :: rest, locked := none }) rfl d4' _ (st _ a1)
/-- 'new E()' that isn't thrown at once: the object goes on the stack -/
theorem vx_make0 {cc : ByteArray} {pc : Nat} (hexec : p.tables.exec = Jvm.exec) (hb : c.code = cc) (hl : l.stackTraces = false) {own cls : String} {names : List String} {ik ic ci : Nat} {A : Nat → Prop} {T0 : u_T}
    (hown : s.vm.findClass own = some m.cls) (hcls : Bundle.fit cls = true) (hnames : ∀ n ∈ names, Bundle.fit n = true)
    (hk : (Cond.classLink own ik cls).before args s = true) (hini : (Cond.initialized cls).before args s = true) (hat : ∀ w ∈ vx_at0 own ic cls names, w.before args s = true)
    (hgood : ∀ w ∈ Cond.classLink own ik cls :: Cond.initialized cls :: vx_at0 own ic cls names, vx_ot w = true)
    (hU : vx_Zq Bundle.tN "UNASSIGNED_STACK" Bundle.steD A s s.heap) (hN : vx_Zq Bundle.tN "SUPPRESSED_SENTINEL" Bundle.listD A s s.heap) (hS : va_S A s.heap H locs) (hsize : ls.size = c.maxLocals)
    (d0 : decode cc pc = .ok (.new ik, 3)) (d3 : decode cc (pc + 3) = .ok (.dup, 1)) (d4 : decode cc (pc + 4) = .ok (.invokespecial ic, 3))
    (hK : va_K D cl tys s) (hP : va_P D cl ws H) (hD : va_D A ws) (hA : ∀ q, s.heap.size ≤ q → A q) (hc : cl[ci]? = some (cls, T0, 0))
    (hRframes : names.length + 3 < R.frames) (hRlocals : (rest.map fun v => v.category).sum + (13 * (names.length + 1) + 42) ≤ R.locals) (hRcells : cells + 1 ≤ R.cells) (hRslots : slots + 6 ≤ R.slots)
    (kk : ∀ (q : Nat) (H1 : Heap), va_P D cl (ws ++ [(q, .inr (ci, []))]) H1 → va_D A (ws ++ [(q, .inr (ci, []))]) → va_S A s.heap H1 locs → W p l e R s m args below meth c H1 locs (cells + 1) (slots + 6) Q (F0 m (pc + 7) ls (.ref q :: rest))) :
    W p l e R s m args below meth c H locs cells slots Q (F0 m pc ls rest) := by
  intro T hT X
  subst hT
  have htr : e.platform.stackTraces = false := (show e.platform.stackTraces = l.stackTraces by rw [X.admits.platform]).trans hl
  have Y := vx_rebase X (R' := { frames := R.frames, locals := R.locals, cells := 1, slots := 6 }) (Nat.le_refl _) (Nat.le_refl _) hRcells hRslots
  obtain ⟨s', hA'⟩ : ∃ z, z = (T.setVm s.vm).setFrames (.invoking m args :: below) := ⟨_, rfl⟩
  rw [← hA'] at Y
  have hvm : s'.vm = s.vm := by rw [hA']; rfl
  have hhp : s'.heap = T.heap := by rw [hA']; rfl
  have hW0 : s.WarmedH s'.vm := by rw [hvm]; exact State.WarmedH.refl s
  have hat' : ∀ w ∈ vx_at0 own ic cls names, w.before args s' = true := fun w hw => vx_ot_at hW0 hvm.symm (hgood w (List.mem_cons_of_mem _ (List.mem_cons_of_mem _ hw))) (hat w hw)
  have hk' : (Cond.classLink own ik cls).before args s' = true := vx_ot_at hW0 hvm.symm (hgood _ List.mem_cons_self) hk
  have hini' : (Cond.initialized cls).before args s' = true := vx_ot_at hW0 hvm.symm (hgood _ (List.mem_cons_of_mem _ List.mem_cons_self)) hini
  have hU' : vx_Zq Bundle.tN "UNASSIGNED_STACK" Bundle.steD A s' s'.heap := by rw [hhp]; exact vx_Zq.moved hW0.alike (hU.kept hS.2.1)
  have hN' : vx_Zq Bundle.tN "SUPPRESSED_SENTINEL" Bundle.listD A s' s'.heap := by rw [hhp]; exact vx_Zq.moved hW0.alike (hN.kept hS.2.1)
  have h : ∀ w ∈ Bundle.ownAtoms0 own ic cls names, w.before args s' = true := vx_own hat' (vx_isRefq hU'.1) (vx_isRefq hN'.1) hU'.2.word hN'.2.word
  have hown' : s'.vm.findClass own = some m.cls := by rw [hvm]; exact hown
  have hins : (Cond.instantiable cls 6).before args s' = true := h _ (by simp [Bundle.ownAtoms0])
  obtain ⟨vm₁, cX, kX, hfX, hkX, -, -, X₁, st1⟩ := Y.newCold hexec (own := own) (C := cls) (index := ik) (n := 6) hown' hk' hins hini'
    (g := F0 m pc ls rest) rfl (by rw [hb]; exact d0) (Nat.le_refl _) (Nat.le_refl _)
  generalize hT1 : (T.setVm vm₁).pushCell { cls := cX, slots := kX.instanceTypes.map defaultValue, vm := .none } = T1 at X₁ st1
  have hcat : (Value.ref T.heap.size).category = 1 := rfl
  have hcellA : T1.heap[T.heap.size]? = some (freshCell cX kX) := by rw [← hT1]; exact State.heap_pushCell_size _ _
  have d3' : decode c.code (pc + 3) = .ok (.dup, 1) := by rw [hb]; exact d3
  obtain ⟨V, ce, L, Z, hL, hlt, hcl9, hvm9, st⟩ := vx_ctorMade0 X₁ hexec htr (own := own) (cls := cls) (names := names) (ic := ic) hown' hcls hnames h (fun x hx => nomatch hx) hfX hkX hcellA (by rw [hhp]; exact Nat.le_refl _)
    (g := { method := m, pc := pc + 4, locals := ls, stack := .ref T.heap.size :: .ref T.heap.size :: rest, locked := none }) rfl hsize (rest := rest) rfl
    (by rw [hb]; exact d4) hRframes (by simp only [List.map_cons, List.sum_cons, hcat]; omega)
  have Z0 := Stand.forget (locs := []) Z (fun y hy => by rw [hL y hy, hhp]; exact Nat.le_refl _)
  obtain ⟨f1, f2⟩ := vx_frame Z0.same
  rw [hhp] at f1 f2
  have hcid : ce.cls = D.1 ci := by
    rw [hcl9]
    have h1 := (hK.1 ci _ hc).2.1
    rw [hvm] at hfX
    exact Option.some.inj (hfX.symm.trans h1)
  have hh : (V.setCell T.heap.size ce).heap[T.heap.size]? = some ce := heapAt_setCell_self (s := V) ce hlt
  subst hA'
  have X5 := vx_back9 X Y Z0
  have X6 : Stand p l e R s m args below meth c (V.setCell T.heap.size ce) locs (cells + 1) (slots + 6) := { X5 with same := X5.same.mono (by omega) (by omega) }
  have hk9 : ∀ (k : Nat) (x : Nat × va_E), ws[k]? = some x → (V.setCell T.heap.size ce).heap[x.1]? = T.heap[x.1]? := fun k x hx => f2 x.1 ((hP k x hx).lt) (fun z hz => nomatch hz)
  obtain ⟨t, a1, b1⟩ := kk T.heap.size (V.setCell T.heap.size ce).heap ((hP.kept hk9).app (fun k x hx => by
      have hz : k < 1 := (List.getElem?_eq_some_iff.mp hx).1
      rw [show k = 0 by omega] at hx
      cases hx
      exact ⟨_, hc, ce, hh, hcid, hvm9, fun k hk => absurd hk (Nat.not_lt_zero k)⟩)) (hD.push hP rfl (hA _ hS.1)) ⟨Nat.le_trans hS.1 f1, fun q h1 h2 => (f2 q (Nat.lt_of_lt_of_le h1 hS.1) (fun z hz => nomatch hz)).trans (hS.2.1 q h1 h2), hS.2.2⟩ _ rfl X6
  refine ⟨t, st1 _ ?_, b1⟩
  show Steps p.tables e below (T1.setTop { method := m, pc := pc + 3, locals := ls, stack := .ref T.heap.size :: rest, locked := none }) _
  jvm_step X₁.here [X₁.here.top, hexec, d3', Value.category]
  exact st _ a1
/-- 'throw x' of an object that was made before -/
theorem vx_athrow {cc : ByteArray} {pc : Nat} (hexec : p.tables.exec = Jvm.exec) (hb : c.code = cc) {q : Addr} (hdg : decode cc pc = .ok (.athrow, 1)) (k : vx_W p l e R s m args below meth c H locs cells slots Q (F0 m pc ls rest) q) : W p l e R s m args below meth c H locs cells slots Q (F0 m pc ls (.ref q :: rest)) := by
  intro T hT X
  obtain ⟨t, st, hq⟩ := k T hT X
  refine ⟨t, ?_, hq⟩
  have hdg' : decode c.code pc = .ok (.athrow, 1) := by rw [hb]; exact hdg
  jvm_step X.here [X.here.top, hexec, hdg', athrow.wp_sem]
  exact st
end VXK2
/-! ===== END ===== -/
/-! ===== BEGIN a constructor that throws (launches without stack traces) ===== -/
section VXIA
variable {p : Program} {l : Launch} {e : Env} {R : Room} {s : State} {m : MethodId} {args : Array Value} {below : List Frame} {meth : Method} {c : Code} {T : State} {locs : List Loc} {cells slots : Nat}
theorem vx_callI (X : Stand p l e R s m args below meth c T locs cells slots) (hexec : p.tables.exec = Jvm.exec) {own : String} {index : Nat} {y : MethodName} {bytes : ByteArray} {maxL : Nat}
    (hown : s.vm.findClass own = some m.cls) (hy1 : y.name = "<init>") (hlink : (Cond.methodLink own index y).before args s = true) (hinst : (Cond.instanceMethod y).before args s = true)
    (hcode : (Cond.code y bytes maxL none).before args s = true) (hy : y.cls ≠ "java/lang/invoke/MethodHandle" ∧ y.cls ≠ "java/lang/invoke/VarHandle")
    {W9 : Nat} {Pre : Pt → Array Value → Prop} {Post : Pt → Array Value → Option Value → Pt → Prop} {PostX : Pt → Array Value → Addr → Pt → Prop} (hK : vx_Back l R p e below s args y 3 W9 Pre Post PostX)
    {g : JFrame} (hg : g.method = m) (hsize : g.locals.size = c.maxLocals) {a : Addr} {argsL rest : List Value} (hlen : ∀ sig, parseMethodDescriptor y.desc = some sig → argsL.length = sig.parameters.length)
    (hstack : g.stack = argsL.reverse ++ .ref a :: rest) (hW : 2 * g.monitorRoom + (rest.map fun v => v.category).sum ≤ W9) (hdg : decode c.code g.pc = .ok (.invokespecial index, 3))
    (hpre : ∀ vm₁, s.WarmedH vm₁ → Pre ⟨T.setVm vm₁, locs, cells, slots⟩ (Value.ref a :: argsL).toArray) :
    (∃ (v : Option Value) (vm₁ : Vm) (B : Pt), s.WarmedH vm₁ ∧ Stand p l e R s m args below meth c B.U B.locs B.cells B.slots ∧ Post ⟨T.setVm vm₁, locs, cells, slots⟩ (Value.ref a :: argsL).toArray v B ∧
      ∀ target, Steps p.tables e below (B.U.setTop { g with pc := g.pc + 3, stack := v.toList ++ rest }) target → Steps p.tables e below (T.setTop g) target) ∨
    (∃ (q : Addr) (vm₁ : Vm) (B : Pt), s.WarmedH vm₁ ∧ Stand p l e R s m args below meth c B.U B.locs B.cells B.slots ∧ PostX ⟨T.setVm vm₁, locs, cells, slots⟩ (Value.ref a :: argsL).toArray q B ∧
      Steps p.tables e below (T.setTop g) ((B.U.setTop { g with stack := rest }).pushFrame (.throwing q))) := by
  subst hg
  have hpl : e.platform.magicAccessors = ({} : Platform).magicAccessors := by rw [X.admits.platform]
  obtain ⟨mk, methM, cM, kP, vm₁, hnamed, hmethM, hcodeM, -, hlocalsM, -, hkP, -, hW₁, hstep₁⟩ := Steps.initColdArgs (e := e) X.here hexec X.warmed hpl hown hy1 hy hlink hinst hcode (f := g) rfl hlen hstack hdg
  have X₁ := X.noted hW₁
  rcases hK g.method meth c ⟨T.setVm vm₁, locs, cells, slots⟩ { g with stack := rest } (.invokespecial index) mk (Value.ref a :: argsL).toArray X₁ rfl hsize hdg hW (X₁.named hnamed) (hpre vm₁ X₁.warmed) with ⟨v, B, X', hpost, hsteps⟩ | ⟨q, B, X', hpost, hsteps⟩
  · exact Or.inl ⟨v, vm₁, B, X₁.warmed, X', hpost, fun target h => hstep₁ _ fun acts => by rw [doInvoke_state]; exact hsteps.trans h⟩
  · exact Or.inr ⟨q, vm₁, B, X₁.warmed, X', hpost, hstep₁ _ fun acts => by rw [doInvoke_state]; exact hsteps⟩
end VXIA
section VXIB
variable {p : Program} {l : Launch} {e : Env} {R : Room} {s : State} {m : MethodId} {args : Array Value} {below : List Frame} {meth : Method} {c : Code} {H : Heap} {locs : List Loc} {cells slots : Nat}
variable {y : MethodName} {bytes cc : ByteArray} {maxL nL mc ms n index : Nat} {ret : Option FieldType} {ws : List Cond} {rm : Room} {Pc : Array Value → State → Prop} {Qc : Array Value → State → Outcome → State → Prop} {XC : String → State → State → Prop} {free : Addr → Prop} {Ts : List Cond} {own C : String} {b : Addr} {As rest : List Value} {g : JFrame}
theorem vx_runI (S : CallFix p m c cc nL s args Ts own) (hM : vx_Met l y ws rm Pc Qc XC mc ms free) (cw : CallB R s args own index y bytes maxL none ws rm mc ms n ∧ y.name = "<init>" ∧ (Cond.instanceMethod y).before args s = true) (hp : PreS s H Pc (.ref b :: As))
    (hg : g.method = m) (hn : As.length = n) (hsize : g.locals.size = nL) (hstack : g.stack = As.reverse ++ .ref b :: rest) (hW : 2 * g.monitorRoom + (rest.map fun v => v.category).sum ≤ 8) (hdg : decode cc g.pc = .ok (.invokespecial index, 3)) (hf : cells + mc ≤ R.cells ∧ slots + ms ≤ R.slots) :
    vx_Run p l e R s m args below meth c H locs cells slots mc ms g rest (Qc (Value.ref b :: As).toArray) XC free := by
  have hK : vx_Back l R p e below s args y 3 8 (PreOf R mc ms Pc) (PostOf Qc mc ms free) (vx_Post XC mc ms free) := vx_callBack cw.1 hM hp.1
  obtain ⟨⟨-, -, -, -, -, -, hcode, -, hy, hlen, hl⟩, hy1, hin⟩ := cw
  obtain ⟨hx, hb, hml, ho, -⟩ := S
  have hPc := hp.2
  intro T hT X
  rcases vx_callI X hx (bytes := bytes) (maxL := maxL) ho hy1 hl hin hcode hy hK hg (hsize.trans hml.symm) (a := b) (argsL := As) (rest := rest) (fun sig h => hn.trans (hlen sig h)) hstack hW (by rw [hb]; exact hdg)
    (fun vm₁ hW₁ => ⟨hf.1, hf.2, hPc (T.setVm vm₁) hT hW₁⟩) with ⟨v, vm₁, ⟨U', l2, c2, s2⟩, hW₁, X', ⟨g', mk, t, L, e1, e2, hq, h1, hL, h2, h3⟩, st⟩ | ⟨q, vm₁, ⟨U', l2, c2, s2⟩, hW₁, X', ⟨g', mk, t, L, E, ce, e1, e2, hq, hce, hcv, hcl, h1, hL, h2, h3⟩, st⟩
  · dsimp only [Pt.U, Pt.locs, Pt.cells, Pt.slots] at X' e1 e2 h1 h2 h3 st
    subst h1; subst h2; subst h3
    exact Or.inl ⟨v, (T.setVm vm₁).calling g' mk (Value.ref b :: As).toArray, t, U', L, hT, X', hL, e1, e2, hq, st⟩
  · dsimp only [Pt.U, Pt.locs, Pt.cells, Pt.slots] at X' e1 e2 h1 h2 h3 st hcl
    subst h1; subst h2; subst h3
    exact Or.inr ⟨q, (T.setVm vm₁).calling g' mk (Value.ref b :: As).toArray, t, U', L, E, ce, hT, X', hL, e1, e2, hq, hce, hcv, vx_cls hW₁ hcl, st⟩
end VXIB
/-! ===== END ===== -/
/-! ===== BEGIN a private constructor of a nest mate that throws ===== -/
section VXIC
variable {p : Program} {l : Launch} {e : Env} {R : Room} {s : State} {m : MethodId} {args : Array Value} {below : List Frame} {meth : Method} {c : Code} {T : State} {locs : List Loc} {cells slots : Nat}
theorem vx_callIN (X : Stand p l e R s m args below meth c T locs cells slots) (hexec : p.tables.exec = Jvm.exec) {own : String} {index : Nat} {host : String} {y : MethodName} {bytes : ByteArray} {maxL : Nat}
    (hown : s.vm.findClass own = some m.cls) (hy1 : y.name = "<init>") (hlink : (Cond.methodLinkNest own index y host).before args s = true) (hinst : (Cond.instanceMethod y).before args s = true)
    (hcode : (Cond.code y bytes maxL none).before args s = true) (hy : y.cls ≠ "java/lang/invoke/MethodHandle" ∧ y.cls ≠ "java/lang/invoke/VarHandle")
    {W9 : Nat} {Pre : Pt → Array Value → Prop} {Post : Pt → Array Value → Option Value → Pt → Prop} {PostX : Pt → Array Value → Addr → Pt → Prop} (hK : vx_Back l R p e below s args y 3 W9 Pre Post PostX)
    {g : JFrame} (hg : g.method = m) (hsize : g.locals.size = c.maxLocals) {a : Addr} {argsL rest : List Value} (hlen : ∀ sig, parseMethodDescriptor y.desc = some sig → argsL.length = sig.parameters.length)
    (hstack : g.stack = argsL.reverse ++ .ref a :: rest) (hW : 2 * g.monitorRoom + (rest.map fun v => v.category).sum ≤ W9) (hdg : decode c.code g.pc = .ok (.invokespecial index, 3))
    (hpre : ∀ vm₁, s.WarmedH vm₁ → Pre ⟨T.setVm vm₁, locs, cells, slots⟩ (Value.ref a :: argsL).toArray) :
    (∃ (v : Option Value) (vm₁ : Vm) (B : Pt), s.WarmedH vm₁ ∧ Stand p l e R s m args below meth c B.U B.locs B.cells B.slots ∧ Post ⟨T.setVm vm₁, locs, cells, slots⟩ (Value.ref a :: argsL).toArray v B ∧
      ∀ target, Steps p.tables e below (B.U.setTop { g with pc := g.pc + 3, stack := v.toList ++ rest }) target → Steps p.tables e below (T.setTop g) target) ∨
    (∃ (q : Addr) (vm₁ : Vm) (B : Pt), s.WarmedH vm₁ ∧ Stand p l e R s m args below meth c B.U B.locs B.cells B.slots ∧ PostX ⟨T.setVm vm₁, locs, cells, slots⟩ (Value.ref a :: argsL).toArray q B ∧
      Steps p.tables e below (T.setTop g) ((B.U.setTop { g with stack := rest }).pushFrame (.throwing q))) := by
  subst hg
  have hpl : e.platform.magicAccessors = ({} : Platform).magicAccessors := by rw [X.admits.platform]
  obtain ⟨mk, methM, cM, kP, vm₁, hnamed, hmethM, hcodeM, -, hlocalsM, -, hkP, -, hW₁, hstep₁⟩ := Steps.initColdArgsNest (e := e) X.here hexec X.warmed hpl hown hy1 hy hlink hinst hcode (f := g) rfl hlen hstack hdg
  have X₁ := X.noted hW₁
  rcases hK g.method meth c ⟨T.setVm vm₁, locs, cells, slots⟩ { g with stack := rest } (.invokespecial index) mk (Value.ref a :: argsL).toArray X₁ rfl hsize hdg hW (X₁.named hnamed) (hpre vm₁ X₁.warmed) with ⟨v, B, X', hpost, hsteps⟩ | ⟨q, B, X', hpost, hsteps⟩
  · exact Or.inl ⟨v, vm₁, B, X₁.warmed, X', hpost, fun target h => hstep₁ _ fun acts => by rw [doInvoke_state]; exact hsteps.trans h⟩
  · exact Or.inr ⟨q, vm₁, B, X₁.warmed, X', hpost, hstep₁ _ fun acts => by rw [doInvoke_state]; exact hsteps⟩
end VXIC
section VXID
variable {p : Program} {l : Launch} {e : Env} {R : Room} {s : State} {m : MethodId} {args : Array Value} {below : List Frame} {meth : Method} {c : Code} {H : Heap} {locs : List Loc} {cells slots : Nat}
theorem vx_runIN {y : MethodName} {bytes cc : ByteArray} {maxL nL mc ms n index : Nat} {ws : List Cond} {rm : Room} {Pc : Array Value → State → Prop} {Qc : Array Value → State → Outcome → State → Prop} {XC : String → State → State → Prop} {free : Addr → Prop} {Ts : List Cond} {own host : String} {b : Addr} {As rest : List Value} {g : JFrame}
    (S : CallFix p m c cc nL s args Ts own) (hM : vx_Met l y ws rm Pc Qc XC mc ms free) (cw : va_CN R s args own index y host bytes maxL none ws rm mc ms n ∧ y.name = "<init>" ∧ (Cond.instanceMethod y).before args s = true) (hp : PreS s H Pc (.ref b :: As))
    (hg : g.method = m) (hn : As.length = n) (hsize : g.locals.size = nL) (hstack : g.stack = As.reverse ++ .ref b :: rest) (hW : 2 * g.monitorRoom + (rest.map fun v => v.category).sum ≤ 8) (hdg : decode cc g.pc = .ok (.invokespecial index, 3)) (hf : cells + mc ≤ R.cells ∧ slots + ms ≤ R.slots) :
    vx_Run p l e R s m args below meth c H locs cells slots mc ms g rest (Qc (Value.ref b :: As).toArray) XC free := by
  obtain ⟨⟨⟨hrc, hrs, hfr, hlo, hws, hcw⟩, hcode, hini, hy, hlen, hl⟩, hx1, hx2⟩ := cw
  have hK : vx_Back l R p e below s args y 3 8 (PreOf R mc ms Pc) (PostOf Qc mc ms free) (vx_Post XC mc ms free) := vx_back (bytes := bytes) (maxL := maxL) (ret := none) hM hp.1 hrc hrs hfr hlo hws hcw (fun a' U hW => word_at hW (Or.inl (by first | rfl | simp [Cond.onTables, Cond.keeps, Cond.steady])) hini)
  obtain ⟨hx, hb, hml, ho, -⟩ := S
  have hPc := hp.2
  intro T hT X
  rcases vx_callIN X hx (bytes := bytes) (maxL := maxL) ho hx1 hl hx2 hcode hy hK hg (hsize.trans hml.symm) (a := b) (argsL := As) (rest := rest) (fun sig h => hn.trans (hlen sig h)) hstack hW (by rw [hb]; exact hdg)
    (fun vm₁ hW₁ => ⟨hf.1, hf.2, hPc (T.setVm vm₁) hT hW₁⟩) with ⟨v, vm₁, ⟨U', l2, c2, s2⟩, hW₁, X', ⟨g', mk, t, L, e1, e2, hq, h1, hL, h2, h3⟩, st⟩ | ⟨q, vm₁, ⟨U', l2, c2, s2⟩, hW₁, X', ⟨g', mk, t, L, E, ce, e1, e2, hq, hce, hcv, hcl, h1, hL, h2, h3⟩, st⟩
  · dsimp only [Pt.U, Pt.locs, Pt.cells, Pt.slots] at X' e1 e2 h1 h2 h3 st
    subst h1; subst h2; subst h3
    exact Or.inl ⟨v, (T.setVm vm₁).calling g' mk (Value.ref b :: As).toArray, t, U', L, hT, X', hL, e1, e2, hq, st⟩
  · dsimp only [Pt.U, Pt.locs, Pt.cells, Pt.slots] at X' e1 e2 h1 h2 h3 st hcl
    subst h1; subst h2; subst h3
    exact Or.inr ⟨q, (T.setVm vm₁).calling g' mk (Value.ref b :: As).toArray, t, U', L, E, ce, hT, X', hL, e1, e2, hq, hce, hcv, vx_cls hW₁ hcl, st⟩
end VXID
/-! ===== END ===== -/
/-! ===== BEGIN a method of a class above, found by the receiver, that may throw (follows va_callVU, va_runU of this kit) ===== -/
section
variable {p : Program} {l : Launch} {e : Env} {R : Room} {s : State} {m : MethodId} {args : Array Value} {below : List Frame} {meth : Method} {c : Code} {H : Heap} {locs : List Loc} {cells slots : Nat}
theorem vx_callVU {T : State} {locs : List Loc} {cells slots : Nat} (X : Stand p l e R s m args below meth c T locs cells slots) (hexec : p.tables.exec = Jvm.exec) {own C owner : String} {index : Nat} {x y : MethodName} {bytes : ByteArray} {maxL : Nat} {ret : Option FieldType}
    (hown : s.vm.findClass own = some m.cls) (hlink : (Cond.methodLink own index x).before args s = true) (hsame : (Cond.sameMethod x.cls owner x.name x.desc).before args s = true)
    (hd0 : va_Decl s ⟨owner, x.name, x.desc⟩) (howner : owner ≠ "java/lang/invoke/MethodHandle" ∧ owner ≠ "java/lang/invoke/VarHandle")
    (hsel : (Cond.selects C x y).before args s = true) (hinst : (Cond.instanceMethod y).before args s = true) (hcode : (Cond.code y bytes maxL ret).before args s = true)
    {W : Nat} {Pre : Pt → Array Value → Prop} {Post : Pt → Array Value → Option Value → Pt → Prop} {PostX : Pt → Array Value → Addr → Pt → Prop} (hK : vx_Back l R p e below s args y 3 W Pre Post PostX)
    {b : Addr} {cellB : Cell} (hcell : T.heap[b]? = some cellB) (hobj : cellB.vm.isStatics = false) (hcls : s.vm.findClass C = some cellB.cls)
    {g : JFrame} (hg : g.method = m) (hsize : g.locals.size = c.maxLocals) {argsL rest : List Value} (hlen : ∀ sig, parseMethodDescriptor x.desc = some sig → argsL.length = sig.parameters.length)
    (hstack : g.stack = argsL.reverse ++ .ref b :: rest) (hW : 2 * g.monitorRoom + (rest.map fun v => v.category).sum ≤ W) (hdg : decode c.code g.pc = .ok (.invokevirtual index, 3))
    (hpre : ∀ vm₁, s.WarmedH vm₁ → Pre ⟨T.setVm vm₁, locs, cells, slots⟩ (Value.ref b :: argsL).toArray) :
    (∃ (v : Option Value) (vm₁ : Vm) (B : Pt), s.WarmedH vm₁ ∧ Stand p l e R s m args below meth c B.U B.locs B.cells B.slots ∧ Post ⟨T.setVm vm₁, locs, cells, slots⟩ (Value.ref b :: argsL).toArray v B ∧
      ∀ target, Steps p.tables e below (B.U.setTop { g with pc := g.pc + 3, stack := v.toList ++ rest }) target → Steps p.tables e below (T.setTop g) target) ∨
    (∃ (q : Addr) (vm₁ : Vm) (B : Pt), s.WarmedH vm₁ ∧ Stand p l e R s m args below meth c B.U B.locs B.cells B.slots ∧ PostX ⟨T.setVm vm₁, locs, cells, slots⟩ (Value.ref b :: argsL).toArray q B ∧
      Steps p.tables e below (T.setTop g) ((B.U.setTop { g with stack := rest }).pushFrame (.throwing q))) := by
  obtain ⟨r0, r, hn, hrm, hstR, hsigR⟩ := hd0
  obtain ⟨cn, ck, r1, hcn, hck, hni, hf, hn1⟩ := Cond.sameMethod_found hsame
  cases hn.symm.trans hn1
  obtain ⟨mk, methM, hnamed, hmethM, -, habM⟩ := Cond.instanceMethod_spec hinst
  obtain ⟨c2, r2, m2, q1, q2, q3, q4, kP, hkP, hkPi⟩ := Cond.selects_spec hsel
  cases hcls.symm.trans q1
  cases hf.symm.trans q2
  cases hnamed.symm.trans q3
  have hselP : selectMethod e.platform s.vm cellB.cls r0 = .method mk := by rw [Launch.admits_selectMethod X.admits]; exact q4
  obtain ⟨vm₁, X₁, hstep₁⟩ := X.invokevirtualUp hexec hown hlink hsame howner hn hrm hstR (a := b) (cell := cellB) hcell
    (fun z h => by rw [h] at hobj; cases hobj) hselP hmethM habM hkP hkPi (g := g) hg (argsL := argsL) (rest := rest) (hlen _ hsigR) hstack hdg
  rcases hK m meth c ⟨T.setVm vm₁, locs, cells, slots⟩ { g with stack := rest } (.invokevirtual index) mk (Value.ref b :: argsL).toArray X₁ hg hsize hdg hW (X₁.named hnamed) (hpre vm₁ X₁.warmed) with ⟨v, B, X', hpost, hsteps⟩ | ⟨q, B, X', hpost, hsteps⟩
  · exact Or.inl ⟨v, vm₁, B, X₁.warmed, X', hpost, fun target h => hstep₁ _ fun acts => by rw [doInvoke_state]; exact hsteps.trans h⟩
  · exact Or.inr ⟨q, vm₁, B, X₁.warmed, X', hpost, hstep₁ _ fun acts => by rw [doInvoke_state]; exact hsteps⟩
theorem vx_runU {x y : MethodName} {bytes cc : ByteArray} {maxL nL mc ms n index : Nat} {ret : Option FieldType} {ws : List Cond} {rm : Room} {Pc : Array Value → State → Prop} {Qc : Array Value → State → Outcome → State → Prop} {XC : String → State → State → Prop} {free : Addr → Prop} {Ts : List Cond} {own C owner : String} {b : Addr} {As rest : List Value} {g : JFrame}
    (S : CallFix p m c cc nL s args Ts own) (hM : vx_Met l y ws rm Pc Qc XC mc ms free) (cw : va_CU R s args own C owner index x y bytes maxL ret ws rm mc ms n) (hp : PreV s H C b Pc As)
    (hg : g.method = m) (hn : As.length = n) (hsize : g.locals.size = nL) (hstack : g.stack = As.reverse ++ .ref b :: rest) (hW : 2 * g.monitorRoom + (rest.map fun v => v.category).sum ≤ 8) (hdg : decode cc g.pc = .ok (.invokevirtual index, 3)) (hf : cells + mc ≤ R.cells ∧ slots + ms ≤ R.slots) :
    vx_Run p l e R s m args below meth c H locs cells slots mc ms g rest (Qc (Value.ref b :: As).toArray) XC free := by
  obtain ⟨hrc, hrs, hfr, hlo, hws, hcw⟩ := cw.back
  have hini := cw.init
  have hK : vx_Back l R p e below s args y 3 8 (PreOf R mc ms Pc) (PostOf Qc mc ms free) (vx_Post XC mc ms free) := vx_back (bytes := bytes) (maxL := maxL) (ret := ret) hM hp.1 hrc hrs hfr hlo hws hcw (fun a' U hW => word_at hW (Or.inl (by first | rfl | simp [Cond.onTables, Cond.keeps, Cond.steady])) hini)
  obtain ⟨hx, hb, hml, ho, -⟩ := S
  obtain ⟨-, ⟨cellB, hcB, hoB, hclB⟩, hPc⟩ := hp
  intro T hT X
  rcases vx_callVU X hx (C := C) (owner := owner) (bytes := bytes) (maxL := maxL) (ret := ret) ho cw.link cw.same cw.decl cw.notMH cw.sel cw.inst cw.code hK (by rw [hT]; exact hcB) hoB hclB hg (hsize.trans hml.symm) (argsL := As) (rest := rest) (fun sig h => hn.trans (cw.len sig h)) hstack hW (by rw [hb]; exact hdg)
    (fun vm₁ hW₁ => ⟨hf.1, hf.2, hPc (T.setVm vm₁) hT hW₁⟩) with ⟨v, vm₁, ⟨U', l2, c2, s2⟩, hW₁, X', ⟨g', mk, t, L, e1, e2, hq, h1, hL, h2, h3⟩, st⟩ | ⟨q, vm₁, ⟨U', l2, c2, s2⟩, hW₁, X', ⟨g', mk, t, L, E, ce, e1, e2, hq, hce, hcv, hcl, h1, hL, h2, h3⟩, st⟩
  · dsimp only [Pt.U, Pt.locs, Pt.cells, Pt.slots] at X' e1 e2 h1 h2 h3 st
    subst h1; subst h2; subst h3
    exact Or.inl ⟨v, (T.setVm vm₁).calling g' mk (Value.ref b :: As).toArray, t, U', L, hT, X', hL, e1, e2, hq, st⟩
  · dsimp only [Pt.U, Pt.locs, Pt.cells, Pt.slots] at X' e1 e2 h1 h2 h3 st hcl
    subst h1; subst h2; subst h3
    exact Or.inr ⟨q, (T.setVm vm₁).calling g' mk (Value.ref b :: As).toArray, t, U', L, E, ce, hT, X', hL, e1, e2, hq, hce, hcv, vx_cls hW₁ hcl, st⟩
end
/-! ===== END ===== -/
/-! ===== BEGIN super.m(..) that may throw (follows va_callSU, va_runSU) ===== -/
section
variable {p : Program} {l : Launch} {e : Env} {R : Room} {s : State} {m : MethodId} {args : Array Value} {below : List Frame} {meth : Method} {c : Code} {H : Heap} {locs : List Loc} {cells slots : Nat}
theorem vx_callSU {T : State} {locs : List Loc} {cells slots : Nat} (X : Stand p l e R s m args below meth c T locs cells slots) (hexec : p.tables.exec = Jvm.exec) {own : String} {index : Nat} {y : MethodName} {bytes : ByteArray} {maxL : Nat} {ret : Option FieldType}
    (hown : s.vm.findClass own = some m.cls) (hlink : (Cond.methodLink own index y).before args s = true) (hsame : (Cond.sameMethod y.cls y.cls y.name y.desc).before args s = true) (hsup : (Cond.superclass own y.cls).before args s = true)
    (hinst : (Cond.instanceMethod y).before args s = true) (hcode : (Cond.code y bytes maxL ret).before args s = true) (hno : y.name ≠ "<init>")
    {W : Nat} {Pre : Pt → Array Value → Prop} {Post : Pt → Array Value → Option Value → Pt → Prop} {PostX : Pt → Array Value → Addr → Pt → Prop} (hK : vx_Back l R p e below s args y 3 W Pre Post PostX)
    {b : Addr} {cellB : Cell} {kB : Class} (hcell : T.heap[b]? = some cellB) (hobj : cellB.vm.isStatics = false) (hkB : s.vm.classes[cellB.cls]? = some kB)
    {g : JFrame} (hg : g.method = m) (hsize : g.locals.size = c.maxLocals) {argsL rest : List Value} (hlen : ∀ sig, parseMethodDescriptor y.desc = some sig → argsL.length = sig.parameters.length)
    (hstack : g.stack = argsL.reverse ++ .ref b :: rest) (hW : 2 * g.monitorRoom + (rest.map fun v => v.category).sum ≤ W) (hdg : decode c.code g.pc = .ok (.invokespecial index, 3))
    (hpre : ∀ vm₁, s.WarmedH vm₁ → Pre ⟨T.setVm vm₁, locs, cells, slots⟩ (Value.ref b :: argsL).toArray) :
    (∃ (v : Option Value) (vm₁ : Vm) (B : Pt), s.WarmedH vm₁ ∧ Stand p l e R s m args below meth c B.U B.locs B.cells B.slots ∧ Post ⟨T.setVm vm₁, locs, cells, slots⟩ (Value.ref b :: argsL).toArray v B ∧
      ∀ target, Steps p.tables e below (B.U.setTop { g with pc := g.pc + 3, stack := v.toList ++ rest }) target → Steps p.tables e below (T.setTop g) target) ∨
    (∃ (q : Addr) (vm₁ : Vm) (B : Pt), s.WarmedH vm₁ ∧ Stand p l e R s m args below meth c B.U B.locs B.cells B.slots ∧ PostX ⟨T.setVm vm₁, locs, cells, slots⟩ (Value.ref b :: argsL).toArray q B ∧
      Steps p.tables e below (T.setTop g) ((B.U.setTop { g with stack := rest }).pushFrame (.throwing q))) := by
  obtain ⟨mk, methM, hnamed, hmethM, hstM, habM⟩ := Cond.instanceMethod_spec hinst
  obtain ⟨methM', cM, hmethM', -, -, -, -, -, -, hsigM⟩ := Cond.code_spec hnamed hcode
  cases hmethM.symm.trans hmethM'
  obtain ⟨ps, dk, kp, hps, hdk, hkp, hsuper, -, -, hnid⟩ := Cond.superclass_spec hown hsup
  have hn : s.methodNamed? ⟨y.cls, y.name, y.desc⟩ = some mk := hnamed
  have hpm : ps = mk.cls := Option.some.inj (hps.symm.trans (findClass_of_methodNamed hnamed))
  have hsub : s.vm.isSubclass ps mk.cls = true := by rw [hpm]; simp [Vm.isSubclass, Vm.isSubclassAux]
  obtain ⟨vm₁, X₁, hstep₁⟩ := X.invokespecialUp hexec hown hlink hsame hn hmethM hstM habM hno hdk hnid hps hsuper hsub (a := b) (cell := cellB) hcell
    (fun z h => by rw [h] at hobj; cases hobj) hkB (g := g) hg (argsL := argsL) (rest := rest) (hlen _ hsigM) hstack hdg
  rcases hK m meth c ⟨T.setVm vm₁, locs, cells, slots⟩ { g with stack := rest } (.invokespecial index) mk (Value.ref b :: argsL).toArray X₁ hg hsize hdg hW (X₁.named hnamed) (hpre vm₁ X₁.warmed) with ⟨v, B, X', hpost, hsteps⟩ | ⟨q, B, X', hpost, hsteps⟩
  · exact Or.inl ⟨v, vm₁, B, X₁.warmed, X', hpost, fun target h => hstep₁ _ (by rw [doInvoke_state]; exact hsteps.trans h)⟩
  · exact Or.inr ⟨q, vm₁, B, X₁.warmed, X', hpost, hstep₁ _ (by rw [doInvoke_state]; exact hsteps)⟩
theorem vx_runSU {y : MethodName} {bytes cc : ByteArray} {maxL nL mc ms n index : Nat} {ret : Option FieldType} {ws : List Cond} {rm : Room} {Pc : Array Value → State → Prop} {Qc : Array Value → State → Outcome → State → Prop} {XC : String → State → State → Prop} {free : Addr → Prop} {Ts : List Cond} {own C : String} {cC : ClassId} {b : Addr} {As rest : List Value} {g : JFrame}
    (hat : ClassAt s C cC) (S : CallFix p m c cc nL s args Ts own) (hM : vx_Met l y ws rm Pc Qc XC mc ms free) (cw : va_CS R s args own index y bytes maxL ret ws rm mc ms n) (hp : PreV s H C b Pc As)
    (hg : g.method = m) (hn : As.length = n) (hsize : g.locals.size = nL) (hstack : g.stack = As.reverse ++ .ref b :: rest) (hW : 2 * g.monitorRoom + (rest.map fun v => v.category).sum ≤ 8) (hdg : decode cc g.pc = .ok (.invokespecial index, 3)) (hf : cells + mc ≤ R.cells ∧ slots + ms ≤ R.slots) :
    vx_Run p l e R s m args below meth c H locs cells slots mc ms g rest (Qc (Value.ref b :: As).toArray) XC free := by
  obtain ⟨⟨hrc, hrs, hfr, hlo, hws, hcw⟩, hl1, hl2, hl3, hl4, hini, hcode, hno, hlen⟩ := cw
  have hK : vx_Back l R p e below s args y 3 8 (PreOf R mc ms Pc) (PostOf Qc mc ms free) (vx_Post XC mc ms free) := vx_back (bytes := bytes) (maxL := maxL) (ret := ret) hM hp.1 hrc hrs hfr hlo hws hcw (fun a' U hW => word_at hW (Or.inl (by first | rfl | simp [Cond.onTables, Cond.keeps, Cond.steady])) hini)
  obtain ⟨hx, hb, hml, ho, -⟩ := S
  obtain ⟨-, ⟨cellB, hcB, hoB, hclB⟩, hPc⟩ := hp
  obtain ⟨hfc, kB, hkB, -⟩ := hat
  cases hfc.symm.trans hclB
  intro T hT X
  rcases vx_callSU X hx (bytes := bytes) (maxL := maxL) (ret := ret) ho hl1 hl2 hl3 hl4 hcode hno hK (by rw [hT]; exact hcB) hoB hkB hg (hsize.trans hml.symm) (argsL := As) (rest := rest) (fun sig h => hn.trans (hlen sig h)) hstack hW (by rw [hb]; exact hdg)
    (fun vm₁ hW₁ => ⟨hf.1, hf.2, hPc (T.setVm vm₁) hT hW₁⟩) with ⟨v, vm₁, ⟨U', l2, c2, s2⟩, hW₁, X', ⟨g', mk, t, L, e1, e2, hq, h1, hL, h2, h3⟩, st⟩ | ⟨q, vm₁, ⟨U', l2, c2, s2⟩, hW₁, X', ⟨g', mk, t, L, E, ce, e1, e2, hq, hce, hcv, hcl, h1, hL, h2, h3⟩, st⟩
  · dsimp only [Pt.U, Pt.locs, Pt.cells, Pt.slots] at X' e1 e2 h1 h2 h3 st
    subst h1; subst h2; subst h3
    exact Or.inl ⟨v, (T.setVm vm₁).calling g' mk (Value.ref b :: As).toArray, t, U', L, hT, X', hL, e1, e2, hq, st⟩
  · dsimp only [Pt.U, Pt.locs, Pt.cells, Pt.slots] at X' e1 e2 h1 h2 h3 st hcl
    subst h1; subst h2; subst h3
    exact Or.inr ⟨q, (T.setVm vm₁).calling g' mk (Value.ref b :: As).toArray, t, U', L, E, ce, hT, X', hL, e1, e2, hq, hce, hcv, vx_cls hW₁ hcl, st⟩
end
/-! ===== END ===== -/
/-! ===== BEGIN a private method of a nest mate that may throw (follows va_callVN, va_callSN, va_runVN, va_runSN) ===== -/
section
variable {p : Program} {l : Launch} {e : Env} {R : Room} {s : State} {m : MethodId} {args : Array Value} {below : List Frame} {meth : Method} {c : Code} {H : Heap} {locs : List Loc} {cells slots : Nat}
variable {T : State}
theorem vx_callVN (X : Stand p l e R s m args below meth c T locs cells slots) (hexec : p.tables.exec = Jvm.exec) {own C : String} {index : Nat} {host : String} {y : MethodName} {bytes : ByteArray} {maxL : Nat} {ret : Option FieldType}
    (hown : s.vm.findClass own = some m.cls) (hlink : (Cond.methodLinkNest own index y host).before args s = true) (hinst : (Cond.instanceMethod y).before args s = true) (hsel : (Cond.selects C y y).before args s = true)
    (hcode : (Cond.code y bytes maxL ret).before args s = true) (hy : y.cls ≠ "java/lang/invoke/MethodHandle" ∧ y.cls ≠ "java/lang/invoke/VarHandle")
    {W : Nat} {Pre : Pt → Array Value → Prop} {Post : Pt → Array Value → Option Value → Pt → Prop} {PostX : Pt → Array Value → Addr → Pt → Prop} (hK : vx_Back l R p e below s args y 3 W Pre Post PostX)
    {b : Addr} {cellB : Cell} (hcell : T.heap[b]? = some cellB) (hobj : cellB.vm.isStatics = false) (hcls : s.vm.findClass C = some cellB.cls)
    {g : JFrame} (hg : g.method = m) (hsize : g.locals.size = c.maxLocals) {argsL rest : List Value} (hlen : ∀ sig, parseMethodDescriptor y.desc = some sig → argsL.length = sig.parameters.length)
    (hstack : g.stack = argsL.reverse ++ .ref b :: rest) (hW : 2 * g.monitorRoom + (rest.map fun v => v.category).sum ≤ W) (hdg : decode c.code g.pc = .ok (.invokevirtual index, 3))
    (hpre : ∀ vm₁, s.WarmedH vm₁ → Pre ⟨T.setVm vm₁, locs, cells, slots⟩ (Value.ref b :: argsL).toArray) :
    (∃ (v : Option Value) (vm₁ : Vm) (B : Pt), s.WarmedH vm₁ ∧ Stand p l e R s m args below meth c B.U B.locs B.cells B.slots ∧ Post ⟨T.setVm vm₁, locs, cells, slots⟩ (Value.ref b :: argsL).toArray v B ∧
      ∀ target, Steps p.tables e below (B.U.setTop { g with pc := g.pc + 3, stack := v.toList ++ rest }) target → Steps p.tables e below (T.setTop g) target) ∨
    (∃ (q : Addr) (vm₁ : Vm) (B : Pt), s.WarmedH vm₁ ∧ Stand p l e R s m args below meth c B.U B.locs B.cells B.slots ∧ PostX ⟨T.setVm vm₁, locs, cells, slots⟩ (Value.ref b :: argsL).toArray q B ∧
      Steps p.tables e below (T.setTop g) ((B.U.setTop { g with stack := rest }).pushFrame (.throwing q))) := by
  obtain ⟨mk, methM, hnamed, hmethM, hstM, habM⟩ := Cond.instanceMethod_spec hinst
  obtain ⟨methM', cM, hmethM', -, -, -, -, -, -, hsigM⟩ := Cond.code_spec hnamed hcode
  cases hmethM.symm.trans hmethM'
  obtain ⟨c2, r2, m2, q1, q2, q3, q4, kP, hkP, hkPi⟩ := Cond.selects_spec hsel
  cases hcls.symm.trans q1
  cases (State.methodFound?_of_named hnamed hy).symm.trans q2
  cases hnamed.symm.trans q3
  have hselP : selectMethod e.platform s.vm cellB.cls mk = .method mk := by rw [Launch.admits_selectMethod X.admits]; exact q4
  obtain ⟨vm₁, X₁, hstep₁⟩ := X.invokevirtualNest hexec hown hlink hnamed hmethM hstM hkP hkPi hy (a := b) (cell := cellB) hcell
    (fun z h => by rw [h] at hobj; cases hobj) hselP hmethM habM hkP hkPi (g := g) hg (argsL := argsL) (rest := rest) (hlen _ hsigM) hstack hdg
  rcases hK m meth c ⟨T.setVm vm₁, locs, cells, slots⟩ { g with stack := rest } (.invokevirtual index) mk (Value.ref b :: argsL).toArray X₁ hg hsize hdg hW (X₁.named hnamed) (hpre vm₁ X₁.warmed) with ⟨v, B, X', hpost, hsteps⟩ | ⟨q, B, X', hpost, hsteps⟩
  · exact Or.inl ⟨v, vm₁, B, X₁.warmed, X', hpost, fun target h => hstep₁ _ fun acts => by rw [doInvoke_state]; exact hsteps.trans h⟩
  · exact Or.inr ⟨q, vm₁, B, X₁.warmed, X', hpost, hstep₁ _ fun acts => by rw [doInvoke_state]; exact hsteps⟩
theorem vx_callSN (X : Stand p l e R s m args below meth c T locs cells slots) (hexec : p.tables.exec = Jvm.exec) {own : String} {index : Nat} {host : String} {y : MethodName} {bytes : ByteArray} {maxL : Nat} {ret : Option FieldType}
    (hown : s.vm.findClass own = some m.cls) (hlink : (Cond.methodLinkNest own index y host).before args s = true) (hstat : (Cond.static y).before args s = true) (hinit : (Cond.initialized y.cls).before args s = true)
    (hcode : (Cond.code y bytes maxL ret).before args s = true) (hy : y.cls ≠ "java/lang/invoke/MethodHandle" ∧ y.cls ≠ "java/lang/invoke/VarHandle")
    {W : Nat} {Pre : Pt → Array Value → Prop} {Post : Pt → Array Value → Option Value → Pt → Prop} {PostX : Pt → Array Value → Addr → Pt → Prop} (hK : vx_Back l R p e below s args y 3 W Pre Post PostX)
    {g : JFrame} (hg : g.method = m) (hsize : g.locals.size = c.maxLocals) {argsL rest : List Value} (hlen : ∀ sig, parseMethodDescriptor y.desc = some sig → argsL.length = sig.parameters.length)
    (hstack : g.stack = argsL.reverse ++ rest) (hW : 2 * g.monitorRoom + (rest.map fun v => v.category).sum ≤ W) (hdg : decode c.code g.pc = .ok (.invokestatic index, 3))
    (hpre : ∀ vm₁, s.WarmedH vm₁ → Pre ⟨T.setVm vm₁, locs, cells, slots⟩ argsL.toArray) :
    (∃ (v : Option Value) (vm₁ : Vm) (B : Pt), s.WarmedH vm₁ ∧ Stand p l e R s m args below meth c B.U B.locs B.cells B.slots ∧ Post ⟨T.setVm vm₁, locs, cells, slots⟩ argsL.toArray v B ∧
      ∀ target, Steps p.tables e below (B.U.setTop { g with pc := g.pc + 3, stack := v.toList ++ rest }) target → Steps p.tables e below (T.setTop g) target) ∨
    (∃ (q : Addr) (vm₁ : Vm) (B : Pt), s.WarmedH vm₁ ∧ Stand p l e R s m args below meth c B.U B.locs B.cells B.slots ∧ PostX ⟨T.setVm vm₁, locs, cells, slots⟩ argsL.toArray q B ∧
      Steps p.tables e below (T.setTop g) ((B.U.setTop { g with stack := rest }).pushFrame (.throwing q))) := by
  obtain ⟨mk, hnamed⟩ := Cond.code_named hcode
  obtain ⟨methM, cM, hmethM, -, -, -, -, -, -, hsigM⟩ := Cond.code_spec hnamed hcode
  have hstatic : methM.isStatic = true := Cond.static_spec hnamed hmethM hstat
  obtain ⟨kP, hkP, -⟩ := className_of_methodNamed hnamed
  have hinitP : kP.init = .initialized := Cond.initialized_spec (findClass_of_methodNamed hnamed) hkP hinit
  obtain ⟨vm₁, X₁, hstep₁⟩ := X.invokestaticNest hexec hown hlink hnamed hmethM hstatic hkP hinitP hy (g := g) hg (argsL := argsL) (rest := rest) (hlen _ hsigM) hstack hdg
  rcases hK m meth c ⟨T.setVm vm₁, locs, cells, slots⟩ { g with stack := rest } (.invokestatic index) mk argsL.toArray X₁ hg hsize hdg hW (X₁.named hnamed) (hpre vm₁ X₁.warmed) with ⟨v, B, X', hpost, hsteps⟩ | ⟨q, B, X', hpost, hsteps⟩
  · exact Or.inl ⟨v, vm₁, B, X₁.warmed, X', hpost, fun target h => hstep₁ _ fun acts => by rw [doInvoke_state]; exact hsteps.trans h⟩
  · exact Or.inr ⟨q, vm₁, B, X₁.warmed, X', hpost, hstep₁ _ fun acts => by rw [doInvoke_state]; exact hsteps⟩
theorem vx_runVN {y : MethodName} {bytes cc : ByteArray} {maxL nL mc ms n index : Nat} {ret : Option FieldType} {ws : List Cond} {rm : Room} {Pc : Array Value → State → Prop} {Qc : Array Value → State → Outcome → State → Prop} {XC : String → State → State → Prop} {free : Addr → Prop} {Ts : List Cond} {own C host : String} {b : Addr} {As rest : List Value} {g : JFrame}
    (S : CallFix p m c cc nL s args Ts own) (hM : vx_Met l y ws rm Pc Qc XC mc ms free) (cw : va_CN R s args own index y host bytes maxL ret ws rm mc ms n ∧ (Cond.instanceMethod y).before args s = true ∧ (Cond.selects C y y).before args s = true) (hp : PreV s H C b Pc As)
    (hg : g.method = m) (hn : As.length = n) (hsize : g.locals.size = nL) (hstack : g.stack = As.reverse ++ .ref b :: rest) (hW : 2 * g.monitorRoom + (rest.map fun v => v.category).sum ≤ 8) (hdg : decode cc g.pc = .ok (.invokevirtual index, 3)) (hf : cells + mc ≤ R.cells ∧ slots + ms ≤ R.slots) :
    vx_Run p l e R s m args below meth c H locs cells slots mc ms g rest (Qc (Value.ref b :: As).toArray) XC free := by
  obtain ⟨⟨⟨hrc, hrs, hfr, hlo, hws, hcw⟩, hcode, hini, hy, hlen, hl⟩, hx1, hx2⟩ := cw
  have hK : vx_Back l R p e below s args y 3 8 (PreOf R mc ms Pc) (PostOf Qc mc ms free) (vx_Post XC mc ms free) := vx_back (bytes := bytes) (maxL := maxL) (ret := ret) hM hp.1 hrc hrs hfr hlo hws hcw (fun a' U hW => word_at hW (Or.inl (by first | rfl | simp [Cond.onTables, Cond.keeps, Cond.steady])) hini)
  obtain ⟨hx, hb, hml, ho, -⟩ := S
  obtain ⟨-, ⟨cellB, hcB, hoB, hclB⟩, hPc⟩ := hp
  intro T hT X
  rcases vx_callVN X hx (C := C) (bytes := bytes) (maxL := maxL) (ret := ret) ho hl hx1 hx2 hcode hy hK (by rw [hT]; exact hcB) hoB hclB hg (hsize.trans hml.symm) (argsL := As) (rest := rest) (fun sig h => hn.trans (hlen sig h)) hstack hW (by rw [hb]; exact hdg)
    (fun vm₁ hW₁ => ⟨hf.1, hf.2, hPc (T.setVm vm₁) hT hW₁⟩) with ⟨v, vm₁, ⟨U', l2, c2, s2⟩, hW₁, X', ⟨g', mk, t, L, e1, e2, hq, h1, hL, h2, h3⟩, st⟩ | ⟨q, vm₁, ⟨U', l2, c2, s2⟩, hW₁, X', ⟨g', mk, t, L, E, ce, e1, e2, hq, hce, hcv, hcl, h1, hL, h2, h3⟩, st⟩
  · dsimp only [Pt.U, Pt.locs, Pt.cells, Pt.slots] at X' e1 e2 h1 h2 h3 st
    subst h1; subst h2; subst h3
    exact Or.inl ⟨v, (T.setVm vm₁).calling g' mk (Value.ref b :: As).toArray, t, U', L, hT, X', hL, e1, e2, hq, st⟩
  · dsimp only [Pt.U, Pt.locs, Pt.cells, Pt.slots] at X' e1 e2 h1 h2 h3 st hcl
    subst h1; subst h2; subst h3
    exact Or.inr ⟨q, (T.setVm vm₁).calling g' mk (Value.ref b :: As).toArray, t, U', L, E, ce, hT, X', hL, e1, e2, hq, hce, hcv, vx_cls hW₁ hcl, st⟩
theorem vx_runSN {y : MethodName} {bytes cc : ByteArray} {maxL nL mc ms n index : Nat} {ret : Option FieldType} {ws : List Cond} {rm : Room} {Pc : Array Value → State → Prop} {Qc : Array Value → State → Outcome → State → Prop} {XC : String → State → State → Prop} {free : Addr → Prop} {Ts : List Cond} {own host : String} {As rest : List Value} {g : JFrame}
    (S : CallFix p m c cc nL s args Ts own) (hM : vx_Met l y ws rm Pc Qc XC mc ms free) (cw : va_CN R s args own index y host bytes maxL ret ws rm mc ms n ∧ (Cond.static y).before args s = true ∧ True) (hp : PreS s H Pc As)
    (hg : g.method = m) (hn : As.length = n) (hsize : g.locals.size = nL) (hstack : g.stack = As.reverse ++ rest) (hW : 2 * g.monitorRoom + (rest.map fun v => v.category).sum ≤ 8) (hdg : decode cc g.pc = .ok (.invokestatic index, 3)) (hf : cells + mc ≤ R.cells ∧ slots + ms ≤ R.slots) :
    vx_Run p l e R s m args below meth c H locs cells slots mc ms g rest (Qc As.toArray) XC free := by
  obtain ⟨⟨⟨hrc, hrs, hfr, hlo, hws, hcw⟩, hcode, hini, hy, hlen, hl⟩, hx1, hx2⟩ := cw
  have hK : vx_Back l R p e below s args y 3 8 (PreOf R mc ms Pc) (PostOf Qc mc ms free) (vx_Post XC mc ms free) := vx_back (bytes := bytes) (maxL := maxL) (ret := ret) hM hp.1 hrc hrs hfr hlo hws hcw (fun a' U hW => word_at hW (Or.inl (by first | rfl | simp [Cond.onTables, Cond.keeps, Cond.steady])) hini)
  obtain ⟨hx, hb, hml, ho, -⟩ := S
  have hPc := hp.2
  intro T hT X
  rcases vx_callSN X hx (bytes := bytes) (maxL := maxL) (ret := ret) ho hl hx1 hini hcode hy hK hg (hsize.trans hml.symm) (argsL := As) (rest := rest) (fun sig h => hn.trans (hlen sig h)) hstack hW (by rw [hb]; exact hdg)
    (fun vm₁ hW₁ => ⟨hf.1, hf.2, hPc (T.setVm vm₁) hT hW₁⟩) with ⟨v, vm₁, ⟨U', l2, c2, s2⟩, hW₁, X', ⟨g', mk, t, L, e1, e2, hq, h1, hL, h2, h3⟩, st⟩ | ⟨q, vm₁, ⟨U', l2, c2, s2⟩, hW₁, X', ⟨g', mk, t, L, E, ce, e1, e2, hq, hce, hcv, hcl, h1, hL, h2, h3⟩, st⟩
  · dsimp only [Pt.U, Pt.locs, Pt.cells, Pt.slots] at X' e1 e2 h1 h2 h3 st
    subst h1; subst h2; subst h3
    exact Or.inl ⟨v, (T.setVm vm₁).calling g' mk As.toArray, t, U', L, hT, X', hL, e1, e2, hq, st⟩
  · dsimp only [Pt.U, Pt.locs, Pt.cells, Pt.slots] at X' e1 e2 h1 h2 h3 st hcl
    subst h1; subst h2; subst h3
    exact Or.inr ⟨q, (T.setVm vm₁).calling g' mk As.toArray, t, U', L, E, ce, hT, X', hL, e1, e2, hq, hce, hcv, vx_cls hW₁ hcl, st⟩
end
/-! ===== END ===== -/
/-! ===== BEGIN calls by an interface of methods that may throw (vx_callIF, vx_runF follow va_callIF, va_runF of this kit) ===== -/
section
variable {p : Program} {l : Launch} {e : Env} {R : Room} {s : State} {m : MethodId} {args : Array Value} {below : List Frame} {meth : Method} {c : Code} {H : Heap} {locs : List Loc} {cells slots : Nat} {Q : State → Prop}
variable {mc ms : Nat} {free : Addr → Prop} {A0 A1 : Nat → Prop} {H0 : Heap} {a : Array Value} {pc : Nat} {ls : Array Slot} {st0 rest : List Value}
def vx_Run5 (p : Program) (l : Launch) (e : Env) (R : Room) (s : State) (m : MethodId) (args : Array Value) (below : List Frame) (meth : Method) (c : Code) (H : Heap) (locs : List Loc) (cells slots mc ms : Nat) (g : JFrame) (rest : List Value) (Qa : State → Outcome → State → Prop) (XC : String → State → State → Prop) (free : Addr → Prop) : Prop :=
  ∀ T : State, T.heap = H → Stand p l e R s m args below meth c T locs cells slots →
    (∃ (v : Option Value) (st₀ t T' : State) (L : List Loc), st₀.heap = H ∧ Stand p l e R s m args below meth c T' (locs ++ L) (cells + mc) (slots + ms) ∧ (∀ q ∈ L, free q.base) ∧ T'.heap = t.heap ∧ T'.vm = t.vm ∧ Qa st₀ (.returned v) t ∧
      Goes p e below T g T' { g with pc := g.pc + 5, stack := v.toList ++ rest }) ∨
    (∃ (q : Addr) (st₀ t T' : State) (L : List Loc) (E : String) (ce : Cell), st₀.heap = H ∧ Stand p l e R s m args below meth c T' (locs ++ L) (cells + mc) (slots + ms) ∧ (∀ z ∈ L, free z.base) ∧ T'.heap = t.heap ∧ T'.vm = t.vm ∧ XC E st₀ t ∧ t.heap[q]? = some ce ∧ ce.vm = .none ∧ s.vm.findClass E = some ce.cls ∧
      Steps p.tables e below (T.setTop g) ((T'.setTop { g with stack := rest }).pushFrame (.throwing q)))
theorem vx_callIF {T : State} (X : Stand p l e R s m args below meth c T locs cells slots) (hexec : p.tables.exec = Jvm.exec) {own C : String} {index count : Nat} {x y : MethodName} {bytes : ByteArray} {maxL : Nat} {ret : Option FieldType}
    (hown : s.vm.findClass own = some m.cls) (hlink : (Cond.methodLink own index x).before args s = true) (hdecl : (Cond.declares x).before args s = true) (hface : (Cond.interfaceMethod x.cls x.cls x.name x.desc).before args s = true)
    (hsel : (Cond.selects C x y).before args s = true) (hinst : (Cond.instanceMethod y).before args s = true) (hpub : (Cond.publicMethod y).before args s = true) (hunh : (Cond.unhidden C x.name x.desc).before args s = true)
    (hcast : (Cond.castable C x.cls).before args s = true) (hcode : (Cond.code y bytes maxL ret).before args s = true) (hx : x.cls ≠ "java/lang/invoke/MethodHandle" ∧ x.cls ≠ "java/lang/invoke/VarHandle")
    {W9 : Nat} {Pre : Pt → Array Value → Prop} {Post : Pt → Array Value → Option Value → Pt → Prop} {PostX : Pt → Array Value → Addr → Pt → Prop} (hK : vx_Back l R p e below s args y 5 W9 Pre Post PostX)
    {b : Addr} {cellB : Cell} {kB : Class} (hcell : T.heap[b]? = some cellB) (hobj : cellB.vm.isStatics = false) (hcls : s.vm.findClass C = some cellB.cls) (hkB : s.vm.classes[cellB.cls]? = some kB)
    {g : JFrame} (hg : g.method = m) (hsize : g.locals.size = c.maxLocals) {argsL rest : List Value} (hlen : ∀ sig, parseMethodDescriptor x.desc = some sig → argsL.length = sig.parameters.length)
    (hstack : g.stack = argsL.reverse ++ .ref b :: rest) (hW : 2 * g.monitorRoom + (rest.map fun v => v.category).sum ≤ W9) (hdg : decode c.code g.pc = .ok (.invokeinterface index count, 5))
    (hpre : ∀ vm₁, s.WarmedH vm₁ → Pre ⟨T.setVm vm₁, locs, cells, slots⟩ (Value.ref b :: argsL).toArray) :
    (∃ (v : Option Value) (vm₁ : Vm) (B : Pt), s.WarmedH vm₁ ∧ Stand p l e R s m args below meth c B.U B.locs B.cells B.slots ∧ Post ⟨T.setVm vm₁, locs, cells, slots⟩ (Value.ref b :: argsL).toArray v B ∧
      ∀ target, Steps p.tables e below (B.U.setTop { g with pc := g.pc + 5, stack := v.toList ++ rest }) target → Steps p.tables e below (T.setTop g) target) ∨
    (∃ (q : Addr) (vm₁ : Vm) (B : Pt), s.WarmedH vm₁ ∧ Stand p l e R s m args below meth c B.U B.locs B.cells B.slots ∧ PostX ⟨T.setVm vm₁, locs, cells, slots⟩ (Value.ref b :: argsL).toArray q B ∧
      Steps p.tables e below (T.setTop g) ((B.U.setTop { g with stack := rest }).pushFrame (.throwing q))) := by
  obtain ⟨r0, r, hn, hrm, hstR, hsigR⟩ := Cond.declares_spec hdecl
  obtain ⟨cL, kL, r1, hcL, hkL, hiL, hfoundL, hn1⟩ := Cond.interfaceMethod_spec hface
  cases hn.symm.trans hn1
  have hr0cls : r0.cls = cL := Option.some.inj ((findClass_of_methodNamed hn).symm.trans hcL)
  obtain ⟨hnameR, hdescR⟩ := name_of_methodNamed hn hrm
  obtain ⟨mk, methM, hnamed, hmethM, -, habM⟩ := Cond.instanceMethod_spec hinst
  obtain ⟨c2, r2, m2, q1, q2, q3, q4, -⟩ := Cond.selects_spec hsel
  cases hcls.symm.trans q1
  cases hfoundL.symm.trans q2
  cases hnamed.symm.trans q3
  have hselP : selectMethod e.platform s.vm cellB.cls r0 = .method mk := by rw [Launch.admits_selectMethod X.admits]; exact q4
  have hpubM : hasFlag methM.accessFlags Acc.public_ = true := Cond.publicMethod_spec hnamed hmethM hpub
  have hway : ((cellB.cls :: s.vm.superclasses cellB.cls).any fun k => (declaredIn s.vm r.name r.desc k).any fun (_, z) => z.isPrivate || z.isStatic) = false := by
    rw [hnameR, hdescR]; exact Cond.unhidden_spec hcls hunh
  obtain ⟨c3, t3, w1, w2, w3⟩ := Cond.castable_spec hcast
  cases hcls.symm.trans w1
  cases hcL.symm.trans w2
  obtain ⟨vm₁, X₁, hstep₁⟩ := X.invokeinterface hexec hown hlink hn hrm hstR (by rw [hr0cls]; exact hkL) hiL hx (a := b) (cell := cellB) (kcell := kB) hcell
    (fun z h => by rw [h] at hobj; cases hobj) hkB (by rw [hr0cls]; exact w3) hselP hmethM hway hpubM habM (g := g) hg (argsL := argsL) (rest := rest) (hlen _ hsigR) hstack hdg
  rcases hK m meth c ⟨T.setVm vm₁, locs, cells, slots⟩ { g with stack := rest } (.invokeinterface index count) mk (Value.ref b :: argsL).toArray X₁ hg hsize hdg hW (X₁.named hnamed) (hpre vm₁ X₁.warmed) with ⟨v, B, X', hpost, hsteps⟩ | ⟨q, B, X', hpost, hsteps⟩
  · exact Or.inl ⟨v, vm₁, B, X₁.warmed, X', hpost, fun target h => hstep₁ _ fun acts => by rw [doInvoke_state]; exact hsteps.trans h⟩
  · exact Or.inr ⟨q, vm₁, B, X₁.warmed, X', hpost, hstep₁ _ fun acts => by rw [doInvoke_state]; exact hsteps⟩
theorem vx_runF {x y : MethodName} {bytes cc : ByteArray} {maxL nL mc ms n index count : Nat} {ret : Option FieldType} {ws : List Cond} {rm : Room} {Pc : Array Value → State → Prop} {Qc : Array Value → State → Outcome → State → Prop} {XC : String → State → State → Prop} {free : Addr → Prop} {Ts : List Cond} {own C : String} {cC : ClassId} {b : Addr} {As rest : List Value} {g : JFrame}
    (hat : ClassAt s C cC) (S : CallFix p m c cc nL s args Ts own) (hM : vx_Met l y ws rm Pc Qc XC mc ms free) (cw : va_CI R s args own C index x y bytes maxL ret ws rm mc ms n) (hp : PreV s H C b Pc As)
    (hg : g.method = m) (hn : As.length = n) (hsize : g.locals.size = nL) (hstack : g.stack = As.reverse ++ .ref b :: rest) (hW : 2 * g.monitorRoom + (rest.map fun v => v.category).sum ≤ 8) (hdg : decode cc g.pc = .ok (.invokeinterface index count, 5)) (hf : cells + mc ≤ R.cells ∧ slots + ms ≤ R.slots) :
    vx_Run5 p l e R s m args below meth c H locs cells slots mc ms g rest (Qc (Value.ref b :: As).toArray) XC free := by
  obtain ⟨hrc, hrs, hfr, hlo, hws, hcw⟩ := cw.back
  have hini := cw.init
  have hK : vx_Back l R p e below s args y 5 8 (PreOf R mc ms Pc) (PostOf Qc mc ms free) (vx_Post XC mc ms free) := vx_back (bytes := bytes) (maxL := maxL) (ret := ret) hM hp.1 hrc hrs hfr hlo hws hcw (fun a' U hW => word_at hW (Or.inl (by first | rfl | simp [Cond.onTables, Cond.keeps, Cond.steady])) hini)
  obtain ⟨hx, hb, hml, ho, -⟩ := S
  obtain ⟨-, ⟨cellB, hcB, hoB, hclB⟩, hPc⟩ := hp
  obtain ⟨hfc, kB, hkB, -⟩ := hat
  cases hfc.symm.trans hclB
  intro T hT X
  rcases vx_callIF X hx (C := C) (bytes := bytes) (maxL := maxL) (ret := ret) ho cw.link cw.decl cw.face cw.sel cw.inst cw.pub cw.unh cw.cast cw.code cw.notMH hK (by rw [hT]; exact hcB) hoB hclB hkB hg (hsize.trans hml.symm) (argsL := As) (rest := rest) (fun sig h => hn.trans (cw.len sig h)) hstack hW (by rw [hb]; exact hdg)
    (fun vm₁ hW₁ => ⟨hf.1, hf.2, hPc (T.setVm vm₁) hT hW₁⟩) with ⟨v, vm₁, ⟨U', l2, c2, s2⟩, hW₁, X', ⟨g', mk, t, L, e1, e2, hq, h1, hL, h2, h3⟩, st⟩ | ⟨q, vm₁, ⟨U', l2, c2, s2⟩, hW₁, X', ⟨g', mk, t, L, E, ce, e1, e2, hq, hce, hcv, hcl, h1, hL, h2, h3⟩, st⟩
  · dsimp only [Pt.U, Pt.locs, Pt.cells, Pt.slots] at X' e1 e2 h1 h2 h3 st
    subst h1; subst h2; subst h3
    exact Or.inl ⟨v, (T.setVm vm₁).calling g' mk (Value.ref b :: As).toArray, t, U', L, hT, X', hL, e1, e2, hq, st⟩
  · dsimp only [Pt.U, Pt.locs, Pt.cells, Pt.slots] at X' e1 e2 h1 h2 h3 st hcl
    subst h1; subst h2; subst h3
    exact Or.inr ⟨q, (T.setVm vm₁).calling g' mk (Value.ref b :: As).toArray, t, U', L, E, ce, hT, X', hL, e1, e2, hq, hce, hcv, vx_cls hW₁ hcl, st⟩
theorem vx_callFv {S SX : Type} {post : S → Prop} {px : SX → Prop} {B : S → State → Prop} {BX : String → SX → State → Prop} {AX : Nat → Prop} (hr : vx_Run5 p l e R s m args below meth c H locs cells slots mc ms (F0 m pc ls st0) rest (va_Qv post B A1 a) (vx_X px BX AX) free) (hS : va_S A0 H0 H locs) (hA : ∀ q, q < H.size → A1 q → A0 q) (hf : ∀ q, free q → A0 q) (hAX : ∀ q, q < H.size → AX q → A0 q)
    (kx : ∀ (E : String) (ce : Cell) (q9 : Addr) (u : SX) (t : State) (H1 : Heap) (locs1 : List Loc), t.heap = H1 → s.vm.Alike t.vm → px u → BX E u t → H.size ≤ H1.size → (∀ q : Nat, q < H.size → ¬ AX q → H1[q]? = H[q]?) → va_S A0 H0 H1 locs1 → H1[q9]? = some ce → ce.vm = .none → s.vm.findClass E = some ce.cls → vx_W p l e R s m args below meth c H1 locs1 (cells + mc) (slots + ms) Q (F0 m pc ls rest) q9)
    (kk : ∀ (u : S) (t : State) (H1 : Heap) (locs1 : List Loc), t.heap = H1 → s.vm.Alike t.vm → post u → B u t → H.size ≤ H1.size → (∀ q : Nat, q < H.size → ¬ A1 q → H1[q]? = H[q]?) → va_S A0 H0 H1 locs1 → W p l e R s m args below meth c H1 locs1 (cells + mc) (slots + ms) Q (F0 m (pc + 5) ls (rest))) : W p l e R s m args below meth c H locs cells slots Q (F0 m pc ls st0) := by
  intro T hT X
  rcases hr T hT X with ⟨v, st₀, t, T', L, h0, X', hL, e1, e2, ⟨⟨u, hv, hp, hb⟩, hF⟩, st⟩ | ⟨q, st₀, t, T', L, E, ce, h0, X', hL, e1, e2, ⟨u, hp, hb, hF⟩, hce, hcv, hcl, st⟩
  · cases hv
    obtain ⟨k1, k2, k3⟩ := vx_keep h0 e1 hS hA hf hL hF
    obtain ⟨t2, a1, b1⟩ := kk u t T'.heap (locs ++ L) e1.symm (by rw [← e2]; exact X'.warmed.alike) hp hb k1 k2 k3 T' rfl X'
    exact ⟨t2, st t2 a1, b1⟩
  · obtain ⟨k1, k2, k3⟩ := vx_keep h0 e1 hS hAX hf hL hF
    obtain ⟨t2, a1, b1⟩ := kx E ce q u t T'.heap (locs ++ L) e1.symm (by rw [← e2]; exact X'.warmed.alike) hp hb k1 k2 k3 (by rw [e1]; exact hce) hcv hcl T' rfl X'
    exact ⟨t2, st.trans a1, b1⟩
theorem vx_callFi {S SX : Type} {post : Int32 → S → Prop} {px : SX → Prop} {B : S → State → Prop} {BX : String → SX → State → Prop} {AX : Nat → Prop} (hr : vx_Run5 p l e R s m args below meth c H locs cells slots mc ms (F0 m pc ls st0) rest (va_Qi post B A1 a) (vx_X px BX AX) free) (hS : va_S A0 H0 H locs) (hA : ∀ q, q < H.size → A1 q → A0 q) (hf : ∀ q, free q → A0 q) (hAX : ∀ q, q < H.size → AX q → A0 q)
    (kx : ∀ (E : String) (ce : Cell) (q9 : Addr) (u : SX) (t : State) (H1 : Heap) (locs1 : List Loc), t.heap = H1 → s.vm.Alike t.vm → px u → BX E u t → H.size ≤ H1.size → (∀ q : Nat, q < H.size → ¬ AX q → H1[q]? = H[q]?) → va_S A0 H0 H1 locs1 → H1[q9]? = some ce → ce.vm = .none → s.vm.findClass E = some ce.cls → vx_W p l e R s m args below meth c H1 locs1 (cells + mc) (slots + ms) Q (F0 m pc ls rest) q9)
    (kk : ∀ (r : Int32) (u : S) (t : State) (H1 : Heap) (locs1 : List Loc), t.heap = H1 → s.vm.Alike t.vm → post r u → B u t → H.size ≤ H1.size → (∀ q : Nat, q < H.size → ¬ A1 q → H1[q]? = H[q]?) → va_S A0 H0 H1 locs1 → W p l e R s m args below meth c H1 locs1 (cells + mc) (slots + ms) Q (F0 m (pc + 5) ls (.int r :: rest))) : W p l e R s m args below meth c H locs cells slots Q (F0 m pc ls st0) := by
  intro T hT X
  rcases hr T hT X with ⟨v, st₀, t, T', L, h0, X', hL, e1, e2, ⟨⟨r, u, hv, hp, hb⟩, hF⟩, st⟩ | ⟨q, st₀, t, T', L, E, ce, h0, X', hL, e1, e2, ⟨u, hp, hb, hF⟩, hce, hcv, hcl, st⟩
  · cases hv
    obtain ⟨k1, k2, k3⟩ := vx_keep h0 e1 hS hA hf hL hF
    obtain ⟨t2, a1, b1⟩ := kk r u t T'.heap (locs ++ L) e1.symm (by rw [← e2]; exact X'.warmed.alike) hp hb k1 k2 k3 T' rfl X'
    exact ⟨t2, st t2 a1, b1⟩
  · obtain ⟨k1, k2, k3⟩ := vx_keep h0 e1 hS hAX hf hL hF
    obtain ⟨t2, a1, b1⟩ := kx E ce q u t T'.heap (locs ++ L) e1.symm (by rw [← e2]; exact X'.warmed.alike) hp hb k1 k2 k3 (by rw [e1]; exact hce) hcv hcl T' rfl X'
    exact ⟨t2, st.trans a1, b1⟩
theorem vx_callFl {S SX : Type} {post : Int64 → S → Prop} {px : SX → Prop} {B : S → State → Prop} {BX : String → SX → State → Prop} {AX : Nat → Prop} (hr : vx_Run5 p l e R s m args below meth c H locs cells slots mc ms (F0 m pc ls st0) rest (va_Ql post B A1 a) (vx_X px BX AX) free) (hS : va_S A0 H0 H locs) (hA : ∀ q, q < H.size → A1 q → A0 q) (hf : ∀ q, free q → A0 q) (hAX : ∀ q, q < H.size → AX q → A0 q)
    (kx : ∀ (E : String) (ce : Cell) (q9 : Addr) (u : SX) (t : State) (H1 : Heap) (locs1 : List Loc), t.heap = H1 → s.vm.Alike t.vm → px u → BX E u t → H.size ≤ H1.size → (∀ q : Nat, q < H.size → ¬ AX q → H1[q]? = H[q]?) → va_S A0 H0 H1 locs1 → H1[q9]? = some ce → ce.vm = .none → s.vm.findClass E = some ce.cls → vx_W p l e R s m args below meth c H1 locs1 (cells + mc) (slots + ms) Q (F0 m pc ls rest) q9)
    (kk : ∀ (r : Int64) (u : S) (t : State) (H1 : Heap) (locs1 : List Loc), t.heap = H1 → s.vm.Alike t.vm → post r u → B u t → H.size ≤ H1.size → (∀ q : Nat, q < H.size → ¬ A1 q → H1[q]? = H[q]?) → va_S A0 H0 H1 locs1 → W p l e R s m args below meth c H1 locs1 (cells + mc) (slots + ms) Q (F0 m (pc + 5) ls (.long r :: rest))) : W p l e R s m args below meth c H locs cells slots Q (F0 m pc ls st0) := by
  intro T hT X
  rcases hr T hT X with ⟨v, st₀, t, T', L, h0, X', hL, e1, e2, ⟨⟨r, u, hv, hp, hb⟩, hF⟩, st⟩ | ⟨q, st₀, t, T', L, E, ce, h0, X', hL, e1, e2, ⟨u, hp, hb, hF⟩, hce, hcv, hcl, st⟩
  · cases hv
    obtain ⟨k1, k2, k3⟩ := vx_keep h0 e1 hS hA hf hL hF
    obtain ⟨t2, a1, b1⟩ := kk r u t T'.heap (locs ++ L) e1.symm (by rw [← e2]; exact X'.warmed.alike) hp hb k1 k2 k3 T' rfl X'
    exact ⟨t2, st t2 a1, b1⟩
  · obtain ⟨k1, k2, k3⟩ := vx_keep h0 e1 hS hAX hf hL hF
    obtain ⟨t2, a1, b1⟩ := kx E ce q u t T'.heap (locs ++ L) e1.symm (by rw [← e2]; exact X'.warmed.alike) hp hb k1 k2 k3 (by rw [e1]; exact hce) hcv hcl T' rfl X'
    exact ⟨t2, st.trans a1, b1⟩
theorem vx_callFf {S SX : Type} {post : UInt32 → S → Prop} {px : SX → Prop} {B : S → State → Prop} {BX : String → SX → State → Prop} {AX : Nat → Prop} (hr : vx_Run5 p l e R s m args below meth c H locs cells slots mc ms (F0 m pc ls st0) rest (va_Qf post B A1 a) (vx_X px BX AX) free) (hS : va_S A0 H0 H locs) (hA : ∀ q, q < H.size → A1 q → A0 q) (hf : ∀ q, free q → A0 q) (hAX : ∀ q, q < H.size → AX q → A0 q)
    (kx : ∀ (E : String) (ce : Cell) (q9 : Addr) (u : SX) (t : State) (H1 : Heap) (locs1 : List Loc), t.heap = H1 → s.vm.Alike t.vm → px u → BX E u t → H.size ≤ H1.size → (∀ q : Nat, q < H.size → ¬ AX q → H1[q]? = H[q]?) → va_S A0 H0 H1 locs1 → H1[q9]? = some ce → ce.vm = .none → s.vm.findClass E = some ce.cls → vx_W p l e R s m args below meth c H1 locs1 (cells + mc) (slots + ms) Q (F0 m pc ls rest) q9)
    (kk : ∀ (r : UInt32) (u : S) (t : State) (H1 : Heap) (locs1 : List Loc), t.heap = H1 → s.vm.Alike t.vm → post r u → B u t → H.size ≤ H1.size → (∀ q : Nat, q < H.size → ¬ A1 q → H1[q]? = H[q]?) → va_S A0 H0 H1 locs1 → W p l e R s m args below meth c H1 locs1 (cells + mc) (slots + ms) Q (F0 m (pc + 5) ls (.float r :: rest))) : W p l e R s m args below meth c H locs cells slots Q (F0 m pc ls st0) := by
  intro T hT X
  rcases hr T hT X with ⟨v, st₀, t, T', L, h0, X', hL, e1, e2, ⟨⟨r, u, hv, hp, hb⟩, hF⟩, st⟩ | ⟨q, st₀, t, T', L, E, ce, h0, X', hL, e1, e2, ⟨u, hp, hb, hF⟩, hce, hcv, hcl, st⟩
  · cases hv
    obtain ⟨k1, k2, k3⟩ := vx_keep h0 e1 hS hA hf hL hF
    obtain ⟨t2, a1, b1⟩ := kk r u t T'.heap (locs ++ L) e1.symm (by rw [← e2]; exact X'.warmed.alike) hp hb k1 k2 k3 T' rfl X'
    exact ⟨t2, st t2 a1, b1⟩
  · obtain ⟨k1, k2, k3⟩ := vx_keep h0 e1 hS hAX hf hL hF
    obtain ⟨t2, a1, b1⟩ := kx E ce q u t T'.heap (locs ++ L) e1.symm (by rw [← e2]; exact X'.warmed.alike) hp hb k1 k2 k3 (by rw [e1]; exact hce) hcv hcl T' rfl X'
    exact ⟨t2, st.trans a1, b1⟩
theorem vx_callFd {S SX : Type} {post : UInt64 → S → Prop} {px : SX → Prop} {B : S → State → Prop} {BX : String → SX → State → Prop} {AX : Nat → Prop} (hr : vx_Run5 p l e R s m args below meth c H locs cells slots mc ms (F0 m pc ls st0) rest (va_Qd post B A1 a) (vx_X px BX AX) free) (hS : va_S A0 H0 H locs) (hA : ∀ q, q < H.size → A1 q → A0 q) (hf : ∀ q, free q → A0 q) (hAX : ∀ q, q < H.size → AX q → A0 q)
    (kx : ∀ (E : String) (ce : Cell) (q9 : Addr) (u : SX) (t : State) (H1 : Heap) (locs1 : List Loc), t.heap = H1 → s.vm.Alike t.vm → px u → BX E u t → H.size ≤ H1.size → (∀ q : Nat, q < H.size → ¬ AX q → H1[q]? = H[q]?) → va_S A0 H0 H1 locs1 → H1[q9]? = some ce → ce.vm = .none → s.vm.findClass E = some ce.cls → vx_W p l e R s m args below meth c H1 locs1 (cells + mc) (slots + ms) Q (F0 m pc ls rest) q9)
    (kk : ∀ (r : UInt64) (u : S) (t : State) (H1 : Heap) (locs1 : List Loc), t.heap = H1 → s.vm.Alike t.vm → post r u → B u t → H.size ≤ H1.size → (∀ q : Nat, q < H.size → ¬ A1 q → H1[q]? = H[q]?) → va_S A0 H0 H1 locs1 → W p l e R s m args below meth c H1 locs1 (cells + mc) (slots + ms) Q (F0 m (pc + 5) ls (.double r :: rest))) : W p l e R s m args below meth c H locs cells slots Q (F0 m pc ls st0) := by
  intro T hT X
  rcases hr T hT X with ⟨v, st₀, t, T', L, h0, X', hL, e1, e2, ⟨⟨r, u, hv, hp, hb⟩, hF⟩, st⟩ | ⟨q, st₀, t, T', L, E, ce, h0, X', hL, e1, e2, ⟨u, hp, hb, hF⟩, hce, hcv, hcl, st⟩
  · cases hv
    obtain ⟨k1, k2, k3⟩ := vx_keep h0 e1 hS hA hf hL hF
    obtain ⟨t2, a1, b1⟩ := kk r u t T'.heap (locs ++ L) e1.symm (by rw [← e2]; exact X'.warmed.alike) hp hb k1 k2 k3 T' rfl X'
    exact ⟨t2, st t2 a1, b1⟩
  · obtain ⟨k1, k2, k3⟩ := vx_keep h0 e1 hS hAX hf hL hF
    obtain ⟨t2, a1, b1⟩ := kx E ce q u t T'.heap (locs ++ L) e1.symm (by rw [← e2]; exact X'.warmed.alike) hp hb k1 k2 k3 (by rw [e1]; exact hce) hcv hcl T' rfl X'
    exact ⟨t2, st.trans a1, b1⟩
end
/-! ===== END ===== -/
/-! ===== BEGIN by an interface, a method with a table of its own that may throw (follows va_callIFW, va_runFW) ===== -/
section
variable {p : Program} {l : Launch} {e : Env} {R : Room} {s : State} {m : MethodId} {args : Array Value} {below : List Frame} {meth : Method} {c : Code} {H : Heap} {locs : List Loc} {cells slots : Nat}
theorem vx_callIFW {T : State} (X : Stand p l e R s m args below meth c T locs cells slots) (hexec : p.tables.exec = Jvm.exec) {own C : String} {index count : Nat} {x y : MethodName} {bytes : ByteArray} {maxL : Nat} {ret : Option FieldType} {hh : List (Nat × Nat × Nat × Nat)}
    (hown : s.vm.findClass own = some m.cls) (hlink : (Cond.methodLink own index x).before args s = true) (hdecl : (Cond.declares x).before args s = true) (hface : (Cond.interfaceMethod x.cls x.cls x.name x.desc).before args s = true)
    (hsel : (Cond.selects C x y).before args s = true) (hinst : (Cond.instanceMethod y).before args s = true) (hpub : (Cond.publicMethod y).before args s = true) (hunh : (Cond.unhidden C x.name x.desc).before args s = true)
    (hcast : (Cond.castable C x.cls).before args s = true) (hcode : (Cond.codeWith y bytes maxL ret hh).before args s = true) (hx : x.cls ≠ "java/lang/invoke/MethodHandle" ∧ x.cls ≠ "java/lang/invoke/VarHandle")
    {W : Nat} {Pre : Pt → Array Value → Prop} {Post : Pt → Array Value → Option Value → Pt → Prop} {PostX : Pt → Array Value → Addr → Pt → Prop} (hK : vx_Back l R p e below s args y 5 W Pre Post PostX)
    {b : Addr} {cellB : Cell} {kB : Class} (hcell : T.heap[b]? = some cellB) (hobj : cellB.vm.isStatics = false) (hcls : s.vm.findClass C = some cellB.cls) (hkB : s.vm.classes[cellB.cls]? = some kB)
    {g : JFrame} (hg : g.method = m) (hsize : g.locals.size = c.maxLocals) {argsL rest : List Value} (hlen : ∀ sig, parseMethodDescriptor x.desc = some sig → argsL.length = sig.parameters.length)
    (hstack : g.stack = argsL.reverse ++ .ref b :: rest) (hW : 2 * g.monitorRoom + (rest.map fun v => v.category).sum ≤ W) (hdg : decode c.code g.pc = .ok (.invokeinterface index count, 5))
    (hpre : ∀ vm₁, s.WarmedH vm₁ → Pre ⟨T.setVm vm₁, locs, cells, slots⟩ (Value.ref b :: argsL).toArray) :
    (∃ (v : Option Value) (vm₁ : Vm) (B : Pt), s.WarmedH vm₁ ∧ Stand p l e R s m args below meth c B.U B.locs B.cells B.slots ∧ Post ⟨T.setVm vm₁, locs, cells, slots⟩ (Value.ref b :: argsL).toArray v B ∧
      ∀ target, Steps p.tables e below (B.U.setTop { g with pc := g.pc + 5, stack := v.toList ++ rest }) target → Steps p.tables e below (T.setTop g) target) ∨
    (∃ (q : Addr) (vm₁ : Vm) (B : Pt), s.WarmedH vm₁ ∧ Stand p l e R s m args below meth c B.U B.locs B.cells B.slots ∧ PostX ⟨T.setVm vm₁, locs, cells, slots⟩ (Value.ref b :: argsL).toArray q B ∧
      Steps p.tables e below (T.setTop g) ((B.U.setTop { g with stack := rest }).pushFrame (.throwing q))) := by
  obtain ⟨r0, r, hn, hrm, hstR, hsigR⟩ := Cond.declares_spec hdecl
  obtain ⟨cL, kL, r1, hcL, hkL, hiL, hfoundL, hn1⟩ := Cond.interfaceMethod_spec hface
  cases hn.symm.trans hn1
  have hr0cls : r0.cls = cL := Option.some.inj ((findClass_of_methodNamed hn).symm.trans hcL)
  obtain ⟨hnameR, hdescR⟩ := name_of_methodNamed hn hrm
  obtain ⟨mk, methM, hnamed, hmethM, -, habM⟩ := Cond.instanceMethod_spec hinst
  obtain ⟨c2, r2, m2, q1, q2, q3, q4, -⟩ := Cond.selects_spec hsel
  cases hcls.symm.trans q1
  cases hfoundL.symm.trans q2
  cases hnamed.symm.trans q3
  have hselP : selectMethod e.platform s.vm cellB.cls r0 = .method mk := by rw [Launch.admits_selectMethod X.admits]; exact q4
  have hpubM : hasFlag methM.accessFlags Acc.public_ = true := Cond.publicMethod_spec hnamed hmethM hpub
  have hway : ((cellB.cls :: s.vm.superclasses cellB.cls).any fun k => (declaredIn s.vm r.name r.desc k).any fun (_, z) => z.isPrivate || z.isStatic) = false := by
    rw [hnameR, hdescR]; exact Cond.unhidden_spec hcls hunh
  obtain ⟨c3, t3, w1, w2, w3⟩ := Cond.castable_spec hcast
  cases hcls.symm.trans w1
  cases hcL.symm.trans w2
  obtain ⟨vm₁, X₁, hstep₁⟩ := X.invokeinterface hexec hown hlink hn hrm hstR (by rw [hr0cls]; exact hkL) hiL hx (a := b) (cell := cellB) (kcell := kB) hcell
    (fun z h => by rw [h] at hobj; cases hobj) hkB (by rw [hr0cls]; exact w3) hselP hmethM hway hpubM habM (g := g) hg (argsL := argsL) (rest := rest) (hlen _ hsigR) hstack hdg
  rcases hK m meth c ⟨T.setVm vm₁, locs, cells, slots⟩ { g with stack := rest } (.invokeinterface index count) mk (Value.ref b :: argsL).toArray X₁ hg hsize hdg hW (X₁.named hnamed) (hpre vm₁ X₁.warmed) with ⟨v, B, X', hpost, hsteps⟩ | ⟨q, B, X', hpost, hsteps⟩
  · exact Or.inl ⟨v, vm₁, B, X₁.warmed, X', hpost, fun target h => hstep₁ _ fun acts => by rw [doInvoke_state]; exact hsteps.trans h⟩
  · exact Or.inr ⟨q, vm₁, B, X₁.warmed, X', hpost, hstep₁ _ fun acts => by rw [doInvoke_state]; exact hsteps⟩
theorem vx_runFW {x y : MethodName} {bytes cc : ByteArray} {maxL nL mc ms n index count : Nat} {ret : Option FieldType} {hh : List (Nat × Nat × Nat × Nat)} {ws : List Cond} {rm : Room} {Pc : Array Value → State → Prop} {Qc : Array Value → State → Outcome → State → Prop} {XC : String → State → State → Prop} {free : Addr → Prop} {Ts : List Cond} {own C : String} {cC : ClassId} {b : Addr} {As rest : List Value} {g : JFrame}
    (hat : ClassAt s C cC) (S : CallFix p m c cc nL s args Ts own) (hM : vx_Met l y ws rm Pc Qc XC mc ms free) (cw : va_CIW R s args own C index x y bytes maxL ret hh ws rm mc ms n) (hp : PreV s H C b Pc As)
    (hg : g.method = m) (hn : As.length = n) (hsize : g.locals.size = nL) (hstack : g.stack = As.reverse ++ .ref b :: rest) (hW : 2 * g.monitorRoom + (rest.map fun v => v.category).sum ≤ 8) (hdg : decode cc g.pc = .ok (.invokeinterface index count, 5)) (hf : cells + mc ≤ R.cells ∧ slots + ms ≤ R.slots) :
    vx_Run5 p l e R s m args below meth c H locs cells slots mc ms g rest (Qc (Value.ref b :: As).toArray) XC free := by
  obtain ⟨hrc, hrs, hfr, hlo, hws, hcw⟩ := cw.back
  have hini := cw.init
  have hK : vx_Back l R p e below s args y 5 8 (PreOf R mc ms Pc) (PostOf Qc mc ms free) (vx_Post XC mc ms free) := vx_backW (hh := hh) (bytes := bytes) (maxL := maxL) (ret := ret) hM hp.1 hrc hrs hfr hlo hws hcw (fun a' U hW => word_at hW (Or.inl (by first | rfl | simp [Cond.onTables, Cond.keeps, Cond.steady])) hini)
  obtain ⟨hx, hb, hml, ho, -⟩ := S
  obtain ⟨-, ⟨cellB, hcB, hoB, hclB⟩, hPc⟩ := hp
  obtain ⟨hfc, kB, hkB, -⟩ := hat
  cases hfc.symm.trans hclB
  intro T hT X
  rcases vx_callIFW X hx (C := C) (hh := hh) (bytes := bytes) (maxL := maxL) (ret := ret) ho cw.link cw.decl cw.face cw.sel cw.inst cw.pub cw.unh cw.cast cw.code cw.notMH hK (by rw [hT]; exact hcB) hoB hclB hkB hg (hsize.trans hml.symm) (argsL := As) (rest := rest) (fun sig h => hn.trans (cw.len sig h)) hstack hW (by rw [hb]; exact hdg)
    (fun vm₁ hW₁ => ⟨hf.1, hf.2, hPc (T.setVm vm₁) hT hW₁⟩) with ⟨v, vm₁, ⟨U', l2, c2, s2⟩, hW₁, X', ⟨g', mk, t, L, e1, e2, hq, h1, hL, h2, h3⟩, st⟩ | ⟨q, vm₁, ⟨U', l2, c2, s2⟩, hW₁, X', ⟨g', mk, t, L, E, ce, e1, e2, hq, hce, hcv, hcl, h1, hL, h2, h3⟩, st⟩
  · dsimp only [Pt.U, Pt.locs, Pt.cells, Pt.slots] at X' e1 e2 h1 h2 h3 st
    subst h1; subst h2; subst h3
    exact Or.inl ⟨v, (T.setVm vm₁).calling g' mk (Value.ref b :: As).toArray, t, U', L, hT, X', hL, e1, e2, hq, st⟩
  · dsimp only [Pt.U, Pt.locs, Pt.cells, Pt.slots] at X' e1 e2 h1 h2 h3 st hcl
    subst h1; subst h2; subst h3
    exact Or.inr ⟨q, (T.setVm vm₁).calling g' mk (Value.ref b :: As).toArray, t, U', L, E, ce, hT, X', hL, e1, e2, hq, hce, hcv, vx_cls hW₁ hcl, st⟩
end
/-! ===== END ===== -/
/-! ===== BEGIN .. of methods that hand back an object of the pool ===== -/
section
variable {p : Program} {l : Launch} {e : Env} {R : Room} {s : State} {m : MethodId} {args : Array Value} {below : List Frame} {meth : Method} {c : Code} {H : Heap} {locs : List Loc} {cells slots : Nat} {Q : State → Prop}
variable {mc ms : Nat} {free : Addr → Prop} {A0 A1 : Nat → Prop} {H0 : Heap} {a : Array Value} {pc : Nat} {ls : Array Slot} {st0 rest : List Value}
theorem vx_callq {S SX : Type} {post : Option Nat → S → Prop} {px : SX → Prop} {B : S → State → Prop} {BX : String → SX → State → Prop} {AX : Nat → Prop} (hr : vx_Run p l e R s m args below meth c H locs cells slots mc ms (F0 m pc ls st0) rest (va_Qq post B A1 a) (vx_X px BX AX) free) (hS : va_S A0 H0 H locs) (hA : ∀ q, q < H.size → A1 q → A0 q) (hf : ∀ q, free q → A0 q) (hAX : ∀ q, q < H.size → AX q → A0 q)
    (kx : ∀ (E : String) (ce : Cell) (q9 : Addr) (u : SX) (t : State) (H1 : Heap) (locs1 : List Loc), t.heap = H1 → s.vm.Alike t.vm → px u → BX E u t → H.size ≤ H1.size → (∀ q : Nat, q < H.size → ¬ AX q → H1[q]? = H[q]?) → va_S A0 H0 H1 locs1 → H1[q9]? = some ce → ce.vm = .none → s.vm.findClass E = some ce.cls → vx_W p l e R s m args below meth c H1 locs1 (cells + mc) (slots + ms) Q (F0 m pc ls rest) q9)
    (kk : ∀ (r : Option Nat) (u : S) (t : State) (H1 : Heap) (locs1 : List Loc), t.heap = H1 → s.vm.Alike t.vm → post r u → B u t → H.size ≤ H1.size → (∀ q : Nat, q < H.size → ¬ A1 q → H1[q]? = H[q]?) → va_S A0 H0 H1 locs1 → W p l e R s m args below meth c H1 locs1 (cells + mc) (slots + ms) Q (F0 m (pc + 3) ls (va_rf r :: rest))) : W p l e R s m args below meth c H locs cells slots Q (F0 m pc ls st0) := by
  intro T hT X
  rcases hr T hT X with ⟨v, st₀, t, T', L, h0, X', hL, e1, e2, ⟨⟨r, u, hv, hp, hb⟩, hF⟩, st⟩ | ⟨q, st₀, t, T', L, E, ce, h0, X', hL, e1, e2, ⟨u, hp, hb, hF⟩, hce, hcv, hcl, st⟩
  · cases hv
    obtain ⟨k1, k2, k3⟩ := vx_keep h0 e1 hS hA hf hL hF
    obtain ⟨t2, a1, b1⟩ := kk r u t T'.heap (locs ++ L) e1.symm (by rw [← e2]; exact X'.warmed.alike) hp hb k1 k2 k3 T' rfl X'
    exact ⟨t2, st t2 a1, b1⟩
  · obtain ⟨k1, k2, k3⟩ := vx_keep h0 e1 hS hAX hf hL hF
    obtain ⟨t2, a1, b1⟩ := kx E ce q u t T'.heap (locs ++ L) e1.symm (by rw [← e2]; exact X'.warmed.alike) hp hb k1 k2 k3 (by rw [e1]; exact hce) hcv hcl T' rfl X'
    exact ⟨t2, st.trans a1, b1⟩
end
/-! ===== END ===== -/
/-! ===== BEGIN .. a constant ===== -/
section
variable {p : Program} {l : Launch} {e : Env} {R : Room} {s : State} {m : MethodId} {args : Array Value} {below : List Frame} {meth : Method} {c : Code} {H : Heap} {locs : List Loc} {cells slots : Nat} {Q : State → Prop}
variable {mc ms : Nat} {free : Addr → Prop} {A0 A1 : Nat → Prop} {H0 : Heap} {a : Array Value} {pc : Nat} {ls : Array Slot} {st0 rest : List Value}
theorem vx_calle {ad : Nat → Nat} {S SX : Type} {post : Option Nat → S → Prop} {px : SX → Prop} {B : S → State → Prop} {BX : String → SX → State → Prop} {AX : Nat → Prop} (hr : vx_Run p l e R s m args below meth c H locs cells slots mc ms (F0 m pc ls st0) rest (va_Qe ad post B A1 a) (vx_X px BX AX) free) (hS : va_S A0 H0 H locs) (hA : ∀ q, q < H.size → A1 q → A0 q) (hf : ∀ q, free q → A0 q) (hAX : ∀ q, q < H.size → AX q → A0 q)
    (kx : ∀ (E : String) (ce : Cell) (q9 : Addr) (u : SX) (t : State) (H1 : Heap) (locs1 : List Loc), t.heap = H1 → s.vm.Alike t.vm → px u → BX E u t → H.size ≤ H1.size → (∀ q : Nat, q < H.size → ¬ AX q → H1[q]? = H[q]?) → va_S A0 H0 H1 locs1 → H1[q9]? = some ce → ce.vm = .none → s.vm.findClass E = some ce.cls → vx_W p l e R s m args below meth c H1 locs1 (cells + mc) (slots + ms) Q (F0 m pc ls rest) q9)
    (kk : ∀ (r : Option Nat) (u : S) (t : State) (H1 : Heap) (locs1 : List Loc), t.heap = H1 → s.vm.Alike t.vm → post r u → B u t → H.size ≤ H1.size → (∀ q : Nat, q < H.size → ¬ A1 q → H1[q]? = H[q]?) → va_S A0 H0 H1 locs1 → W p l e R s m args below meth c H1 locs1 (cells + mc) (slots + ms) Q (F0 m (pc + 3) ls (va_re ad r :: rest))) : W p l e R s m args below meth c H locs cells slots Q (F0 m pc ls st0) := by
  intro T hT X
  rcases hr T hT X with ⟨v, st₀, t, T', L, h0, X', hL, e1, e2, ⟨⟨r, u, hv, hp, hb⟩, hF⟩, st⟩ | ⟨q, st₀, t, T', L, E, ce, h0, X', hL, e1, e2, ⟨u, hp, hb, hF⟩, hce, hcv, hcl, st⟩
  · cases hv
    obtain ⟨k1, k2, k3⟩ := vx_keep h0 e1 hS hA hf hL hF
    obtain ⟨t2, a1, b1⟩ := kk r u t T'.heap (locs ++ L) e1.symm (by rw [← e2]; exact X'.warmed.alike) hp hb k1 k2 k3 T' rfl X'
    exact ⟨t2, st t2 a1, b1⟩
  · obtain ⟨k1, k2, k3⟩ := vx_keep h0 e1 hS hAX hf hL hF
    obtain ⟨t2, a1, b1⟩ := kx E ce q u t T'.heap (locs ++ L) e1.symm (by rw [← e2]; exact X'.warmed.alike) hp hb k1 k2 k3 (by rw [e1]; exact hce) hcv hcl T' rfl X'
    exact ⟨t2, st.trans a1, b1⟩
end
/-! ===== END ===== -/
/-! ===== BEGIN .. by an interface, an object ===== -/
section
variable {p : Program} {l : Launch} {e : Env} {R : Room} {s : State} {m : MethodId} {args : Array Value} {below : List Frame} {meth : Method} {c : Code} {H : Heap} {locs : List Loc} {cells slots : Nat} {Q : State → Prop}
variable {mc ms : Nat} {free : Addr → Prop} {A0 A1 : Nat → Prop} {H0 : Heap} {a : Array Value} {pc : Nat} {ls : Array Slot} {st0 rest : List Value}
theorem vx_callFq {S SX : Type} {post : Option Nat → S → Prop} {px : SX → Prop} {B : S → State → Prop} {BX : String → SX → State → Prop} {AX : Nat → Prop} (hr : vx_Run5 p l e R s m args below meth c H locs cells slots mc ms (F0 m pc ls st0) rest (va_Qq post B A1 a) (vx_X px BX AX) free) (hS : va_S A0 H0 H locs) (hA : ∀ q, q < H.size → A1 q → A0 q) (hf : ∀ q, free q → A0 q) (hAX : ∀ q, q < H.size → AX q → A0 q)
    (kx : ∀ (E : String) (ce : Cell) (q9 : Addr) (u : SX) (t : State) (H1 : Heap) (locs1 : List Loc), t.heap = H1 → s.vm.Alike t.vm → px u → BX E u t → H.size ≤ H1.size → (∀ q : Nat, q < H.size → ¬ AX q → H1[q]? = H[q]?) → va_S A0 H0 H1 locs1 → H1[q9]? = some ce → ce.vm = .none → s.vm.findClass E = some ce.cls → vx_W p l e R s m args below meth c H1 locs1 (cells + mc) (slots + ms) Q (F0 m pc ls rest) q9)
    (kk : ∀ (r : Option Nat) (u : S) (t : State) (H1 : Heap) (locs1 : List Loc), t.heap = H1 → s.vm.Alike t.vm → post r u → B u t → H.size ≤ H1.size → (∀ q : Nat, q < H.size → ¬ A1 q → H1[q]? = H[q]?) → va_S A0 H0 H1 locs1 → W p l e R s m args below meth c H1 locs1 (cells + mc) (slots + ms) Q (F0 m (pc + 5) ls (va_rf r :: rest))) : W p l e R s m args below meth c H locs cells slots Q (F0 m pc ls st0) := by
  intro T hT X
  rcases hr T hT X with ⟨v, st₀, t, T', L, h0, X', hL, e1, e2, ⟨⟨r, u, hv, hp, hb⟩, hF⟩, st⟩ | ⟨q, st₀, t, T', L, E, ce, h0, X', hL, e1, e2, ⟨u, hp, hb, hF⟩, hce, hcv, hcl, st⟩
  · cases hv
    obtain ⟨k1, k2, k3⟩ := vx_keep h0 e1 hS hA hf hL hF
    obtain ⟨t2, a1, b1⟩ := kk r u t T'.heap (locs ++ L) e1.symm (by rw [← e2]; exact X'.warmed.alike) hp hb k1 k2 k3 T' rfl X'
    exact ⟨t2, st t2 a1, b1⟩
  · obtain ⟨k1, k2, k3⟩ := vx_keep h0 e1 hS hAX hf hL hF
    obtain ⟨t2, a1, b1⟩ := kx E ce q u t T'.heap (locs ++ L) e1.symm (by rw [← e2]; exact X'.warmed.alike) hp hb k1 k2 k3 (by rw [e1]; exact hce) hcv hcl T' rfl X'
    exact ⟨t2, st.trans a1, b1⟩
end
/-! ===== END ===== -/
/-! ===== BEGIN .. by an interface, a constant ===== -/
section
variable {p : Program} {l : Launch} {e : Env} {R : Room} {s : State} {m : MethodId} {args : Array Value} {below : List Frame} {meth : Method} {c : Code} {H : Heap} {locs : List Loc} {cells slots : Nat} {Q : State → Prop}
variable {mc ms : Nat} {free : Addr → Prop} {A0 A1 : Nat → Prop} {H0 : Heap} {a : Array Value} {pc : Nat} {ls : Array Slot} {st0 rest : List Value}
theorem vx_callFe {ad : Nat → Nat} {S SX : Type} {post : Option Nat → S → Prop} {px : SX → Prop} {B : S → State → Prop} {BX : String → SX → State → Prop} {AX : Nat → Prop} (hr : vx_Run5 p l e R s m args below meth c H locs cells slots mc ms (F0 m pc ls st0) rest (va_Qe ad post B A1 a) (vx_X px BX AX) free) (hS : va_S A0 H0 H locs) (hA : ∀ q, q < H.size → A1 q → A0 q) (hf : ∀ q, free q → A0 q) (hAX : ∀ q, q < H.size → AX q → A0 q)
    (kx : ∀ (E : String) (ce : Cell) (q9 : Addr) (u : SX) (t : State) (H1 : Heap) (locs1 : List Loc), t.heap = H1 → s.vm.Alike t.vm → px u → BX E u t → H.size ≤ H1.size → (∀ q : Nat, q < H.size → ¬ AX q → H1[q]? = H[q]?) → va_S A0 H0 H1 locs1 → H1[q9]? = some ce → ce.vm = .none → s.vm.findClass E = some ce.cls → vx_W p l e R s m args below meth c H1 locs1 (cells + mc) (slots + ms) Q (F0 m pc ls rest) q9)
    (kk : ∀ (r : Option Nat) (u : S) (t : State) (H1 : Heap) (locs1 : List Loc), t.heap = H1 → s.vm.Alike t.vm → post r u → B u t → H.size ≤ H1.size → (∀ q : Nat, q < H.size → ¬ A1 q → H1[q]? = H[q]?) → va_S A0 H0 H1 locs1 → W p l e R s m args below meth c H1 locs1 (cells + mc) (slots + ms) Q (F0 m (pc + 5) ls (va_re ad r :: rest))) : W p l e R s m args below meth c H locs cells slots Q (F0 m pc ls st0) := by
  intro T hT X
  rcases hr T hT X with ⟨v, st₀, t, T', L, h0, X', hL, e1, e2, ⟨⟨r, u, hv, hp, hb⟩, hF⟩, st⟩ | ⟨q, st₀, t, T', L, E, ce, h0, X', hL, e1, e2, ⟨u, hp, hb, hF⟩, hce, hcv, hcl, st⟩
  · cases hv
    obtain ⟨k1, k2, k3⟩ := vx_keep h0 e1 hS hA hf hL hF
    obtain ⟨t2, a1, b1⟩ := kk r u t T'.heap (locs ++ L) e1.symm (by rw [← e2]; exact X'.warmed.alike) hp hb k1 k2 k3 T' rfl X'
    exact ⟨t2, st t2 a1, b1⟩
  · obtain ⟨k1, k2, k3⟩ := vx_keep h0 e1 hS hAX hf hL hF
    obtain ⟨t2, a1, b1⟩ := kx E ce q u t T'.heap (locs ++ L) e1.symm (by rw [← e2]; exact X'.warmed.alike) hp hb k1 k2 k3 (by rw [e1]; exact hce) hcv hcl T' rfl X'
    exact ⟨t2, st.trans a1, b1⟩
end
/-! ===== END ===== -/
/-! ===== BEGIN what the machine throws by itself: null at a field, at athrow ===== -/
section VXM2
variable {p : Program} {l : Launch} {e : Env} {R : Room} {s : State} {m : MethodId} {args : Array Value} {below : List Frame} {meth : Method} {c : Code} {H : Heap} {locs : List Loc} {cells slots : Nat}
variable {Q : State → Prop} {cc : ByteArray} {pc : Nat} {ls : Array Slot} {rest : List Value}
theorem vx_getfN {D cl tys} {own ref C : String} {T : u_T} {N ci index : Nat} {Ts : List Cond} (hexec : p.tables.exec = Jvm.exec) (hb : c.code = cc) (hts : ∀ w ∈ Ts, w.before args s = true) (hin : ∀ w ∈ u_ws C T N, w ∈ Ts) (hown : s.vm.findClass own = some m.cls) (hK : va_K D cl tys s) (hc : cl[ci]? = some (C, T, N)) (k : Nat) (hk : k < N) (hlink : (Cond.fieldLink own index ref (T k).2.1 (T k).2.2.1).before args s = true) (hsame : ∀ x, s.fieldFound? (T k).1 (T k).2.1 (T k).2.2.1 = some x → s.fieldFound? ref (T k).2.1 (T k).2.2.1 = some x) (hdg : decode cc pc = .ok (.getfield index, 3)) (kk : vx_NoteN p l e R s m args below meth c H locs cells slots Q (F0 m pc ls rest)) : W p l e R s m args below meth c H locs cells slots Q (F0 m pc ls (.null :: rest)) := by
  obtain ⟨hS, hfc, kC, hkC, -⟩ := hK.1 ci _ hc
  obtain ⟨cf, kf, fi, f, hi, -⟩ := hS k hk
  intro U hU X
  obtain ⟨vm', X1, st1⟩ := X.getfieldNull hexec hown hlink (hsame _ hi) (u_facts hfc hkC (u_lays hts hin hk) hi).1 (g := F0 m pc ls (.null :: rest)) rfl (rest := rest) rfl (by rw [hb]; exact hdg)
  obtain ⟨t, st, q⟩ := kk (U.setVm vm') hU X1
  exact ⟨t, st1 t st, q⟩
theorem vx_getfNN {D cl tys} {own ref C host : String} {T : u_T} {N ci index : Nat} {Ts : List Cond} (hexec : p.tables.exec = Jvm.exec) (hb : c.code = cc) (hts : ∀ w ∈ Ts, w.before args s = true) (hin : ∀ w ∈ u_ws C T N, w ∈ Ts) (hown : s.vm.findClass own = some m.cls) (hK : va_K D cl tys s) (hc : cl[ci]? = some (C, T, N)) (k : Nat) (hk : k < N) (hlink : (Cond.fieldLinkNest own index ref (T k).2.1 (T k).2.2.1 host).before args s = true) (hsame : ∀ x, s.fieldFound? (T k).1 (T k).2.1 (T k).2.2.1 = some x → s.fieldFound? ref (T k).2.1 (T k).2.2.1 = some x) (hdg : decode cc pc = .ok (.getfield index, 3)) (kk : vx_NoteN p l e R s m args below meth c H locs cells slots Q (F0 m pc ls rest)) : W p l e R s m args below meth c H locs cells slots Q (F0 m pc ls (.null :: rest)) := by
  obtain ⟨hS, hfc, kC, hkC, -⟩ := hK.1 ci _ hc
  obtain ⟨cf, kf, fi, f, hi, -⟩ := hS k hk
  intro U hU X
  obtain ⟨vm', X1, st1⟩ := X.getfieldNullNest hexec hown hlink (hsame _ hi) (u_facts hfc hkC (u_lays hts hin hk) hi).1 (g := F0 m pc ls (.null :: rest)) rfl (rest := rest) rfl (by rw [hb]; exact hdg)
  obtain ⟨t, st, q⟩ := kk (U.setVm vm') hU X1
  exact ⟨t, st1 t st, q⟩
theorem vx_putfN {D cl tys} {own ref C : String} {T : u_T} {N ci index : Nat} {Ts : List Cond} (hexec : p.tables.exec = Jvm.exec) (hb : c.code = cc) (hts : ∀ w ∈ Ts, w.before args s = true) (hin : ∀ w ∈ u_ws C T N, w ∈ Ts) (hown : s.vm.findClass own = some m.cls) (hK : va_K D cl tys s) (hc : cl[ci]? = some (C, T, N)) (k : Nat) (hk : k < N) (hlink : (Cond.fieldLink own index ref (T k).2.1 (T k).2.2.1).before args s = true) (hsame : ∀ x, s.fieldFound? (T k).1 (T k).2.1 (T k).2.2.1 = some x → s.fieldFound? ref (T k).2.1 (T k).2.2.1 = some x) (hfin : (T k).2.2.2 = false) {v : Value} (hdg : decode cc pc = .ok (.putfield index, 3)) (kk : vx_NoteN p l e R s m args below meth c H locs cells slots Q (F0 m pc ls rest)) : W p l e R s m args below meth c H locs cells slots Q (F0 m pc ls (v :: .null :: rest)) := by
  obtain ⟨hS, hfc, kC, hkC, -⟩ := hK.1 ci _ hc
  obtain ⟨cf, kf, fi, f, hi, -⟩ := hS k hk
  have hlay := hts _ (hin _ (u_in_lay hk))
  unfold u_lay at hlay
  rw [if_neg (by rw [hfin]; decide)] at hlay
  obtain ⟨c9, k9, cf9, kf9, fi9, f9, -, -, hi9, hst9, hnf9, -⟩ := Cond.lays_spec hlay
  cases hi.symm.trans hi9
  intro U hU X
  obtain ⟨vm', X1, st1⟩ := X.putfieldNull hexec hown hlink (hsame _ hi) hst9 hnf9 (g := F0 m pc ls (v :: .null :: rest)) rfl (v := v) (rest := rest) rfl (by rw [hb]; exact hdg)
  obtain ⟨t, st, q⟩ := kk (U.setVm vm') hU X1
  exact ⟨t, st1 t st, q⟩
theorem vx_putfNN {D cl tys} {own ref C host : String} {T : u_T} {N ci index : Nat} {Ts : List Cond} (hexec : p.tables.exec = Jvm.exec) (hb : c.code = cc) (hts : ∀ w ∈ Ts, w.before args s = true) (hin : ∀ w ∈ u_ws C T N, w ∈ Ts) (hown : s.vm.findClass own = some m.cls) (hK : va_K D cl tys s) (hc : cl[ci]? = some (C, T, N)) (k : Nat) (hk : k < N) (hlink : (Cond.fieldLinkNest own index ref (T k).2.1 (T k).2.2.1 host).before args s = true) (hsame : ∀ x, s.fieldFound? (T k).1 (T k).2.1 (T k).2.2.1 = some x → s.fieldFound? ref (T k).2.1 (T k).2.2.1 = some x) (hfin : (T k).2.2.2 = false) {v : Value} (hdg : decode cc pc = .ok (.putfield index, 3)) (kk : vx_NoteN p l e R s m args below meth c H locs cells slots Q (F0 m pc ls rest)) : W p l e R s m args below meth c H locs cells slots Q (F0 m pc ls (v :: .null :: rest)) := by
  obtain ⟨hS, hfc, kC, hkC, -⟩ := hK.1 ci _ hc
  obtain ⟨cf, kf, fi, f, hi, -⟩ := hS k hk
  have hlay := hts _ (hin _ (u_in_lay hk))
  unfold u_lay at hlay
  rw [if_neg (by rw [hfin]; decide)] at hlay
  obtain ⟨c9, k9, cf9, kf9, fi9, f9, -, -, hi9, hst9, hnf9, -⟩ := Cond.lays_spec hlay
  cases hi.symm.trans hi9
  intro U hU X
  obtain ⟨vm', X1, st1⟩ := X.putfieldNullNest hexec hown hlink (hsame _ hi) hst9 hnf9 (g := F0 m pc ls (v :: .null :: rest)) rfl (v := v) (rest := rest) rfl (by rw [hb]; exact hdg)
  obtain ⟨t, st, q⟩ := kk (U.setVm vm') hU X1
  exact ⟨t, st1 t st, q⟩
theorem vx_athrowN (hexec : p.tables.exec = Jvm.exec) (hb : c.code = cc) (hdg : decode cc pc = .ok (.athrow, 1)) (k : vx_NoteN p l e R s m args below meth c H locs cells slots Q (F0 m pc ls rest)) : W p l e R s m args below meth c H locs cells slots Q (F0 m pc ls (.null :: rest)) := by
  intro T hT X
  obtain ⟨t, st, q⟩ := k T hT X
  exact ⟨t, X.athrowNull hexec (g := F0 m pc ls (.null :: rest)) rfl (rest := rest) rfl (by rw [hb]; exact hdg) t st, q⟩
end VXM2
/-! ===== END ===== -/
end
section
/-! NAMES: classes, fields in the order of their slots, methods: begun with the printed names -/
def RX0 : String := "FindTables$Chances"
def TX0 : u_T := fun k => match k with
  | 0 => ("FindTables$Chances", "first", "LFindTables$Draw;", true)
  | 1 => ("FindTables$Chances", "second", "LFindTables$Draw;", true)
  | 2 => ("FindTables$Chances", "way", "[I", true)
  | 3 => ("FindTables$Chances", "itemShares", "[J", true)
  | 4 => ("FindTables$Chances", "bestShares", "[J", true)
  | 5 => ("FindTables$Chances", "mean", "J", false)
  | _ => ("FindTables$Chances", "top", "I", false)
def tyX0 : Nat → FieldType := fun k => match k with
  | 0 => .object "FindTables$Draw"
  | 1 => .object "FindTables$Draw"
  | 2 => .array .int
  | 3 => .array .long
  | 4 => .array .long
  | 5 => .long
  | _ => .int
theorem nmX0 : ∀ a, a < 7 → ∀ b, b < 7 → a ≠ b → (TX0 a).2.1 ≠ (TX0 b).2.1 := by decide +kernel
theorem tyX0_ok : ∀ k, k < 7 → parseFieldDescriptor (TX0 k).2.2.1 = some (tyX0 k) := by decide +kernel
abbrev cX0_init : ByteArray := prog_2_method_1_code
def yX0_init : MethodName := ⟨RX0, "<init>", "()V"⟩
abbrev cX0_forget : ByteArray := prog_2_method_2_code
def yX0_forget : MethodName := ⟨RX0, "forget", "()V"⟩
abbrev cX0_reckonFor : ByteArray := prog_2_method_3_code
def yX0_reckonFor : MethodName := ⟨RX0, "reckonFor", "(LFindTables$State;I)V"⟩
abbrev cX0_ofItem : ByteArray := prog_2_method_4_code
def yX0_ofItem : MethodName := ⟨RX0, "ofItem", "(I)J"⟩
abbrev cX0_ofRarity : ByteArray := prog_2_method_5_code
def yX0_ofRarity : MethodName := ⟨RX0, "ofRarity", "(I)J"⟩
abbrev cX0_goOn : ByteArray := prog_2_method_6_code
def yX0_goOn : MethodName := ⟨RX0, "goOn", "(LFindTables$State;IIIJ)V"⟩
abbrev cX0_handOn : ByteArray := prog_2_method_7_code
def yX0_handOn : MethodName := ⟨RX0, "handOn", "(LFindTables$State;IIIIJ)V"⟩
abbrev cX0_endOpening : ByteArray := prog_2_method_8_code
def yX0_endOpening : MethodName := ⟨RX0, "endOpening", "(IIJ)V"⟩
def RX1 : String := "FindTables$Draw"
def TX1 : u_T := fun k => match k with
  | 0 => ("FindTables$Draw", "weights", "[I", true)
  | 1 => ("FindTables$Draw", "sums", "[I", true)
  | _ => ("FindTables$Draw", "wanted", "I", false)
def tyX1 : Nat → FieldType := fun k => match k with
  | 0 => .array .int
  | 1 => .array .int
  | _ => .int
theorem nmX1 : ∀ a, a < 3 → ∀ b, b < 3 → a ≠ b → (TX1 a).2.1 ≠ (TX1 b).2.1 := by decide +kernel
theorem tyX1_ok : ∀ k, k < 3 → parseFieldDescriptor (TX1 k).2.2.1 = some (tyX1 k) := by decide +kernel
abbrev cX1_init : ByteArray := prog_3_method_1_code
def yX1_init : MethodName := ⟨RX1, "<init>", "()V"⟩
abbrev cX1_prepare : ByteArray := prog_3_method_2_code
def yX1_prepare : MethodName := ⟨RX1, "prepare", "(LFindTables$State;III)V"⟩
abbrev cX1_weigh : ByteArray := prog_3_method_3_code
def yX1_weigh : MethodName := ⟨RX1, "weigh", "(LFindTables$State;III)V"⟩
abbrev cX1_reaches : ByteArray := prog_3_method_4_code
def yX1_reaches : MethodName := ⟨RX1, "reaches", "(LFindTables$Tables;II)Z"⟩
abbrev cX1_weightAt : ByteArray := prog_3_method_5_code
def yX1_weightAt : MethodName := ⟨RX1, "weightAt", "(I)I"⟩
abbrev cX1_sumOf : ByteArray := prog_3_method_6_code
def yX1_sumOf : MethodName := ⟨RX1, "sumOf", "(I)I"⟩
abbrev cX1_entryFor : ByteArray := prog_3_method_7_code
def yX1_entryFor : MethodName := ⟨RX1, "entryFor", "(III)I"⟩
def RX2 : String := "FindTables$Finds"
def TX2 : u_T := fun k => match k with
  | 0 => ("FindTables$Finds", "times", "[I", true)
  | 1 => ("FindTables$Finds", "items", "[I", true)
  | 2 => ("FindTables$Finds", "rarities", "[I", true)
  | 3 => ("FindTables$Finds", "numbers", "[I", true)
  | 4 => ("FindTables$Finds", "openings", "I", false)
  | _ => ("FindTables$Finds", "total", "I", false)
def tyX2 : Nat → FieldType := fun k => match k with
  | 0 => .array .int
  | 1 => .array .int
  | 2 => .array .int
  | 3 => .array .int
  | 4 => .int
  | _ => .int
theorem nmX2 : ∀ a, a < 6 → ∀ b, b < 6 → a ≠ b → (TX2 a).2.1 ≠ (TX2 b).2.1 := by decide +kernel
theorem tyX2_ok : ∀ k, k < 6 → parseFieldDescriptor (TX2 k).2.2.1 = some (tyX2 k) := by decide +kernel
abbrev cX2_init : ByteArray := prog_4_method_1_code
def yX2_init : MethodName := ⟨RX2, "<init>", "()V"⟩
abbrev cX2_copyFrom : ByteArray := prog_4_method_2_code
def yX2_copyFrom : MethodName := ⟨RX2, "copyFrom", "(LFindTables$Finds;)V"⟩
abbrev cX2_record : ByteArray := prog_4_method_3_code
def yX2_record : MethodName := ⟨RX2, "record", "(II)V"⟩
abbrev cX2_kept : ByteArray := prog_4_method_4_code
def yX2_kept : MethodName := ⟨RX2, "kept", "()I"⟩
abbrev cX2_tell : ByteArray := prog_4_method_5_code
def yX2_tell : MethodName := ⟨RX2, "tell", "(II)I"⟩
abbrev cX2_differentItems : ByteArray := prog_4_method_6_code
def yX2_differentItems : MethodName := ⟨RX2, "differentItems", "()I"⟩
abbrev cX2_differentOpenings : ByteArray := prog_4_method_7_code
def yX2_differentOpenings : MethodName := ⟨RX2, "differentOpenings", "()I"⟩
def RX3 : String := "FindTables$Luck"
def TX3 : u_T := fun k => match k with
  | 0 => ("FindTables$Luck", "counters", "[I", true)
  | 1 => ("FindTables$Luck", "limits", "[I", true)
  | 2 => ("FindTables$Luck", "rise", "I", false)
  | _ => ("FindTables$Luck", "s", "I", false)
def tyX3 : Nat → FieldType := fun k => match k with
  | 0 => .array .int
  | 1 => .array .int
  | 2 => .int
  | _ => .int
theorem nmX3 : ∀ a, a < 4 → ∀ b, b < 4 → a ≠ b → (TX3 a).2.1 ≠ (TX3 b).2.1 := by decide +kernel
theorem tyX3_ok : ∀ k, k < 4 → parseFieldDescriptor (TX3 k).2.2.1 = some (tyX3 k) := by decide +kernel
abbrev cX3_init : ByteArray := prog_5_method_1_code
def yX3_init : MethodName := ⟨RX3, "<init>", "()V"⟩
abbrev cX3_copyFrom : ByteArray := prog_5_method_2_code
def yX3_copyFrom : MethodName := ⟨RX3, "copyFrom", "(LFindTables$Luck;)V"⟩
abbrev cX3_numberBelow : ByteArray := prog_5_method_3_code
def yX3_numberBelow : MethodName := ⟨RX3, "numberBelow", "(I)I"⟩
abbrev cX3_risen : ByteArray := prog_5_method_4_code
def yX3_risen : MethodName := ⟨RX3, "risen", "(II)I"⟩
abbrev cX3_isDue : ByteArray := prog_5_method_5_code
def yX3_isDue : MethodName := ⟨RX3, "isDue", "(I)Z"⟩
abbrev cX3_countOpening : ByteArray := prog_5_method_6_code
def yX3_countOpening : MethodName := ⟨RX3, "countOpening", "(I)V"⟩
def RX4 : String := "FindTables$Opening"
def TX4 : u_T := fun k => match k with
  | 0 => ("FindTables$Opening", "draw", "LFindTables$Draw;", true)
  | 1 => ("FindTables$Opening", "gone", "I", false)
  | 2 => ("FindTables$Opening", "bestRarity", "I", false)
  | _ => ("FindTables$Opening", "found", "I", false)
def tyX4 : Nat → FieldType := fun k => match k with
  | 0 => .object "FindTables$Draw"
  | 1 => .int
  | 2 => .int
  | _ => .int
theorem nmX4 : ∀ a, a < 4 → ∀ b, b < 4 → a ≠ b → (TX4 a).2.1 ≠ (TX4 b).2.1 := by decide +kernel
theorem tyX4_ok : ∀ k, k < 4 → parseFieldDescriptor (TX4 k).2.2.1 = some (tyX4 k) := by decide +kernel
abbrev cX4_init : ByteArray := prog_6_method_1_code
def yX4_init : MethodName := ⟨RX4, "<init>", "()V"⟩
abbrev cX4_run : ByteArray := prog_6_method_2_code
def yX4_run : MethodName := ⟨RX4, "run", "(LFindTables$State;I)I"⟩
abbrev cX4_drawItem : ByteArray := prog_6_method_3_code
def yX4_drawItem : MethodName := ⟨RX4, "drawItem", "(LFindTables$State;I)V"⟩
abbrev cX4_takeItem : ByteArray := prog_6_method_4_code
def yX4_takeItem : MethodName := ⟨RX4, "takeItem", "(LFindTables$State;II)V"⟩
def RX5 : String := "FindTables$Saved"
def TX5 : u_T := fun k => match k with
  | 0 => ("FindTables$Saved", "states", "[LFindTables$State;", true)
  | 1 => ("FindTables$Saved", "oldest", "I", false)
  | _ => ("FindTables$Saved", "count", "I", false)
def tyX5 : Nat → FieldType := fun k => match k with
  | 0 => .array (.object "FindTables$State")
  | 1 => .int
  | _ => .int
theorem nmX5 : ∀ a, a < 3 → ∀ b, b < 3 → a ≠ b → (TX5 a).2.1 ≠ (TX5 b).2.1 := by decide +kernel
theorem tyX5_ok : ∀ k, k < 3 → parseFieldDescriptor (TX5 k).2.2.1 = some (tyX5 k) := by decide +kernel
abbrev cX5_init : ByteArray := prog_7_method_1_code
def yX5_init : MethodName := ⟨RX5, "<init>", "()V"⟩
abbrev cX5_keep : ByteArray := prog_7_method_2_code
def yX5_keep : MethodName := ⟨RX5, "keep", "(LFindTables$State;)V"⟩
abbrev cX5_takeInto : ByteArray := prog_7_method_3_code
def yX5_takeInto : MethodName := ⟨RX5, "takeInto", "(LFindTables$State;)V"⟩
abbrev cX5_slotBehind : ByteArray := prog_7_method_4_code
def yX5_slotBehind : MethodName := ⟨RX5, "slotBehind", "(I)LFindTables$State;"⟩
def RX6 : String := "FindTables$State"
def TX6 : u_T := fun k => match k with
  | 0 => ("FindTables$State", "tables", "LFindTables$Tables;", true)
  | 1 => ("FindTables$State", "luck", "LFindTables$Luck;", true)
  | _ => ("FindTables$State", "finds", "LFindTables$Finds;", true)
def tyX6 : Nat → FieldType := fun k => match k with
  | 0 => .object "FindTables$Tables"
  | 1 => .object "FindTables$Luck"
  | _ => .object "FindTables$Finds"
theorem nmX6 : ∀ a, a < 3 → ∀ b, b < 3 → a ≠ b → (TX6 a).2.1 ≠ (TX6 b).2.1 := by decide +kernel
theorem tyX6_ok : ∀ k, k < 3 → parseFieldDescriptor (TX6 k).2.2.1 = some (tyX6 k) := by decide +kernel
abbrev cX6_init : ByteArray := prog_8_method_1_code
def yX6_init : MethodName := ⟨RX6, "<init>", "()V"⟩
abbrev cX6_copyFrom : ByteArray := prog_8_method_2_code
def yX6_copyFrom : MethodName := ⟨RX6, "copyFrom", "(LFindTables$State;)V"⟩
abbrev cX6_presentWeight : ByteArray := prog_8_method_3_code
def yX6_presentWeight : MethodName := ⟨RX6, "presentWeight", "(I)I"⟩
def RX7 : String := "FindTables$Tables"
def TX7 : u_T := fun k => match k with
  | 0 => ("FindTables$Tables", "draws", "[I", true)
  | 1 => ("FindTables$Tables", "counts", "[I", true)
  | 2 => ("FindTables$Tables", "whats", "[I", true)
  | 3 => ("FindTables$Tables", "weights", "[I", true)
  | 4 => ("FindTables$Tables", "rarities", "[I", true)
  | 5 => ("FindTables$Tables", "groups", "[I", true)
  | 6 => ("FindTables$Tables", "onces", "[I", true)
  | _ => ("FindTables$Tables", "spents", "[I", true)
def tyX7 : Nat → FieldType := fun k => match k with
  | 0 => .array .int
  | 1 => .array .int
  | 2 => .array .int
  | 3 => .array .int
  | 4 => .array .int
  | 5 => .array .int
  | 6 => .array .int
  | _ => .array .int
theorem nmX7 : ∀ a, a < 8 → ∀ b, b < 8 → a ≠ b → (TX7 a).2.1 ≠ (TX7 b).2.1 := by decide +kernel
theorem tyX7_ok : ∀ k, k < 8 → parseFieldDescriptor (TX7 k).2.2.1 = some (tyX7 k) := by decide +kernel
abbrev cX7_init : ByteArray := prog_9_method_1_code
def yX7_init : MethodName := ⟨RX7, "<init>", "()V"⟩
abbrev cX7_copyFrom : ByteArray := prog_9_method_3_code
def yX7_copyFrom : MethodName := ⟨RX7, "copyFrom", "(LFindTables$Tables;)V"⟩
abbrev cX7_countOf : ByteArray := prog_9_method_4_code
def yX7_countOf : MethodName := ⟨RX7, "countOf", "(I)I"⟩
abbrev cX7_countAll : ByteArray := prog_9_method_5_code
def yX7_countAll : MethodName := ⟨RX7, "countAll", "()I"⟩
abbrev cX7_addTo : ByteArray := prog_9_method_6_code
def yX7_addTo : MethodName := ⟨RX7, "addTo", "(IIIIIZ)I"⟩
abbrev cX7_removeFrom : ByteArray := prog_9_method_7_code
def yX7_removeFrom : MethodName := ⟨RX7, "removeFrom", "(II)I"⟩
abbrev cX7_moveEntry : ByteArray := prog_9_method_8_code
def yX7_moveEntry : MethodName := ⟨RX7, "moveEntry", "(II)V"⟩
abbrev cX7_countSpent : ByteArray := prog_9_method_9_code
def yX7_countSpent : MethodName := ⟨RX7, "countSpent", "()I"⟩
abbrev cX7_spentBits : ByteArray := prog_9_method_10_code
def yX7_spentBits : MethodName := ⟨RX7, "spentBits", "()I"⟩
abbrev cX7_unspend : ByteArray := prog_9_method_11_code
def yX7_unspend : MethodName := ⟨RX7, "unspend", "()I"⟩
abbrev cX7_stopBits : ByteArray := prog_9_method_12_code
def yX7_stopBits : MethodName := ⟨RX7, "stopBits", "(II)I"⟩
abbrev cX7_drawnBits : ByteArray := prog_9_method_13_code
def yX7_drawnBits : MethodName := ⟨RX7, "drawnBits", "(II)I"⟩
abbrev cX7_spendIfOnce : ByteArray := prog_9_method_14_code
def yX7_spendIfOnce : MethodName := ⟨RX7, "spendIfOnce", "(I)V"⟩
def RX8 : String := "FindTables$Text"
def TX8 : u_T := fun k => match k with
  | 0 => ("FindTables$Text", "bytes", "[B", true)
  | 1 => ("FindTables$Text", "length", "I", false)
  | 2 => ("FindTables$Text", "position", "I", false)
  | _ => ("FindTables$Text", "fault", "I", false)
def tyX8 : Nat → FieldType := fun k => match k with
  | 0 => .array .byte
  | 1 => .int
  | 2 => .int
  | _ => .int
theorem nmX8 : ∀ a, a < 4 → ∀ b, b < 4 → a ≠ b → (TX8 a).2.1 ≠ (TX8 b).2.1 := by decide +kernel
theorem tyX8_ok : ∀ k, k < 4 → parseFieldDescriptor (TX8 k).2.2.1 = some (tyX8 k) := by decide +kernel
abbrev cX8_init : ByteArray := prog_10_method_1_code
def yX8_init : MethodName := ⟨RX8, "<init>", "()V"⟩
abbrev cX8_add : ByteArray := prog_10_method_2_code
def yX8_add : MethodName := ⟨RX8, "add", "(I)I"⟩
def RX9 : String := "FindTables"
def TX9 : u_T := fun k => match k with
  | 0 => ("FindTables", "now", "LFindTables$State;", true)
  | 1 => ("FindTables", "trial", "LFindTables$State;", true)
  | 2 => ("FindTables", "saved", "LFindTables$Saved;", true)
  | 3 => ("FindTables", "text", "LFindTables$Text;", true)
  | 4 => ("FindTables", "readTables", "LFindTables$Tables;", true)
  | 5 => ("FindTables", "opening", "LFindTables$Opening;", true)
  | 6 => ("FindTables", "firstDraw", "LFindTables$Draw;", true)
  | 7 => ("FindTables", "chances", "LFindTables$Chances;", true)
  | _ => ("FindTables", "trialChances", "LFindTables$Chances;", true)
def tyX9 : Nat → FieldType := fun k => match k with
  | 0 => .object "FindTables$State"
  | 1 => .object "FindTables$State"
  | 2 => .object "FindTables$Saved"
  | 3 => .object "FindTables$Text"
  | 4 => .object "FindTables$Tables"
  | 5 => .object "FindTables$Opening"
  | 6 => .object "FindTables$Draw"
  | 7 => .object "FindTables$Chances"
  | _ => .object "FindTables$Chances"
theorem nmX9 : ∀ a, a < 9 → ∀ b, b < 9 → a ≠ b → (TX9 a).2.1 ≠ (TX9 b).2.1 := by decide +kernel
theorem tyX9_ok : ∀ k, k < 9 → parseFieldDescriptor (TX9 k).2.2.1 = some (tyX9 k) := by decide +kernel
abbrev cX9_init : ByteArray := prog_1_method_1_code
def yX9_init : MethodName := ⟨RX9, "<init>", "()V"⟩
abbrev cX9_setDraws : ByteArray := prog_1_method_2_code
def yX9_setDraws : MethodName := ⟨RX9, "setDraws", "(II)I"⟩
abbrev cX9_addEntry : ByteArray := prog_1_method_3_code
def yX9_addEntry : MethodName := ⟨RX9, "addEntry", "(IIIIIZ)I"⟩
abbrev cX9_removeEntry : ByteArray := prog_1_method_4_code
def yX9_removeEntry : MethodName := ⟨RX9, "removeEntry", "(II)I"⟩
abbrev cX9_setWeight : ByteArray := prog_1_method_5_code
def yX9_setWeight : MethodName := ⟨RX9, "setWeight", "(III)I"⟩
abbrev cX9_restore : ByteArray := prog_1_method_6_code
def yX9_restore : MethodName := ⟨RX9, "restore", "()I"⟩
abbrev cX9_entry : ByteArray := prog_1_method_7_code
def yX9_entry : MethodName := ⟨RX9, "entry", "(III)I"⟩
abbrev cX9_table : ByteArray := prog_1_method_8_code
def yX9_table : MethodName := ⟨RX9, "table", "(II)I"⟩
abbrev cX9_setCounter : ByteArray := prog_1_method_9_code
def yX9_setCounter : MethodName := ⟨RX9, "setCounter", "(II)I"⟩
abbrev cX9_setLimit : ByteArray := prog_1_method_10_code
def yX9_setLimit : MethodName := ⟨RX9, "setLimit", "(II)I"⟩
abbrev cX9_setRise : ByteArray := prog_1_method_11_code
def yX9_setRise : MethodName := ⟨RX9, "setRise", "(II)I"⟩
abbrev cX9_luck : ByteArray := prog_1_method_12_code
def yX9_luck : MethodName := ⟨RX9, "luck", "(IZ)I"⟩
abbrev cX9_value : ByteArray := prog_1_method_13_code
def yX9_value : MethodName := ⟨RX9, "value", "(I)I"⟩
abbrev cX9_open : ByteArray := prog_1_method_14_code
def yX9_open : MethodName := ⟨RX9, "open", "(I)I"⟩
abbrev cX9_openOften : ByteArray := prog_1_method_15_code
def yX9_openOften : MethodName := ⟨RX9, "openOften", "(II)I"⟩
abbrev cX9_find : ByteArray := prog_1_method_16_code
def yX9_find : MethodName := ⟨RX9, "find", "(II)I"⟩
abbrev cX9_often : ByteArray := prog_1_method_17_code
def yX9_often : MethodName := ⟨RX9, "often", "(I)I"⟩
abbrev cX9_chance : ByteArray := prog_1_method_18_code
def yX9_chance : MethodName := ⟨RX9, "chance", "(IIZ)I"⟩
abbrev cX9_chanceOf : ByteArray := prog_1_method_19_code
def yX9_chanceOf : MethodName := ⟨RX9, "chanceOf", "(II)I"⟩
abbrev cX9_chanceRare : ByteArray := prog_1_method_20_code
def yX9_chanceRare : MethodName := ⟨RX9, "chanceRare", "(II)I"⟩
abbrev cX9_meanFinds : ByteArray := prog_1_method_21_code
def yX9_meanFinds : MethodName := ⟨RX9, "meanFinds", "(I)J"⟩
abbrev cX9_luckyShare : ByteArray := prog_1_method_22_code
def yX9_luckyShare : MethodName := ⟨RX9, "luckyShare", "()D"⟩
abbrev cX9_soonest : ByteArray := prog_1_method_23_code
def yX9_soonest : MethodName := ⟨RX9, "soonest", "(II)I"⟩
abbrev cX9_bestDouble : ByteArray := prog_1_method_24_code
def yX9_bestDouble : MethodName := ⟨RX9, "bestDouble", "(II)I"⟩
abbrev cX9_append : ByteArray := prog_1_method_25_code
def yX9_append : MethodName := ⟨RX9, "append", "(I)I"⟩
abbrev cX9_undo : ByteArray := prog_1_method_28_code
def yX9_undo : MethodName := ⟨RX9, "undo", "()I"⟩
abbrev cX9_needTable : ByteArray := prog_1_method_30_code
def yX9_needTable : MethodName := ⟨RX9, "needTable", "(I)V"⟩
abbrev cX9_needEntry : ByteArray := prog_1_method_31_code
def yX9_needEntry : MethodName := ⟨RX9, "needEntry", "(II)V"⟩
abbrev cX9_needItem : ByteArray := prog_1_method_32_code
def yX9_needItem : MethodName := ⟨RX9, "needItem", "(I)V"⟩
abbrev cX9_needCountedRarity : ByteArray := prog_1_method_33_code
def yX9_needCountedRarity : MethodName := ⟨RX9, "needCountedRarity", "(I)V"⟩
abbrev cX9_needRange : ByteArray := prog_1_method_34_code
def yX9_needRange : MethodName := ⟨RX9, "needRange", "(III)V"⟩
abbrev cX9_saveState : ByteArray := prog_1_method_35_code
def yX9_saveState : MethodName := ⟨RX9, "saveState", "()V"⟩
abbrev cX9_prepareFirstDraw : ByteArray := prog_1_method_36_code
def yX9_prepareFirstDraw : MethodName := ⟨RX9, "prepareFirstDraw", "(I)V"⟩
abbrev cX9_tellEntry : ByteArray := prog_1_method_37_code
def yX9_tellEntry : MethodName := ⟨RX9, "tellEntry", "(III)I"⟩
abbrev cX9_tellTable : ByteArray := prog_1_method_38_code
def yX9_tellTable : MethodName := ⟨RX9, "tellTable", "(II)I"⟩
abbrev cX9_tellValue : ByteArray := prog_1_method_39_code
def yX9_tellValue : MethodName := ⟨RX9, "tellValue", "(I)I"⟩
abbrev cX9_greatestDivisor : ByteArray := prog_1_method_42_code
def yX9_greatestDivisor : MethodName := ⟨RX9, "greatestDivisor", "(II)I"⟩
abbrev cX9_isLink : ByteArray := prog_1_method_43_code
def yX9_isLink : MethodName := ⟨RX9, "isLink", "(I)Z"⟩
abbrev cX9_linkedTable : ByteArray := prog_1_method_44_code
def yX9_linkedTable : MethodName := ⟨RX9, "linkedTable", "(I)I"⟩
abbrev cX9_isLowLink : ByteArray := prog_1_method_45_code
def yX9_isLowLink : MethodName := ⟨RX9, "isLowLink", "(II)Z"⟩
abbrev cX9_greatestRarity : ByteArray := prog_1_method_46_code
def yX9_greatestRarity : MethodName := ⟨RX9, "greatestRarity", "(I)I"⟩
abbrev cX9_placeOf : ByteArray := prog_1_method_47_code
def yX9_placeOf : MethodName := ⟨RX9, "placeOf", "(II)I"⟩
abbrev cX9_spentBit : ByteArray := prog_1_method_48_code
def yX9_spentBit : MethodName := ⟨RX9, "spentBit", "(I)I"⟩
abbrev cX9_groupBit : ByteArray := prog_1_method_49_code
def yX9_groupBit : MethodName := ⟨RX9, "groupBit", "(II)I"⟩
abbrev cX9_at : ByteArray := prog_1_method_50_code
def yX9_at : MethodName := ⟨RX9, "at", "([II)I"⟩
abbrev cX9_put : ByteArray := prog_1_method_51_code
def yX9_put : MethodName := ⟨RX9, "put", "([III)V"⟩
abbrev cX9_at_ : ByteArray := prog_1_method_52_code
def yX9_at_ : MethodName := ⟨RX9, "at", "([JI)J"⟩
abbrev cX9_exchange : ByteArray := prog_1_method_53_code
def yX9_exchange : MethodName := ⟨RX9, "exchange", "([III)I"⟩
abbrev cX9_copyRow : ByteArray := prog_1_method_54_code
def yX9_copyRow : MethodName := ⟨RX9, "copyRow", "([I[I)V"⟩
def RX10 : String := "FindTablesModel"
def TX10 : u_T := fun k => match k with
  | _ => ("", "", "", false)
def tyX10 : Nat → FieldType := fun k => match k with
  | _ => .int
theorem nmX10 : ∀ a, a < 0 → ∀ b, b < 0 → a ≠ b → (TX10 a).2.1 ≠ (TX10 b).2.1 := by decide +kernel
theorem tyX10_ok : ∀ k, k < 0 → parseFieldDescriptor (TX10 k).2.2.1 = some (tyX10 k) := by decide +kernel
def RJ6 : String := "java/lang/Integer"
abbrev cJ6_bitCount_0f7a4 : ByteArray := prog_17_method_49_code
def yJ6_bitCount_0f7a4 : MethodName := ⟨RJ6, "bitCount", "(I)I"⟩
def RJ9 : String := "java/lang/Math"
abbrev cJ9_floorMod_7cf53 : ByteArray := prog_18_method_50_code
def yJ9_floorMod_7cf53 : MethodName := ⟨RJ9, "floorMod", "(II)I"⟩
abbrev cJ9_max_7cf53 : ByteArray := prog_18_method_65_code
def yJ9_max_7cf53 : MethodName := ⟨RJ9, "max", "(II)I"⟩
abbrev cJ9_min_7cf53 : ByteArray := prog_18_method_69_code
def yJ9_min_7cf53 : MethodName := ⟨RJ9, "min", "(II)I"⟩
def RJ7 : String := "java/util/Arrays"
abbrev cJ7_fill_d0a16 : ByteArray := prog_23_method_101_code
def yJ7_fill_d0a16 : MethodName := ⟨RJ7, "fill", "([JJ)V"⟩
abbrev cJ7_fill_53178 : ByteArray := prog_23_method_103_code
def yJ7_fill_53178 : MethodName := ⟨RJ7, "fill", "([II)V"⟩
def RL : String := "FindTablesLaw"
abbrev cL_cell : ByteArray := method_2_code
def yL_cell : MethodName := ⟨RL, "cell", "([II)I"⟩
abbrev cL_low : ByteArray := method_3_code
def yL_low : MethodName := ⟨RL, "low", "(II)I"⟩
abbrev cL_setDraws : ByteArray := method_4_code
def yL_setDraws : MethodName := ⟨RL, "setDraws", "(LFindTables;II)I"⟩
abbrev cL_addEntry : ByteArray := method_5_code
def yL_addEntry : MethodName := ⟨RL, "addEntry", "(LFindTables;IIIIIZ)I"⟩
abbrev cL_removeEntry : ByteArray := method_6_code
def yL_removeEntry : MethodName := ⟨RL, "removeEntry", "(LFindTables;II)I"⟩
abbrev cL_setWeight : ByteArray := method_7_code
def yL_setWeight : MethodName := ⟨RL, "setWeight", "(LFindTables;III)I"⟩
abbrev cL_entry : ByteArray := method_8_code
def yL_entry : MethodName := ⟨RL, "entry", "(LFindTables;III)I"⟩
abbrev cL_table : ByteArray := method_9_code
def yL_table : MethodName := ⟨RL, "table", "(LFindTables;II)I"⟩
abbrev cL_setCounter : ByteArray := method_10_code
def yL_setCounter : MethodName := ⟨RL, "setCounter", "(LFindTables;II)I"⟩
abbrev cL_setLimit : ByteArray := method_11_code
def yL_setLimit : MethodName := ⟨RL, "setLimit", "(LFindTables;II)I"⟩
abbrev cL_setRise : ByteArray := method_12_code
def yL_setRise : MethodName := ⟨RL, "setRise", "(LFindTables;II)I"⟩
abbrev cL_luck : ByteArray := method_13_code
def yL_luck : MethodName := ⟨RL, "luck", "(LFindTables;IZ)I"⟩
abbrev cL_value : ByteArray := method_14_code
def yL_value : MethodName := ⟨RL, "value", "(LFindTables;I)I"⟩
abbrev cL_open : ByteArray := method_15_code
def yL_open : MethodName := ⟨RL, "open", "(LFindTables;I)I"⟩
abbrev cL_openOften : ByteArray := method_16_code
def yL_openOften : MethodName := ⟨RL, "openOften", "(LFindTables;II)I"⟩
abbrev cL_find : ByteArray := method_17_code
def yL_find : MethodName := ⟨RL, "find", "(LFindTables;II)I"⟩
abbrev cL_often : ByteArray := method_18_code
def yL_often : MethodName := ⟨RL, "often", "(LFindTables;I)I"⟩
abbrev cL_chance : ByteArray := method_19_code
def yL_chance : MethodName := ⟨RL, "chance", "(LFindTables;IIZ)I"⟩
abbrev cL_chanceOf : ByteArray := method_20_code
def yL_chanceOf : MethodName := ⟨RL, "chanceOf", "(LFindTables;II)I"⟩
abbrev cL_chanceRare : ByteArray := method_21_code
def yL_chanceRare : MethodName := ⟨RL, "chanceRare", "(LFindTables;II)I"⟩
abbrev cL_meanFinds : ByteArray := method_22_code
def yL_meanFinds : MethodName := ⟨RL, "meanFinds", "(LFindTables;I)J"⟩
abbrev cL_soonest : ByteArray := method_23_code
def yL_soonest : MethodName := ⟨RL, "soonest", "(LFindTables;II)I"⟩
abbrev cL_bestDouble : ByteArray := method_24_code
def yL_bestDouble : MethodName := ⟨RL, "bestDouble", "(LFindTables;II)I"⟩
abbrev cL_append : ByteArray := method_25_code
def yL_append : MethodName := ⟨RL, "append", "(LFindTables;I)I"⟩
abbrev cL_undo : ByteArray := method_26_code
def yL_undo : MethodName := ⟨RL, "undo", "(LFindTables;)I"⟩
abbrev cL_print : ByteArray := method_27_code
def yL_print : MethodName := ⟨RL, "print", "(LFindTables;)J"⟩
abbrev cL_refused : ByteArray := method_28_code
def yL_refused : MethodName := ⟨RL, "refused", "(LFindTables;)Z"⟩
abbrev cL_areTables : ByteArray := method_29_code
def yL_areTables : MethodName := ⟨RL, "areTables", "(LFindTables;)Z"⟩
abbrev cL_areFinds : ByteArray := method_30_code
def yL_areFinds : MethodName := ⟨RL, "areFinds", "(LFindTables;)Z"⟩
abbrev cL_areChances : ByteArray := method_31_code
def yL_areChances : MethodName := ⟨RL, "areChances", "(LFindTables;II)Z"⟩
abbrev cL_isSoonest : ByteArray := method_32_code
def yL_isSoonest : MethodName := ⟨RL, "isSoonest", "(LFindTables;II)Z"⟩
abbrev cL_isOpened : ByteArray := method_33_code
def yL_isOpened : MethodName := ⟨RL, "isOpened", "(LFindTables;I)Z"⟩
abbrev cL_acts : ByteArray := method_34_code
def yL_acts : MethodName := ⟨RL, "acts", "(LFindTables;II)I"⟩
abbrev cL_law : ByteArray := code
def yL_law : MethodName := ⟨RL, "law", "([I)Z"⟩
abbrev vwCl : List vw_C := [(RX0, TX0, 7), (RX1, TX1, 3), (RX2, TX2, 6), (RX3, TX3, 4), (RX4, TX4, 4), (RX5, TX5, 3), (RX6, TX6, 3), (RX7, TX7, 8), (RX8, TX8, 4), (RX9, TX9, 9)]
end
section
/-! TABLES: link tables, methods; the entries are numbers, held against the printed words by program -/
def cn : Nat → String := fun k => match k with
  | 0 => RX0
  | 1 => RX1
  | 2 => RX2
  | 3 => RX3
  | 4 => RX4
  | 5 => RX5
  | 6 => RX6
  | 7 => RX7
  | 8 => RX8
  | 9 => RX9
  | 10 => RX10
  | 11 => RJ6
  | 12 => RJ9
  | 13 => RJ7
  | _ => RL
def fT : Nat → u_T := fun k => match k with
  | 0 => TX0
  | 1 => TX1
  | 2 => TX2
  | 3 => TX3
  | 4 => TX4
  | 5 => TX5
  | 6 => TX6
  | 7 => TX7
  | 8 => TX8
  | 9 => TX9
  | _ => TX10
def fN : Nat → Nat := fun k => match k with
  | 0 => 7
  | 1 => 3
  | 2 => 6
  | 3 => 4
  | 4 => 4
  | 5 => 3
  | 6 => 3
  | 7 => 8
  | 8 => 4
  | 9 => 9
  | _ => 0
def fY : Nat → Nat → FieldType := fun k => match k with
  | 0 => tyX0
  | 1 => tyX1
  | 2 => tyX2
  | 3 => tyX3
  | 4 => tyX4
  | 5 => tyX5
  | 6 => tyX6
  | 7 => tyX7
  | 8 => tyX8
  | 9 => tyX9
  | _ => tyX10
/-- the methods: name, code, locals, answer, handlers -/
abbrev MR : Type := MethodName × ByteArray × Nat × Option FieldType × List (Nat × Nat × Nat × Nat)
def mtb_0 : List MR := [(yX9_init, cX9_init, 1, none, []), (yX6_init, cX6_init, 1, none, []), (yX7_init, cX7_init, 1, none, []), (yX3_init, cX3_init, 1, none, []), (yX2_init, cX2_init, 1, none, []), (yX5_init, cX5_init, 2, none, []), (yX8_init, cX8_init, 1, none, []), (yX4_init, cX4_init, 1, none, []), (yX1_init, cX1_init, 1, none, []), (yX0_init, cX0_init, 1, none, []), (yX9_restore, cX9_restore, 1, (some .int), []), (yX9_saveState, cX9_saveState, 1, none, []), (yX5_keep, cX5_keep, 3, none, []), (yX5_slotBehind, cX5_slotBehind, 3, (some (.object "FindTables$State")), []), (yJ9_floorMod_7cf53, cJ9_floorMod_7cf53, 3, (some .int), []), (yX6_copyFrom, cX6_copyFrom, 2, none, []), (yX7_copyFrom, cX7_copyFrom, 2, none, []), (yX9_copyRow, cX9_copyRow, 2, none, []), (yJ9_min_7cf53, cJ9_min_7cf53, 2, (some .int), []), (yX3_copyFrom, cX3_copyFrom, 2, none, []), (yX2_copyFrom, cX2_copyFrom, 2, none, []), (yX0_forget, cX0_forget, 1, none, []), (yX7_unspend, cX7_unspend, 2, (some .int), []), (yX7_countSpent, cX7_countSpent, 1, (some .int), []), (yX7_spentBits, cX7_spentBits, 5, (some .int), []), (yX7_countOf, cX7_countOf, 2, (some .int), []), (yX9_at, cX9_at, 2, (some .int), []), (yX9_placeOf, cX9_placeOf, 2, (some .int), []), (yX9_spentBit, cX9_spentBit, 1, (some .int), []), (yJ6_bitCount_0f7a4, cJ6_bitCount_0f7a4, 1, (some .int), []), (yJ7_fill_53178, cJ7_fill_53178, 4, none, []), (yX9_luckyShare, cX9_luckyShare, 2, (some .double), [])]
def mtb_1 : List MR := [(yX2_differentOpenings, cX2_differentOpenings, 5, (some .int), []), (yX2_kept, cX2_kept, 1, (some .int), []), (yX2_tell, cX2_tell, 4, (some .int), []), (yX9_spentBit, cX9_spentBit, 1, (some .int), []), (yX9_spentBit, cX9_spentBit, 1, (some .int), []), (yX9_spentBit, cX9_spentBit, 1, (some .int), []), (yX9_spentBit, cX9_spentBit, 1, (some .int), []), (yX9_spentBit, cX9_spentBit, 1, (some .int), []), (yX9_spentBit, cX9_spentBit, 1, (some .int), []), (yX9_spentBit, cX9_spentBit, 1, (some .int), []), (yX9_spentBit, cX9_spentBit, 1, (some .int), []), (yX9_spentBit, cX9_spentBit, 1, (some .int), []), (yX9_put, cX9_put, 3, none, []), (yX9_spentBit, cX9_spentBit, 1, (some .int), []), (yX9_spentBit, cX9_spentBit, 1, (some .int), []), (yX9_spentBit, cX9_spentBit, 1, (some .int), []), (yX9_spentBit, cX9_spentBit, 1, (some .int), []), (yX9_spentBit, cX9_spentBit, 1, (some .int), []), (yX9_isLowLink, cX9_isLowLink, 2, (some .boolean), []), (yX9_isLink, cX9_isLink, 1, (some .boolean), []), (yX9_linkedTable, cX9_linkedTable, 1, (some .int), []), (yX9_greatestRarity, cX9_greatestRarity, 1, (some .int), []), (yX9_spentBit, cX9_spentBit, 1, (some .int), []), (yX7_addTo, cX7_addTo, 9, (some .int), []), (yX7_countAll, cX7_countAll, 3, (some .int), []), (yX9_spentBit, cX9_spentBit, 1, (some .int), []), (yX9_spentBit, cX9_spentBit, 1, (some .int), []), (yX9_tellValue, cX9_tellValue, 2, (some .int), []), (yX2_differentItems, cX2_differentItems, 3, (some .int), []), (yX9_spentBit, cX9_spentBit, 1, (some .int), []), (yX9_tellTable, cX9_tellTable, 3, (some .int), []), (yX9_prepareFirstDraw, cX9_prepareFirstDraw, 2, none, [])]
def mtb_2 : List MR := [(yX1_prepare, cX1_prepare, 6, none, []), (yX3_isDue, cX3_isDue, 2, (some .boolean), []), (yX1_weigh, cX1_weigh, 12, none, []), (yX7_stopBits, cX7_stopBits, 3, (some .int), []), (yX9_groupBit, cX9_groupBit, 2, (some .int), []), (yX1_reaches, cX1_reaches, 5, (some .boolean), []), (yX1_sumOf, cX1_sumOf, 2, (some .int), []), (yX6_presentWeight, cX6_presentWeight, 2, (some .int), []), (yX3_risen, cX3_risen, 3, (some .int), []), (yX9_tellEntry, cX9_tellEntry, 5, (some .int), []), (yX1_weightAt, cX1_weightAt, 2, (some .int), []), (yX0_reckonFor, cX0_reckonFor, 3, none, []), (yJ7_fill_d0a16, cJ7_fill_d0a16, 5, none, []), (yX0_goOn, cX0_goOn, 8, none, []), (yX0_endOpening, cX0_endOpening, 7, none, []), (yX0_handOn, cX0_handOn, 20, none, []), (yX7_drawnBits, cX7_drawnBits, 4, (some .int), []), (yJ9_max_7cf53, cJ9_max_7cf53, 2, (some .int), []), (yX0_ofRarity, cX0_ofRarity, 5, (some .long), []), (yX9_at_, cX9_at_, 2, (some .long), []), (yL_setDraws, cL_setDraws, 5, (some .int), [(0, 7, 10, 15), (0, 7, 15, 18)]), (yX9_setDraws, cX9_setDraws, 3, (some .int), []), (yX9_needTable, cX9_needTable, 1, none, []), (yX9_needRange, cX9_needRange, 3, none, []), (yX9_exchange, cX9_exchange, 4, (some .int), []), (yL_addEntry, cL_addEntry, 9, (some .int), [(0, 15, 18, 15), (0, 15, 23, 18), (0, 15, 28, 25)]), (yX9_addEntry, cX9_addEntry, 7, (some .int), []), (yL_removeEntry, cL_removeEntry, 5, (some .int), [(0, 7, 10, 15)]), (yX9_removeEntry, cX9_removeEntry, 3, (some .int), []), (yX9_needEntry, cX9_needEntry, 3, none, []), (yX7_removeFrom, cX7_removeFrom, 5, (some .int), []), (yX7_moveEntry, cX7_moveEntry, 3, none, [])]
def mtb_3 : List MR := [(yL_setWeight, cL_setWeight, 6, (some .int), [(0, 9, 12, 15), (0, 9, 17, 18)]), (yX9_setWeight, cX9_setWeight, 4, (some .int), []), (yL_entry, cL_entry, 6, (some .int), [(0, 9, 12, 15), (0, 9, 17, 18)]), (yX9_entry, cX9_entry, 4, (some .int), []), (yL_table, cL_table, 5, (some .int), [(0, 7, 10, 15), (0, 7, 15, 18)]), (yX9_table, cX9_table, 3, (some .int), []), (yL_setCounter, cL_setCounter, 5, (some .int), [(0, 7, 10, 15), (0, 7, 15, 18)]), (yX9_setCounter, cX9_setCounter, 3, (some .int), []), (yX9_needCountedRarity, cX9_needCountedRarity, 1, none, []), (yL_setLimit, cL_setLimit, 5, (some .int), [(0, 7, 10, 15), (0, 7, 15, 18)]), (yX9_setLimit, cX9_setLimit, 3, (some .int), []), (yL_setRise, cL_setRise, 5, (some .int), [(0, 7, 10, 18)]), (yX9_setRise, cX9_setRise, 4, (some .int), []), (yL_luck, cL_luck, 5, (some .int), [(0, 7, 10, 15)]), (yX9_luck, cX9_luck, 3, (some .int), []), (yL_value, cL_value, 4, (some .int), [(0, 6, 9, 18)]), (yX9_value, cX9_value, 2, (some .int), []), (yL_open, cL_open, 4, (some .int), [(0, 6, 9, 15)]), (yX9_open, cX9_open, 2, (some .int), []), (yX4_run, cX4_run, 4, (some .int), []), (yX4_drawItem, cX4_drawItem, 9, none, []), (yX3_numberBelow, cX3_numberBelow, 2, (some .int), []), (yX1_entryFor, cX1_entryFor, 6, (some .int), []), (yX7_spendIfOnce, cX7_spendIfOnce, 2, none, []), (yX4_takeItem, cX4_takeItem, 4, none, []), (yX2_record, cX2_record, 4, none, []), (yX3_countOpening, cX3_countOpening, 4, none, []), (yL_openOften, cL_openOften, 5, (some .int), [(0, 7, 10, 15), (0, 7, 15, 18)]), (yX9_openOften, cX9_openOften, 5, (some .int), []), (yL_find, cL_find, 5, (some .int), [(0, 7, 10, 18)]), (yX9_find, cX9_find, 3, (some .int), []), (yL_often, cL_often, 4, (some .int), [(0, 6, 9, 15)])]
def mtb_4 : List MR := [(yX9_often, cX9_often, 2, (some .int), []), (yX9_needItem, cX9_needItem, 1, none, []), (yL_chance, cL_chance, 6, (some .int), [(0, 9, 12, 15)]), (yX9_chance, cX9_chance, 7, (some .int), []), (yX9_greatestDivisor, cX9_greatestDivisor, 6, (some .int), []), (yL_chanceOf, cL_chanceOf, 5, (some .int), [(0, 7, 10, 15)]), (yX9_chanceOf, cX9_chanceOf, 3, (some .int), []), (yX0_ofItem, cX0_ofItem, 2, (some .long), []), (yL_chanceRare, cL_chanceRare, 5, (some .int), [(0, 7, 10, 15), (0, 7, 15, 18)]), (yX9_chanceRare, cX9_chanceRare, 3, (some .int), []), (yL_meanFinds, cL_meanFinds, 5, (some .long), [(0, 6, 9, 15)]), (yX9_meanFinds, cX9_meanFinds, 2, (some .long), []), (yL_soonest, cL_soonest, 5, (some .int), [(0, 7, 10, 15)]), (yX9_soonest, cX9_soonest, 5, (some .int), []), (yL_bestDouble, cL_bestDouble, 5, (some .int), [(0, 7, 10, 15)]), (yX9_bestDouble, cX9_bestDouble, 9, (some .int), []), (yL_append, cL_append, 4, (some .int), [(0, 6, 9, 18), (0, 6, 13, 25)]), (yX9_append, cX9_append, 2, (some .int), []), (yX8_add, cX8_add, 2, (some .int), []), (yL_undo, cL_undo, 3, (some .int), [(0, 5, 8, 25)]), (yX9_undo, cX9_undo, 1, (some .int), []), (yX5_takeInto, cX5_takeInto, 3, none, []), (yL_cell, cL_cell, 3, (some .int), []), (yL_low, cL_low, 2, (some .int), []), (yL_print, cL_print, 6, (some .long), []), (yL_refused, cL_refused, 4, (some .boolean), []), (yL_areTables, cL_areTables, 13, (some .boolean), []), (yL_areFinds, cL_areFinds, 7, (some .boolean), []), (yL_areChances, cL_areChances, 17, (some .boolean), []), (yL_isSoonest, cL_isSoonest, 9, (some .boolean), []), (yL_isOpened, cL_isOpened, 15, (some .boolean), []), (yL_acts, cL_acts, 5, (some .int), [])]
def mtb_5 : List MR := [(yX9_spentBit, cX9_spentBit, 1, (some .int), []), (yX9_spentBit, cX9_spentBit, 1, (some .int), []), (yX9_spentBit, cX9_spentBit, 1, (some .int), []), (yX9_spentBit, cX9_spentBit, 1, (some .int), []), (yX9_spentBit, cX9_spentBit, 1, (some .int), []), (yX9_spentBit, cX9_spentBit, 1, (some .int), []), (yX9_spentBit, cX9_spentBit, 1, (some .int), []), (yX9_spentBit, cX9_spentBit, 1, (some .int), []), (yX9_spentBit, cX9_spentBit, 1, (some .int), []), (yX9_spentBit, cX9_spentBit, 1, (some .int), []), (yX9_spentBit, cX9_spentBit, 1, (some .int), []), (yX9_spentBit, cX9_spentBit, 1, (some .int), []), (yX9_spentBit, cX9_spentBit, 1, (some .int), []), (yX9_spentBit, cX9_spentBit, 1, (some .int), []), (yX9_spentBit, cX9_spentBit, 1, (some .int), []), (yX9_spentBit, cX9_spentBit, 1, (some .int), []), (yX9_spentBit, cX9_spentBit, 1, (some .int), []), (yX9_spentBit, cX9_spentBit, 1, (some .int), []), (yX9_spentBit, cX9_spentBit, 1, (some .int), []), (yX9_spentBit, cX9_spentBit, 1, (some .int), []), (yX9_spentBit, cX9_spentBit, 1, (some .int), []), (yX9_spentBit, cX9_spentBit, 1, (some .int), []), (yX9_spentBit, cX9_spentBit, 1, (some .int), []), (yX9_spentBit, cX9_spentBit, 1, (some .int), []), (yX9_spentBit, cX9_spentBit, 1, (some .int), []), (yX9_spentBit, cX9_spentBit, 1, (some .int), []), (yX9_spentBit, cX9_spentBit, 1, (some .int), []), (yX9_spentBit, cX9_spentBit, 1, (some .int), []), (yX9_spentBit, cX9_spentBit, 1, (some .int), []), (yX9_spentBit, cX9_spentBit, 1, (some .int), []), (yX9_spentBit, cX9_spentBit, 1, (some .int), []), (yX9_spentBit, cX9_spentBit, 1, (some .int), [])]
def mtb_6 : List MR := [(yX9_spentBit, cX9_spentBit, 1, (some .int), []), (yX9_spentBit, cX9_spentBit, 1, (some .int), []), (yX9_spentBit, cX9_spentBit, 1, (some .int), []), (yX9_spentBit, cX9_spentBit, 1, (some .int), []), (yX9_spentBit, cX9_spentBit, 1, (some .int), []), (yX9_spentBit, cX9_spentBit, 1, (some .int), []), (yX9_spentBit, cX9_spentBit, 1, (some .int), []), (yX9_spentBit, cX9_spentBit, 1, (some .int), []), (yX9_spentBit, cX9_spentBit, 1, (some .int), []), (yX9_spentBit, cX9_spentBit, 1, (some .int), []), (yX9_spentBit, cX9_spentBit, 1, (some .int), []), (yX9_spentBit, cX9_spentBit, 1, (some .int), []), (yX9_spentBit, cX9_spentBit, 1, (some .int), []), (yX9_spentBit, cX9_spentBit, 1, (some .int), []), (yX9_spentBit, cX9_spentBit, 1, (some .int), []), (yX9_spentBit, cX9_spentBit, 1, (some .int), []), (yX9_spentBit, cX9_spentBit, 1, (some .int), []), (yX9_spentBit, cX9_spentBit, 1, (some .int), []), (yX9_spentBit, cX9_spentBit, 1, (some .int), []), (yX9_spentBit, cX9_spentBit, 1, (some .int), []), (yX9_spentBit, cX9_spentBit, 1, (some .int), []), (yX9_spentBit, cX9_spentBit, 1, (some .int), []), (yX9_spentBit, cX9_spentBit, 1, (some .int), []), (yX9_spentBit, cX9_spentBit, 1, (some .int), []), (yX9_spentBit, cX9_spentBit, 1, (some .int), []), (yX9_spentBit, cX9_spentBit, 1, (some .int), []), (yX9_spentBit, cX9_spentBit, 1, (some .int), []), (yX9_spentBit, cX9_spentBit, 1, (some .int), []), (yX9_spentBit, cX9_spentBit, 1, (some .int), []), (yX9_spentBit, cX9_spentBit, 1, (some .int), []), (yX9_spentBit, cX9_spentBit, 1, (some .int), []), (yX9_spentBit, cX9_spentBit, 1, (some .int), [])]
def mtb_7 : List MR := [(yX9_spentBit, cX9_spentBit, 1, (some .int), []), (yX9_spentBit, cX9_spentBit, 1, (some .int), []), (x, code, 10, (some .boolean), [])]
def mtb : List MR := mtb_0 ++ (mtb_1 ++ (mtb_2 ++ (mtb_3 ++ (mtb_4 ++ (mtb_5 ++ (mtb_6 ++ (mtb_7)))))))
def mG (mi : Nat) : MR := mtb.getD mi (x, code, 10, some .boolean, [])
/-- places of a method's words: its code, static or instanceMethod, selects (0: none), initialized of its class -/
def mpl_0 : List (Nat × Nat × Nat × Nat) := [(25, 24, 0, 1), (33, 32, 0, 2), (39, 38, 0, 3), (88, 87, 0, 4), (111, 110, 0, 5), (159, 158, 0, 6), (179, 178, 0, 7), (200, 199, 0, 8), (206, 205, 0, 9), (239, 238, 0, 10), (938, 936, 953, 1), (644, 643, 9, 1), (648, 646, 663, 6), (385, 384, 1, 6), (388, 387, 0, 15), (392, 390, 407, 2), (396, 394, 411, 3), (399, 398, 0, 1), (402, 401, 0, 15), (409, 407, 424, 4), (414, 412, 429, 5), (419, 417, 434, 10), (942, 940, 957, 3), (476, 474, 491, 3), (480, 478, 495, 3), (469, 467, 484, 3), (472, 471, 0, 1), (483, 482, 0, 1), (486, 485, 0, 1), (489, 488, 0, 18), (946, 945, 0, 20), (914, 912, 929, 1)]
def mpl_1 : List (Nat × Nat × Nat × Nat) := [(918, 916, 933, 5), (460, 458, 475, 5), (628, 626, 643, 5), (486, 485, 0, 1), (486, 485, 0, 1), (486, 485, 0, 1), (486, 485, 0, 1), (486, 485, 0, 1), (486, 485, 0, 1), (486, 485, 0, 1), (486, 485, 0, 1), (486, 485, 0, 1), (654, 653, 0, 1), (486, 485, 0, 1), (486, 485, 0, 1), (486, 485, 0, 1), (486, 485, 0, 1), (486, 485, 0, 1), (664, 663, 0, 1), (565, 564, 0, 1), (568, 567, 0, 1), (670, 669, 0, 1), (486, 485, 0, 1), (675, 673, 690, 3), (465, 463, 480, 3), (486, 485, 0, 1), (486, 485, 0, 1), (456, 455, 2, 1), (496, 494, 511, 5), (486, 485, 0, 1), (529, 528, 3, 1), (535, 534, 4, 1)]
def mpl_2 : List (Nat × Nat × Nat × Nat) := [(540, 538, 555, 9), (544, 542, 559, 4), (548, 547, 5, 9), (555, 553, 570, 3), (558, 557, 0, 1), (562, 561, 6, 9), (572, 570, 587, 9), (576, 574, 591, 2), (580, 578, 595, 4), (598, 597, 8, 1), (604, 602, 619, 9), (822, 820, 837, 10), (825, 824, 0, 20), (831, 830, 13, 10), (836, 835, 14, 10), (842, 841, 15, 10), (758, 756, 773, 3), (775, 774, 0, 15), (868, 866, 883, 10), (857, 856, 0, 1), (636, 635, 0, 0), (640, 638, 655, 1), (509, 508, 0, 1), (436, 435, 0, 1), (651, 650, 0, 1), (657, 656, 0, 0), (661, 659, 676, 1), (679, 678, 0, 0), (683, 681, 698, 1), (593, 592, 7, 1), (687, 685, 702, 3), (691, 690, 10, 3)]
def mpl_3 : List (Nat × Nat × Nat × Nat) := [(694, 693, 0, 0), (698, 696, 713, 1), (585, 584, 0, 0), (589, 587, 604, 1), (501, 500, 0, 0), (506, 504, 521, 1), (701, 700, 0, 0), (705, 703, 720, 1), (615, 614, 0, 1), (708, 707, 0, 0), (712, 710, 727, 1), (715, 714, 0, 0), (719, 717, 734, 1), (608, 607, 0, 0), (612, 610, 627, 1), (428, 427, 0, 0), (433, 431, 448, 1), (723, 722, 0, 0), (727, 725, 742, 1), (731, 729, 746, 8), (737, 736, 11, 8), (743, 741, 758, 4), (752, 750, 767, 9), (762, 760, 777, 3), (767, 766, 12, 8), (771, 769, 786, 5), (780, 778, 795, 4), (786, 785, 0, 0), (790, 788, 805, 1), (619, 618, 0, 0), (623, 621, 638, 1), (793, 792, 0, 0)]
def mpl_4 : List (Nat × Nat × Nat × Nat) := [(797, 795, 812, 1), (800, 799, 0, 1), (804, 803, 0, 0), (808, 806, 823, 1), (811, 810, 0, 1), (814, 813, 0, 0), (818, 816, 833, 1), (854, 852, 869, 10), (860, 859, 0, 0), (864, 862, 879, 1), (871, 870, 0, 0), (875, 873, 890, 1), (879, 878, 0, 0), (883, 881, 898, 1), (887, 886, 0, 0), (891, 889, 906, 1), (895, 894, 0, 0), (899, 897, 914, 1), (904, 902, 919, 7), (305, 304, 0, 0), (310, 308, 325, 1), (381, 379, 396, 6), (297, 296, 0, 0), (301, 300, 0, 0), (423, 422, 0, 0), (633, 632, 0, 0), (907, 906, 0, 0), (910, 909, 0, 0), (922, 921, 0, 0), (928, 927, 0, 0), (931, 930, 0, 0), (934, 933, 0, 0)]
def mpl_5 : List (Nat × Nat × Nat × Nat) := [(486, 485, 0, 1), (486, 485, 0, 1), (486, 485, 0, 1), (486, 485, 0, 1), (486, 485, 0, 1), (486, 485, 0, 1), (486, 485, 0, 1), (486, 485, 0, 1), (486, 485, 0, 1), (486, 485, 0, 1), (486, 485, 0, 1), (486, 485, 0, 1), (486, 485, 0, 1), (486, 485, 0, 1), (486, 485, 0, 1), (486, 485, 0, 1), (486, 485, 0, 1), (486, 485, 0, 1), (486, 485, 0, 1), (486, 485, 0, 1), (486, 485, 0, 1), (486, 485, 0, 1), (486, 485, 0, 1), (486, 485, 0, 1), (486, 485, 0, 1), (486, 485, 0, 1), (486, 485, 0, 1), (486, 485, 0, 1), (486, 485, 0, 1), (486, 485, 0, 1), (486, 485, 0, 1), (486, 485, 0, 1)]
def mpl_6 : List (Nat × Nat × Nat × Nat) := [(486, 485, 0, 1), (486, 485, 0, 1), (486, 485, 0, 1), (486, 485, 0, 1), (486, 485, 0, 1), (486, 485, 0, 1), (486, 485, 0, 1), (486, 485, 0, 1), (486, 485, 0, 1), (486, 485, 0, 1), (486, 485, 0, 1), (486, 485, 0, 1), (486, 485, 0, 1), (486, 485, 0, 1), (486, 485, 0, 1), (486, 485, 0, 1), (486, 485, 0, 1), (486, 485, 0, 1), (486, 485, 0, 1), (486, 485, 0, 1), (486, 485, 0, 1), (486, 485, 0, 1), (486, 485, 0, 1), (486, 485, 0, 1), (486, 485, 0, 1), (486, 485, 0, 1), (486, 485, 0, 1), (486, 485, 0, 1), (486, 485, 0, 1), (486, 485, 0, 1), (486, 485, 0, 1), (486, 485, 0, 1)]
def mpl_7 : List (Nat × Nat × Nat × Nat) := [(486, 485, 0, 1), (486, 485, 0, 1)]
def mpl : List (Nat × Nat × Nat × Nat) := mpl_0 ++ (mpl_1 ++ (mpl_2 ++ (mpl_3 ++ (mpl_4 ++ (mpl_5 ++ (mpl_6 ++ (mpl_7)))))))
def mLs : List Nat := [1, 1, 1, 1, 1, 2, 1, 1, 1, 1, 1, 1, 3, 3, 3, 2, 2, 2, 2, 2, 2, 1, 2, 1, 5, 2, 2, 2, 1, 1, 4, 2, 5, 1, 4, 1, 1, 1, 1, 1, 1, 1, 1, 1, 3, 1, 1, 1, 1, 1, 2, 1, 1, 1, 1, 9, 3, 1, 1, 2, 3, 1, 3, 2, 6, 2, 12, 3, 2, 5, 2, 2, 3, 5, 2, 3, 5, 8, 7, 20, 4, 2, 5, 2, 5, 3, 1, 3, 4, 9, 7, 5, 3, 3, 5, 3, 6, 4, 6, 4, 5, 3, 5, 3, 1, 5, 3, 5, 4, 5, 3, 4, 2, 4, 2, 4, 9, 2, 6, 2, 4, 4, 4, 5, 5, 5, 3, 4, 2, 1, 6, 7, 6, 5, 3, 2, 5, 3, 5, 2, 5, 5, 5, 9, 4, 2, 2, 3, 1, 3, 3, 2, 6, 4, 13, 7, 17, 9, 15, 5, 1, 1, 1, 1, 1, 1, 1, 1, 1, 1, 1, 1, 1, 1, 1, 1, 1, 1, 1, 1, 1, 1, 1, 1, 1, 1, 1, 1, 1, 1, 1, 1, 1, 1, 1, 1, 1, 1, 1, 1, 1, 1, 1, 1, 1, 1, 1, 1, 1, 1, 1, 1, 1, 1, 1, 1, 1, 1, 1, 1, 1, 1, 1, 1, 1, 1, 10]
def mL (mi : Nat) : Nat := mLs.getD mi 0
/-- answers: 0 none, 1 int, 2 boolean, 3 long, 4 double, 5 reference -/
def mRs : List Nat := [0, 0, 0, 0, 0, 0, 0, 0, 0, 0, 1, 0, 0, 5, 1, 0, 0, 0, 1, 0, 0, 0, 1, 1, 1, 1, 1, 1, 1, 1, 0, 4, 1, 1, 1, 1, 1, 1, 1, 1, 1, 1, 1, 1, 0, 1, 1, 1, 1, 1, 2, 2, 1, 1, 1, 1, 1, 1, 1, 1, 1, 1, 1, 0, 0, 2, 0, 1, 1, 2, 1, 1, 1, 1, 1, 0, 0, 0, 0, 0, 1, 1, 3, 3, 1, 1, 0, 0, 1, 1, 1, 1, 1, 0, 1, 0, 1, 1, 1, 1, 1, 1, 1, 1, 0, 1, 1, 1, 1, 1, 1, 1, 1, 1, 1, 1, 0, 1, 1, 0, 0, 0, 0, 1, 1, 1, 1, 1, 1, 0, 1, 1, 1, 1, 1, 3, 1, 1, 3, 3, 1, 1, 1, 1, 1, 1, 1, 1, 1, 0, 1, 1, 3, 2, 2, 2, 2, 2, 2, 1, 1, 1, 1, 1, 1, 1, 1, 1, 1, 1, 1, 1, 1, 1, 1, 1, 1, 1, 1, 1, 1, 1, 1, 1, 1, 1, 1, 1, 1, 1, 1, 1, 1, 1, 1, 1, 1, 1, 1, 1, 1, 1, 1, 1, 1, 1, 1, 1, 1, 1, 1, 1, 1, 1, 1, 1, 1, 1, 1, 1, 1, 1, 1, 1, 1, 1, 2]
def mR (mi : Nat) : Nat := mRs.getD mi 0
def mOs : List Nat := [9, 6, 7, 3, 2, 5, 8, 4, 1, 0, 9, 9, 5, 5, 12, 6, 7, 9, 12, 3, 2, 0, 7, 7, 7, 7, 9, 9, 9, 11, 13, 9, 2, 2, 2, 9, 9, 9, 9, 9, 9, 9, 9, 9, 9, 9, 9, 9, 9, 9, 9, 9, 9, 9, 9, 7, 7, 9, 9, 9, 2, 9, 9, 9, 1, 3, 1, 7, 9, 1, 1, 6, 3, 9, 1, 0, 13, 0, 0, 0, 7, 12, 0, 9, 14, 9, 9, 9, 9, 14, 9, 14, 9, 9, 7, 7, 14, 9, 14, 9, 14, 9, 14, 9, 9, 14, 9, 14, 9, 14, 9, 14, 9, 14, 9, 4, 4, 3, 1, 7, 4, 2, 3, 14, 9, 14, 9, 14, 9, 9, 14, 9, 9, 14, 9, 0, 14, 9, 14, 9, 14, 9, 14, 9, 14, 9, 8, 14, 9, 5, 14, 14, 14, 14, 14, 14, 14, 14, 14, 14, 9, 9, 9, 9, 9, 9, 9, 9, 9, 9, 9, 9, 9, 9, 9, 9, 9, 9, 9, 9, 9, 9, 9, 9, 9, 9, 9, 9, 9, 9, 9, 9, 9, 9, 9, 9, 9, 9, 9, 9, 9, 9, 9, 9, 9, 9, 9, 9, 9, 9, 9, 9, 9, 9, 9, 9, 9, 9, 9, 9, 9, 9, 9, 9, 9, 9, 14]
def mO (mi : Nat) : Nat := mOs.getD mi 0
def lkT_0 : List (Nat × List Nat) := [(3, [4, 240]), (9, [5, 1, 241, 203, 9]), (11, [2, 8, 1, 1, 1, 242]), (12, [1, 0, 0, 2, 0, 243]), (18, [1, 0, 1, 2, 0, 244]), (21, [1, 0, 2, 2, 0, 245]), (25, [1, 0, 3, 2, 0, 246]), (29, [1, 0, 4, 2, 0, 247]), (32, [1, 0, 6, 0, 0, 250]), (36, [1, 0, 5, 1, 0, 248]), (40, [2, 76, 0, 13, 0, 823, 1, 2]), (46, [1, 6, 0, 2, 1, 140]), (52, [2, 24, 2, 7, 0, 826]), (58, [9, 1000000000, 827]), (60, [2, 77, 2, 0, 0, 828, 1, 0, 0, 0, 2]), (64, [2, 83, 0, 9, 1, 855, 0, 2]), (68, [1, 7, 0, 2, 1, 44]), (71, [2, 26, 0, 9, 1, 832, 0, 2]), (74, [2, 78, 2, 0, 0, 833, 1, 0, 0]), (78, [2, 64, 2, 1, 0, 837, 0, 0, 0, 2]), (82, [2, 70, 2, 1, 0, 838, 0]), (86, [2, 79, 2, 0, 0, 839, 1, 0, 0, 0, 0, 2]), (90, [2, 44, 0, 9, 1, 848, 0, 0, 2]), (94, [2, 27, 0, 9, 1, 843, 0, 0]), (98, [2, 25, 2, 7, 0, 844, 0]), (101, [10, 845]), (106, [1, 1, 0, 2, 1, 209]), (109, [2, 80, 2, 7, 0, 846, 0, 0]), (112, [1, 7, 2, 2, 1, 49]), (115, [2, 51, 0, 9, 1, 847, 0]), (119, [1, 7, 4, 2, 1, 58]), (122, [11, 849]), (125, [2, 52, 0, 9, 1, 850, 0]), (1003, [4, 207]), (1009, [1, 1, 0, 2, 0, 208]), (1015, [1, 1, 1, 2, 0, 210]), (1018, [1, 6, 1, 2, 1, 142]), (1024, [2, 65, 2, 3, 0, 541, 0]), (1030, [2, 66, 2, 1, 0, 545, 0, 0, 0, 2]), (1034, [2, 70, 2, 1, 0, 569, 0])]
def lkT_1 : List (Nat × List Nat) := [(1038, [1, 1, 2, 0, 0, 211]), (1042, [2, 27, 0, 9, 1, 549, 0, 0]), (1046, [1, 6, 0, 2, 1, 139]), (1050, [2, 25, 2, 7, 0, 550, 0]), (1055, [10, 551]), (1060, [2, 67, 2, 7, 0, 552, 0, 0]), (1063, [2, 69, 2, 1, 0, 559, 0, 0, 2]), (1067, [2, 71, 2, 6, 0, 573, 0]), (1070, [1, 7, 2, 2, 1, 48]), (1073, [2, 51, 0, 9, 1, 563, 0]), (1076, [2, 52, 0, 9, 1, 566, 0]), (1079, [1, 7, 4, 2, 1, 57]), (1082, [2, 26, 0, 9, 1, 605, 0, 2]), (1086, [2, 74, 2, 1, 0, 753, 0]), (2003, [4, 112]), (2009, [1, 2, 0, 2, 0, 113]), (2015, [1, 2, 1, 2, 0, 115]), (2018, [1, 2, 2, 2, 0, 116]), (2021, [1, 2, 3, 2, 0, 117]), (2024, [2, 17, 0, 9, 1, 415, 2, 2]), (2028, [1, 2, 4, 0, 0, 119]), (2032, [1, 2, 5, 0, 0, 121]), (2035, [2, 14, 0, 12, 0, 630, 0, 0]), (2041, [2, 44, 0, 9, 1, 772, 0, 0, 2]), (2045, [2, 26, 0, 9, 1, 497, 0, 2]), (2049, [10, 461]), (2052, [2, 33, 2, 2, 0, 629]), (2056, [2, 34, 2, 2, 0, 919, 0, 0]), (3003, [4, 89]), (3009, [1, 3, 0, 2, 0, 90]), (3015, [1, 3, 1, 2, 0, 92]), (3018, [1, 3, 3, 0, 0, 96]), (3022, [2, 17, 0, 9, 1, 410, 2, 2]), (3026, [1, 3, 2, 0, 0, 94]), (3029, [9, 1103515245, 744]), (3031, [9, 12345, 745]), (3033, [9, 2147483648, 746]), (3035, [8, 65536, 747]), (3036, [2, 26, 0, 9, 1, 781, 0, 2]), (3040, [10, 782])]
def lkT_2 : List (Nat × List Nat) := [(3046, [2, 44, 0, 9, 1, 783, 0, 0, 2]), (4003, [4, 201]), (4009, [5, 1, 202, 203, 9]), (4011, [2, 8, 1, 1, 1, 204]), (4012, [1, 4, 0, 2, 0, 220]), (4018, [1, 6, 0, 2, 1, 137]), (4024, [2, 24, 2, 7, 0, 732]), (4030, [1, 4, 1, 0, 0, 221]), (4034, [1, 4, 2, 0, 0, 222]), (4037, [1, 4, 3, 0, 0, 223]), (4040, [1, 6, 2, 2, 1, 146]), (4044, [1, 2, 4, 0, 1, 118]), (4049, [1, 7, 0, 2, 1, 43]), (4053, [2, 26, 0, 9, 1, 733, 0, 2]), (4057, [2, 116, 2, 4, 0, 734, 0, 2]), (4061, [1, 6, 1, 2, 1, 143]), (4065, [2, 122, 2, 3, 0, 777, 0]), (4071, [2, 64, 2, 1, 0, 738, 0, 0, 0, 2]), (4075, [2, 70, 2, 1, 0, 739, 0]), (4079, [2, 117, 2, 3, 0, 740, 0]), (4082, [2, 25, 2, 7, 0, 748, 0]), (4085, [2, 118, 2, 1, 0, 749, 0, 0, 0]), (4089, [2, 27, 0, 9, 1, 754, 0, 0]), (4093, [1, 7, 2, 2, 1, 47]), (4096, [2, 80, 2, 7, 0, 755, 0, 0]), (4099, [2, 119, 2, 7, 0, 759, 0]), (4102, [2, 51, 0, 9, 1, 763, 0]), (4106, [1, 7, 4, 2, 1, 56]), (4109, [2, 120, 2, 4, 0, 764, 0, 0, 2]), (4113, [2, 52, 0, 9, 1, 776, 0]), (4116, [2, 121, 2, 2, 0, 768, 0, 0]), (4120, [11, 773]), (5003, [4, 160]), (5009, [7, 161, 30]), (5011, [1, 5, 0, 2, 0, 164]), (5017, [2, 1, 1, 6, 1, 163]), (5018, [1, 5, 2, 0, 0, 166]), (5022, [2, 13, 2, 5, 0, 382, 0]), (5026, [2, 15, 2, 6, 0, 389, 2]), (5030, [1, 5, 1, 0, 0, 165])]
def lkT_3 : List (Nat × List Nat) := [(5033, [2, 14, 0, 12, 0, 386, 0, 0]), (6003, [4, 34]), (6009, [5, 7, 35, 36, 3]), (6011, [2, 2, 1, 7, 1, 37]), (6012, [1, 6, 0, 2, 0, 136]), (6018, [5, 3, 84, 85, 4]), (6020, [2, 3, 1, 3, 1, 86]), (6021, [1, 6, 1, 2, 0, 141]), (6025, [5, 2, 107, 108, 5]), (6027, [2, 4, 1, 2, 1, 109]), (6028, [1, 6, 2, 2, 0, 145]), (6032, [2, 16, 2, 7, 0, 393, 2]), (6036, [2, 19, 2, 3, 0, 406, 2]), (6039, [2, 20, 2, 2, 0, 411, 2]), (6042, [1, 7, 3, 2, 1, 52]), (6046, [1, 7, 4, 2, 1, 55]), (6049, [2, 72, 2, 3, 0, 577, 0, 0]), (7003, [4, 40]), (7009, [1, 7, 0, 2, 0, 41]), (7015, [1, 7, 1, 2, 0, 45]), (7018, [1, 7, 2, 2, 0, 46]), (7021, [1, 7, 3, 2, 0, 51]), (7024, [1, 7, 4, 2, 0, 54]), (7027, [1, 7, 5, 2, 0, 60]), (7030, [1, 7, 6, 2, 0, 62]), (7033, [1, 7, 7, 2, 0, 64]), (7036, [2, 30, 0, 13, 0, 944, 0, 2]), (7042, [2, 17, 0, 9, 1, 397, 2, 2]), (7046, [2, 26, 0, 9, 1, 470, 0, 2]), (7050, [2, 25, 2, 7, 0, 466, 0]), (7054, [2, 27, 0, 9, 1, 481, 0, 0]), (7058, [2, 44, 0, 9, 1, 676, 0, 0, 2]), (7062, [2, 95, 2, 7, 0, 688, 0, 0]), (7066, [2, 24, 2, 7, 0, 477]), (7070, [2, 29, 0, 11, 0, 487, 0]), (7075, [2, 28, 0, 9, 1, 484, 0]), (7078, [2, 23, 2, 7, 0, 943]), (7081, [2, 68, 0, 9, 1, 556, 0, 0]), (8003, [4, 180]), (8009, [1, 8, 0, 2, 0, 181])]
def lkT_4 : List (Nat × List Nat) := [(8015, [1, 8, 1, 0, 0, 182]), (9003, [4, 26]), (9009, [5, 6, 29, 30, 2]), (9011, [2, 1, 1, 6, 1, 31]), (9012, [1, 9, 0, 2, 0, 267]), (9016, [1, 9, 1, 2, 0, 268]), (9019, [5, 5, 155, 156, 6]), (9021, [2, 5, 1, 5, 0, 157]), (9022, [1, 9, 2, 2, 0, 269]), (9026, [5, 8, 175, 176, 7]), (9028, [2, 6, 1, 8, 1, 177]), (9029, [1, 9, 3, 2, 0, 270]), (9033, [5, 7, 194, 36, 3]), (9035, [2, 2, 1, 7, 1, 195]), (9036, [1, 9, 4, 2, 0, 271]), (9040, [5, 4, 196, 197, 8]), (9042, [2, 7, 1, 4, 1, 198]), (9043, [1, 9, 5, 2, 0, 272]), (9047, [5, 1, 233, 203, 9]), (9049, [2, 8, 1, 1, 1, 234]), (9050, [1, 9, 6, 2, 0, 273]), (9054, [5, 0, 235, 236, 10]), (9056, [2, 9, 1, 0, 1, 237]), (9057, [1, 9, 7, 2, 0, 274]), (9061, [1, 9, 8, 2, 0, 275]), (9064, [2, 86, 0, 9, 0, 507, 0]), (9068, [2, 87, 0, 9, 0, 434, 0, 0, 0]), (9072, [2, 11, 2, 9, 0, 641]), (9075, [1, 6, 0, 2, 1, 138]), (9078, [1, 7, 0, 2, 1, 42]), (9082, [2, 88, 0, 9, 0, 649, 0, 0, 2]), (9086, [2, 50, 0, 9, 0, 662, 0, 0]), (9090, [6, 1, 437]), (9097, [2, 53, 0, 9, 0, 668, 0]), (9101, [2, 25, 2, 7, 0, 531, 0]), (9104, [6, 2, 311]), (9109, [2, 55, 2, 7, 0, 672, 0, 0, 0, 0, 0, 0]), (9113, [2, 93, 2, 9, 0, 590, 0, 0]), (9117, [2, 94, 2, 7, 0, 684, 0, 0]), (9121, [1, 7, 3, 2, 1, 53])]
def lkT_5 : List (Nat × List Nat) := [(9124, [2, 27, 0, 9, 0, 599, 0, 0]), (9127, [2, 22, 2, 7, 0, 939]), (9131, [2, 73, 2, 9, 0, 595, 0, 0, 0]), (9135, [2, 62, 2, 9, 0, 526, 0, 0]), (9138, [2, 104, 0, 9, 0, 613, 0]), (9141, [1, 6, 1, 2, 1, 144]), (9145, [1, 3, 0, 2, 1, 91]), (9150, [1, 3, 1, 2, 1, 93]), (9153, [8, 999999, 720]), (9154, [1, 3, 2, 0, 1, 95]), (9158, [1, 3, 3, 0, 1, 97]), (9161, [2, 26, 0, 9, 0, 530, 0, 2]), (9165, [2, 59, 2, 9, 0, 453, 0]), (9168, [2, 115, 2, 4, 0, 728, 0, 2]), (9174, [1, 6, 2, 2, 1, 147]), (9178, [2, 34, 2, 2, 0, 625, 0, 0]), (9183, [2, 129, 0, 9, 0, 798, 0]), (9186, [1, 2, 0, 2, 1, 114]), (9189, [2, 63, 2, 9, 0, 532, 0]), (9192, [2, 74, 2, 1, 0, 601, 0]), (9195, [2, 70, 2, 1, 0, 581, 0]), (9198, [2, 132, 0, 9, 0, 809, 0, 0]), (9201, [2, 75, 2, 0, 0, 819, 0, 2]), (9205, [2, 135, 2, 0, 0, 851, 0]), (9209, [2, 82, 2, 0, 0, 865, 0]), (9212, [1, 0, 5, 1, 1, 249]), (9216, [1, 2, 4, 0, 1, 120]), (9219, [2, 32, 2, 2, 0, 915]), (9222, [2, 15, 2, 6, 0, 884, 2]), (9226, [9, 18446744073709551615, 892]), (9228, [10, 400]), (9233, [2, 44, 0, 9, 0, 652, 0, 0, 2]), (9237, [2, 21, 2, 0, 0, 416]), (9240, [1, 8, 1, 0, 1, 183]), (9245, [2, 146, 2, 8, 0, 901, 0]), (9255, [2, 56, 2, 7, 0, 462]), (9258, [1, 5, 2, 0, 1, 167]), (9263, [2, 149, 2, 5, 0, 378, 2]), (9276, [2, 33, 2, 2, 0, 457]), (9279, [6, 0, 510])]
def lkT_6 : List (Nat × List Nat) := [(9292, [2, 12, 2, 5, 0, 645, 2]), (9295, [2, 24, 2, 7, 0, 536]), (9298, [2, 64, 2, 1, 0, 537, 0, 0, 0, 2]), (9302, [1, 7, 2, 2, 1, 50]), (9305, [1, 7, 4, 2, 1, 59]), (9308, [1, 7, 5, 2, 1, 61]), (9311, [1, 7, 6, 2, 1, 63]), (9314, [1, 7, 7, 2, 1, 65]), (9317, [2, 71, 2, 6, 0, 600, 0]), (9320, [1, 1, 2, 0, 1, 212]), (9323, [1, 2, 5, 0, 1, 122]), (9326, [2, 23, 2, 7, 0, 473]), (9329, [2, 60, 2, 2, 0, 493]), (9334, [2, 51, 0, 9, 0, 665, 0]), (9338, [2, 52, 0, 9, 0, 666, 0]), (9341, [3, 403]), (11265, [8, 1431655765, 490]), (11266, [8, 858993459, 491]), (11267, [8, 252645135, 492]), (14007, [8, 916318735, 298]), (14008, [8, 2147483647, 302]), (14009, [2, 85, 2, 9, 0, 637, 0, 0]), (14010, [5, 9, 21, 22, 1]), (14015, [6, 0, 502]), (14017, [8, 4289967293, 582]), (14018, [6, 1, 429]), (14020, [8, 4289967295, 498]), (14021, [2, 90, 2, 9, 0, 658, 0, 0, 0, 0, 0, 0]), (14025, [6, 2, 306]), (14027, [8, 4289967294, 420]), (14028, [2, 92, 2, 9, 0, 680, 0, 0]), (14031, [2, 97, 2, 9, 0, 695, 0, 0, 0]), (14035, [2, 99, 2, 9, 0, 586, 0, 0, 0]), (14038, [2, 101, 2, 9, 0, 503, 0, 0]), (14041, [2, 103, 2, 9, 0, 702, 0, 0]), (14044, [2, 106, 2, 9, 0, 709, 0, 0]), (14047, [2, 108, 2, 9, 0, 716, 0, 0]), (14050, [2, 110, 2, 9, 0, 609, 0, 0]), (14054, [2, 112, 2, 9, 0, 430, 0]), (14058, [2, 114, 2, 9, 0, 724, 0])]
def lkT_7 : List (Nat × List Nat) := [(14061, [2, 124, 2, 9, 0, 787, 0, 0]), (14064, [2, 126, 2, 9, 0, 620, 0, 0]), (14067, [2, 128, 2, 9, 0, 794, 0]), (14070, [2, 131, 2, 9, 0, 805, 0, 0, 0]), (14074, [2, 134, 2, 9, 0, 815, 0, 0]), (14077, [2, 137, 2, 9, 0, 861, 0, 0]), (14080, [2, 139, 2, 9, 0, 872, 0]), (14084, [9, 18446744073704551613, 876]), (14086, [2, 141, 2, 9, 0, 880, 0, 0]), (14089, [2, 143, 2, 9, 0, 888, 0, 0]), (14092, [2, 145, 2, 9, 0, 896, 0]), (14095, [2, 148, 2, 9, 0, 307]), (14099, [9, 97, 424]), (14101, [9, 31, 425]), (14103, [2, 111, 0, 14, 0, 426, 0, 2]), (14108, [2, 100, 0, 14, 0, 499, 0, 0, 2]), (14111, [2, 98, 0, 14, 0, 583, 0, 0, 0, 2]), (14114, [2, 109, 0, 14, 0, 606, 0, 0, 2]), (14117, [2, 125, 0, 14, 0, 617, 0, 0, 2]), (14119, [2, 152, 0, 14, 0, 421, 2]), (14123, [2, 84, 0, 14, 0, 634, 0, 0, 2]), (14125, [2, 89, 0, 14, 0, 655, 0, 0, 0, 0, 0, 0, 2]), (14128, [2, 91, 0, 14, 0, 677, 0, 0, 2]), (14130, [2, 96, 0, 14, 0, 692, 0, 0, 0, 2]), (14132, [2, 102, 0, 14, 0, 699, 0, 0, 2]), (14134, [2, 105, 0, 14, 0, 706, 0, 0, 2]), (14136, [2, 107, 0, 14, 0, 713, 0, 0, 2]), (14138, [2, 113, 0, 14, 0, 721, 0, 2]), (14140, [2, 123, 0, 14, 0, 784, 0, 0, 2]), (14142, [2, 127, 0, 14, 0, 791, 0, 2]), (14144, [2, 130, 0, 14, 0, 802, 0, 0, 0, 2]), (14147, [2, 133, 0, 14, 0, 812, 0, 0, 2]), (14149, [2, 136, 0, 14, 0, 858, 0, 0, 2]), (14151, [2, 138, 0, 14, 0, 869, 0, 2]), (14154, [2, 140, 0, 14, 0, 877, 0, 0, 2]), (14156, [2, 142, 0, 14, 0, 885, 0, 0, 2]), (14158, [2, 144, 0, 14, 0, 893, 0, 2]), (14160, [2, 31, 2, 9, 0, 911]), (14164, [8, 1000000000, 923]), (14165, [9, 1000000000, 924])]
def lkT_8 : List (Nat × List Nat) := [(14167, [8, 999000000, 925]), (14168, [2, 147, 0, 14, 0, 303, 2]), (14171, [2, 151, 0, 14, 0, 299, 0, 0]), (14174, [2, 10, 2, 9, 0, 935]), (14177, [2, 0, 1, 9, 0, 23]), (14178, [2, 153, 0, 14, 0, 631, 2]), (14182, [2, 154, 0, 14, 0, 905, 2]), (14185, [2, 155, 0, 14, 0, 908, 2]), (14188, [2, 150, 0, 14, 0, 295, 0, 2]), (14192, [8, 1000000, 947]), (14193, [8, 99999, 948]), (14194, [2, 159, 0, 14, 0, 932, 0, 0, 2]), (14197, [2, 156, 0, 14, 0, 920, 0, 0, 2]), (14201, [2, 158, 0, 14, 0, 929, 0, 2]), (14205, [2, 157, 0, 14, 0, 926, 0, 0, 2])]
def lkT : List (Nat × List Nat) := lkT_0 ++ (lkT_1 ++ (lkT_2 ++ (lkT_3 ++ (lkT_4 ++ (lkT_5 ++ (lkT_6 ++ (lkT_7 ++ (lkT_8))))))))
end
section
def dec0 (pc : Nat) : Option (ClassFile.Instr × Nat × List Nat) := match pc with
  | 0 => some (.aload_n 0, 1, [])
  | 1 => some (.invokespecial 3, 3, [4, 26])
  | 4 => some (.aload_n 0, 1, [])
  | 5 => some (.new 9, 3, [5, 6, 29, 30, 2])
  | 8 => some (.dup, 1, [])
  | 9 => some (.invokespecial 11, 3, [2, 1, 1, 6, 1, 31])
  | 12 => some (.putfield 12, 3, [1, 9, 0, 2, 0, 267])
  | 15 => some (.aload_n 0, 1, [])
  | 16 => some (.new 9, 3, [5, 6, 29, 30, 2])
  | 19 => some (.dup, 1, [])
  | 20 => some (.invokespecial 11, 3, [2, 1, 1, 6, 1, 31])
  | 23 => some (.putfield 16, 3, [1, 9, 1, 2, 0, 268])
  | 26 => some (.aload_n 0, 1, [])
  | 27 => some (.new 19, 3, [5, 5, 155, 156, 6])
  | 30 => some (.dup, 1, [])
  | 31 => some (.invokespecial 21, 3, [2, 5, 1, 5, 0, 157])
  | 34 => some (.putfield 22, 3, [1, 9, 2, 2, 0, 269])
  | 37 => some (.aload_n 0, 1, [])
  | 38 => some (.new 26, 3, [5, 8, 175, 176, 7])
  | 41 => some (.dup, 1, [])
  | 42 => some (.invokespecial 28, 3, [2, 6, 1, 8, 1, 177])
  | 45 => some (.putfield 29, 3, [1, 9, 3, 2, 0, 270])
  | 48 => some (.aload_n 0, 1, [])
  | 49 => some (.new 33, 3, [5, 7, 194, 36, 3])
  | 52 => some (.dup, 1, [])
  | 53 => some (.invokespecial 35, 3, [2, 2, 1, 7, 1, 195])
  | 56 => some (.putfield 36, 3, [1, 9, 4, 2, 0, 271])
  | 59 => some (.aload_n 0, 1, [])
  | 60 => some (.new 40, 3, [5, 4, 196, 197, 8])
  | 63 => some (.dup, 1, [])
  | 64 => some (.invokespecial 42, 3, [2, 7, 1, 4, 1, 198])
  | 67 => some (.putfield 43, 3, [1, 9, 5, 2, 0, 272])
  | 70 => some (.aload_n 0, 1, [])
  | 71 => some (.new 47, 3, [5, 1, 233, 203, 9])
  | 74 => some (.dup, 1, [])
  | 75 => some (.invokespecial 49, 3, [2, 8, 1, 1, 1, 234])
  | 78 => some (.putfield 50, 3, [1, 9, 6, 2, 0, 273])
  | 81 => some (.aload_n 0, 1, [])
  | 82 => some (.new 54, 3, [5, 0, 235, 236, 10])
  | 85 => some (.dup, 1, [])
  | 86 => some (.invokespecial 56, 3, [2, 9, 1, 0, 1, 237])
  | 89 => some (.putfield 57, 3, [1, 9, 7, 2, 0, 274])
  | 92 => some (.aload_n 0, 1, [])
  | 93 => some (.new 54, 3, [5, 0, 235, 236, 10])
  | 96 => some (.dup, 1, [])
  | 97 => some (.invokespecial 56, 3, [2, 9, 1, 0, 1, 237])
  | 100 => some (.putfield 61, 3, [1, 9, 8, 2, 0, 275])
  | 103 => some (.return_, 1, [])
  | _ => none
def dec1 (pc : Nat) : Option (ClassFile.Instr × Nat × List Nat) := match pc with
  | 0 => some (.aload_n 0, 1, [])
  | 1 => some (.invokespecial 3, 3, [4, 34])
  | 4 => some (.aload_n 0, 1, [])
  | 5 => some (.new 9, 3, [5, 7, 35, 36, 3])
  | 8 => some (.dup, 1, [])
  | 9 => some (.invokespecial 11, 3, [2, 2, 1, 7, 1, 37])
  | 12 => some (.putfield 12, 3, [1, 6, 0, 2, 0, 136])
  | 15 => some (.aload_n 0, 1, [])
  | 16 => some (.new 18, 3, [5, 3, 84, 85, 4])
  | 19 => some (.dup, 1, [])
  | 20 => some (.invokespecial 20, 3, [2, 3, 1, 3, 1, 86])
  | 23 => some (.putfield 21, 3, [1, 6, 1, 2, 0, 141])
  | 26 => some (.aload_n 0, 1, [])
  | 27 => some (.new 25, 3, [5, 2, 107, 108, 5])
  | 30 => some (.dup, 1, [])
  | 31 => some (.invokespecial 27, 3, [2, 4, 1, 2, 1, 109])
  | 34 => some (.putfield 28, 3, [1, 6, 2, 2, 0, 145])
  | 37 => some (.return_, 1, [])
  | _ => none
def dec2 (pc : Nat) : Option (ClassFile.Instr × Nat × List Nat) := match pc with
  | 0 => some (.aload_n 0, 1, [])
  | 1 => some (.invokespecial 3, 3, [4, 40])
  | 4 => some (.aload_n 0, 1, [])
  | 5 => some (.iconst 3, 1, [3])
  | 6 => some (.newarray .int, 2, [])
  | 8 => some (.dup, 1, [])
  | 9 => some (.iconst 0, 1, [0])
  | 10 => some (.iconst 1, 1, [1])
  | 11 => some (.iastore, 1, [])
  | 12 => some (.dup, 1, [])
  | 13 => some (.iconst 1, 1, [1])
  | 14 => some (.iconst 1, 1, [1])
  | 15 => some (.iastore, 1, [])
  | 16 => some (.dup, 1, [])
  | 17 => some (.iconst 2, 1, [2])
  | 18 => some (.iconst 1, 1, [1])
  | 19 => some (.iastore, 1, [])
  | 20 => some (.putfield 9, 3, [1, 7, 0, 2, 0, 41])
  | 23 => some (.aload_n 0, 1, [])
  | 24 => some (.iconst 3, 1, [3])
  | 25 => some (.newarray .int, 2, [])
  | 27 => some (.putfield 15, 3, [1, 7, 1, 2, 0, 45])
  | 30 => some (.aload_n 0, 1, [])
  | 31 => some (.bipush 18, 2, [18])
  | 33 => some (.newarray .int, 2, [])
  | 35 => some (.putfield 18, 3, [1, 7, 2, 2, 0, 46])
  | 38 => some (.aload_n 0, 1, [])
  | 39 => some (.bipush 18, 2, [18])
  | 41 => some (.newarray .int, 2, [])
  | 43 => some (.putfield 21, 3, [1, 7, 3, 2, 0, 51])
  | 46 => some (.aload_n 0, 1, [])
  | 47 => some (.bipush 18, 2, [18])
  | 49 => some (.newarray .int, 2, [])
  | 51 => some (.putfield 24, 3, [1, 7, 4, 2, 0, 54])
  | 54 => some (.aload_n 0, 1, [])
  | 55 => some (.bipush 18, 2, [18])
  | 57 => some (.newarray .int, 2, [])
  | 59 => some (.putfield 27, 3, [1, 7, 5, 2, 0, 60])
  | 62 => some (.aload_n 0, 1, [])
  | 63 => some (.bipush 18, 2, [18])
  | 65 => some (.newarray .int, 2, [])
  | 67 => some (.putfield 30, 3, [1, 7, 6, 2, 0, 62])
  | 70 => some (.aload_n 0, 1, [])
  | 71 => some (.bipush 18, 2, [18])
  | 73 => some (.newarray .int, 2, [])
  | 75 => some (.putfield 33, 3, [1, 7, 7, 2, 0, 64])
  | 78 => some (.return_, 1, [])
  | _ => none
def dec3 (pc : Nat) : Option (ClassFile.Instr × Nat × List Nat) := match pc with
  | 0 => some (.aload_n 0, 1, [])
  | 1 => some (.invokespecial 3, 3, [4, 89])
  | 4 => some (.aload_n 0, 1, [])
  | 5 => some (.iconst 4, 1, [4])
  | 6 => some (.newarray .int, 2, [])
  | 8 => some (.putfield 9, 3, [1, 3, 0, 2, 0, 90])
  | 11 => some (.aload_n 0, 1, [])
  | 12 => some (.iconst 4, 1, [4])
  | 13 => some (.newarray .int, 2, [])
  | 15 => some (.putfield 15, 3, [1, 3, 1, 2, 0, 92])
  | 18 => some (.aload_n 0, 1, [])
  | 19 => some (.iconst 1, 1, [1])
  | 20 => some (.putfield 18, 3, [1, 3, 3, 0, 0, 96])
  | 23 => some (.return_, 1, [])
  | _ => none
def dec4 (pc : Nat) : Option (ClassFile.Instr × Nat × List Nat) := match pc with
  | 0 => some (.aload_n 0, 1, [])
  | 1 => some (.invokespecial 3, 3, [4, 112])
  | 4 => some (.aload_n 0, 1, [])
  | 5 => some (.bipush 16, 2, [16])
  | 7 => some (.newarray .int, 2, [])
  | 9 => some (.putfield 9, 3, [1, 2, 0, 2, 0, 113])
  | 12 => some (.aload_n 0, 1, [])
  | 13 => some (.bipush 20, 2, [20])
  | 15 => some (.newarray .int, 2, [])
  | 17 => some (.putfield 15, 3, [1, 2, 1, 2, 0, 115])
  | 20 => some (.aload_n 0, 1, [])
  | 21 => some (.bipush 20, 2, [20])
  | 23 => some (.newarray .int, 2, [])
  | 25 => some (.putfield 18, 3, [1, 2, 2, 2, 0, 116])
  | 28 => some (.aload_n 0, 1, [])
  | 29 => some (.bipush 20, 2, [20])
  | 31 => some (.newarray .int, 2, [])
  | 33 => some (.putfield 21, 3, [1, 2, 3, 2, 0, 117])
  | 36 => some (.return_, 1, [])
  | _ => none
def dec5 (pc : Nat) : Option (ClassFile.Instr × Nat × List Nat) := match pc with
  | 0 => some (.aload_n 0, 1, [])
  | 1 => some (.invokespecial 3, 3, [4, 160])
  | 4 => some (.aload_n 0, 1, [])
  | 5 => some (.iconst 4, 1, [4])
  | 6 => some (.anewarray 9, 3, [7, 161, 30])
  | 9 => some (.putfield 11, 3, [1, 5, 0, 2, 0, 164])
  | 12 => some (.iconst 0, 1, [0])
  | 13 => some (.istore_n 1, 1, [])
  | 14 => some (.iload_n 1, 1, [])
  | 15 => some (.aload_n 0, 1, [])
  | 16 => some (.getfield 11, 3, [1, 5, 0, 2, 0, 164])
  | 19 => some (.arraylength, 1, [])
  | 20 => some (.if_icmp .ge 22, 3, [42])
  | 23 => some (.aload_n 0, 1, [])
  | 24 => some (.getfield 11, 3, [1, 5, 0, 2, 0, 164])
  | 27 => some (.iload_n 1, 1, [])
  | 28 => some (.new 9, 3, [7, 161, 30])
  | 31 => some (.dup, 1, [])
  | 32 => some (.invokespecial 17, 3, [2, 1, 1, 6, 1, 163])
  | 35 => some (.aastore, 1, [])
  | 36 => some (.iinc 1 1, 3, [1])
  | 39 => some (.goto (-25), 3, [14])
  | 42 => some (.return_, 1, [])
  | _ => none
def dec6 (pc : Nat) : Option (ClassFile.Instr × Nat × List Nat) := match pc with
  | 0 => some (.aload_n 0, 1, [])
  | 1 => some (.invokespecial 3, 3, [4, 180])
  | 4 => some (.aload_n 0, 1, [])
  | 5 => some (.sipush 160, 3, [160])
  | 8 => some (.newarray .byte, 2, [])
  | 10 => some (.putfield 9, 3, [1, 8, 0, 2, 0, 181])
  | 13 => some (.return_, 1, [])
  | _ => none
def dec7 (pc : Nat) : Option (ClassFile.Instr × Nat × List Nat) := match pc with
  | 0 => some (.aload_n 0, 1, [])
  | 1 => some (.invokespecial 3, 3, [4, 201])
  | 4 => some (.aload_n 0, 1, [])
  | 5 => some (.new 9, 3, [5, 1, 202, 203, 9])
  | 8 => some (.dup, 1, [])
  | 9 => some (.invokespecial 11, 3, [2, 8, 1, 1, 1, 204])
  | 12 => some (.putfield 12, 3, [1, 4, 0, 2, 0, 220])
  | 15 => some (.return_, 1, [])
  | _ => none
def dec8 (pc : Nat) : Option (ClassFile.Instr × Nat × List Nat) := match pc with
  | 0 => some (.aload_n 0, 1, [])
  | 1 => some (.invokespecial 3, 3, [4, 207])
  | 4 => some (.aload_n 0, 1, [])
  | 5 => some (.bipush 18, 2, [18])
  | 7 => some (.newarray .int, 2, [])
  | 9 => some (.putfield 9, 3, [1, 1, 0, 2, 0, 208])
  | 12 => some (.aload_n 0, 1, [])
  | 13 => some (.iconst 3, 1, [3])
  | 14 => some (.newarray .int, 2, [])
  | 16 => some (.putfield 15, 3, [1, 1, 1, 2, 0, 210])
  | 19 => some (.return_, 1, [])
  | _ => none
def dec9 (pc : Nat) : Option (ClassFile.Instr × Nat × List Nat) := match pc with
  | 0 => some (.aload_n 0, 1, [])
  | 1 => some (.invokespecial 3, 3, [4, 240])
  | 4 => some (.aload_n 0, 1, [])
  | 5 => some (.new 9, 3, [5, 1, 241, 203, 9])
  | 8 => some (.dup, 1, [])
  | 9 => some (.invokespecial 11, 3, [2, 8, 1, 1, 1, 242])
  | 12 => some (.putfield 12, 3, [1, 0, 0, 2, 0, 243])
  | 15 => some (.aload_n 0, 1, [])
  | 16 => some (.new 9, 3, [5, 1, 241, 203, 9])
  | 19 => some (.dup, 1, [])
  | 20 => some (.invokespecial 11, 3, [2, 8, 1, 1, 1, 242])
  | 23 => some (.putfield 18, 3, [1, 0, 1, 2, 0, 244])
  | 26 => some (.aload_n 0, 1, [])
  | 27 => some (.iconst 2, 1, [2])
  | 28 => some (.newarray .int, 2, [])
  | 30 => some (.putfield 21, 3, [1, 0, 2, 2, 0, 245])
  | 33 => some (.aload_n 0, 1, [])
  | 34 => some (.bipush 16, 2, [16])
  | 36 => some (.newarray .long, 2, [])
  | 38 => some (.putfield 25, 3, [1, 0, 3, 2, 0, 246])
  | 41 => some (.aload_n 0, 1, [])
  | 42 => some (.iconst 4, 1, [4])
  | 43 => some (.newarray .long, 2, [])
  | 45 => some (.putfield 29, 3, [1, 0, 4, 2, 0, 247])
  | 48 => some (.aload_n 0, 1, [])
  | 49 => some (.iconst (-1), 1, [4294967295])
  | 50 => some (.putfield 32, 3, [1, 0, 6, 0, 0, 250])
  | 53 => some (.return_, 1, [])
  | _ => none
def dec10 (pc : Nat) : Option (ClassFile.Instr × Nat × List Nat) := match pc with
  | 0 => some (.aload_n 0, 1, [])
  | 1 => some (.invokevirtual 72, 3, [2, 11, 2, 9, 0, 641])
  | 4 => some (.aload_n 0, 1, [])
  | 5 => some (.getfield 12, 3, [1, 9, 0, 2, 0, 267])
  | 8 => some (.getfield 75, 3, [1, 6, 0, 2, 1, 138])
  | 11 => some (.invokevirtual 127, 3, [2, 22, 2, 7, 0, 939])
  | 14 => some (.ireturn, 1, [0])
  | _ => none
def dec11 (pc : Nat) : Option (ClassFile.Instr × Nat × List Nat) := match pc with
  | 0 => some (.aload_n 0, 1, [])
  | 1 => some (.getfield 22, 3, [1, 9, 2, 2, 0, 269])
  | 4 => some (.aload_n 0, 1, [])
  | 5 => some (.getfield 12, 3, [1, 9, 0, 2, 0, 267])
  | 8 => some (.invokevirtual 292, 3, [2, 12, 2, 5, 0, 645, 2])
  | 11 => some (.aload_n 0, 1, [])
  | 12 => some (.getfield 57, 3, [1, 9, 7, 2, 0, 274])
  | 15 => some (.invokevirtual 237, 3, [2, 21, 2, 0, 0, 416])
  | 18 => some (.return_, 1, [])
  | _ => none
def dec12 (pc : Nat) : Option (ClassFile.Instr × Nat × List Nat) := match pc with
  | 0 => some (.aload_n 0, 1, [])
  | 1 => some (.aload_n 0, 1, [])
  | 2 => some (.getfield 18, 3, [1, 5, 2, 0, 0, 166])
  | 5 => some (.invokevirtual 22, 3, [2, 13, 2, 5, 0, 382, 0])
  | 8 => some (.astore_n 2, 1, [])
  | 9 => some (.aload_n 2, 1, [])
  | 10 => some (.ifnull 8, 3, [18])
  | 13 => some (.aload_n 2, 1, [])
  | 14 => some (.aload_n 1, 1, [])
  | 15 => some (.invokevirtual 26, 3, [2, 15, 2, 6, 0, 389, 2])
  | 18 => some (.aload_n 0, 1, [])
  | 19 => some (.getfield 18, 3, [1, 5, 2, 0, 0, 166])
  | 22 => some (.iconst 4, 1, [4])
  | 23 => some (.if_icmp .ge 16, 3, [39])
  | 26 => some (.aload_n 0, 1, [])
  | 27 => some (.dup, 1, [])
  | 28 => some (.getfield 18, 3, [1, 5, 2, 0, 0, 166])
  | 31 => some (.iconst 1, 1, [1])
  | 32 => some (.iadd, 1, [])
  | 33 => some (.putfield 18, 3, [1, 5, 2, 0, 0, 166])
  | 36 => some (.goto 15, 3, [51])
  | 39 => some (.aload_n 0, 1, [])
  | 40 => some (.aload_n 0, 1, [])
  | 41 => some (.getfield 30, 3, [1, 5, 1, 0, 0, 165])
  | 44 => some (.iconst 1, 1, [1])
  | 45 => some (.iadd, 1, [])
  | 46 => some (.iconst 4, 1, [4])
  | 47 => some (.irem, 1, [])
  | 48 => some (.putfield 30, 3, [1, 5, 1, 0, 0, 165])
  | 51 => some (.return_, 1, [])
  | _ => none
def dec13 (pc : Nat) : Option (ClassFile.Instr × Nat × List Nat) := match pc with
  | 0 => some (.aload_n 0, 1, [])
  | 1 => some (.getfield 30, 3, [1, 5, 1, 0, 0, 165])
  | 4 => some (.iload_n 1, 1, [])
  | 5 => some (.iadd, 1, [])
  | 6 => some (.iconst 4, 1, [4])
  | 7 => some (.invokestatic 33, 3, [2, 14, 0, 12, 0, 386, 0, 0])
  | 10 => some (.istore_n 2, 1, [])
  | 11 => some (.iload_n 2, 1, [])
  | 12 => some (.ifCond .lt 21, 3, [33])
  | 15 => some (.iload_n 2, 1, [])
  | 16 => some (.aload_n 0, 1, [])
  | 17 => some (.getfield 11, 3, [1, 5, 0, 2, 0, 164])
  | 20 => some (.arraylength, 1, [])
  | 21 => some (.if_icmp .ge 12, 3, [33])
  | 24 => some (.aload_n 0, 1, [])
  | 25 => some (.getfield 11, 3, [1, 5, 0, 2, 0, 164])
  | 28 => some (.iload_n 2, 1, [])
  | 29 => some (.aaload, 1, [])
  | 30 => some (.goto 4, 3, [34])
  | 33 => some (.aconst_null, 1, [])
  | 34 => some (.areturn, 1, [])
  | _ => none
def dec14 (pc : Nat) : Option (ClassFile.Instr × Nat × List Nat) := match pc with
  | 0 => some (.iload_n 0, 1, [])
  | 1 => some (.iload_n 1, 1, [])
  | 2 => some (.irem, 1, [])
  | 3 => some (.istore_n 2, 1, [])
  | 4 => some (.iload_n 0, 1, [])
  | 5 => some (.iload_n 1, 1, [])
  | 6 => some (.ixor, 1, [])
  | 7 => some (.ifCond .ge 11, 3, [18])
  | 10 => some (.iload_n 2, 1, [])
  | 11 => some (.ifCond .eq 7, 3, [18])
  | 14 => some (.iload_n 2, 1, [])
  | 15 => some (.iload_n 1, 1, [])
  | 16 => some (.iadd, 1, [])
  | 17 => some (.ireturn, 1, [0])
  | 18 => some (.iload_n 2, 1, [])
  | 19 => some (.ireturn, 1, [0])
  | _ => none
def dec15 (pc : Nat) : Option (ClassFile.Instr × Nat × List Nat) := match pc with
  | 0 => some (.aload_n 0, 1, [])
  | 1 => some (.getfield 12, 3, [1, 6, 0, 2, 0, 136])
  | 4 => some (.aload_n 1, 1, [])
  | 5 => some (.getfield 12, 3, [1, 6, 0, 2, 0, 136])
  | 8 => some (.invokevirtual 32, 3, [2, 16, 2, 7, 0, 393, 2])
  | 11 => some (.aload_n 0, 1, [])
  | 12 => some (.getfield 21, 3, [1, 6, 1, 2, 0, 141])
  | 15 => some (.aload_n 1, 1, [])
  | 16 => some (.getfield 21, 3, [1, 6, 1, 2, 0, 141])
  | 19 => some (.invokevirtual 36, 3, [2, 19, 2, 3, 0, 406, 2])
  | 22 => some (.aload_n 0, 1, [])
  | 23 => some (.getfield 28, 3, [1, 6, 2, 2, 0, 145])
  | 26 => some (.aload_n 1, 1, [])
  | 27 => some (.getfield 28, 3, [1, 6, 2, 2, 0, 145])
  | 30 => some (.invokevirtual 39, 3, [2, 20, 2, 2, 0, 411, 2])
  | 33 => some (.return_, 1, [])
  | _ => none
def dec16 (pc : Nat) : Option (ClassFile.Instr × Nat × List Nat) := match pc with
  | 0 => some (.aload_n 1, 1, [])
  | 1 => some (.getfield 9, 3, [1, 7, 0, 2, 0, 41])
  | 4 => some (.aload_n 0, 1, [])
  | 5 => some (.getfield 9, 3, [1, 7, 0, 2, 0, 41])
  | 8 => some (.invokestatic 42, 3, [2, 17, 0, 9, 1, 397, 2, 2])
  | 11 => some (.aload_n 1, 1, [])
  | 12 => some (.getfield 15, 3, [1, 7, 1, 2, 0, 45])
  | 15 => some (.aload_n 0, 1, [])
  | 16 => some (.getfield 15, 3, [1, 7, 1, 2, 0, 45])
  | 19 => some (.invokestatic 42, 3, [2, 17, 0, 9, 1, 397, 2, 2])
  | 22 => some (.aload_n 1, 1, [])
  | 23 => some (.getfield 18, 3, [1, 7, 2, 2, 0, 46])
  | 26 => some (.aload_n 0, 1, [])
  | 27 => some (.getfield 18, 3, [1, 7, 2, 2, 0, 46])
  | 30 => some (.invokestatic 42, 3, [2, 17, 0, 9, 1, 397, 2, 2])
  | 33 => some (.aload_n 1, 1, [])
  | 34 => some (.getfield 21, 3, [1, 7, 3, 2, 0, 51])
  | 37 => some (.aload_n 0, 1, [])
  | 38 => some (.getfield 21, 3, [1, 7, 3, 2, 0, 51])
  | 41 => some (.invokestatic 42, 3, [2, 17, 0, 9, 1, 397, 2, 2])
  | 44 => some (.aload_n 1, 1, [])
  | 45 => some (.getfield 24, 3, [1, 7, 4, 2, 0, 54])
  | 48 => some (.aload_n 0, 1, [])
  | 49 => some (.getfield 24, 3, [1, 7, 4, 2, 0, 54])
  | 52 => some (.invokestatic 42, 3, [2, 17, 0, 9, 1, 397, 2, 2])
  | 55 => some (.aload_n 1, 1, [])
  | 56 => some (.getfield 27, 3, [1, 7, 5, 2, 0, 60])
  | 59 => some (.aload_n 0, 1, [])
  | 60 => some (.getfield 27, 3, [1, 7, 5, 2, 0, 60])
  | 63 => some (.invokestatic 42, 3, [2, 17, 0, 9, 1, 397, 2, 2])
  | 66 => some (.aload_n 1, 1, [])
  | 67 => some (.getfield 30, 3, [1, 7, 6, 2, 0, 62])
  | 70 => some (.aload_n 0, 1, [])
  | 71 => some (.getfield 30, 3, [1, 7, 6, 2, 0, 62])
  | 74 => some (.invokestatic 42, 3, [2, 17, 0, 9, 1, 397, 2, 2])
  | 77 => some (.aload_n 1, 1, [])
  | 78 => some (.getfield 33, 3, [1, 7, 7, 2, 0, 64])
  | 81 => some (.aload_n 0, 1, [])
  | 82 => some (.getfield 33, 3, [1, 7, 7, 2, 0, 64])
  | 85 => some (.invokestatic 42, 3, [2, 17, 0, 9, 1, 397, 2, 2])
  | 88 => some (.return_, 1, [])
  | _ => none
def dec17 (pc : Nat) : Option (ClassFile.Instr × Nat × List Nat) := match pc with
  | 0 => some (.aload_n 0, 1, [])
  | 1 => some (.iconst 0, 1, [0])
  | 2 => some (.aload_n 1, 1, [])
  | 3 => some (.iconst 0, 1, [0])
  | 4 => some (.aload_n 0, 1, [])
  | 5 => some (.arraylength, 1, [])
  | 6 => some (.aload_n 1, 1, [])
  | 7 => some (.arraylength, 1, [])
  | 8 => some (.invokestatic 228, 3, [10, 400])
  | 11 => some (.invokestatic 341, 3, [3, 403])
  | 14 => some (.return_, 1, [])
  | _ => none
def dec18 (pc : Nat) : Option (ClassFile.Instr × Nat × List Nat) := match pc with
  | 0 => some (.iload_n 0, 1, [])
  | 1 => some (.iload_n 1, 1, [])
  | 2 => some (.if_icmp .gt 7, 3, [9])
  | 5 => some (.iload_n 0, 1, [])
  | 6 => some (.goto 4, 3, [10])
  | 9 => some (.iload_n 1, 1, [])
  | 10 => some (.ireturn, 1, [0])
  | _ => none
def dec19 (pc : Nat) : Option (ClassFile.Instr × Nat × List Nat) := match pc with
  | 0 => some (.aload_n 1, 1, [])
  | 1 => some (.getfield 9, 3, [1, 3, 0, 2, 0, 90])
  | 4 => some (.aload_n 0, 1, [])
  | 5 => some (.getfield 9, 3, [1, 3, 0, 2, 0, 90])
  | 8 => some (.invokestatic 22, 3, [2, 17, 0, 9, 1, 410, 2, 2])
  | 11 => some (.aload_n 1, 1, [])
  | 12 => some (.getfield 15, 3, [1, 3, 1, 2, 0, 92])
  | 15 => some (.aload_n 0, 1, [])
  | 16 => some (.getfield 15, 3, [1, 3, 1, 2, 0, 92])
  | 19 => some (.invokestatic 22, 3, [2, 17, 0, 9, 1, 410, 2, 2])
  | 22 => some (.aload_n 0, 1, [])
  | 23 => some (.aload_n 1, 1, [])
  | 24 => some (.getfield 26, 3, [1, 3, 2, 0, 0, 94])
  | 27 => some (.putfield 26, 3, [1, 3, 2, 0, 0, 94])
  | 30 => some (.aload_n 0, 1, [])
  | 31 => some (.aload_n 1, 1, [])
  | 32 => some (.getfield 18, 3, [1, 3, 3, 0, 0, 96])
  | 35 => some (.putfield 18, 3, [1, 3, 3, 0, 0, 96])
  | 38 => some (.return_, 1, [])
  | _ => none
def dec20 (pc : Nat) : Option (ClassFile.Instr × Nat × List Nat) := match pc with
  | 0 => some (.aload_n 1, 1, [])
  | 1 => some (.getfield 9, 3, [1, 2, 0, 2, 0, 113])
  | 4 => some (.aload_n 0, 1, [])
  | 5 => some (.getfield 9, 3, [1, 2, 0, 2, 0, 113])
  | 8 => some (.invokestatic 24, 3, [2, 17, 0, 9, 1, 415, 2, 2])
  | 11 => some (.aload_n 1, 1, [])
  | 12 => some (.getfield 15, 3, [1, 2, 1, 2, 0, 115])
  | 15 => some (.aload_n 0, 1, [])
  | 16 => some (.getfield 15, 3, [1, 2, 1, 2, 0, 115])
  | 19 => some (.invokestatic 24, 3, [2, 17, 0, 9, 1, 415, 2, 2])
  | 22 => some (.aload_n 1, 1, [])
  | 23 => some (.getfield 18, 3, [1, 2, 2, 2, 0, 116])
  | 26 => some (.aload_n 0, 1, [])
  | 27 => some (.getfield 18, 3, [1, 2, 2, 2, 0, 116])
  | 30 => some (.invokestatic 24, 3, [2, 17, 0, 9, 1, 415, 2, 2])
  | 33 => some (.aload_n 1, 1, [])
  | 34 => some (.getfield 21, 3, [1, 2, 3, 2, 0, 117])
  | 37 => some (.aload_n 0, 1, [])
  | 38 => some (.getfield 21, 3, [1, 2, 3, 2, 0, 117])
  | 41 => some (.invokestatic 24, 3, [2, 17, 0, 9, 1, 415, 2, 2])
  | 44 => some (.aload_n 0, 1, [])
  | 45 => some (.aload_n 1, 1, [])
  | 46 => some (.getfield 28, 3, [1, 2, 4, 0, 0, 119])
  | 49 => some (.putfield 28, 3, [1, 2, 4, 0, 0, 119])
  | 52 => some (.aload_n 0, 1, [])
  | 53 => some (.aload_n 1, 1, [])
  | 54 => some (.getfield 32, 3, [1, 2, 5, 0, 0, 121])
  | 57 => some (.putfield 32, 3, [1, 2, 5, 0, 0, 121])
  | 60 => some (.return_, 1, [])
  | _ => none
def dec21 (pc : Nat) : Option (ClassFile.Instr × Nat × List Nat) := match pc with
  | 0 => some (.aload_n 0, 1, [])
  | 1 => some (.iconst (-1), 1, [4294967295])
  | 2 => some (.putfield 32, 3, [1, 0, 6, 0, 0, 250])
  | 5 => some (.return_, 1, [])
  | _ => none
def dec22 (pc : Nat) : Option (ClassFile.Instr × Nat × List Nat) := match pc with
  | 0 => some (.aload_n 0, 1, [])
  | 1 => some (.invokevirtual 78, 3, [2, 23, 2, 7, 0, 943])
  | 4 => some (.istore_n 1, 1, [])
  | 5 => some (.aload_n 0, 1, [])
  | 6 => some (.getfield 33, 3, [1, 7, 7, 2, 0, 64])
  | 9 => some (.iconst 0, 1, [0])
  | 10 => some (.invokestatic 36, 3, [2, 30, 0, 13, 0, 944, 0, 2])
  | 13 => some (.iload_n 1, 1, [])
  | 14 => some (.ireturn, 1, [0])
  | _ => none
def dec23 (pc : Nat) : Option (ClassFile.Instr × Nat × List Nat) := match pc with
  | 0 => some (.aload_n 0, 1, [])
  | 1 => some (.invokevirtual 66, 3, [2, 24, 2, 7, 0, 477])
  | 4 => some (.invokestatic 70, 3, [2, 29, 0, 11, 0, 487, 0])
  | 7 => some (.ireturn, 1, [0])
  | _ => none
def dec24 (pc : Nat) : Option (ClassFile.Instr × Nat × List Nat) := match pc with
  | 0 => some (.iconst 0, 1, [0])
  | 1 => some (.istore_n 1, 1, [])
  | 2 => some (.iconst 0, 1, [0])
  | 3 => some (.istore_n 2, 1, [])
  | 4 => some (.iload_n 2, 1, [])
  | 5 => some (.iconst 3, 1, [3])
  | 6 => some (.if_icmp .ge 53, 3, [59])
  | 9 => some (.iconst 0, 1, [0])
  | 10 => some (.istore_n 3, 1, [])
  | 11 => some (.iload_n 3, 1, [])
  | 12 => some (.aload_n 0, 1, [])
  | 13 => some (.iload_n 2, 1, [])
  | 14 => some (.invokevirtual 50, 3, [2, 25, 2, 7, 0, 466, 0])
  | 17 => some (.if_icmp .ge 36, 3, [53])
  | 20 => some (.iload_n 2, 1, [])
  | 21 => some (.iload_n 3, 1, [])
  | 22 => some (.invokestatic 54, 3, [2, 27, 0, 9, 1, 481, 0, 0])
  | 25 => some (.istore 4, 2, [])
  | 27 => some (.aload_n 0, 1, [])
  | 28 => some (.getfield 33, 3, [1, 7, 7, 2, 0, 64])
  | 31 => some (.iload 4, 2, [])
  | 33 => some (.invokestatic 46, 3, [2, 26, 0, 9, 1, 470, 0, 2])
  | 36 => some (.ifCond .eq 11, 3, [47])
  | 39 => some (.iload_n 1, 1, [])
  | 40 => some (.iload 4, 2, [])
  | 42 => some (.invokestatic 75, 3, [2, 28, 0, 9, 1, 484, 0])
  | 45 => some (.ior, 1, [])
  | 46 => some (.istore_n 1, 1, [])
  | 47 => some (.iinc 3 1, 3, [1])
  | 50 => some (.goto (-39), 3, [11])
  | 53 => some (.iinc 2 1, 3, [1])
  | 56 => some (.goto (-52), 3, [4])
  | 59 => some (.iload_n 1, 1, [])
  | 60 => some (.ireturn, 1, [0])
  | _ => none
def dec25 (pc : Nat) : Option (ClassFile.Instr × Nat × List Nat) := match pc with
  | 0 => some (.aload_n 0, 1, [])
  | 1 => some (.getfield 15, 3, [1, 7, 1, 2, 0, 45])
  | 4 => some (.iload_n 1, 1, [])
  | 5 => some (.invokestatic 46, 3, [2, 26, 0, 9, 1, 470, 0, 2])
  | 8 => some (.ireturn, 1, [0])
  | _ => none
def dec26 (pc : Nat) : Option (ClassFile.Instr × Nat × List Nat) := match pc with
  | 0 => some (.iload_n 1, 1, [])
  | 1 => some (.ifCond .lt 15, 3, [16])
  | 4 => some (.iload_n 1, 1, [])
  | 5 => some (.aload_n 0, 1, [])
  | 6 => some (.arraylength, 1, [])
  | 7 => some (.if_icmp .ge 9, 3, [16])
  | 10 => some (.aload_n 0, 1, [])
  | 11 => some (.iload_n 1, 1, [])
  | 12 => some (.iaload, 1, [])
  | 13 => some (.goto 4, 3, [17])
  | 16 => some (.iconst 0, 1, [0])
  | 17 => some (.ireturn, 1, [0])
  | _ => none
def dec27 (pc : Nat) : Option (ClassFile.Instr × Nat × List Nat) := match pc with
  | 0 => some (.iload_n 0, 1, [])
  | 1 => some (.bipush 6, 2, [6])
  | 3 => some (.imul, 1, [])
  | 4 => some (.iload_n 1, 1, [])
  | 5 => some (.iadd, 1, [])
  | 6 => some (.ireturn, 1, [0])
  | _ => none
def dec28 (pc : Nat) : Option (ClassFile.Instr × Nat × List Nat) := match pc with
  | 0 => some (.iconst 1, 1, [1])
  | 1 => some (.iload_n 0, 1, [])
  | 2 => some (.ishl, 1, [])
  | 3 => some (.ireturn, 1, [0])
  | _ => none
def dec29 (pc : Nat) : Option (ClassFile.Instr × Nat × List Nat) := match pc with
  | 0 => some (.iload_n 0, 1, [])
  | 1 => some (.iload_n 0, 1, [])
  | 2 => some (.iconst 1, 1, [1])
  | 3 => some (.iushr, 1, [])
  | 4 => some (.ldc_w 265, 3, [8, 1431655765, 490])
  | 7 => some (.iand, 1, [])
  | 8 => some (.isub, 1, [])
  | 9 => some (.istore_n 0, 1, [])
  | 10 => some (.iload_n 0, 1, [])
  | 11 => some (.ldc_w 266, 3, [8, 858993459, 491])
  | 14 => some (.iand, 1, [])
  | 15 => some (.iload_n 0, 1, [])
  | 16 => some (.iconst 2, 1, [2])
  | 17 => some (.iushr, 1, [])
  | 18 => some (.ldc_w 266, 3, [8, 858993459, 491])
  | 21 => some (.iand, 1, [])
  | 22 => some (.iadd, 1, [])
  | 23 => some (.istore_n 0, 1, [])
  | 24 => some (.iload_n 0, 1, [])
  | 25 => some (.iload_n 0, 1, [])
  | 26 => some (.iconst 4, 1, [4])
  | 27 => some (.iushr, 1, [])
  | 28 => some (.iadd, 1, [])
  | 29 => some (.ldc_w 267, 3, [8, 252645135, 492])
  | 32 => some (.iand, 1, [])
  | 33 => some (.istore_n 0, 1, [])
  | 34 => some (.iload_n 0, 1, [])
  | 35 => some (.iload_n 0, 1, [])
  | 36 => some (.bipush 8, 2, [8])
  | 38 => some (.iushr, 1, [])
  | 39 => some (.iadd, 1, [])
  | 40 => some (.istore_n 0, 1, [])
  | 41 => some (.iload_n 0, 1, [])
  | 42 => some (.iload_n 0, 1, [])
  | 43 => some (.bipush 16, 2, [16])
  | 45 => some (.iushr, 1, [])
  | 46 => some (.iadd, 1, [])
  | 47 => some (.istore_n 0, 1, [])
  | 48 => some (.iload_n 0, 1, [])
  | 49 => some (.bipush 63, 2, [63])
  | 51 => some (.iand, 1, [])
  | 52 => some (.ireturn, 1, [0])
  | _ => none
def dec30 (pc : Nat) : Option (ClassFile.Instr × Nat × List Nat) := match pc with
  | 0 => some (.iconst 0, 1, [0])
  | 1 => some (.istore_n 2, 1, [])
  | 2 => some (.aload_n 0, 1, [])
  | 3 => some (.arraylength, 1, [])
  | 4 => some (.istore_n 3, 1, [])
  | 5 => some (.iload_n 2, 1, [])
  | 6 => some (.iload_n 3, 1, [])
  | 7 => some (.if_icmp .ge 13, 3, [20])
  | 10 => some (.aload_n 0, 1, [])
  | 11 => some (.iload_n 2, 1, [])
  | 12 => some (.iload_n 1, 1, [])
  | 13 => some (.iastore, 1, [])
  | 14 => some (.iinc 2 1, 3, [1])
  | 17 => some (.goto (-12), 3, [5])
  | 20 => some (.return_, 1, [])
  | _ => none
def dec31 (pc : Nat) : Option (ClassFile.Instr × Nat × List Nat) := match pc with
  | 0 => some (.aload_n 0, 1, [])
  | 1 => some (.getfield 12, 3, [1, 9, 0, 2, 0, 267])
  | 4 => some (.getfield 174, 3, [1, 6, 2, 2, 1, 147])
  | 7 => some (.getfield 216, 3, [1, 2, 4, 0, 1, 120])
  | 10 => some (.istore_n 1, 1, [])
  | 11 => some (.iload_n 1, 1, [])
  | 12 => some (.ifCond .gt 5, 3, [17])
  | 15 => some (.dconst 0, 1, [])
  | 16 => some (.dreturn, 1, [])
  | 17 => some (.aload_n 0, 1, [])
  | 18 => some (.getfield 12, 3, [1, 9, 0, 2, 0, 267])
  | 21 => some (.getfield 174, 3, [1, 6, 2, 2, 1, 147])
  | 24 => some (.invokevirtual 219, 3, [2, 32, 2, 2, 0, 915])
  | 27 => some (.i2d, 1, [])
  | 28 => some (.iload_n 1, 1, [])
  | 29 => some (.i2d, 1, [])
  | 30 => some (.ddiv, 1, [])
  | 31 => some (.dreturn, 1, [])
  | _ => none
def dec32 (pc : Nat) : Option (ClassFile.Instr × Nat × List Nat) := match pc with
  | 0 => some (.iconst 0, 1, [0])
  | 1 => some (.istore_n 1, 1, [])
  | 2 => some (.iconst (-1), 1, [4294967295])
  | 3 => some (.istore_n 2, 1, [])
  | 4 => some (.iconst 0, 1, [0])
  | 5 => some (.istore_n 3, 1, [])
  | 6 => some (.iload_n 3, 1, [])
  | 7 => some (.aload_n 0, 1, [])
  | 8 => some (.invokevirtual 52, 3, [2, 33, 2, 2, 0, 629])
  | 11 => some (.if_icmp .ge 29, 3, [40])
  | 14 => some (.aload_n 0, 1, [])
  | 15 => some (.iload_n 3, 1, [])
  | 16 => some (.iconst 2, 1, [2])
  | 17 => some (.invokevirtual 56, 3, [2, 34, 2, 2, 0, 919, 0, 0])
  | 20 => some (.istore 4, 2, [])
  | 22 => some (.iload 4, 2, [])
  | 24 => some (.iload_n 2, 1, [])
  | 25 => some (.if_icmp .eq 6, 3, [31])
  | 28 => some (.iinc 1 1, 3, [1])
  | 31 => some (.iload 4, 2, [])
  | 33 => some (.istore_n 2, 1, [])
  | 34 => some (.iinc 3 1, 3, [1])
  | 37 => some (.goto (-31), 3, [6])
  | 40 => some (.iload_n 1, 1, [])
  | 41 => some (.ireturn, 1, [0])
  | _ => none
def dec33 (pc : Nat) : Option (ClassFile.Instr × Nat × List Nat) := match pc with
  | 0 => some (.bipush 20, 2, [20])
  | 2 => some (.aload_n 0, 1, [])
  | 3 => some (.getfield 32, 3, [1, 2, 5, 0, 0, 121])
  | 6 => some (.invokestatic 49, 3, [10, 461])
  | 9 => some (.ireturn, 1, [0])
  | _ => none
def dec34 (pc : Nat) : Option (ClassFile.Instr × Nat × List Nat) := match pc with
  | 0 => some (.iload_n 1, 1, [])
  | 1 => some (.aload_n 0, 1, [])
  | 2 => some (.invokevirtual 52, 3, [2, 33, 2, 2, 0, 629])
  | 5 => some (.if_icmp .lt 5, 3, [10])
  | 8 => some (.iconst (-1), 1, [4294967295])
  | 9 => some (.ireturn, 1, [0])
  | 10 => some (.aload_n 0, 1, [])
  | 11 => some (.getfield 32, 3, [1, 2, 5, 0, 0, 121])
  | 14 => some (.iconst 1, 1, [1])
  | 15 => some (.isub, 1, [])
  | 16 => some (.iload_n 1, 1, [])
  | 17 => some (.isub, 1, [])
  | 18 => some (.bipush 20, 2, [20])
  | 20 => some (.invokestatic 35, 3, [2, 14, 0, 12, 0, 630, 0, 0])
  | 23 => some (.istore_n 3, 1, [])
  | 24 => some (.iload_n 2, 1, [])
  | 25 => some (.lookupswitch 45 #[(0, 27), (1, 36)], 27, [])
  | 52 => some (.aload_n 0, 1, [])
  | 53 => some (.getfield 15, 3, [1, 2, 1, 2, 0, 115])
  | 56 => some (.iload_n 3, 1, [])
  | 57 => some (.invokestatic 45, 3, [2, 26, 0, 9, 1, 497, 0, 2])
  | 60 => some (.ireturn, 1, [0])
  | 61 => some (.aload_n 0, 1, [])
  | 62 => some (.getfield 18, 3, [1, 2, 2, 2, 0, 116])
  | 65 => some (.iload_n 3, 1, [])
  | 66 => some (.invokestatic 45, 3, [2, 26, 0, 9, 1, 497, 0, 2])
  | 69 => some (.ireturn, 1, [0])
  | 70 => some (.aload_n 0, 1, [])
  | 71 => some (.getfield 21, 3, [1, 2, 3, 2, 0, 117])
  | 74 => some (.iload_n 3, 1, [])
  | 75 => some (.invokestatic 45, 3, [2, 26, 0, 9, 1, 497, 0, 2])
  | 78 => some (.ireturn, 1, [0])
  | _ => none
def dec35 (pc : Nat) : Option (ClassFile.Instr × Nat × List Nat) := match pc with
  | 0 => some (.iconst 1, 1, [1])
  | 1 => some (.iload_n 0, 1, [])
  | 2 => some (.ishl, 1, [])
  | 3 => some (.ireturn, 1, [0])
  | _ => none
def dec36 (pc : Nat) : Option (ClassFile.Instr × Nat × List Nat) := match pc with
  | 0 => some (.iconst 1, 1, [1])
  | 1 => some (.iload_n 0, 1, [])
  | 2 => some (.ishl, 1, [])
  | 3 => some (.ireturn, 1, [0])
  | _ => none
def dec37 (pc : Nat) : Option (ClassFile.Instr × Nat × List Nat) := match pc with
  | 0 => some (.iconst 1, 1, [1])
  | 1 => some (.iload_n 0, 1, [])
  | 2 => some (.ishl, 1, [])
  | 3 => some (.ireturn, 1, [0])
  | _ => none
def dec38 (pc : Nat) : Option (ClassFile.Instr × Nat × List Nat) := match pc with
  | 0 => some (.iconst 1, 1, [1])
  | 1 => some (.iload_n 0, 1, [])
  | 2 => some (.ishl, 1, [])
  | 3 => some (.ireturn, 1, [0])
  | _ => none
def dec39 (pc : Nat) : Option (ClassFile.Instr × Nat × List Nat) := match pc with
  | 0 => some (.iconst 1, 1, [1])
  | 1 => some (.iload_n 0, 1, [])
  | 2 => some (.ishl, 1, [])
  | 3 => some (.ireturn, 1, [0])
  | _ => none
def dec40 (pc : Nat) : Option (ClassFile.Instr × Nat × List Nat) := match pc with
  | 0 => some (.iconst 1, 1, [1])
  | 1 => some (.iload_n 0, 1, [])
  | 2 => some (.ishl, 1, [])
  | 3 => some (.ireturn, 1, [0])
  | _ => none
def dec41 (pc : Nat) : Option (ClassFile.Instr × Nat × List Nat) := match pc with
  | 0 => some (.iconst 1, 1, [1])
  | 1 => some (.iload_n 0, 1, [])
  | 2 => some (.ishl, 1, [])
  | 3 => some (.ireturn, 1, [0])
  | _ => none
def dec42 (pc : Nat) : Option (ClassFile.Instr × Nat × List Nat) := match pc with
  | 0 => some (.iconst 1, 1, [1])
  | 1 => some (.iload_n 0, 1, [])
  | 2 => some (.ishl, 1, [])
  | 3 => some (.ireturn, 1, [0])
  | _ => none
def dec43 (pc : Nat) : Option (ClassFile.Instr × Nat × List Nat) := match pc with
  | 0 => some (.iconst 1, 1, [1])
  | 1 => some (.iload_n 0, 1, [])
  | 2 => some (.ishl, 1, [])
  | 3 => some (.ireturn, 1, [0])
  | _ => none
def dec44 (pc : Nat) : Option (ClassFile.Instr × Nat × List Nat) := match pc with
  | 0 => some (.iload_n 1, 1, [])
  | 1 => some (.ifCond .lt 13, 3, [14])
  | 4 => some (.iload_n 1, 1, [])
  | 5 => some (.aload_n 0, 1, [])
  | 6 => some (.arraylength, 1, [])
  | 7 => some (.if_icmp .ge 7, 3, [14])
  | 10 => some (.aload_n 0, 1, [])
  | 11 => some (.iload_n 1, 1, [])
  | 12 => some (.iload_n 2, 1, [])
  | 13 => some (.iastore, 1, [])
  | 14 => some (.return_, 1, [])
  | _ => none
def dec45 (pc : Nat) : Option (ClassFile.Instr × Nat × List Nat) := match pc with
  | 0 => some (.iconst 1, 1, [1])
  | 1 => some (.iload_n 0, 1, [])
  | 2 => some (.ishl, 1, [])
  | 3 => some (.ireturn, 1, [0])
  | _ => none
def dec46 (pc : Nat) : Option (ClassFile.Instr × Nat × List Nat) := match pc with
  | 0 => some (.iconst 1, 1, [1])
  | 1 => some (.iload_n 0, 1, [])
  | 2 => some (.ishl, 1, [])
  | 3 => some (.ireturn, 1, [0])
  | _ => none
def dec47 (pc : Nat) : Option (ClassFile.Instr × Nat × List Nat) := match pc with
  | 0 => some (.iconst 1, 1, [1])
  | 1 => some (.iload_n 0, 1, [])
  | 2 => some (.ishl, 1, [])
  | 3 => some (.ireturn, 1, [0])
  | _ => none
def dec48 (pc : Nat) : Option (ClassFile.Instr × Nat × List Nat) := match pc with
  | 0 => some (.iconst 1, 1, [1])
  | 1 => some (.iload_n 0, 1, [])
  | 2 => some (.ishl, 1, [])
  | 3 => some (.ireturn, 1, [0])
  | _ => none
def dec49 (pc : Nat) : Option (ClassFile.Instr × Nat × List Nat) := match pc with
  | 0 => some (.iconst 1, 1, [1])
  | 1 => some (.iload_n 0, 1, [])
  | 2 => some (.ishl, 1, [])
  | 3 => some (.ireturn, 1, [0])
  | _ => none
def dec50 (pc : Nat) : Option (ClassFile.Instr × Nat × List Nat) := match pc with
  | 0 => some (.iload_n 1, 1, [])
  | 1 => some (.invokestatic 334, 3, [2, 51, 0, 9, 0, 665, 0])
  | 4 => some (.ifCond .eq 15, 3, [19])
  | 7 => some (.iload_n 1, 1, [])
  | 8 => some (.invokestatic 338, 3, [2, 52, 0, 9, 0, 666, 0])
  | 11 => some (.iload_n 0, 1, [])
  | 12 => some (.if_icmp .gt 7, 3, [19])
  | 15 => some (.iconst 1, 1, [1])
  | 16 => some (.goto 4, 3, [20])
  | 19 => some (.iconst 0, 1, [0])
  | 20 => some (.ireturn, 1, [1])
  | _ => none
def dec51 (pc : Nat) : Option (ClassFile.Instr × Nat × List Nat) := match pc with
  | 0 => some (.iload_n 0, 1, [])
  | 1 => some (.bipush 16, 2, [16])
  | 3 => some (.if_icmp .lt 7, 3, [10])
  | 6 => some (.iconst 1, 1, [1])
  | 7 => some (.goto 4, 3, [11])
  | 10 => some (.iconst 0, 1, [0])
  | 11 => some (.ireturn, 1, [1])
  | _ => none
def dec52 (pc : Nat) : Option (ClassFile.Instr × Nat × List Nat) := match pc with
  | 0 => some (.iload_n 0, 1, [])
  | 1 => some (.bipush 16, 2, [16])
  | 3 => some (.isub, 1, [])
  | 4 => some (.ireturn, 1, [0])
  | _ => none
def dec53 (pc : Nat) : Option (ClassFile.Instr × Nat × List Nat) := match pc with
  | 0 => some (.iload_n 0, 1, [])
  | 1 => some (.invokestatic 334, 3, [2, 51, 0, 9, 0, 665, 0])
  | 4 => some (.ifCond .eq 7, 3, [11])
  | 7 => some (.iconst 0, 1, [0])
  | 8 => some (.goto 4, 3, [12])
  | 11 => some (.iconst 3, 1, [3])
  | 12 => some (.ireturn, 1, [0])
  | _ => none
def dec54 (pc : Nat) : Option (ClassFile.Instr × Nat × List Nat) := match pc with
  | 0 => some (.iconst 1, 1, [1])
  | 1 => some (.iload_n 0, 1, [])
  | 2 => some (.ishl, 1, [])
  | 3 => some (.ireturn, 1, [0])
  | _ => none
def dec55_0 (pc : Nat) : Option (ClassFile.Instr × Nat × List Nat) := match pc with
  | 0 => some (.aload_n 0, 1, [])
  | 1 => some (.iload_n 1, 1, [])
  | 2 => some (.invokevirtual 50, 3, [2, 25, 2, 7, 0, 466, 0])
  | 5 => some (.istore 7, 2, [])
  | 7 => some (.iload_n 1, 1, [])
  | 8 => some (.iload 7, 2, [])
  | 10 => some (.invokestatic 54, 3, [2, 27, 0, 9, 1, 481, 0, 0])
  | 13 => some (.istore 8, 2, [])
  | 15 => some (.aload_n 0, 1, [])
  | 16 => some (.getfield 18, 3, [1, 7, 2, 2, 0, 46])
  | 19 => some (.iload 8, 2, [])
  | 21 => some (.iload_n 2, 1, [])
  | 22 => some (.invokestatic 58, 3, [2, 44, 0, 9, 1, 676, 0, 0, 2])
  | 25 => some (.aload_n 0, 1, [])
  | 26 => some (.getfield 21, 3, [1, 7, 3, 2, 0, 51])
  | 29 => some (.iload 8, 2, [])
  | 31 => some (.iload_n 3, 1, [])
  | 32 => some (.invokestatic 58, 3, [2, 44, 0, 9, 1, 676, 0, 0, 2])
  | 35 => some (.aload_n 0, 1, [])
  | 36 => some (.getfield 24, 3, [1, 7, 4, 2, 0, 54])
  | 39 => some (.iload 8, 2, [])
  | 41 => some (.iload 4, 2, [])
  | 43 => some (.invokestatic 58, 3, [2, 44, 0, 9, 1, 676, 0, 0, 2])
  | 46 => some (.aload_n 0, 1, [])
  | 47 => some (.getfield 27, 3, [1, 7, 5, 2, 0, 60])
  | 50 => some (.iload 8, 2, [])
  | 52 => some (.iload 5, 2, [])
  | 54 => some (.invokestatic 58, 3, [2, 44, 0, 9, 1, 676, 0, 0, 2])
  | 57 => some (.aload_n 0, 1, [])
  | 58 => some (.getfield 30, 3, [1, 7, 6, 2, 0, 62])
  | 61 => some (.iload 8, 2, [])
  | 63 => some (.iload 6, 2, [])
  | 65 => some (.ifCond .eq 7, 3, [72])
  | 68 => some (.iconst 1, 1, [1])
  | 69 => some (.goto 4, 3, [73])
  | 72 => some (.iconst 0, 1, [0])
  | 73 => some (.invokestatic 58, 3, [2, 44, 0, 9, 1, 676, 0, 0, 2])
  | 76 => some (.aload_n 0, 1, [])
  | 77 => some (.getfield 33, 3, [1, 7, 7, 2, 0, 64])
  | 80 => some (.iload 8, 2, [])
  | 82 => some (.iconst 0, 1, [0])
  | 83 => some (.invokestatic 58, 3, [2, 44, 0, 9, 1, 676, 0, 0, 2])
  | 86 => some (.aload_n 0, 1, [])
  | 87 => some (.getfield 15, 3, [1, 7, 1, 2, 0, 45])
  | 90 => some (.iload_n 1, 1, [])
  | 91 => some (.iload 7, 2, [])
  | 93 => some (.iconst 1, 1, [1])
  | 94 => some (.iadd, 1, [])
  | _ => none
def dec55_1 (pc : Nat) : Option (ClassFile.Instr × Nat × List Nat) := match pc with
  | 95 => some (.invokestatic 58, 3, [2, 44, 0, 9, 1, 676, 0, 0, 2])
  | 98 => some (.iload 7, 2, [])
  | 100 => some (.ireturn, 1, [0])
  | _ => none
def dec55 (pc : Nat) : Option (ClassFile.Instr × Nat × List Nat) := if pc < 95 then dec55_0 pc else if pc < 101 then dec55_1 pc else none
def dec56 (pc : Nat) : Option (ClassFile.Instr × Nat × List Nat) := match pc with
  | 0 => some (.iconst 0, 1, [0])
  | 1 => some (.istore_n 1, 1, [])
  | 2 => some (.iconst 0, 1, [0])
  | 3 => some (.istore_n 2, 1, [])
  | 4 => some (.iload_n 2, 1, [])
  | 5 => some (.iconst 3, 1, [3])
  | 6 => some (.if_icmp .ge 17, 3, [23])
  | 9 => some (.iload_n 1, 1, [])
  | 10 => some (.aload_n 0, 1, [])
  | 11 => some (.iload_n 2, 1, [])
  | 12 => some (.invokevirtual 50, 3, [2, 25, 2, 7, 0, 466, 0])
  | 15 => some (.iadd, 1, [])
  | 16 => some (.istore_n 1, 1, [])
  | 17 => some (.iinc 2 1, 3, [1])
  | 20 => some (.goto (-16), 3, [4])
  | 23 => some (.iload_n 1, 1, [])
  | 24 => some (.ireturn, 1, [0])
  | _ => none
def dec57 (pc : Nat) : Option (ClassFile.Instr × Nat × List Nat) := match pc with
  | 0 => some (.iconst 1, 1, [1])
  | 1 => some (.iload_n 0, 1, [])
  | 2 => some (.ishl, 1, [])
  | 3 => some (.ireturn, 1, [0])
  | _ => none
def dec58 (pc : Nat) : Option (ClassFile.Instr × Nat × List Nat) := match pc with
  | 0 => some (.iconst 1, 1, [1])
  | 1 => some (.iload_n 0, 1, [])
  | 2 => some (.ishl, 1, [])
  | 3 => some (.ireturn, 1, [0])
  | _ => none
def dec59 (pc : Nat) : Option (ClassFile.Instr × Nat × List Nat) := match pc with
  | 0 => some (.iload_n 1, 1, [])
  | 1 => some (.tableswitch 120 0 6 #[43, 54, 65, 76, 87, 98, 109], 43, [])
  | 44 => some (.aload_n 0, 1, [])
  | 45 => some (.getfield 12, 3, [1, 9, 0, 2, 0, 267])
  | 48 => some (.getfield 141, 3, [1, 6, 1, 2, 1, 144])
  | 51 => some (.getfield 154, 3, [1, 3, 2, 0, 1, 95])
  | 54 => some (.ireturn, 1, [0])
  | 55 => some (.aload_n 0, 1, [])
  | 56 => some (.getfield 12, 3, [1, 9, 0, 2, 0, 267])
  | 59 => some (.getfield 141, 3, [1, 6, 1, 2, 1, 144])
  | 62 => some (.getfield 158, 3, [1, 3, 3, 0, 1, 97])
  | 65 => some (.ireturn, 1, [0])
  | 66 => some (.aload_n 0, 1, [])
  | 67 => some (.getfield 12, 3, [1, 9, 0, 2, 0, 267])
  | 70 => some (.getfield 174, 3, [1, 6, 2, 2, 1, 147])
  | 73 => some (.getfield 216, 3, [1, 2, 4, 0, 1, 120])
  | 76 => some (.ireturn, 1, [0])
  | 77 => some (.aload_n 0, 1, [])
  | 78 => some (.getfield 12, 3, [1, 9, 0, 2, 0, 267])
  | 81 => some (.getfield 174, 3, [1, 6, 2, 2, 1, 147])
  | 84 => some (.getfield 323, 3, [1, 2, 5, 0, 1, 122])
  | 87 => some (.ireturn, 1, [0])
  | 88 => some (.aload_n 0, 1, [])
  | 89 => some (.getfield 12, 3, [1, 9, 0, 2, 0, 267])
  | 92 => some (.getfield 174, 3, [1, 6, 2, 2, 1, 147])
  | 95 => some (.invokevirtual 276, 3, [2, 33, 2, 2, 0, 457])
  | 98 => some (.ireturn, 1, [0])
  | 99 => some (.aload_n 0, 1, [])
  | 100 => some (.getfield 12, 3, [1, 9, 0, 2, 0, 267])
  | 103 => some (.getfield 75, 3, [1, 6, 0, 2, 1, 138])
  | 106 => some (.invokevirtual 255, 3, [2, 56, 2, 7, 0, 462])
  | 109 => some (.ireturn, 1, [0])
  | 110 => some (.aload_n 0, 1, [])
  | 111 => some (.getfield 12, 3, [1, 9, 0, 2, 0, 267])
  | 114 => some (.getfield 75, 3, [1, 6, 0, 2, 1, 138])
  | 117 => some (.invokevirtual 326, 3, [2, 23, 2, 7, 0, 473])
  | 120 => some (.ireturn, 1, [0])
  | 121 => some (.aload_n 0, 1, [])
  | 122 => some (.getfield 12, 3, [1, 9, 0, 2, 0, 267])
  | 125 => some (.getfield 174, 3, [1, 6, 2, 2, 1, 147])
  | 128 => some (.invokevirtual 329, 3, [2, 60, 2, 2, 0, 493])
  | 131 => some (.ireturn, 1, [0])
  | _ => none
def dec60 (pc : Nat) : Option (ClassFile.Instr × Nat × List Nat) := match pc with
  | 0 => some (.iconst 0, 1, [0])
  | 1 => some (.istore_n 1, 1, [])
  | 2 => some (.iconst 0, 1, [0])
  | 3 => some (.istore_n 2, 1, [])
  | 4 => some (.iload_n 2, 1, [])
  | 5 => some (.bipush 16, 2, [16])
  | 7 => some (.if_icmp .ge 23, 3, [30])
  | 10 => some (.aload_n 0, 1, [])
  | 11 => some (.getfield 9, 3, [1, 2, 0, 2, 0, 113])
  | 14 => some (.iload_n 2, 1, [])
  | 15 => some (.invokestatic 45, 3, [2, 26, 0, 9, 1, 497, 0, 2])
  | 18 => some (.ifCond .le 6, 3, [24])
  | 21 => some (.iinc 1 1, 3, [1])
  | 24 => some (.iinc 2 1, 3, [1])
  | 27 => some (.goto (-23), 3, [4])
  | 30 => some (.iload_n 1, 1, [])
  | 31 => some (.ireturn, 1, [0])
  | _ => none
def dec61 (pc : Nat) : Option (ClassFile.Instr × Nat × List Nat) := match pc with
  | 0 => some (.iconst 1, 1, [1])
  | 1 => some (.iload_n 0, 1, [])
  | 2 => some (.ishl, 1, [])
  | 3 => some (.ireturn, 1, [0])
  | _ => none
def dec62 (pc : Nat) : Option (ClassFile.Instr × Nat × List Nat) := match pc with
  | 0 => some (.iload_n 2, 1, [])
  | 1 => some (.tableswitch 67 0 2 #[27, 42, 54], 27, [])
  | 28 => some (.aload_n 0, 1, [])
  | 29 => some (.getfield 12, 3, [1, 9, 0, 2, 0, 267])
  | 32 => some (.getfield 75, 3, [1, 6, 0, 2, 1, 138])
  | 35 => some (.getfield 78, 3, [1, 7, 0, 2, 1, 42])
  | 38 => some (.iload_n 1, 1, [])
  | 39 => some (.invokestatic 161, 3, [2, 26, 0, 9, 0, 530, 0, 2])
  | 42 => some (.ireturn, 1, [0])
  | 43 => some (.aload_n 0, 1, [])
  | 44 => some (.getfield 12, 3, [1, 9, 0, 2, 0, 267])
  | 47 => some (.getfield 75, 3, [1, 6, 0, 2, 1, 138])
  | 50 => some (.iload_n 1, 1, [])
  | 51 => some (.invokevirtual 101, 3, [2, 25, 2, 7, 0, 531, 0])
  | 54 => some (.ireturn, 1, [0])
  | 55 => some (.aload_n 0, 1, [])
  | 56 => some (.iload_n 1, 1, [])
  | 57 => some (.invokevirtual 189, 3, [2, 63, 2, 9, 0, 532, 0])
  | 60 => some (.aload_n 0, 1, [])
  | 61 => some (.getfield 50, 3, [1, 9, 6, 2, 0, 273])
  | 64 => some (.getfield 320, 3, [1, 1, 2, 0, 1, 212])
  | 67 => some (.ireturn, 1, [0])
  | 68 => some (.aload_n 0, 1, [])
  | 69 => some (.iload_n 1, 1, [])
  | 70 => some (.invokevirtual 189, 3, [2, 63, 2, 9, 0, 532, 0])
  | 73 => some (.aload_n 0, 1, [])
  | 74 => some (.getfield 50, 3, [1, 9, 6, 2, 0, 273])
  | 77 => some (.iload_n 1, 1, [])
  | 78 => some (.invokevirtual 195, 3, [2, 70, 2, 1, 0, 581, 0])
  | 81 => some (.ireturn, 1, [0])
  | _ => none
def dec63 (pc : Nat) : Option (ClassFile.Instr × Nat × List Nat) := match pc with
  | 0 => some (.aload_n 0, 1, [])
  | 1 => some (.getfield 50, 3, [1, 9, 6, 2, 0, 273])
  | 4 => some (.aload_n 0, 1, [])
  | 5 => some (.getfield 12, 3, [1, 9, 0, 2, 0, 267])
  | 8 => some (.iload_n 1, 1, [])
  | 9 => some (.aload_n 0, 1, [])
  | 10 => some (.getfield 12, 3, [1, 9, 0, 2, 0, 267])
  | 13 => some (.getfield 75, 3, [1, 6, 0, 2, 1, 138])
  | 16 => some (.invokevirtual 295, 3, [2, 24, 2, 7, 0, 536])
  | 19 => some (.iconst (-1), 1, [4294967295])
  | 20 => some (.invokevirtual 298, 3, [2, 64, 2, 1, 0, 537, 0, 0, 0, 2])
  | 23 => some (.return_, 1, [])
  | _ => none
def dec64 (pc : Nat) : Option (ClassFile.Instr × Nat × List Nat) := match pc with
  | 0 => some (.iconst 3, 1, [3])
  | 1 => some (.istore 5, 2, [])
  | 3 => some (.iload 5, 2, [])
  | 5 => some (.iconst 1, 1, [1])
  | 6 => some (.if_icmp .lt 52, 3, [58])
  | 9 => some (.iload 5, 2, [])
  | 11 => some (.iload 4, 2, [])
  | 13 => some (.if_icmp .le 45, 3, [58])
  | 16 => some (.aload_n 1, 1, [])
  | 17 => some (.getfield 18, 3, [1, 6, 1, 2, 1, 142])
  | 20 => some (.iload 5, 2, [])
  | 22 => some (.invokevirtual 24, 3, [2, 65, 2, 3, 0, 541, 0])
  | 25 => some (.ifCond .eq 27, 3, [52])
  | 28 => some (.aload_n 0, 1, [])
  | 29 => some (.aload_n 1, 1, [])
  | 30 => some (.iload_n 2, 1, [])
  | 31 => some (.iload_n 3, 1, [])
  | 32 => some (.iload 5, 2, [])
  | 34 => some (.invokevirtual 30, 3, [2, 66, 2, 1, 0, 545, 0, 0, 0, 2])
  | 37 => some (.aload_n 0, 1, [])
  | 38 => some (.iload_n 2, 1, [])
  | 39 => some (.invokevirtual 34, 3, [2, 70, 2, 1, 0, 569, 0])
  | 42 => some (.ifCond .le 10, 3, [52])
  | 45 => some (.aload_n 0, 1, [])
  | 46 => some (.iload 5, 2, [])
  | 48 => some (.putfield 38, 3, [1, 1, 2, 0, 0, 211])
  | 51 => some (.return_, 1, [])
  | 52 => some (.iinc 5 (-1), 3, [4294967295])
  | 55 => some (.goto (-52), 3, [3])
  | 58 => some (.aload_n 0, 1, [])
  | 59 => some (.aload_n 1, 1, [])
  | 60 => some (.iload_n 2, 1, [])
  | 61 => some (.iload_n 3, 1, [])
  | 62 => some (.iconst 0, 1, [0])
  | 63 => some (.invokevirtual 30, 3, [2, 66, 2, 1, 0, 545, 0, 0, 0, 2])
  | 66 => some (.aload_n 0, 1, [])
  | 67 => some (.iconst 0, 1, [0])
  | 68 => some (.putfield 38, 3, [1, 1, 2, 0, 0, 211])
  | 71 => some (.return_, 1, [])
  | _ => none
def dec65 (pc : Nat) : Option (ClassFile.Instr × Nat × List Nat) := match pc with
  | 0 => some (.iload_n 1, 1, [])
  | 1 => some (.iconst 1, 1, [1])
  | 2 => some (.if_icmp .lt 8, 3, [10])
  | 5 => some (.iload_n 1, 1, [])
  | 6 => some (.iconst 3, 1, [3])
  | 7 => some (.if_icmp .le 5, 3, [12])
  | 10 => some (.iconst 0, 1, [0])
  | 11 => some (.ireturn, 1, [1])
  | 12 => some (.aload_n 0, 1, [])
  | 13 => some (.getfield 15, 3, [1, 3, 1, 2, 0, 92])
  | 16 => some (.iload_n 1, 1, [])
  | 17 => some (.iaload, 1, [])
  | 18 => some (.ifCond .le 24, 3, [42])
  | 21 => some (.aload_n 0, 1, [])
  | 22 => some (.getfield 9, 3, [1, 3, 0, 2, 0, 90])
  | 25 => some (.iload_n 1, 1, [])
  | 26 => some (.iaload, 1, [])
  | 27 => some (.iconst 1, 1, [1])
  | 28 => some (.iadd, 1, [])
  | 29 => some (.aload_n 0, 1, [])
  | 30 => some (.getfield 15, 3, [1, 3, 1, 2, 0, 92])
  | 33 => some (.iload_n 1, 1, [])
  | 34 => some (.iaload, 1, [])
  | 35 => some (.if_icmp .lt 7, 3, [42])
  | 38 => some (.iconst 1, 1, [1])
  | 39 => some (.goto 4, 3, [43])
  | 42 => some (.iconst 0, 1, [0])
  | 43 => some (.ireturn, 1, [1])
  | _ => none
def dec66_0 (pc : Nat) : Option (ClassFile.Instr × Nat × List Nat) := match pc with
  | 0 => some (.iconst 2, 1, [2])
  | 1 => some (.istore 5, 2, [])
  | 3 => some (.iload 5, 2, [])
  | 5 => some (.iload_n 2, 1, [])
  | 6 => some (.if_icmp .lt 154, 3, [160])
  | 9 => some (.iload 5, 2, [])
  | 11 => some (.ifCond .lt 149, 3, [160])
  | 14 => some (.iload 5, 2, [])
  | 16 => some (.iconst 0, 1, [0])
  | 17 => some (.invokestatic 42, 3, [2, 27, 0, 9, 1, 549, 0, 0])
  | 20 => some (.istore 6, 2, [])
  | 22 => some (.bipush 18, 2, [18])
  | 24 => some (.iload 6, 2, [])
  | 26 => some (.aload_n 1, 1, [])
  | 27 => some (.getfield 46, 3, [1, 6, 0, 2, 1, 139])
  | 30 => some (.iload 5, 2, [])
  | 32 => some (.invokevirtual 50, 3, [2, 25, 2, 7, 0, 550, 0])
  | 35 => some (.iadd, 1, [])
  | 36 => some (.invokestatic 55, 3, [10, 551])
  | 39 => some (.istore 7, 2, [])
  | 41 => some (.iconst 0, 1, [0])
  | 42 => some (.istore 8, 2, [])
  | 44 => some (.iload 6, 2, [])
  | 46 => some (.istore 9, 2, [])
  | 48 => some (.iload 9, 2, [])
  | 50 => some (.iload 7, 2, [])
  | 52 => some (.if_icmp .ge 93, 3, [145])
  | 55 => some (.iload_n 3, 1, [])
  | 56 => some (.aload_n 1, 1, [])
  | 57 => some (.getfield 46, 3, [1, 6, 0, 2, 1, 139])
  | 60 => some (.iload 5, 2, [])
  | 62 => some (.iload 9, 2, [])
  | 64 => some (.invokevirtual 60, 3, [2, 67, 2, 7, 0, 552, 0, 0])
  | 67 => some (.iand, 1, [])
  | 68 => some (.ifCond .ne 7, 3, [75])
  | 71 => some (.iconst 1, 1, [1])
  | 72 => some (.goto 4, 3, [76])
  | 75 => some (.iconst 0, 1, [0])
  | 76 => some (.istore 10, 2, [])
  | 78 => some (.iload 10, 2, [])
  | 80 => some (.ifCond .eq 22, 3, [102])
  | 83 => some (.aload_n 0, 1, [])
  | 84 => some (.aload_n 1, 1, [])
  | 85 => some (.getfield 46, 3, [1, 6, 0, 2, 1, 139])
  | 88 => some (.iload 9, 2, [])
  | 90 => some (.iload 4, 2, [])
  | 92 => some (.invokevirtual 63, 3, [2, 69, 2, 1, 0, 559, 0, 0, 2])
  | 95 => some (.ifCond .eq 7, 3, [102])
  | _ => none
def dec66_1 (pc : Nat) : Option (ClassFile.Instr × Nat × List Nat) := match pc with
  | 98 => some (.iconst 1, 1, [1])
  | 99 => some (.goto 4, 3, [103])
  | 102 => some (.iconst 0, 1, [0])
  | 103 => some (.istore 11, 2, [])
  | 105 => some (.aload_n 0, 1, [])
  | 106 => some (.getfield 9, 3, [1, 1, 0, 2, 0, 208])
  | 109 => some (.iload 9, 2, [])
  | 111 => some (.iload 11, 2, [])
  | 113 => some (.ifCond .eq 12, 3, [125])
  | 116 => some (.aload_n 1, 1, [])
  | 117 => some (.iload 9, 2, [])
  | 119 => some (.invokevirtual 67, 3, [2, 71, 2, 6, 0, 573, 0])
  | 122 => some (.goto 4, 3, [126])
  | 125 => some (.iconst 0, 1, [0])
  | 126 => some (.iastore, 1, [])
  | 127 => some (.iload 8, 2, [])
  | 129 => some (.aload_n 0, 1, [])
  | 130 => some (.getfield 9, 3, [1, 1, 0, 2, 0, 208])
  | 133 => some (.iload 9, 2, [])
  | 135 => some (.iaload, 1, [])
  | 136 => some (.iadd, 1, [])
  | 137 => some (.istore 8, 2, [])
  | 139 => some (.iinc 9 1, 3, [1])
  | 142 => some (.goto (-94), 3, [48])
  | 145 => some (.aload_n 0, 1, [])
  | 146 => some (.getfield 15, 3, [1, 1, 1, 2, 0, 210])
  | 149 => some (.iload 5, 2, [])
  | 151 => some (.iload 8, 2, [])
  | 153 => some (.iastore, 1, [])
  | 154 => some (.iinc 5 (-1), 3, [4294967295])
  | 157 => some (.goto (-154), 3, [3])
  | 160 => some (.return_, 1, [])
  | _ => none
def dec66 (pc : Nat) : Option (ClassFile.Instr × Nat × List Nat) := if pc < 96 then dec66_0 pc else if pc < 161 then dec66_1 pc else none
def dec67 (pc : Nat) : Option (ClassFile.Instr × Nat × List Nat) := match pc with
  | 0 => some (.iload_n 2, 1, [])
  | 1 => some (.ifCond .lt 9, 3, [10])
  | 4 => some (.iload_n 2, 1, [])
  | 5 => some (.bipush 18, 2, [18])
  | 7 => some (.if_icmp .lt 5, 3, [12])
  | 10 => some (.iconst 0, 1, [0])
  | 11 => some (.ireturn, 1, [0])
  | 12 => some (.iload_n 2, 1, [])
  | 13 => some (.invokestatic 75, 3, [2, 28, 0, 9, 1, 484, 0])
  | 16 => some (.iload_n 1, 1, [])
  | 17 => some (.aload_n 0, 1, [])
  | 18 => some (.getfield 27, 3, [1, 7, 5, 2, 0, 60])
  | 21 => some (.iload_n 2, 1, [])
  | 22 => some (.iaload, 1, [])
  | 23 => some (.invokestatic 81, 3, [2, 68, 0, 9, 1, 556, 0, 0])
  | 26 => some (.ior, 1, [])
  | 27 => some (.ireturn, 1, [0])
  | _ => none
def dec68 (pc : Nat) : Option (ClassFile.Instr × Nat × List Nat) := match pc with
  | 0 => some (.iload_n 1, 1, [])
  | 1 => some (.ifCond .le 16, 3, [17])
  | 4 => some (.iconst 1, 1, [1])
  | 5 => some (.bipush 18, 2, [18])
  | 7 => some (.iload_n 0, 1, [])
  | 8 => some (.iconst 4, 1, [4])
  | 9 => some (.imul, 1, [])
  | 10 => some (.iadd, 1, [])
  | 11 => some (.iload_n 1, 1, [])
  | 12 => some (.iadd, 1, [])
  | 13 => some (.ishl, 1, [])
  | 14 => some (.goto 4, 3, [18])
  | 17 => some (.iconst 0, 1, [0])
  | 18 => some (.ireturn, 1, [0])
  | _ => none
def dec69 (pc : Nat) : Option (ClassFile.Instr × Nat × List Nat) := match pc with
  | 0 => some (.iload_n 2, 1, [])
  | 1 => some (.ifCond .lt 9, 3, [10])
  | 4 => some (.iload_n 2, 1, [])
  | 5 => some (.bipush 18, 2, [18])
  | 7 => some (.if_icmp .lt 5, 3, [12])
  | 10 => some (.iconst 0, 1, [0])
  | 11 => some (.ireturn, 1, [1])
  | 12 => some (.aload_n 1, 1, [])
  | 13 => some (.getfield 70, 3, [1, 7, 2, 2, 1, 48])
  | 16 => some (.iload_n 2, 1, [])
  | 17 => some (.iaload, 1, [])
  | 18 => some (.istore 4, 2, [])
  | 20 => some (.iload 4, 2, [])
  | 22 => some (.invokestatic 73, 3, [2, 51, 0, 9, 1, 563, 0])
  | 25 => some (.ifCond .eq 23, 3, [48])
  | 28 => some (.aload_n 0, 1, [])
  | 29 => some (.iload 4, 2, [])
  | 31 => some (.invokestatic 76, 3, [2, 52, 0, 9, 1, 566, 0])
  | 34 => some (.invokevirtual 34, 3, [2, 70, 2, 1, 0, 569, 0])
  | 37 => some (.ifCond .le 7, 3, [44])
  | 40 => some (.iconst 1, 1, [1])
  | 41 => some (.goto 22, 3, [63])
  | 44 => some (.iconst 0, 1, [0])
  | 45 => some (.goto 18, 3, [63])
  | 48 => some (.aload_n 1, 1, [])
  | 49 => some (.getfield 79, 3, [1, 7, 4, 2, 1, 57])
  | 52 => some (.iload_n 2, 1, [])
  | 53 => some (.iaload, 1, [])
  | 54 => some (.iload_n 3, 1, [])
  | 55 => some (.if_icmp .lt 7, 3, [62])
  | 58 => some (.iconst 1, 1, [1])
  | 59 => some (.goto 4, 3, [63])
  | 62 => some (.iconst 0, 1, [0])
  | 63 => some (.ireturn, 1, [1])
  | _ => none
def dec70 (pc : Nat) : Option (ClassFile.Instr × Nat × List Nat) := match pc with
  | 0 => some (.iload_n 1, 1, [])
  | 1 => some (.ifCond .lt 17, 3, [18])
  | 4 => some (.iload_n 1, 1, [])
  | 5 => some (.iconst 3, 1, [3])
  | 6 => some (.if_icmp .ge 12, 3, [18])
  | 9 => some (.aload_n 0, 1, [])
  | 10 => some (.getfield 15, 3, [1, 1, 1, 2, 0, 210])
  | 13 => some (.iload_n 1, 1, [])
  | 14 => some (.iaload, 1, [])
  | 15 => some (.goto 4, 3, [19])
  | 18 => some (.iconst 0, 1, [0])
  | 19 => some (.ireturn, 1, [0])
  | _ => none
def dec71 (pc : Nat) : Option (ClassFile.Instr × Nat × List Nat) := match pc with
  | 0 => some (.iload_n 1, 1, [])
  | 1 => some (.ifCond .lt 9, 3, [10])
  | 4 => some (.iload_n 1, 1, [])
  | 5 => some (.bipush 18, 2, [18])
  | 7 => some (.if_icmp .lt 5, 3, [12])
  | 10 => some (.iconst 0, 1, [0])
  | 11 => some (.ireturn, 1, [0])
  | 12 => some (.aload_n 0, 1, [])
  | 13 => some (.getfield 21, 3, [1, 6, 1, 2, 0, 141])
  | 16 => some (.aload_n 0, 1, [])
  | 17 => some (.getfield 12, 3, [1, 6, 0, 2, 0, 136])
  | 20 => some (.getfield 42, 3, [1, 7, 3, 2, 1, 52])
  | 23 => some (.iload_n 1, 1, [])
  | 24 => some (.iaload, 1, [])
  | 25 => some (.aload_n 0, 1, [])
  | 26 => some (.getfield 12, 3, [1, 6, 0, 2, 0, 136])
  | 29 => some (.getfield 46, 3, [1, 7, 4, 2, 1, 55])
  | 32 => some (.iload_n 1, 1, [])
  | 33 => some (.iaload, 1, [])
  | 34 => some (.invokevirtual 49, 3, [2, 72, 2, 3, 0, 577, 0, 0])
  | 37 => some (.ireturn, 1, [0])
  | _ => none
def dec72 (pc : Nat) : Option (ClassFile.Instr × Nat × List Nat) := match pc with
  | 0 => some (.iload_n 2, 1, [])
  | 1 => some (.iconst 1, 1, [1])
  | 2 => some (.if_icmp .lt 8, 3, [10])
  | 5 => some (.iload_n 2, 1, [])
  | 6 => some (.iconst 3, 1, [3])
  | 7 => some (.if_icmp .le 5, 3, [12])
  | 10 => some (.iload_n 1, 1, [])
  | 11 => some (.ireturn, 1, [0])
  | 12 => some (.iload_n 1, 1, [])
  | 13 => some (.bipush 100, 2, [100])
  | 15 => some (.aload_n 0, 1, [])
  | 16 => some (.getfield 26, 3, [1, 3, 2, 0, 0, 94])
  | 19 => some (.aload_n 0, 1, [])
  | 20 => some (.getfield 9, 3, [1, 3, 0, 2, 0, 90])
  | 23 => some (.iload_n 2, 1, [])
  | 24 => some (.iaload, 1, [])
  | 25 => some (.imul, 1, [])
  | 26 => some (.iadd, 1, [])
  | 27 => some (.imul, 1, [])
  | 28 => some (.bipush 100, 2, [100])
  | 30 => some (.idiv, 1, [])
  | 31 => some (.ireturn, 1, [0])
  | _ => none
def dec73_0 (pc : Nat) : Option (ClassFile.Instr × Nat × List Nat) := match pc with
  | 0 => some (.iload_n 1, 1, [])
  | 1 => some (.iload_n 2, 1, [])
  | 2 => some (.invokestatic 124, 3, [2, 27, 0, 9, 0, 599, 0, 0])
  | 5 => some (.istore 4, 2, [])
  | 7 => some (.iload_n 3, 1, [])
  | 8 => some (.tableswitch 150 0 6 #[44, 60, 76, 92, 108, 124, 140], 44, [])
  | 52 => some (.aload_n 0, 1, [])
  | 53 => some (.getfield 12, 3, [1, 9, 0, 2, 0, 267])
  | 56 => some (.getfield 75, 3, [1, 6, 0, 2, 1, 138])
  | 59 => some (.getfield 302, 3, [1, 7, 2, 2, 1, 50])
  | 62 => some (.iload 4, 2, [])
  | 64 => some (.invokestatic 161, 3, [2, 26, 0, 9, 0, 530, 0, 2])
  | 67 => some (.ireturn, 1, [0])
  | 68 => some (.aload_n 0, 1, [])
  | 69 => some (.getfield 12, 3, [1, 9, 0, 2, 0, 267])
  | 72 => some (.getfield 75, 3, [1, 6, 0, 2, 1, 138])
  | 75 => some (.getfield 121, 3, [1, 7, 3, 2, 1, 53])
  | 78 => some (.iload 4, 2, [])
  | 80 => some (.invokestatic 161, 3, [2, 26, 0, 9, 0, 530, 0, 2])
  | 83 => some (.ireturn, 1, [0])
  | 84 => some (.aload_n 0, 1, [])
  | 85 => some (.getfield 12, 3, [1, 9, 0, 2, 0, 267])
  | 88 => some (.getfield 75, 3, [1, 6, 0, 2, 1, 138])
  | 91 => some (.getfield 305, 3, [1, 7, 4, 2, 1, 59])
  | 94 => some (.iload 4, 2, [])
  | 96 => some (.invokestatic 161, 3, [2, 26, 0, 9, 0, 530, 0, 2])
  | 99 => some (.ireturn, 1, [0])
  | 100 => some (.aload_n 0, 1, [])
  | 101 => some (.getfield 12, 3, [1, 9, 0, 2, 0, 267])
  | 104 => some (.getfield 75, 3, [1, 6, 0, 2, 1, 138])
  | 107 => some (.getfield 308, 3, [1, 7, 5, 2, 1, 61])
  | 110 => some (.iload 4, 2, [])
  | 112 => some (.invokestatic 161, 3, [2, 26, 0, 9, 0, 530, 0, 2])
  | 115 => some (.ireturn, 1, [0])
  | 116 => some (.aload_n 0, 1, [])
  | 117 => some (.getfield 12, 3, [1, 9, 0, 2, 0, 267])
  | 120 => some (.getfield 75, 3, [1, 6, 0, 2, 1, 138])
  | 123 => some (.getfield 311, 3, [1, 7, 6, 2, 1, 63])
  | 126 => some (.iload 4, 2, [])
  | 128 => some (.invokestatic 161, 3, [2, 26, 0, 9, 0, 530, 0, 2])
  | 131 => some (.ireturn, 1, [0])
  | 132 => some (.aload_n 0, 1, [])
  | 133 => some (.getfield 12, 3, [1, 9, 0, 2, 0, 267])
  | 136 => some (.getfield 75, 3, [1, 6, 0, 2, 1, 138])
  | 139 => some (.getfield 314, 3, [1, 7, 7, 2, 1, 65])
  | 142 => some (.iload 4, 2, [])
  | 144 => some (.invokestatic 161, 3, [2, 26, 0, 9, 0, 530, 0, 2])
  | 147 => some (.ireturn, 1, [0])
  | _ => none
def dec73_1 (pc : Nat) : Option (ClassFile.Instr × Nat × List Nat) := match pc with
  | 148 => some (.aload_n 0, 1, [])
  | 149 => some (.getfield 12, 3, [1, 9, 0, 2, 0, 267])
  | 152 => some (.iload 4, 2, [])
  | 154 => some (.invokevirtual 317, 3, [2, 71, 2, 6, 0, 600, 0])
  | 157 => some (.ireturn, 1, [0])
  | 158 => some (.aload_n 0, 1, [])
  | 159 => some (.iload_n 1, 1, [])
  | 160 => some (.invokevirtual 189, 3, [2, 63, 2, 9, 0, 532, 0])
  | 163 => some (.aload_n 0, 1, [])
  | 164 => some (.getfield 50, 3, [1, 9, 6, 2, 0, 273])
  | 167 => some (.iload 4, 2, [])
  | 169 => some (.invokevirtual 192, 3, [2, 74, 2, 1, 0, 601, 0])
  | 172 => some (.ifCond .le 7, 3, [179])
  | 175 => some (.iconst 1, 1, [1])
  | 176 => some (.goto 4, 3, [180])
  | 179 => some (.iconst 0, 1, [0])
  | 180 => some (.ireturn, 1, [0])
  | _ => none
def dec73 (pc : Nat) : Option (ClassFile.Instr × Nat × List Nat) := if pc < 148 then dec73_0 pc else if pc < 181 then dec73_1 pc else none
def dec74 (pc : Nat) : Option (ClassFile.Instr × Nat × List Nat) := match pc with
  | 0 => some (.aload_n 0, 1, [])
  | 1 => some (.getfield 9, 3, [1, 1, 0, 2, 0, 208])
  | 4 => some (.iload_n 1, 1, [])
  | 5 => some (.invokestatic 82, 3, [2, 26, 0, 9, 1, 605, 0, 2])
  | 8 => some (.ireturn, 1, [0])
  | _ => none
def dec75 (pc : Nat) : Option (ClassFile.Instr × Nat × List Nat) := match pc with
  | 0 => some (.aload_n 0, 1, [])
  | 1 => some (.getfield 32, 3, [1, 0, 6, 0, 0, 250])
  | 4 => some (.iload_n 2, 1, [])
  | 5 => some (.if_icmp .ne 4, 3, [9])
  | 8 => some (.return_, 1, [])
  | 9 => some (.aload_n 0, 1, [])
  | 10 => some (.iload_n 2, 1, [])
  | 11 => some (.putfield 32, 3, [1, 0, 6, 0, 0, 250])
  | 14 => some (.aload_n 0, 1, [])
  | 15 => some (.lconst 0, 1, [0])
  | 16 => some (.putfield 36, 3, [1, 0, 5, 1, 0, 248])
  | 19 => some (.aload_n 0, 1, [])
  | 20 => some (.getfield 25, 3, [1, 0, 3, 2, 0, 246])
  | 23 => some (.lconst 0, 1, [0])
  | 24 => some (.invokestatic 40, 3, [2, 76, 0, 13, 0, 823, 1, 2])
  | 27 => some (.aload_n 0, 1, [])
  | 28 => some (.getfield 29, 3, [1, 0, 4, 2, 0, 247])
  | 31 => some (.lconst 0, 1, [0])
  | 32 => some (.invokestatic 40, 3, [2, 76, 0, 13, 0, 823, 1, 2])
  | 35 => some (.aload_n 0, 1, [])
  | 36 => some (.aload_n 1, 1, [])
  | 37 => some (.iconst 0, 1, [0])
  | 38 => some (.aload_n 1, 1, [])
  | 39 => some (.getfield 46, 3, [1, 6, 0, 2, 1, 140])
  | 42 => some (.invokevirtual 52, 3, [2, 24, 2, 7, 0, 826])
  | 45 => some (.iconst (-1), 1, [4294967295])
  | 46 => some (.ldc2_w 58, 3, [9, 1000000000, 827])
  | 49 => some (.invokevirtual 60, 3, [2, 77, 2, 0, 0, 828, 1, 0, 0, 0, 2])
  | 52 => some (.return_, 1, [])
  | _ => none
def dec76 (pc : Nat) : Option (ClassFile.Instr × Nat × List Nat) := match pc with
  | 0 => some (.iconst 0, 1, [0])
  | 1 => some (.istore_n 3, 1, [])
  | 2 => some (.aload_n 0, 1, [])
  | 3 => some (.arraylength, 1, [])
  | 4 => some (.istore 4, 2, [])
  | 6 => some (.iload_n 3, 1, [])
  | 7 => some (.iload 4, 2, [])
  | 9 => some (.if_icmp .ge 13, 3, [22])
  | 12 => some (.aload_n 0, 1, [])
  | 13 => some (.iload_n 3, 1, [])
  | 14 => some (.lload_n 1, 1, [])
  | 15 => some (.lastore, 1, [])
  | 16 => some (.iinc 3 1, 3, [1])
  | 19 => some (.goto (-13), 3, [6])
  | 22 => some (.return_, 1, [])
  | _ => none
def dec77_0 (pc : Nat) : Option (ClassFile.Instr × Nat × List Nat) := match pc with
  | 0 => some (.iload_n 2, 1, [])
  | 1 => some (.aload_n 1, 1, [])
  | 2 => some (.getfield 46, 3, [1, 6, 0, 2, 1, 140])
  | 5 => some (.getfield 68, 3, [1, 7, 0, 2, 1, 44])
  | 8 => some (.aload_n 0, 1, [])
  | 9 => some (.getfield 32, 3, [1, 0, 6, 0, 0, 250])
  | 12 => some (.invokestatic 71, 3, [2, 26, 0, 9, 1, 832, 0, 2])
  | 15 => some (.if_icmp .ge 8, 3, [23])
  | 18 => some (.iload_n 2, 1, [])
  | 19 => some (.iconst 2, 1, [2])
  | 20 => some (.if_icmp .lt 13, 3, [33])
  | 23 => some (.aload_n 0, 1, [])
  | 24 => some (.iload_n 2, 1, [])
  | 25 => some (.iload 4, 2, [])
  | 27 => some (.lload 5, 2, [])
  | 29 => some (.invokevirtual 74, 3, [2, 78, 2, 0, 0, 833, 1, 0, 0])
  | 32 => some (.return_, 1, [])
  | 33 => some (.iload_n 2, 1, [])
  | 34 => some (.ifCond .ne 10, 3, [44])
  | 37 => some (.aload_n 0, 1, [])
  | 38 => some (.getfield 12, 3, [1, 0, 0, 2, 0, 243])
  | 41 => some (.goto 7, 3, [48])
  | 44 => some (.aload_n 0, 1, [])
  | 45 => some (.getfield 18, 3, [1, 0, 1, 2, 0, 244])
  | 48 => some (.astore 7, 2, [])
  | 50 => some (.aload 7, 2, [])
  | 52 => some (.aload_n 1, 1, [])
  | 53 => some (.aload_n 0, 1, [])
  | 54 => some (.getfield 32, 3, [1, 0, 6, 0, 0, 250])
  | 57 => some (.iload_n 3, 1, [])
  | 58 => some (.iload 4, 2, [])
  | 60 => some (.invokevirtual 78, 3, [2, 64, 2, 1, 0, 837, 0, 0, 0, 2])
  | 63 => some (.aload 7, 2, [])
  | 65 => some (.aload_n 0, 1, [])
  | 66 => some (.getfield 32, 3, [1, 0, 6, 0, 0, 250])
  | 69 => some (.invokevirtual 82, 3, [2, 70, 2, 1, 0, 838, 0])
  | 72 => some (.ifCond .le 21, 3, [93])
  | 75 => some (.aload_n 0, 1, [])
  | 76 => some (.aload_n 1, 1, [])
  | 77 => some (.aload_n 0, 1, [])
  | 78 => some (.getfield 32, 3, [1, 0, 6, 0, 0, 250])
  | 81 => some (.iload_n 2, 1, [])
  | 82 => some (.iload_n 3, 1, [])
  | 83 => some (.iload 4, 2, [])
  | 85 => some (.lload 5, 2, [])
  | 87 => some (.invokevirtual 86, 3, [2, 79, 2, 0, 0, 839, 1, 0, 0, 0, 0, 2])
  | 90 => some (.goto 25, 3, [115])
  | 93 => some (.aload_n 0, 1, [])
  | _ => none
def dec77_1 (pc : Nat) : Option (ClassFile.Instr × Nat × List Nat) := match pc with
  | 94 => some (.getfield 21, 3, [1, 0, 2, 2, 0, 245])
  | 97 => some (.iload_n 2, 1, [])
  | 98 => some (.iconst (-1), 1, [4294967295])
  | 99 => some (.invokestatic 90, 3, [2, 44, 0, 9, 1, 848, 0, 0, 2])
  | 102 => some (.aload_n 0, 1, [])
  | 103 => some (.aload_n 1, 1, [])
  | 104 => some (.iload_n 2, 1, [])
  | 105 => some (.iconst 1, 1, [1])
  | 106 => some (.iadd, 1, [])
  | 107 => some (.iload_n 3, 1, [])
  | 108 => some (.iload 4, 2, [])
  | 110 => some (.lload 5, 2, [])
  | 112 => some (.invokevirtual 60, 3, [2, 77, 2, 0, 0, 828, 1, 0, 0, 0, 2])
  | 115 => some (.return_, 1, [])
  | _ => none
def dec77 (pc : Nat) : Option (ClassFile.Instr × Nat × List Nat) := if pc < 94 then dec77_0 pc else if pc < 116 then dec77_1 pc else none
def dec78_0 (pc : Nat) : Option (ClassFile.Instr × Nat × List Nat) := match pc with
  | 0 => some (.iconst 0, 1, [0])
  | 1 => some (.istore 5, 2, [])
  | 3 => some (.iload 5, 2, [])
  | 5 => some (.iload_n 1, 1, [])
  | 6 => some (.if_icmp .ge 79, 3, [85])
  | 9 => some (.iload 5, 2, [])
  | 11 => some (.iconst 2, 1, [2])
  | 12 => some (.if_icmp .ge 73, 3, [85])
  | 15 => some (.aload_n 0, 1, [])
  | 16 => some (.getfield 21, 3, [1, 0, 2, 2, 0, 245])
  | 19 => some (.iload 5, 2, [])
  | 21 => some (.iaload, 1, [])
  | 22 => some (.istore 6, 2, [])
  | 24 => some (.iload 6, 2, [])
  | 26 => some (.ifCond .lt 53, 3, [79])
  | 29 => some (.iload 6, 2, [])
  | 31 => some (.bipush 16, 2, [16])
  | 33 => some (.if_icmp .lt 6, 3, [39])
  | 36 => some (.goto 43, 3, [79])
  | 39 => some (.aload_n 0, 1, [])
  | 40 => some (.dup, 1, [])
  | 41 => some (.getfield 36, 3, [1, 0, 5, 1, 0, 248])
  | 44 => some (.lload_n 3, 1, [])
  | 45 => some (.ladd, 1, [])
  | 46 => some (.putfield 36, 3, [1, 0, 5, 1, 0, 248])
  | 49 => some (.iload 5, 2, [])
  | 51 => some (.ifCond .eq 17, 3, [68])
  | 54 => some (.aload_n 0, 1, [])
  | 55 => some (.getfield 21, 3, [1, 0, 2, 2, 0, 245])
  | 58 => some (.iload 5, 2, [])
  | 60 => some (.iconst 1, 1, [1])
  | 61 => some (.isub, 1, [])
  | 62 => some (.iaload, 1, [])
  | 63 => some (.iload 6, 2, [])
  | 65 => some (.if_icmp .eq 14, 3, [79])
  | 68 => some (.aload_n 0, 1, [])
  | 69 => some (.getfield 25, 3, [1, 0, 3, 2, 0, 246])
  | 72 => some (.iload 6, 2, [])
  | 74 => some (.dup2, 1, [])
  | 75 => some (.laload, 1, [])
  | 76 => some (.lload_n 3, 1, [])
  | 77 => some (.ladd, 1, [])
  | 78 => some (.lastore, 1, [])
  | 79 => some (.iinc 5 1, 3, [1])
  | 82 => some (.goto (-79), 3, [3])
  | 85 => some (.iload_n 2, 1, [])
  | 86 => some (.ifCond .lt 18, 3, [104])
  | 89 => some (.iload_n 2, 1, [])
  | _ => none
def dec78_1 (pc : Nat) : Option (ClassFile.Instr × Nat × List Nat) := match pc with
  | 90 => some (.iconst 3, 1, [3])
  | 91 => some (.if_icmp .gt 13, 3, [104])
  | 94 => some (.aload_n 0, 1, [])
  | 95 => some (.getfield 29, 3, [1, 0, 4, 2, 0, 247])
  | 98 => some (.iload_n 2, 1, [])
  | 99 => some (.dup2, 1, [])
  | 100 => some (.laload, 1, [])
  | 101 => some (.lload_n 3, 1, [])
  | 102 => some (.ladd, 1, [])
  | 103 => some (.lastore, 1, [])
  | 104 => some (.return_, 1, [])
  | _ => none
def dec78 (pc : Nat) : Option (ClassFile.Instr × Nat × List Nat) := if pc < 90 then dec78_0 pc else if pc < 105 then dec78_1 pc else none
def dec79_0 (pc : Nat) : Option (ClassFile.Instr × Nat × List Nat) := match pc with
  | 0 => some (.aload_n 1, 1, [])
  | 1 => some (.getfield 46, 3, [1, 6, 0, 2, 1, 140])
  | 4 => some (.astore 8, 2, [])
  | 6 => some (.iload_n 3, 1, [])
  | 7 => some (.ifCond .ne 10, 3, [17])
  | 10 => some (.aload_n 0, 1, [])
  | 11 => some (.getfield 12, 3, [1, 0, 0, 2, 0, 243])
  | 14 => some (.goto 7, 3, [21])
  | 17 => some (.aload_n 0, 1, [])
  | 18 => some (.getfield 18, 3, [1, 0, 1, 2, 0, 244])
  | 21 => some (.astore 9, 2, [])
  | 23 => some (.aload 9, 2, [])
  | 25 => some (.iload_n 2, 1, [])
  | 26 => some (.invokevirtual 82, 3, [2, 70, 2, 1, 0, 838, 0])
  | 29 => some (.i2l, 1, [])
  | 30 => some (.lstore 10, 2, [])
  | 32 => some (.iload_n 2, 1, [])
  | 33 => some (.ifCond .lt 10, 3, [43])
  | 36 => some (.lload 10, 2, [])
  | 38 => some (.lconst 0, 1, [0])
  | 39 => some (.lcmp, 1, [])
  | 40 => some (.ifCond .gt 4, 3, [44])
  | 43 => some (.return_, 1, [])
  | 44 => some (.iload_n 2, 1, [])
  | 45 => some (.iconst 0, 1, [0])
  | 46 => some (.invokestatic 94, 3, [2, 27, 0, 9, 1, 843, 0, 0])
  | 49 => some (.istore 12, 2, [])
  | 51 => some (.bipush 18, 2, [18])
  | 53 => some (.iload 12, 2, [])
  | 55 => some (.aload 8, 2, [])
  | 57 => some (.iload_n 2, 1, [])
  | 58 => some (.invokevirtual 98, 3, [2, 25, 2, 7, 0, 844, 0])
  | 61 => some (.iadd, 1, [])
  | 62 => some (.invokestatic 101, 3, [10, 845])
  | 65 => some (.istore 13, 2, [])
  | 67 => some (.iload 12, 2, [])
  | 69 => some (.istore 14, 2, [])
  | 71 => some (.iload 14, 2, [])
  | 73 => some (.iload 13, 2, [])
  | 75 => some (.if_icmp .ge 133, 3, [208])
  | 78 => some (.aload 9, 2, [])
  | 80 => some (.getfield 106, 3, [1, 1, 0, 2, 1, 209])
  | 83 => some (.iload 14, 2, [])
  | 85 => some (.iaload, 1, [])
  | 86 => some (.istore 15, 2, [])
  | 88 => some (.iload 15, 2, [])
  | 90 => some (.ifCond .gt 6, 3, [96])
  | 93 => some (.goto 109, 3, [202])
  | _ => none
def dec79_1 (pc : Nat) : Option (ClassFile.Instr × Nat × List Nat) := match pc with
  | 96 => some (.lload 6, 2, [])
  | 98 => some (.iload 15, 2, [])
  | 100 => some (.i2l, 1, [])
  | 101 => some (.lmul, 1, [])
  | 102 => some (.lload 10, 2, [])
  | 104 => some (.ldiv, 1, [])
  | 105 => some (.lstore 16, 2, [])
  | 107 => some (.iload 4, 2, [])
  | 109 => some (.aload 8, 2, [])
  | 111 => some (.iload_n 2, 1, [])
  | 112 => some (.iload 14, 2, [])
  | 114 => some (.invokevirtual 109, 3, [2, 80, 2, 7, 0, 846, 0, 0])
  | 117 => some (.ior, 1, [])
  | 118 => some (.istore 18, 2, [])
  | 120 => some (.aload 8, 2, [])
  | 122 => some (.getfield 112, 3, [1, 7, 2, 2, 1, 49])
  | 125 => some (.iload 14, 2, [])
  | 127 => some (.iaload, 1, [])
  | 128 => some (.istore 19, 2, [])
  | 130 => some (.iload 19, 2, [])
  | 132 => some (.invokestatic 115, 3, [2, 51, 0, 9, 1, 847, 0])
  | 135 => some (.ifCond .ne 41, 3, [176])
  | 138 => some (.aload_n 0, 1, [])
  | 139 => some (.getfield 21, 3, [1, 0, 2, 2, 0, 245])
  | 142 => some (.iload_n 3, 1, [])
  | 143 => some (.iload 19, 2, [])
  | 145 => some (.invokestatic 90, 3, [2, 44, 0, 9, 1, 848, 0, 0, 2])
  | 148 => some (.aload_n 0, 1, [])
  | 149 => some (.aload_n 1, 1, [])
  | 150 => some (.iload_n 3, 1, [])
  | 151 => some (.iconst 1, 1, [1])
  | 152 => some (.iadd, 1, [])
  | 153 => some (.iload 18, 2, [])
  | 155 => some (.iload 5, 2, [])
  | 157 => some (.aload 8, 2, [])
  | 159 => some (.getfield 119, 3, [1, 7, 4, 2, 1, 58])
  | 162 => some (.iload 14, 2, [])
  | 164 => some (.iaload, 1, [])
  | 165 => some (.invokestatic 122, 3, [11, 849])
  | 168 => some (.lload 16, 2, [])
  | 170 => some (.invokevirtual 60, 3, [2, 77, 2, 0, 0, 828, 1, 0, 0, 0, 2])
  | 173 => some (.goto 29, 3, [202])
  | 176 => some (.iload 19, 2, [])
  | 178 => some (.invokestatic 125, 3, [2, 52, 0, 9, 1, 850, 0])
  | 181 => some (.iload_n 2, 1, [])
  | 182 => some (.if_icmp .le 20, 3, [202])
  | 185 => some (.aload_n 0, 1, [])
  | 186 => some (.aload_n 1, 1, [])
  | _ => none
def dec79_2 (pc : Nat) : Option (ClassFile.Instr × Nat × List Nat) := match pc with
  | 187 => some (.iload 19, 2, [])
  | 189 => some (.invokestatic 125, 3, [2, 52, 0, 9, 1, 850, 0])
  | 192 => some (.iload_n 3, 1, [])
  | 193 => some (.iload 18, 2, [])
  | 195 => some (.iload 5, 2, [])
  | 197 => some (.lload 16, 2, [])
  | 199 => some (.invokevirtual 86, 3, [2, 79, 2, 0, 0, 839, 1, 0, 0, 0, 0, 2])
  | 202 => some (.iinc 14 1, 3, [1])
  | 205 => some (.goto (-134), 3, [71])
  | 208 => some (.return_, 1, [])
  | _ => none
def dec79 (pc : Nat) : Option (ClassFile.Instr × Nat × List Nat) := if pc < 94 then dec79_0 pc else if pc < 187 then dec79_1 pc else if pc < 209 then dec79_2 pc else none
def dec80 (pc : Nat) : Option (ClassFile.Instr × Nat × List Nat) := match pc with
  | 0 => some (.iload_n 2, 1, [])
  | 1 => some (.ifCond .lt 9, 3, [10])
  | 4 => some (.iload_n 2, 1, [])
  | 5 => some (.bipush 18, 2, [18])
  | 7 => some (.if_icmp .lt 5, 3, [12])
  | 10 => some (.iconst 0, 1, [0])
  | 11 => some (.ireturn, 1, [0])
  | 12 => some (.aload_n 0, 1, [])
  | 13 => some (.getfield 30, 3, [1, 7, 6, 2, 0, 62])
  | 16 => some (.iload_n 2, 1, [])
  | 17 => some (.iaload, 1, [])
  | 18 => some (.ifCond .eq 10, 3, [28])
  | 21 => some (.iload_n 2, 1, [])
  | 22 => some (.invokestatic 75, 3, [2, 28, 0, 9, 1, 484, 0])
  | 25 => some (.goto 4, 3, [29])
  | 28 => some (.iconst 0, 1, [0])
  | 29 => some (.istore_n 3, 1, [])
  | 30 => some (.iload_n 3, 1, [])
  | 31 => some (.iload_n 1, 1, [])
  | 32 => some (.aload_n 0, 1, [])
  | 33 => some (.getfield 27, 3, [1, 7, 5, 2, 0, 60])
  | 36 => some (.iload_n 2, 1, [])
  | 37 => some (.iaload, 1, [])
  | 38 => some (.invokestatic 81, 3, [2, 68, 0, 9, 1, 556, 0, 0])
  | 41 => some (.ior, 1, [])
  | 42 => some (.ireturn, 1, [0])
  | _ => none
def dec81 (pc : Nat) : Option (ClassFile.Instr × Nat × List Nat) := match pc with
  | 0 => some (.iload_n 0, 1, [])
  | 1 => some (.iload_n 1, 1, [])
  | 2 => some (.if_icmp .lt 7, 3, [9])
  | 5 => some (.iload_n 0, 1, [])
  | 6 => some (.goto 4, 3, [10])
  | 9 => some (.iload_n 1, 1, [])
  | 10 => some (.ireturn, 1, [0])
  | _ => none
def dec82 (pc : Nat) : Option (ClassFile.Instr × Nat × List Nat) := match pc with
  | 0 => some (.lconst 0, 1, [0])
  | 1 => some (.lstore_n 2, 1, [])
  | 2 => some (.iload_n 1, 1, [])
  | 3 => some (.istore 4, 2, [])
  | 5 => some (.iload 4, 2, [])
  | 7 => some (.iconst 3, 1, [3])
  | 8 => some (.if_icmp .gt 21, 3, [29])
  | 11 => some (.lload_n 2, 1, [])
  | 12 => some (.aload_n 0, 1, [])
  | 13 => some (.getfield 29, 3, [1, 0, 4, 2, 0, 247])
  | 16 => some (.iload 4, 2, [])
  | 18 => some (.invokestatic 64, 3, [2, 83, 0, 9, 1, 855, 0, 2])
  | 21 => some (.ladd, 1, [])
  | 22 => some (.lstore_n 2, 1, [])
  | 23 => some (.iinc 4 1, 3, [1])
  | 26 => some (.goto (-21), 3, [5])
  | 29 => some (.lload_n 2, 1, [])
  | 30 => some (.lreturn, 1, [])
  | _ => none
def dec83 (pc : Nat) : Option (ClassFile.Instr × Nat × List Nat) := match pc with
  | 0 => some (.iload_n 1, 1, [])
  | 1 => some (.ifCond .lt 15, 3, [16])
  | 4 => some (.iload_n 1, 1, [])
  | 5 => some (.aload_n 0, 1, [])
  | 6 => some (.arraylength, 1, [])
  | 7 => some (.if_icmp .ge 9, 3, [16])
  | 10 => some (.aload_n 0, 1, [])
  | 11 => some (.iload_n 1, 1, [])
  | 12 => some (.laload, 1, [])
  | 13 => some (.goto 4, 3, [17])
  | 16 => some (.lconst 0, 1, [0])
  | 17 => some (.lreturn, 1, [])
  | _ => none
def dec84 (pc : Nat) : Option (ClassFile.Instr × Nat × List Nat) := match pc with
  | 0 => some (.aload_n 0, 1, [])
  | 1 => some (.iload_n 1, 1, [])
  | 2 => some (.iload_n 2, 1, [])
  | 3 => some (.invokevirtual 9, 3, [2, 85, 2, 9, 0, 637, 0, 0])
  | 6 => some (.istore_n 3, 1, [])
  | 7 => some (.goto 13, 3, [20])
  | 10 => some (.astore 4, 2, [])
  | 12 => some (.ldc 17, 2, [8, 4289967293, 582])
  | 14 => some (.ireturn, 1, [0])
  | 15 => some (.astore 4, 2, [])
  | 17 => some (.ldc 20, 2, [8, 4289967295, 498])
  | 19 => some (.ireturn, 1, [0])
  | 20 => some (.iload_n 3, 1, [])
  | 21 => some (.ireturn, 1, [0])
  | _ => none
def dec85 (pc : Nat) : Option (ClassFile.Instr × Nat × List Nat) := match pc with
  | 0 => some (.iload_n 1, 1, [])
  | 1 => some (.invokestatic 64, 3, [2, 86, 0, 9, 0, 507, 0])
  | 4 => some (.iload_n 2, 1, [])
  | 5 => some (.iconst 1, 1, [1])
  | 6 => some (.iconst 2, 1, [2])
  | 7 => some (.invokestatic 68, 3, [2, 87, 0, 9, 0, 434, 0, 0, 0])
  | 10 => some (.aload_n 0, 1, [])
  | 11 => some (.invokevirtual 72, 3, [2, 11, 2, 9, 0, 641])
  | 14 => some (.aload_n 0, 1, [])
  | 15 => some (.getfield 12, 3, [1, 9, 0, 2, 0, 267])
  | 18 => some (.getfield 75, 3, [1, 6, 0, 2, 1, 138])
  | 21 => some (.getfield 78, 3, [1, 7, 0, 2, 1, 42])
  | 24 => some (.iload_n 1, 1, [])
  | 25 => some (.iload_n 2, 1, [])
  | 26 => some (.invokestatic 82, 3, [2, 88, 0, 9, 0, 649, 0, 0, 2])
  | 29 => some (.ireturn, 1, [0])
  | _ => none
def dec86 (pc : Nat) : Option (ClassFile.Instr × Nat × List Nat) := match pc with
  | 0 => some (.iload_n 0, 1, [])
  | 1 => some (.ifCond .lt 8, 3, [9])
  | 4 => some (.iload_n 0, 1, [])
  | 5 => some (.iconst 3, 1, [3])
  | 6 => some (.if_icmp .lt 14, 3, [20])
  | 9 => some (.new 279, 3, [6, 0, 510])
  | 12 => some (.dup, 1, [])
  | 13 => some (.ldc_w 281, 3, [])
  | 16 => some (.invokespecial 283, 3, [])
  | 19 => some (.athrow, 1, [])
  | 20 => some (.return_, 1, [])
  | _ => none
def dec87 (pc : Nat) : Option (ClassFile.Instr × Nat × List Nat) := match pc with
  | 0 => some (.iload_n 0, 1, [])
  | 1 => some (.iload_n 1, 1, [])
  | 2 => some (.if_icmp .lt 8, 3, [10])
  | 5 => some (.iload_n 0, 1, [])
  | 6 => some (.iload_n 2, 1, [])
  | 7 => some (.if_icmp .le 14, 3, [21])
  | 10 => some (.new 90, 3, [6, 1, 437])
  | 13 => some (.dup, 1, [])
  | 14 => some (.ldc_w 290, 3, [])
  | 17 => some (.invokespecial 94, 3, [])
  | 20 => some (.athrow, 1, [])
  | 21 => some (.return_, 1, [])
  | _ => none
def dec88 (pc : Nat) : Option (ClassFile.Instr × Nat × List Nat) := match pc with
  | 0 => some (.aload_n 0, 1, [])
  | 1 => some (.iload_n 1, 1, [])
  | 2 => some (.invokestatic 161, 3, [2, 26, 0, 9, 0, 530, 0, 2])
  | 5 => some (.istore_n 3, 1, [])
  | 6 => some (.aload_n 0, 1, [])
  | 7 => some (.iload_n 1, 1, [])
  | 8 => some (.iload_n 2, 1, [])
  | 9 => some (.invokestatic 233, 3, [2, 44, 0, 9, 0, 652, 0, 0, 2])
  | 12 => some (.iload_n 3, 1, [])
  | 13 => some (.ireturn, 1, [0])
  | _ => none
def dec89 (pc : Nat) : Option (ClassFile.Instr × Nat × List Nat) := match pc with
  | 0 => some (.aload_n 0, 1, [])
  | 1 => some (.iload_n 1, 1, [])
  | 2 => some (.iload_n 2, 1, [])
  | 3 => some (.iload_n 3, 1, [])
  | 4 => some (.iload 4, 2, [])
  | 6 => some (.iload 5, 2, [])
  | 8 => some (.iload 6, 2, [])
  | 10 => some (.invokevirtual 21, 3, [2, 90, 2, 9, 0, 658, 0, 0, 0, 0, 0, 0])
  | 13 => some (.istore 7, 2, [])
  | 15 => some (.goto 18, 3, [33])
  | 18 => some (.astore 8, 2, [])
  | 20 => some (.ldc 17, 2, [8, 4289967293, 582])
  | 22 => some (.ireturn, 1, [0])
  | 23 => some (.astore 8, 2, [])
  | 25 => some (.ldc 20, 2, [8, 4289967295, 498])
  | 27 => some (.ireturn, 1, [0])
  | 28 => some (.astore 8, 2, [])
  | 30 => some (.ldc 27, 2, [8, 4289967294, 420])
  | 32 => some (.ireturn, 1, [0])
  | 33 => some (.iload 7, 2, [])
  | 35 => some (.ireturn, 1, [0])
  | _ => none
def dec90_0 (pc : Nat) : Option (ClassFile.Instr × Nat × List Nat) := match pc with
  | 0 => some (.iload_n 1, 1, [])
  | 1 => some (.invokestatic 64, 3, [2, 86, 0, 9, 0, 507, 0])
  | 4 => some (.iload_n 2, 1, [])
  | 5 => some (.iconst 0, 1, [0])
  | 6 => some (.bipush 18, 2, [18])
  | 8 => some (.invokestatic 68, 3, [2, 87, 0, 9, 0, 434, 0, 0, 0])
  | 11 => some (.iload_n 1, 1, [])
  | 12 => some (.iload_n 2, 1, [])
  | 13 => some (.invokestatic 86, 3, [2, 50, 0, 9, 0, 662, 0, 0])
  | 16 => some (.ifCond .eq 13, 3, [29])
  | 19 => some (.new 90, 3, [6, 1, 437])
  | 22 => some (.dup, 1, [])
  | 23 => some (.ldc 92, 2, [])
  | 25 => some (.invokespecial 94, 3, [])
  | 28 => some (.athrow, 1, [])
  | 29 => some (.iload_n 3, 1, [])
  | 30 => some (.iconst 1, 1, [1])
  | 31 => some (.sipush 1000, 3, [1000])
  | 34 => some (.invokestatic 68, 3, [2, 87, 0, 9, 0, 434, 0, 0, 0])
  | 37 => some (.iload 4, 2, [])
  | 39 => some (.iconst 0, 1, [0])
  | 40 => some (.iload_n 2, 1, [])
  | 41 => some (.invokestatic 97, 3, [2, 53, 0, 9, 0, 668, 0])
  | 44 => some (.invokestatic 68, 3, [2, 87, 0, 9, 0, 434, 0, 0, 0])
  | 47 => some (.iload 5, 2, [])
  | 49 => some (.iconst 0, 1, [0])
  | 50 => some (.iconst 3, 1, [3])
  | 51 => some (.invokestatic 68, 3, [2, 87, 0, 9, 0, 434, 0, 0, 0])
  | 54 => some (.aload_n 0, 1, [])
  | 55 => some (.getfield 12, 3, [1, 9, 0, 2, 0, 267])
  | 58 => some (.getfield 75, 3, [1, 6, 0, 2, 1, 138])
  | 61 => some (.iload_n 1, 1, [])
  | 62 => some (.invokevirtual 101, 3, [2, 25, 2, 7, 0, 531, 0])
  | 65 => some (.bipush 6, 2, [6])
  | 67 => some (.if_icmp .lt 13, 3, [80])
  | 70 => some (.new 104, 3, [6, 2, 311])
  | 73 => some (.dup, 1, [])
  | 74 => some (.ldc 106, 2, [])
  | 76 => some (.invokespecial 108, 3, [])
  | 79 => some (.athrow, 1, [])
  | 80 => some (.aload_n 0, 1, [])
  | 81 => some (.invokevirtual 72, 3, [2, 11, 2, 9, 0, 641])
  | 84 => some (.aload_n 0, 1, [])
  | 85 => some (.getfield 12, 3, [1, 9, 0, 2, 0, 267])
  | 88 => some (.getfield 75, 3, [1, 6, 0, 2, 1, 138])
  | 91 => some (.iload_n 1, 1, [])
  | 92 => some (.iload_n 2, 1, [])
  | 93 => some (.iload_n 3, 1, [])
  | _ => none
def dec90_1 (pc : Nat) : Option (ClassFile.Instr × Nat × List Nat) := match pc with
  | 94 => some (.iload 4, 2, [])
  | 96 => some (.iload 5, 2, [])
  | 98 => some (.iload 6, 2, [])
  | 100 => some (.invokevirtual 109, 3, [2, 55, 2, 7, 0, 672, 0, 0, 0, 0, 0, 0])
  | 103 => some (.ireturn, 1, [0])
  | _ => none
def dec90 (pc : Nat) : Option (ClassFile.Instr × Nat × List Nat) := if pc < 94 then dec90_0 pc else if pc < 104 then dec90_1 pc else none
def dec91 (pc : Nat) : Option (ClassFile.Instr × Nat × List Nat) := match pc with
  | 0 => some (.aload_n 0, 1, [])
  | 1 => some (.iload_n 1, 1, [])
  | 2 => some (.iload_n 2, 1, [])
  | 3 => some (.invokevirtual 28, 3, [2, 92, 2, 9, 0, 680, 0, 0])
  | 6 => some (.istore_n 3, 1, [])
  | 7 => some (.goto 8, 3, [15])
  | 10 => some (.astore 4, 2, [])
  | 12 => some (.ldc 17, 2, [8, 4289967293, 582])
  | 14 => some (.ireturn, 1, [0])
  | 15 => some (.iload_n 3, 1, [])
  | 16 => some (.ireturn, 1, [0])
  | _ => none
def dec92 (pc : Nat) : Option (ClassFile.Instr × Nat × List Nat) := match pc with
  | 0 => some (.aload_n 0, 1, [])
  | 1 => some (.iload_n 1, 1, [])
  | 2 => some (.iload_n 2, 1, [])
  | 3 => some (.invokevirtual 113, 3, [2, 93, 2, 9, 0, 590, 0, 0])
  | 6 => some (.aload_n 0, 1, [])
  | 7 => some (.invokevirtual 72, 3, [2, 11, 2, 9, 0, 641])
  | 10 => some (.aload_n 0, 1, [])
  | 11 => some (.getfield 12, 3, [1, 9, 0, 2, 0, 267])
  | 14 => some (.getfield 75, 3, [1, 6, 0, 2, 1, 138])
  | 17 => some (.iload_n 1, 1, [])
  | 18 => some (.iload_n 2, 1, [])
  | 19 => some (.invokevirtual 117, 3, [2, 94, 2, 7, 0, 684, 0, 0])
  | 22 => some (.ireturn, 1, [0])
  | _ => none
def dec93 (pc : Nat) : Option (ClassFile.Instr × Nat × List Nat) := match pc with
  | 0 => some (.iload_n 1, 1, [])
  | 1 => some (.invokestatic 64, 3, [2, 86, 0, 9, 0, 507, 0])
  | 4 => some (.iload_n 2, 1, [])
  | 5 => some (.ifCond .lt 18, 3, [23])
  | 8 => some (.iload_n 2, 1, [])
  | 9 => some (.aload_n 0, 1, [])
  | 10 => some (.getfield 12, 3, [1, 9, 0, 2, 0, 267])
  | 13 => some (.getfield 75, 3, [1, 6, 0, 2, 1, 138])
  | 16 => some (.iload_n 1, 1, [])
  | 17 => some (.invokevirtual 101, 3, [2, 25, 2, 7, 0, 531, 0])
  | 20 => some (.if_icmp .lt 14, 3, [34])
  | 23 => some (.new 279, 3, [6, 0, 510])
  | 26 => some (.dup, 1, [])
  | 27 => some (.ldc_w 284, 3, [])
  | 30 => some (.invokespecial 283, 3, [])
  | 33 => some (.athrow, 1, [])
  | 34 => some (.return_, 1, [])
  | _ => none
def dec94 (pc : Nat) : Option (ClassFile.Instr × Nat × List Nat) := match pc with
  | 0 => some (.aload_n 0, 1, [])
  | 1 => some (.iload_n 1, 1, [])
  | 2 => some (.invokevirtual 50, 3, [2, 25, 2, 7, 0, 466, 0])
  | 5 => some (.iconst 1, 1, [1])
  | 6 => some (.isub, 1, [])
  | 7 => some (.istore_n 3, 1, [])
  | 8 => some (.iload_n 2, 1, [])
  | 9 => some (.istore 4, 2, [])
  | 11 => some (.iload 4, 2, [])
  | 13 => some (.iload_n 3, 1, [])
  | 14 => some (.if_icmp .ge 27, 3, [41])
  | 17 => some (.aload_n 0, 1, [])
  | 18 => some (.iload_n 1, 1, [])
  | 19 => some (.iload 4, 2, [])
  | 21 => some (.iconst 1, 1, [1])
  | 22 => some (.iadd, 1, [])
  | 23 => some (.invokestatic 54, 3, [2, 27, 0, 9, 1, 481, 0, 0])
  | 26 => some (.iload_n 1, 1, [])
  | 27 => some (.iload 4, 2, [])
  | 29 => some (.invokestatic 54, 3, [2, 27, 0, 9, 1, 481, 0, 0])
  | 32 => some (.invokevirtual 62, 3, [2, 95, 2, 7, 0, 688, 0, 0])
  | 35 => some (.iinc 4 1, 3, [1])
  | 38 => some (.goto (-27), 3, [11])
  | 41 => some (.aload_n 0, 1, [])
  | 42 => some (.getfield 15, 3, [1, 7, 1, 2, 0, 45])
  | 45 => some (.iload_n 1, 1, [])
  | 46 => some (.iload_n 3, 1, [])
  | 47 => some (.invokestatic 58, 3, [2, 44, 0, 9, 1, 676, 0, 0, 2])
  | 50 => some (.iload_n 3, 1, [])
  | 51 => some (.ireturn, 1, [0])
  | _ => none
def dec95_0 (pc : Nat) : Option (ClassFile.Instr × Nat × List Nat) := match pc with
  | 0 => some (.aload_n 0, 1, [])
  | 1 => some (.getfield 18, 3, [1, 7, 2, 2, 0, 46])
  | 4 => some (.iload_n 2, 1, [])
  | 5 => some (.aload_n 0, 1, [])
  | 6 => some (.getfield 18, 3, [1, 7, 2, 2, 0, 46])
  | 9 => some (.iload_n 1, 1, [])
  | 10 => some (.invokestatic 46, 3, [2, 26, 0, 9, 1, 470, 0, 2])
  | 13 => some (.invokestatic 58, 3, [2, 44, 0, 9, 1, 676, 0, 0, 2])
  | 16 => some (.aload_n 0, 1, [])
  | 17 => some (.getfield 21, 3, [1, 7, 3, 2, 0, 51])
  | 20 => some (.iload_n 2, 1, [])
  | 21 => some (.aload_n 0, 1, [])
  | 22 => some (.getfield 21, 3, [1, 7, 3, 2, 0, 51])
  | 25 => some (.iload_n 1, 1, [])
  | 26 => some (.invokestatic 46, 3, [2, 26, 0, 9, 1, 470, 0, 2])
  | 29 => some (.invokestatic 58, 3, [2, 44, 0, 9, 1, 676, 0, 0, 2])
  | 32 => some (.aload_n 0, 1, [])
  | 33 => some (.getfield 24, 3, [1, 7, 4, 2, 0, 54])
  | 36 => some (.iload_n 2, 1, [])
  | 37 => some (.aload_n 0, 1, [])
  | 38 => some (.getfield 24, 3, [1, 7, 4, 2, 0, 54])
  | 41 => some (.iload_n 1, 1, [])
  | 42 => some (.invokestatic 46, 3, [2, 26, 0, 9, 1, 470, 0, 2])
  | 45 => some (.invokestatic 58, 3, [2, 44, 0, 9, 1, 676, 0, 0, 2])
  | 48 => some (.aload_n 0, 1, [])
  | 49 => some (.getfield 27, 3, [1, 7, 5, 2, 0, 60])
  | 52 => some (.iload_n 2, 1, [])
  | 53 => some (.aload_n 0, 1, [])
  | 54 => some (.getfield 27, 3, [1, 7, 5, 2, 0, 60])
  | 57 => some (.iload_n 1, 1, [])
  | 58 => some (.invokestatic 46, 3, [2, 26, 0, 9, 1, 470, 0, 2])
  | 61 => some (.invokestatic 58, 3, [2, 44, 0, 9, 1, 676, 0, 0, 2])
  | 64 => some (.aload_n 0, 1, [])
  | 65 => some (.getfield 30, 3, [1, 7, 6, 2, 0, 62])
  | 68 => some (.iload_n 2, 1, [])
  | 69 => some (.aload_n 0, 1, [])
  | 70 => some (.getfield 30, 3, [1, 7, 6, 2, 0, 62])
  | 73 => some (.iload_n 1, 1, [])
  | 74 => some (.invokestatic 46, 3, [2, 26, 0, 9, 1, 470, 0, 2])
  | 77 => some (.invokestatic 58, 3, [2, 44, 0, 9, 1, 676, 0, 0, 2])
  | 80 => some (.aload_n 0, 1, [])
  | 81 => some (.getfield 33, 3, [1, 7, 7, 2, 0, 64])
  | 84 => some (.iload_n 2, 1, [])
  | 85 => some (.aload_n 0, 1, [])
  | 86 => some (.getfield 33, 3, [1, 7, 7, 2, 0, 64])
  | 89 => some (.iload_n 1, 1, [])
  | 90 => some (.invokestatic 46, 3, [2, 26, 0, 9, 1, 470, 0, 2])
  | 93 => some (.invokestatic 58, 3, [2, 44, 0, 9, 1, 676, 0, 0, 2])
  | _ => none
def dec95_1 (pc : Nat) : Option (ClassFile.Instr × Nat × List Nat) := match pc with
  | 96 => some (.return_, 1, [])
  | _ => none
def dec95 (pc : Nat) : Option (ClassFile.Instr × Nat × List Nat) := if pc < 94 then dec95_0 pc else if pc < 97 then dec95_1 pc else none
def dec96 (pc : Nat) : Option (ClassFile.Instr × Nat × List Nat) := match pc with
  | 0 => some (.aload_n 0, 1, [])
  | 1 => some (.iload_n 1, 1, [])
  | 2 => some (.iload_n 2, 1, [])
  | 3 => some (.iload_n 3, 1, [])
  | 4 => some (.invokevirtual 31, 3, [2, 97, 2, 9, 0, 695, 0, 0, 0])
  | 7 => some (.istore 4, 2, [])
  | 9 => some (.goto 13, 3, [22])
  | 12 => some (.astore 5, 2, [])
  | 14 => some (.ldc 17, 2, [8, 4289967293, 582])
  | 16 => some (.ireturn, 1, [0])
  | 17 => some (.astore 5, 2, [])
  | 19 => some (.ldc 20, 2, [8, 4289967295, 498])
  | 21 => some (.ireturn, 1, [0])
  | 22 => some (.iload 4, 2, [])
  | 24 => some (.ireturn, 1, [0])
  | _ => none
def dec97 (pc : Nat) : Option (ClassFile.Instr × Nat × List Nat) := match pc with
  | 0 => some (.aload_n 0, 1, [])
  | 1 => some (.iload_n 1, 1, [])
  | 2 => some (.iload_n 2, 1, [])
  | 3 => some (.invokevirtual 113, 3, [2, 93, 2, 9, 0, 590, 0, 0])
  | 6 => some (.iload_n 3, 1, [])
  | 7 => some (.iconst 1, 1, [1])
  | 8 => some (.sipush 1000, 3, [1000])
  | 11 => some (.invokestatic 68, 3, [2, 87, 0, 9, 0, 434, 0, 0, 0])
  | 14 => some (.aload_n 0, 1, [])
  | 15 => some (.invokevirtual 72, 3, [2, 11, 2, 9, 0, 641])
  | 18 => some (.aload_n 0, 1, [])
  | 19 => some (.getfield 12, 3, [1, 9, 0, 2, 0, 267])
  | 22 => some (.getfield 75, 3, [1, 6, 0, 2, 1, 138])
  | 25 => some (.getfield 121, 3, [1, 7, 3, 2, 1, 53])
  | 28 => some (.iload_n 1, 1, [])
  | 29 => some (.iload_n 2, 1, [])
  | 30 => some (.invokestatic 124, 3, [2, 27, 0, 9, 0, 599, 0, 0])
  | 33 => some (.iload_n 3, 1, [])
  | 34 => some (.invokestatic 82, 3, [2, 88, 0, 9, 0, 649, 0, 0, 2])
  | 37 => some (.ireturn, 1, [0])
  | _ => none
def dec98 (pc : Nat) : Option (ClassFile.Instr × Nat × List Nat) := match pc with
  | 0 => some (.aload_n 0, 1, [])
  | 1 => some (.iload_n 1, 1, [])
  | 2 => some (.iload_n 2, 1, [])
  | 3 => some (.iload_n 3, 1, [])
  | 4 => some (.invokevirtual 35, 3, [2, 99, 2, 9, 0, 586, 0, 0, 0])
  | 7 => some (.istore 4, 2, [])
  | 9 => some (.goto 13, 3, [22])
  | 12 => some (.astore 5, 2, [])
  | 14 => some (.ldc 17, 2, [8, 4289967293, 582])
  | 16 => some (.ireturn, 1, [0])
  | 17 => some (.astore 5, 2, [])
  | 19 => some (.ldc 20, 2, [8, 4289967295, 498])
  | 21 => some (.ireturn, 1, [0])
  | 22 => some (.iload 4, 2, [])
  | 24 => some (.ireturn, 1, [0])
  | _ => none
def dec99 (pc : Nat) : Option (ClassFile.Instr × Nat × List Nat) := match pc with
  | 0 => some (.aload_n 0, 1, [])
  | 1 => some (.iload_n 1, 1, [])
  | 2 => some (.iload_n 2, 1, [])
  | 3 => some (.invokevirtual 113, 3, [2, 93, 2, 9, 0, 590, 0, 0])
  | 6 => some (.iload_n 3, 1, [])
  | 7 => some (.iconst 0, 1, [0])
  | 8 => some (.bipush 7, 2, [7])
  | 10 => some (.invokestatic 68, 3, [2, 87, 0, 9, 0, 434, 0, 0, 0])
  | 13 => some (.aload_n 0, 1, [])
  | 14 => some (.iload_n 1, 1, [])
  | 15 => some (.iload_n 2, 1, [])
  | 16 => some (.iload_n 3, 1, [])
  | 17 => some (.invokevirtual 131, 3, [2, 73, 2, 9, 0, 595, 0, 0, 0])
  | 20 => some (.ireturn, 1, [0])
  | _ => none
def dec100 (pc : Nat) : Option (ClassFile.Instr × Nat × List Nat) := match pc with
  | 0 => some (.aload_n 0, 1, [])
  | 1 => some (.iload_n 1, 1, [])
  | 2 => some (.iload_n 2, 1, [])
  | 3 => some (.invokevirtual 38, 3, [2, 101, 2, 9, 0, 503, 0, 0])
  | 6 => some (.istore_n 3, 1, [])
  | 7 => some (.goto 13, 3, [20])
  | 10 => some (.astore 4, 2, [])
  | 12 => some (.ldc 17, 2, [8, 4289967293, 582])
  | 14 => some (.ireturn, 1, [0])
  | 15 => some (.astore 4, 2, [])
  | 17 => some (.ldc 20, 2, [8, 4289967295, 498])
  | 19 => some (.ireturn, 1, [0])
  | 20 => some (.iload_n 3, 1, [])
  | 21 => some (.ireturn, 1, [0])
  | _ => none
def dec101 (pc : Nat) : Option (ClassFile.Instr × Nat × List Nat) := match pc with
  | 0 => some (.iload_n 1, 1, [])
  | 1 => some (.invokestatic 64, 3, [2, 86, 0, 9, 0, 507, 0])
  | 4 => some (.iload_n 2, 1, [])
  | 5 => some (.iconst 0, 1, [0])
  | 6 => some (.iconst 3, 1, [3])
  | 7 => some (.invokestatic 68, 3, [2, 87, 0, 9, 0, 434, 0, 0, 0])
  | 10 => some (.aload_n 0, 1, [])
  | 11 => some (.iload_n 1, 1, [])
  | 12 => some (.iload_n 2, 1, [])
  | 13 => some (.invokevirtual 135, 3, [2, 62, 2, 9, 0, 526, 0, 0])
  | 16 => some (.ireturn, 1, [0])
  | _ => none
def dec102 (pc : Nat) : Option (ClassFile.Instr × Nat × List Nat) := match pc with
  | 0 => some (.aload_n 0, 1, [])
  | 1 => some (.iload_n 1, 1, [])
  | 2 => some (.iload_n 2, 1, [])
  | 3 => some (.invokevirtual 41, 3, [2, 103, 2, 9, 0, 702, 0, 0])
  | 6 => some (.istore_n 3, 1, [])
  | 7 => some (.goto 13, 3, [20])
  | 10 => some (.astore 4, 2, [])
  | 12 => some (.ldc 17, 2, [8, 4289967293, 582])
  | 14 => some (.ireturn, 1, [0])
  | 15 => some (.astore 4, 2, [])
  | 17 => some (.ldc 20, 2, [8, 4289967295, 498])
  | 19 => some (.ireturn, 1, [0])
  | 20 => some (.iload_n 3, 1, [])
  | 21 => some (.ireturn, 1, [0])
  | _ => none
def dec103 (pc : Nat) : Option (ClassFile.Instr × Nat × List Nat) := match pc with
  | 0 => some (.iload_n 1, 1, [])
  | 1 => some (.invokestatic 138, 3, [2, 104, 0, 9, 0, 613, 0])
  | 4 => some (.iload_n 2, 1, [])
  | 5 => some (.iconst 0, 1, [0])
  | 6 => some (.sipush 200, 3, [200])
  | 9 => some (.invokestatic 68, 3, [2, 87, 0, 9, 0, 434, 0, 0, 0])
  | 12 => some (.aload_n 0, 1, [])
  | 13 => some (.invokevirtual 72, 3, [2, 11, 2, 9, 0, 641])
  | 16 => some (.aload_n 0, 1, [])
  | 17 => some (.getfield 12, 3, [1, 9, 0, 2, 0, 267])
  | 20 => some (.getfield 141, 3, [1, 6, 1, 2, 1, 144])
  | 23 => some (.getfield 145, 3, [1, 3, 0, 2, 1, 91])
  | 26 => some (.iload_n 1, 1, [])
  | 27 => some (.iload_n 2, 1, [])
  | 28 => some (.invokestatic 82, 3, [2, 88, 0, 9, 0, 649, 0, 0, 2])
  | 31 => some (.ireturn, 1, [0])
  | _ => none
def dec104 (pc : Nat) : Option (ClassFile.Instr × Nat × List Nat) := match pc with
  | 0 => some (.iload_n 0, 1, [])
  | 1 => some (.iconst 1, 1, [1])
  | 2 => some (.if_icmp .lt 8, 3, [10])
  | 5 => some (.iload_n 0, 1, [])
  | 6 => some (.iconst 3, 1, [3])
  | 7 => some (.if_icmp .le 14, 3, [21])
  | 10 => some (.new 279, 3, [6, 0, 510])
  | 13 => some (.dup, 1, [])
  | 14 => some (.ldc_w 288, 3, [])
  | 17 => some (.invokespecial 283, 3, [])
  | 20 => some (.athrow, 1, [])
  | 21 => some (.return_, 1, [])
  | _ => none
def dec105 (pc : Nat) : Option (ClassFile.Instr × Nat × List Nat) := match pc with
  | 0 => some (.aload_n 0, 1, [])
  | 1 => some (.iload_n 1, 1, [])
  | 2 => some (.iload_n 2, 1, [])
  | 3 => some (.invokevirtual 44, 3, [2, 106, 2, 9, 0, 709, 0, 0])
  | 6 => some (.istore_n 3, 1, [])
  | 7 => some (.goto 13, 3, [20])
  | 10 => some (.astore 4, 2, [])
  | 12 => some (.ldc 17, 2, [8, 4289967293, 582])
  | 14 => some (.ireturn, 1, [0])
  | 15 => some (.astore 4, 2, [])
  | 17 => some (.ldc 20, 2, [8, 4289967295, 498])
  | 19 => some (.ireturn, 1, [0])
  | 20 => some (.iload_n 3, 1, [])
  | 21 => some (.ireturn, 1, [0])
  | _ => none
end
section
def dec106 (pc : Nat) : Option (ClassFile.Instr × Nat × List Nat) := match pc with
  | 0 => some (.iload_n 1, 1, [])
  | 1 => some (.invokestatic 138, 3, [2, 104, 0, 9, 0, 613, 0])
  | 4 => some (.iload_n 2, 1, [])
  | 5 => some (.iconst 0, 1, [0])
  | 6 => some (.sipush 200, 3, [200])
  | 9 => some (.invokestatic 68, 3, [2, 87, 0, 9, 0, 434, 0, 0, 0])
  | 12 => some (.aload_n 0, 1, [])
  | 13 => some (.invokevirtual 72, 3, [2, 11, 2, 9, 0, 641])
  | 16 => some (.aload_n 0, 1, [])
  | 17 => some (.getfield 12, 3, [1, 9, 0, 2, 0, 267])
  | 20 => some (.getfield 141, 3, [1, 6, 1, 2, 1, 144])
  | 23 => some (.getfield 150, 3, [1, 3, 1, 2, 1, 93])
  | 26 => some (.iload_n 1, 1, [])
  | 27 => some (.iload_n 2, 1, [])
  | 28 => some (.invokestatic 82, 3, [2, 88, 0, 9, 0, 649, 0, 0, 2])
  | 31 => some (.ireturn, 1, [0])
  | _ => none
def dec107 (pc : Nat) : Option (ClassFile.Instr × Nat × List Nat) := match pc with
  | 0 => some (.aload_n 0, 1, [])
  | 1 => some (.iload_n 1, 1, [])
  | 2 => some (.iload_n 2, 1, [])
  | 3 => some (.invokevirtual 47, 3, [2, 108, 2, 9, 0, 716, 0, 0])
  | 6 => some (.istore_n 3, 1, [])
  | 7 => some (.goto 8, 3, [15])
  | 10 => some (.astore 4, 2, [])
  | 12 => some (.ldc 20, 2, [8, 4289967295, 498])
  | 14 => some (.ireturn, 1, [0])
  | 15 => some (.iload_n 3, 1, [])
  | 16 => some (.ireturn, 1, [0])
  | _ => none
def dec108 (pc : Nat) : Option (ClassFile.Instr × Nat × List Nat) := match pc with
  | 0 => some (.iload_n 1, 1, [])
  | 1 => some (.iconst 0, 1, [0])
  | 2 => some (.bipush 50, 2, [50])
  | 4 => some (.invokestatic 68, 3, [2, 87, 0, 9, 0, 434, 0, 0, 0])
  | 7 => some (.iload_n 2, 1, [])
  | 8 => some (.iconst (-1), 1, [4294967295])
  | 9 => some (.if_icmp .eq 10, 3, [19])
  | 12 => some (.iload_n 2, 1, [])
  | 13 => some (.iconst 0, 1, [0])
  | 14 => some (.ldc 153, 2, [8, 999999, 720])
  | 16 => some (.invokestatic 68, 3, [2, 87, 0, 9, 0, 434, 0, 0, 0])
  | 19 => some (.aload_n 0, 1, [])
  | 20 => some (.invokevirtual 72, 3, [2, 11, 2, 9, 0, 641])
  | 23 => some (.aload_n 0, 1, [])
  | 24 => some (.getfield 12, 3, [1, 9, 0, 2, 0, 267])
  | 27 => some (.getfield 141, 3, [1, 6, 1, 2, 1, 144])
  | 30 => some (.getfield 154, 3, [1, 3, 2, 0, 1, 95])
  | 33 => some (.istore_n 3, 1, [])
  | 34 => some (.aload_n 0, 1, [])
  | 35 => some (.getfield 12, 3, [1, 9, 0, 2, 0, 267])
  | 38 => some (.getfield 141, 3, [1, 6, 1, 2, 1, 144])
  | 41 => some (.iload_n 1, 1, [])
  | 42 => some (.putfield 154, 3, [1, 3, 2, 0, 1, 95])
  | 45 => some (.iload_n 2, 1, [])
  | 46 => some (.iconst (-1), 1, [4294967295])
  | 47 => some (.if_icmp .eq 14, 3, [61])
  | 50 => some (.aload_n 0, 1, [])
  | 51 => some (.getfield 12, 3, [1, 9, 0, 2, 0, 267])
  | 54 => some (.getfield 141, 3, [1, 6, 1, 2, 1, 144])
  | 57 => some (.iload_n 2, 1, [])
  | 58 => some (.putfield 158, 3, [1, 3, 3, 0, 1, 97])
  | 61 => some (.iload_n 3, 1, [])
  | 62 => some (.ireturn, 1, [0])
  | _ => none
def dec109 (pc : Nat) : Option (ClassFile.Instr × Nat × List Nat) := match pc with
  | 0 => some (.aload_n 0, 1, [])
  | 1 => some (.iload_n 1, 1, [])
  | 2 => some (.iload_n 2, 1, [])
  | 3 => some (.invokevirtual 50, 3, [2, 110, 2, 9, 0, 609, 0, 0])
  | 6 => some (.istore_n 3, 1, [])
  | 7 => some (.goto 8, 3, [15])
  | 10 => some (.astore 4, 2, [])
  | 12 => some (.ldc 17, 2, [8, 4289967293, 582])
  | 14 => some (.ireturn, 1, [0])
  | 15 => some (.iload_n 3, 1, [])
  | 16 => some (.ireturn, 1, [0])
  | _ => none
def dec110 (pc : Nat) : Option (ClassFile.Instr × Nat × List Nat) := match pc with
  | 0 => some (.iload_n 1, 1, [])
  | 1 => some (.invokestatic 138, 3, [2, 104, 0, 9, 0, 613, 0])
  | 4 => some (.iload_n 2, 1, [])
  | 5 => some (.ifCond .eq 16, 3, [21])
  | 8 => some (.aload_n 0, 1, [])
  | 9 => some (.getfield 12, 3, [1, 9, 0, 2, 0, 267])
  | 12 => some (.getfield 141, 3, [1, 6, 1, 2, 1, 144])
  | 15 => some (.getfield 150, 3, [1, 3, 1, 2, 1, 93])
  | 18 => some (.goto 13, 3, [31])
  | 21 => some (.aload_n 0, 1, [])
  | 22 => some (.getfield 12, 3, [1, 9, 0, 2, 0, 267])
  | 25 => some (.getfield 141, 3, [1, 6, 1, 2, 1, 144])
  | 28 => some (.getfield 145, 3, [1, 3, 0, 2, 1, 91])
  | 31 => some (.iload_n 1, 1, [])
  | 32 => some (.invokestatic 161, 3, [2, 26, 0, 9, 0, 530, 0, 2])
  | 35 => some (.ireturn, 1, [0])
  | _ => none
def dec111 (pc : Nat) : Option (ClassFile.Instr × Nat × List Nat) := match pc with
  | 0 => some (.aload_n 0, 1, [])
  | 1 => some (.iload_n 1, 1, [])
  | 2 => some (.invokevirtual 54, 3, [2, 112, 2, 9, 0, 430, 0])
  | 5 => some (.istore_n 2, 1, [])
  | 6 => some (.goto 7, 3, [13])
  | 9 => some (.astore_n 3, 1, [])
  | 10 => some (.ldc 20, 2, [8, 4289967295, 498])
  | 12 => some (.ireturn, 1, [0])
  | 13 => some (.iload_n 2, 1, [])
  | 14 => some (.ireturn, 1, [0])
  | _ => none
def dec112 (pc : Nat) : Option (ClassFile.Instr × Nat × List Nat) := match pc with
  | 0 => some (.iload_n 1, 1, [])
  | 1 => some (.iconst 0, 1, [0])
  | 2 => some (.bipush 7, 2, [7])
  | 4 => some (.invokestatic 68, 3, [2, 87, 0, 9, 0, 434, 0, 0, 0])
  | 7 => some (.aload_n 0, 1, [])
  | 8 => some (.iload_n 1, 1, [])
  | 9 => some (.invokevirtual 165, 3, [2, 59, 2, 9, 0, 453, 0])
  | 12 => some (.ireturn, 1, [0])
  | _ => none
def dec113 (pc : Nat) : Option (ClassFile.Instr × Nat × List Nat) := match pc with
  | 0 => some (.aload_n 0, 1, [])
  | 1 => some (.iload_n 1, 1, [])
  | 2 => some (.invokevirtual 58, 3, [2, 114, 2, 9, 0, 724, 0])
  | 5 => some (.istore_n 2, 1, [])
  | 6 => some (.goto 7, 3, [13])
  | 9 => some (.astore_n 3, 1, [])
  | 10 => some (.ldc 17, 2, [8, 4289967293, 582])
  | 12 => some (.ireturn, 1, [0])
  | 13 => some (.iload_n 2, 1, [])
  | 14 => some (.ireturn, 1, [0])
  | _ => none
def dec114 (pc : Nat) : Option (ClassFile.Instr × Nat × List Nat) := match pc with
  | 0 => some (.iload_n 1, 1, [])
  | 1 => some (.invokestatic 64, 3, [2, 86, 0, 9, 0, 507, 0])
  | 4 => some (.aload_n 0, 1, [])
  | 5 => some (.invokevirtual 72, 3, [2, 11, 2, 9, 0, 641])
  | 8 => some (.aload_n 0, 1, [])
  | 9 => some (.getfield 43, 3, [1, 9, 5, 2, 0, 272])
  | 12 => some (.aload_n 0, 1, [])
  | 13 => some (.getfield 12, 3, [1, 9, 0, 2, 0, 267])
  | 16 => some (.iload_n 1, 1, [])
  | 17 => some (.invokevirtual 168, 3, [2, 115, 2, 4, 0, 728, 0, 2])
  | 20 => some (.ireturn, 1, [0])
  | _ => none
def dec115 (pc : Nat) : Option (ClassFile.Instr × Nat × List Nat) := match pc with
  | 0 => some (.aload_n 0, 1, [])
  | 1 => some (.aload_n 1, 1, [])
  | 2 => some (.getfield 18, 3, [1, 6, 0, 2, 1, 137])
  | 5 => some (.invokevirtual 24, 3, [2, 24, 2, 7, 0, 732])
  | 8 => some (.putfield 30, 3, [1, 4, 1, 0, 0, 221])
  | 11 => some (.aload_n 0, 1, [])
  | 12 => some (.iconst (-1), 1, [4294967295])
  | 13 => some (.putfield 34, 3, [1, 4, 2, 0, 0, 222])
  | 16 => some (.aload_n 0, 1, [])
  | 17 => some (.iconst 0, 1, [0])
  | 18 => some (.putfield 37, 3, [1, 4, 3, 0, 0, 223])
  | 21 => some (.aload_n 1, 1, [])
  | 22 => some (.getfield 40, 3, [1, 6, 2, 2, 1, 146])
  | 25 => some (.dup, 1, [])
  | 26 => some (.getfield 44, 3, [1, 2, 4, 0, 1, 118])
  | 29 => some (.iconst 1, 1, [1])
  | 30 => some (.iadd, 1, [])
  | 31 => some (.putfield 44, 3, [1, 2, 4, 0, 1, 118])
  | 34 => some (.iconst 0, 1, [0])
  | 35 => some (.istore_n 3, 1, [])
  | 36 => some (.iload_n 3, 1, [])
  | 37 => some (.aload_n 1, 1, [])
  | 38 => some (.getfield 18, 3, [1, 6, 0, 2, 1, 137])
  | 41 => some (.getfield 49, 3, [1, 7, 0, 2, 1, 43])
  | 44 => some (.iload_n 2, 1, [])
  | 45 => some (.invokestatic 53, 3, [2, 26, 0, 9, 1, 733, 0, 2])
  | 48 => some (.if_icmp .ge 20, 3, [68])
  | 51 => some (.iload_n 3, 1, [])
  | 52 => some (.iconst 2, 1, [2])
  | 53 => some (.if_icmp .ge 15, 3, [68])
  | 56 => some (.aload_n 0, 1, [])
  | 57 => some (.aload_n 1, 1, [])
  | 58 => some (.iload_n 2, 1, [])
  | 59 => some (.invokevirtual 57, 3, [2, 116, 2, 4, 0, 734, 0, 2])
  | 62 => some (.iinc 3 1, 3, [1])
  | 65 => some (.goto (-29), 3, [36])
  | 68 => some (.aload_n 1, 1, [])
  | 69 => some (.getfield 61, 3, [1, 6, 1, 2, 1, 143])
  | 72 => some (.aload_n 0, 1, [])
  | 73 => some (.getfield 34, 3, [1, 4, 2, 0, 0, 222])
  | 76 => some (.invokevirtual 65, 3, [2, 122, 2, 3, 0, 777, 0])
  | 79 => some (.aload_n 0, 1, [])
  | 80 => some (.getfield 37, 3, [1, 4, 3, 0, 0, 223])
  | 83 => some (.ireturn, 1, [0])
  | _ => none
def dec116_0 (pc : Nat) : Option (ClassFile.Instr × Nat × List Nat) := match pc with
  | 0 => some (.aload_n 0, 1, [])
  | 1 => some (.getfield 12, 3, [1, 4, 0, 2, 0, 220])
  | 4 => some (.aload_n 1, 1, [])
  | 5 => some (.iload_n 2, 1, [])
  | 6 => some (.aload_n 0, 1, [])
  | 7 => some (.getfield 30, 3, [1, 4, 1, 0, 0, 221])
  | 10 => some (.aload_n 0, 1, [])
  | 11 => some (.getfield 34, 3, [1, 4, 2, 0, 0, 222])
  | 14 => some (.invokevirtual 71, 3, [2, 64, 2, 1, 0, 738, 0, 0, 0, 2])
  | 17 => some (.iload_n 2, 1, [])
  | 18 => some (.istore_n 3, 1, [])
  | 19 => some (.iconst 0, 1, [0])
  | 20 => some (.istore 4, 2, [])
  | 22 => some (.iload 4, 2, [])
  | 24 => some (.iconst 3, 1, [3])
  | 25 => some (.if_icmp .ge 148, 3, [173])
  | 28 => some (.aload_n 0, 1, [])
  | 29 => some (.getfield 12, 3, [1, 4, 0, 2, 0, 220])
  | 32 => some (.iload_n 3, 1, [])
  | 33 => some (.invokevirtual 75, 3, [2, 70, 2, 1, 0, 739, 0])
  | 36 => some (.ifCond .le 137, 3, [173])
  | 39 => some (.aload_n 1, 1, [])
  | 40 => some (.getfield 61, 3, [1, 6, 1, 2, 1, 143])
  | 43 => some (.aload_n 0, 1, [])
  | 44 => some (.getfield 12, 3, [1, 4, 0, 2, 0, 220])
  | 47 => some (.iload_n 3, 1, [])
  | 48 => some (.invokevirtual 75, 3, [2, 70, 2, 1, 0, 739, 0])
  | 51 => some (.invokevirtual 79, 3, [2, 117, 2, 3, 0, 740, 0])
  | 54 => some (.istore 5, 2, [])
  | 56 => some (.aload_n 0, 1, [])
  | 57 => some (.getfield 12, 3, [1, 4, 0, 2, 0, 220])
  | 60 => some (.iload_n 3, 1, [])
  | 61 => some (.iload 5, 2, [])
  | 63 => some (.aload_n 1, 1, [])
  | 64 => some (.getfield 18, 3, [1, 6, 0, 2, 1, 137])
  | 67 => some (.iload_n 3, 1, [])
  | 68 => some (.invokevirtual 82, 3, [2, 25, 2, 7, 0, 748, 0])
  | 71 => some (.invokevirtual 85, 3, [2, 118, 2, 1, 0, 749, 0, 0, 0])
  | 74 => some (.istore 6, 2, [])
  | 76 => some (.iload 6, 2, [])
  | 78 => some (.iconst (-1), 1, [4294967295])
  | 79 => some (.if_icmp .ne 4, 3, [83])
  | 82 => some (.return_, 1, [])
  | 83 => some (.iload_n 3, 1, [])
  | 84 => some (.iload 6, 2, [])
  | 86 => some (.invokestatic 89, 3, [2, 27, 0, 9, 1, 754, 0, 0])
  | 89 => some (.istore 7, 2, [])
  | 91 => some (.aload_n 1, 1, [])
  | _ => none
def dec116_1 (pc : Nat) : Option (ClassFile.Instr × Nat × List Nat) := match pc with
  | 92 => some (.getfield 18, 3, [1, 6, 0, 2, 1, 137])
  | 95 => some (.getfield 93, 3, [1, 7, 2, 2, 1, 47])
  | 98 => some (.iload 7, 2, [])
  | 100 => some (.invokestatic 53, 3, [2, 26, 0, 9, 1, 733, 0, 2])
  | 103 => some (.istore 8, 2, [])
  | 105 => some (.aload_n 0, 1, [])
  | 106 => some (.dup, 1, [])
  | 107 => some (.getfield 30, 3, [1, 4, 1, 0, 0, 221])
  | 110 => some (.aload_n 1, 1, [])
  | 111 => some (.getfield 18, 3, [1, 6, 0, 2, 1, 137])
  | 114 => some (.iload_n 3, 1, [])
  | 115 => some (.iload 7, 2, [])
  | 117 => some (.invokevirtual 96, 3, [2, 80, 2, 7, 0, 755, 0, 0])
  | 120 => some (.ior, 1, [])
  | 121 => some (.putfield 30, 3, [1, 4, 1, 0, 0, 221])
  | 124 => some (.aload_n 1, 1, [])
  | 125 => some (.getfield 18, 3, [1, 6, 0, 2, 1, 137])
  | 128 => some (.iload 7, 2, [])
  | 130 => some (.invokevirtual 99, 3, [2, 119, 2, 7, 0, 759, 0])
  | 133 => some (.iload 8, 2, [])
  | 135 => some (.invokestatic 102, 3, [2, 51, 0, 9, 1, 763, 0])
  | 138 => some (.ifCond .ne 23, 3, [161])
  | 141 => some (.aload_n 0, 1, [])
  | 142 => some (.aload_n 1, 1, [])
  | 143 => some (.iload 8, 2, [])
  | 145 => some (.aload_n 1, 1, [])
  | 146 => some (.getfield 18, 3, [1, 6, 0, 2, 1, 137])
  | 149 => some (.getfield 106, 3, [1, 7, 4, 2, 1, 56])
  | 152 => some (.iload 7, 2, [])
  | 154 => some (.invokestatic 53, 3, [2, 26, 0, 9, 1, 733, 0, 2])
  | 157 => some (.invokevirtual 109, 3, [2, 120, 2, 4, 0, 764, 0, 0, 2])
  | 160 => some (.return_, 1, [])
  | 161 => some (.iload 8, 2, [])
  | 163 => some (.invokestatic 113, 3, [2, 52, 0, 9, 1, 776, 0])
  | 166 => some (.istore_n 3, 1, [])
  | 167 => some (.iinc 4 1, 3, [1])
  | 170 => some (.goto (-148), 3, [22])
  | 173 => some (.return_, 1, [])
  | _ => none
def dec116 (pc : Nat) : Option (ClassFile.Instr × Nat × List Nat) := if pc < 92 then dec116_0 pc else if pc < 174 then dec116_1 pc else none
def dec117 (pc : Nat) : Option (ClassFile.Instr × Nat × List Nat) := match pc with
  | 0 => some (.aload_n 0, 1, [])
  | 1 => some (.ldc2_w 29, 3, [9, 1103515245, 744])
  | 4 => some (.aload_n 0, 1, [])
  | 5 => some (.getfield 18, 3, [1, 3, 3, 0, 0, 96])
  | 8 => some (.i2l, 1, [])
  | 9 => some (.lmul, 1, [])
  | 10 => some (.ldc2_w 31, 3, [9, 12345, 745])
  | 13 => some (.ladd, 1, [])
  | 14 => some (.ldc2_w 33, 3, [9, 2147483648, 746])
  | 17 => some (.lrem, 1, [])
  | 18 => some (.l2i, 1, [])
  | 19 => some (.putfield 18, 3, [1, 3, 3, 0, 0, 96])
  | 22 => some (.iload_n 1, 1, [])
  | 23 => some (.ifCond .le 15, 3, [38])
  | 26 => some (.aload_n 0, 1, [])
  | 27 => some (.getfield 18, 3, [1, 3, 3, 0, 0, 96])
  | 30 => some (.ldc 35, 2, [8, 65536, 747])
  | 32 => some (.idiv, 1, [])
  | 33 => some (.iload_n 1, 1, [])
  | 34 => some (.irem, 1, [])
  | 35 => some (.goto 4, 3, [39])
  | 38 => some (.iconst 0, 1, [0])
  | 39 => some (.ireturn, 1, [0])
  | _ => none
def dec118 (pc : Nat) : Option (ClassFile.Instr × Nat × List Nat) := match pc with
  | 0 => some (.iconst 0, 1, [0])
  | 1 => some (.istore 4, 2, [])
  | 3 => some (.iconst 0, 1, [0])
  | 4 => some (.istore 5, 2, [])
  | 6 => some (.iload 5, 2, [])
  | 8 => some (.iload_n 3, 1, [])
  | 9 => some (.if_icmp .ge 33, 3, [42])
  | 12 => some (.iload 4, 2, [])
  | 14 => some (.aload_n 0, 1, [])
  | 15 => some (.iload_n 1, 1, [])
  | 16 => some (.iload 5, 2, [])
  | 18 => some (.invokestatic 42, 3, [2, 27, 0, 9, 1, 549, 0, 0])
  | 21 => some (.invokevirtual 86, 3, [2, 74, 2, 1, 0, 753, 0])
  | 24 => some (.iadd, 1, [])
  | 25 => some (.istore 4, 2, [])
  | 27 => some (.iload 4, 2, [])
  | 29 => some (.iload_n 2, 1, [])
  | 30 => some (.if_icmp .le 6, 3, [36])
  | 33 => some (.iload 5, 2, [])
  | 35 => some (.ireturn, 1, [0])
  | 36 => some (.iinc 5 1, 3, [1])
  | 39 => some (.goto (-33), 3, [6])
  | 42 => some (.iconst (-1), 1, [4294967295])
  | 43 => some (.ireturn, 1, [0])
  | _ => none
def dec119 (pc : Nat) : Option (ClassFile.Instr × Nat × List Nat) := match pc with
  | 0 => some (.aload_n 0, 1, [])
  | 1 => some (.getfield 33, 3, [1, 7, 7, 2, 0, 64])
  | 4 => some (.iload_n 1, 1, [])
  | 5 => some (.aload_n 0, 1, [])
  | 6 => some (.getfield 30, 3, [1, 7, 6, 2, 0, 62])
  | 9 => some (.iload_n 1, 1, [])
  | 10 => some (.invokestatic 46, 3, [2, 26, 0, 9, 1, 470, 0, 2])
  | 13 => some (.invokestatic 58, 3, [2, 44, 0, 9, 1, 676, 0, 0, 2])
  | 16 => some (.return_, 1, [])
  | _ => none
def dec120 (pc : Nat) : Option (ClassFile.Instr × Nat × List Nat) := match pc with
  | 0 => some (.aload_n 1, 1, [])
  | 1 => some (.getfield 40, 3, [1, 6, 2, 2, 1, 146])
  | 4 => some (.iload_n 2, 1, [])
  | 5 => some (.iload_n 3, 1, [])
  | 6 => some (.invokevirtual 116, 3, [2, 121, 2, 2, 0, 768, 0, 0])
  | 9 => some (.aload_n 0, 1, [])
  | 10 => some (.aload_n 0, 1, [])
  | 11 => some (.getfield 34, 3, [1, 4, 2, 0, 0, 222])
  | 14 => some (.iload_n 3, 1, [])
  | 15 => some (.invokestatic 120, 3, [11, 773])
  | 18 => some (.putfield 34, 3, [1, 4, 2, 0, 0, 222])
  | 21 => some (.aload_n 0, 1, [])
  | 22 => some (.dup, 1, [])
  | 23 => some (.getfield 37, 3, [1, 4, 3, 0, 0, 223])
  | 26 => some (.iconst 1, 1, [1])
  | 27 => some (.iadd, 1, [])
  | 28 => some (.putfield 37, 3, [1, 4, 3, 0, 0, 223])
  | 31 => some (.return_, 1, [])
  | _ => none
def dec121 (pc : Nat) : Option (ClassFile.Instr × Nat × List Nat) := match pc with
  | 0 => some (.aload_n 0, 1, [])
  | 1 => some (.getfield 32, 3, [1, 2, 5, 0, 0, 121])
  | 4 => some (.bipush 20, 2, [20])
  | 6 => some (.invokestatic 35, 3, [2, 14, 0, 12, 0, 630, 0, 0])
  | 9 => some (.istore_n 3, 1, [])
  | 10 => some (.aload_n 0, 1, [])
  | 11 => some (.getfield 15, 3, [1, 2, 1, 2, 0, 115])
  | 14 => some (.iload_n 3, 1, [])
  | 15 => some (.iload_n 1, 1, [])
  | 16 => some (.invokestatic 41, 3, [2, 44, 0, 9, 1, 772, 0, 0, 2])
  | 19 => some (.aload_n 0, 1, [])
  | 20 => some (.getfield 18, 3, [1, 2, 2, 2, 0, 116])
  | 23 => some (.iload_n 3, 1, [])
  | 24 => some (.iload_n 2, 1, [])
  | 25 => some (.invokestatic 41, 3, [2, 44, 0, 9, 1, 772, 0, 0, 2])
  | 28 => some (.aload_n 0, 1, [])
  | 29 => some (.getfield 21, 3, [1, 2, 3, 2, 0, 117])
  | 32 => some (.iload_n 3, 1, [])
  | 33 => some (.aload_n 0, 1, [])
  | 34 => some (.getfield 28, 3, [1, 2, 4, 0, 0, 119])
  | 37 => some (.invokestatic 41, 3, [2, 44, 0, 9, 1, 772, 0, 0, 2])
  | 40 => some (.aload_n 0, 1, [])
  | 41 => some (.getfield 9, 3, [1, 2, 0, 2, 0, 113])
  | 44 => some (.iload_n 1, 1, [])
  | 45 => some (.aload_n 0, 1, [])
  | 46 => some (.getfield 9, 3, [1, 2, 0, 2, 0, 113])
  | 49 => some (.iload_n 1, 1, [])
  | 50 => some (.invokestatic 45, 3, [2, 26, 0, 9, 1, 497, 0, 2])
  | 53 => some (.iconst 1, 1, [1])
  | 54 => some (.iadd, 1, [])
  | 55 => some (.invokestatic 41, 3, [2, 44, 0, 9, 1, 772, 0, 0, 2])
  | 58 => some (.aload_n 0, 1, [])
  | 59 => some (.dup, 1, [])
  | 60 => some (.getfield 32, 3, [1, 2, 5, 0, 0, 121])
  | 63 => some (.iconst 1, 1, [1])
  | 64 => some (.iadd, 1, [])
  | 65 => some (.putfield 32, 3, [1, 2, 5, 0, 0, 121])
  | 68 => some (.return_, 1, [])
  | _ => none
def dec122 (pc : Nat) : Option (ClassFile.Instr × Nat × List Nat) := match pc with
  | 0 => some (.iconst 1, 1, [1])
  | 1 => some (.istore_n 2, 1, [])
  | 2 => some (.iload_n 2, 1, [])
  | 3 => some (.iconst 3, 1, [3])
  | 4 => some (.if_icmp .gt 44, 3, [48])
  | 7 => some (.iload_n 1, 1, [])
  | 8 => some (.iload_n 2, 1, [])
  | 9 => some (.if_icmp .lt 7, 3, [16])
  | 12 => some (.iconst 0, 1, [0])
  | 13 => some (.goto 13, 3, [26])
  | 16 => some (.aload_n 0, 1, [])
  | 17 => some (.getfield 9, 3, [1, 3, 0, 2, 0, 90])
  | 20 => some (.iload_n 2, 1, [])
  | 21 => some (.invokestatic 36, 3, [2, 26, 0, 9, 1, 781, 0, 2])
  | 24 => some (.iconst 1, 1, [1])
  | 25 => some (.iadd, 1, [])
  | 26 => some (.istore_n 3, 1, [])
  | 27 => some (.aload_n 0, 1, [])
  | 28 => some (.getfield 9, 3, [1, 3, 0, 2, 0, 90])
  | 31 => some (.iload_n 2, 1, [])
  | 32 => some (.sipush 200, 3, [200])
  | 35 => some (.iload_n 3, 1, [])
  | 36 => some (.invokestatic 40, 3, [10, 782])
  | 39 => some (.invokestatic 46, 3, [2, 44, 0, 9, 1, 783, 0, 0, 2])
  | 42 => some (.iinc 2 1, 3, [1])
  | 45 => some (.goto (-43), 3, [2])
  | 48 => some (.return_, 1, [])
  | _ => none
def dec123 (pc : Nat) : Option (ClassFile.Instr × Nat × List Nat) := match pc with
  | 0 => some (.aload_n 0, 1, [])
  | 1 => some (.iload_n 1, 1, [])
  | 2 => some (.iload_n 2, 1, [])
  | 3 => some (.invokevirtual 61, 3, [2, 124, 2, 9, 0, 787, 0, 0])
  | 6 => some (.istore_n 3, 1, [])
  | 7 => some (.goto 13, 3, [20])
  | 10 => some (.astore 4, 2, [])
  | 12 => some (.ldc 17, 2, [8, 4289967293, 582])
  | 14 => some (.ireturn, 1, [0])
  | 15 => some (.astore 4, 2, [])
  | 17 => some (.ldc 20, 2, [8, 4289967295, 498])
  | 19 => some (.ireturn, 1, [0])
  | 20 => some (.iload_n 3, 1, [])
  | 21 => some (.ireturn, 1, [0])
  | _ => none
def dec124 (pc : Nat) : Option (ClassFile.Instr × Nat × List Nat) := match pc with
  | 0 => some (.iload_n 1, 1, [])
  | 1 => some (.invokestatic 64, 3, [2, 86, 0, 9, 0, 507, 0])
  | 4 => some (.iload_n 2, 1, [])
  | 5 => some (.iconst 1, 1, [1])
  | 6 => some (.sipush 200, 3, [200])
  | 9 => some (.invokestatic 68, 3, [2, 87, 0, 9, 0, 434, 0, 0, 0])
  | 12 => some (.aload_n 0, 1, [])
  | 13 => some (.invokevirtual 72, 3, [2, 11, 2, 9, 0, 641])
  | 16 => some (.iconst 0, 1, [0])
  | 17 => some (.istore_n 3, 1, [])
  | 18 => some (.iconst 0, 1, [0])
  | 19 => some (.istore 4, 2, [])
  | 21 => some (.iload 4, 2, [])
  | 23 => some (.iload_n 2, 1, [])
  | 24 => some (.if_icmp .ge 24, 3, [48])
  | 27 => some (.iload_n 3, 1, [])
  | 28 => some (.aload_n 0, 1, [])
  | 29 => some (.getfield 43, 3, [1, 9, 5, 2, 0, 272])
  | 32 => some (.aload_n 0, 1, [])
  | 33 => some (.getfield 12, 3, [1, 9, 0, 2, 0, 267])
  | 36 => some (.iload_n 1, 1, [])
  | 37 => some (.invokevirtual 168, 3, [2, 115, 2, 4, 0, 728, 0, 2])
  | 40 => some (.iadd, 1, [])
  | 41 => some (.istore_n 3, 1, [])
  | 42 => some (.iinc 4 1, 3, [1])
  | 45 => some (.goto (-24), 3, [21])
  | 48 => some (.iload_n 3, 1, [])
  | 49 => some (.ireturn, 1, [0])
  | _ => none
def dec125 (pc : Nat) : Option (ClassFile.Instr × Nat × List Nat) := match pc with
  | 0 => some (.aload_n 0, 1, [])
  | 1 => some (.iload_n 1, 1, [])
  | 2 => some (.iload_n 2, 1, [])
  | 3 => some (.invokevirtual 64, 3, [2, 126, 2, 9, 0, 620, 0, 0])
  | 6 => some (.istore_n 3, 1, [])
  | 7 => some (.goto 8, 3, [15])
  | 10 => some (.astore 4, 2, [])
  | 12 => some (.ldc 20, 2, [8, 4289967295, 498])
  | 14 => some (.ireturn, 1, [0])
  | 15 => some (.iload_n 3, 1, [])
  | 16 => some (.ireturn, 1, [0])
  | _ => none
def dec126 (pc : Nat) : Option (ClassFile.Instr × Nat × List Nat) := match pc with
  | 0 => some (.iload_n 1, 1, [])
  | 1 => some (.ifCond .ge 13, 3, [14])
  | 4 => some (.new 90, 3, [6, 1, 437])
  | 7 => some (.dup, 1, [])
  | 8 => some (.ldc 172, 2, [])
  | 10 => some (.invokespecial 94, 3, [])
  | 13 => some (.athrow, 1, [])
  | 14 => some (.iload_n 2, 1, [])
  | 15 => some (.iconst 0, 1, [0])
  | 16 => some (.iconst 2, 1, [2])
  | 17 => some (.invokestatic 68, 3, [2, 87, 0, 9, 0, 434, 0, 0, 0])
  | 20 => some (.aload_n 0, 1, [])
  | 21 => some (.getfield 12, 3, [1, 9, 0, 2, 0, 267])
  | 24 => some (.getfield 174, 3, [1, 6, 2, 2, 1, 147])
  | 27 => some (.iload_n 1, 1, [])
  | 28 => some (.iload_n 2, 1, [])
  | 29 => some (.invokevirtual 178, 3, [2, 34, 2, 2, 0, 625, 0, 0])
  | 32 => some (.ireturn, 1, [0])
  | _ => none
def dec127 (pc : Nat) : Option (ClassFile.Instr × Nat × List Nat) := match pc with
  | 0 => some (.aload_n 0, 1, [])
  | 1 => some (.iload_n 1, 1, [])
  | 2 => some (.invokevirtual 67, 3, [2, 128, 2, 9, 0, 794, 0])
  | 5 => some (.istore_n 2, 1, [])
  | 6 => some (.goto 7, 3, [13])
  | 9 => some (.astore_n 3, 1, [])
  | 10 => some (.ldc 17, 2, [8, 4289967293, 582])
  | 12 => some (.ireturn, 1, [0])
  | 13 => some (.iload_n 2, 1, [])
  | 14 => some (.ireturn, 1, [0])
  | _ => none
def dec128 (pc : Nat) : Option (ClassFile.Instr × Nat × List Nat) := match pc with
  | 0 => some (.iload_n 1, 1, [])
  | 1 => some (.invokestatic 183, 3, [2, 129, 0, 9, 0, 798, 0])
  | 4 => some (.aload_n 0, 1, [])
  | 5 => some (.getfield 12, 3, [1, 9, 0, 2, 0, 267])
  | 8 => some (.getfield 174, 3, [1, 6, 2, 2, 1, 147])
  | 11 => some (.getfield 186, 3, [1, 2, 0, 2, 1, 114])
  | 14 => some (.iload_n 1, 1, [])
  | 15 => some (.invokestatic 161, 3, [2, 26, 0, 9, 0, 530, 0, 2])
  | 18 => some (.ireturn, 1, [0])
  | _ => none
def dec129 (pc : Nat) : Option (ClassFile.Instr × Nat × List Nat) := match pc with
  | 0 => some (.iload_n 0, 1, [])
  | 1 => some (.ifCond .lt 9, 3, [10])
  | 4 => some (.iload_n 0, 1, [])
  | 5 => some (.bipush 16, 2, [16])
  | 7 => some (.if_icmp .lt 14, 3, [21])
  | 10 => some (.new 279, 3, [6, 0, 510])
  | 13 => some (.dup, 1, [])
  | 14 => some (.ldc_w 286, 3, [])
  | 17 => some (.invokespecial 283, 3, [])
  | 20 => some (.athrow, 1, [])
  | 21 => some (.return_, 1, [])
  | _ => none
def dec130 (pc : Nat) : Option (ClassFile.Instr × Nat × List Nat) := match pc with
  | 0 => some (.aload_n 0, 1, [])
  | 1 => some (.iload_n 1, 1, [])
  | 2 => some (.iload_n 2, 1, [])
  | 3 => some (.iload_n 3, 1, [])
  | 4 => some (.invokevirtual 70, 3, [2, 131, 2, 9, 0, 805, 0, 0, 0])
  | 7 => some (.istore 4, 2, [])
  | 9 => some (.goto 8, 3, [17])
  | 12 => some (.astore 5, 2, [])
  | 14 => some (.ldc 17, 2, [8, 4289967293, 582])
  | 16 => some (.ireturn, 1, [0])
  | 17 => some (.iload 4, 2, [])
  | 19 => some (.ireturn, 1, [0])
  | _ => none
def dec131 (pc : Nat) : Option (ClassFile.Instr × Nat × List Nat) := match pc with
  | 0 => some (.aload_n 0, 1, [])
  | 1 => some (.iload_n 1, 1, [])
  | 2 => some (.iload_n 2, 1, [])
  | 3 => some (.invokevirtual 113, 3, [2, 93, 2, 9, 0, 590, 0, 0])
  | 6 => some (.aload_n 0, 1, [])
  | 7 => some (.iload_n 1, 1, [])
  | 8 => some (.invokevirtual 189, 3, [2, 63, 2, 9, 0, 532, 0])
  | 11 => some (.aload_n 0, 1, [])
  | 12 => some (.getfield 50, 3, [1, 9, 6, 2, 0, 273])
  | 15 => some (.iload_n 1, 1, [])
  | 16 => some (.iload_n 2, 1, [])
  | 17 => some (.invokestatic 124, 3, [2, 27, 0, 9, 0, 599, 0, 0])
  | 20 => some (.invokevirtual 192, 3, [2, 74, 2, 1, 0, 601, 0])
  | 23 => some (.istore 4, 2, [])
  | 25 => some (.aload_n 0, 1, [])
  | 26 => some (.getfield 50, 3, [1, 9, 6, 2, 0, 273])
  | 29 => some (.iload_n 1, 1, [])
  | 30 => some (.invokevirtual 195, 3, [2, 70, 2, 1, 0, 581, 0])
  | 33 => some (.istore 5, 2, [])
  | 35 => some (.iload 4, 2, [])
  | 37 => some (.iload 5, 2, [])
  | 39 => some (.invokestatic 198, 3, [2, 132, 0, 9, 0, 809, 0, 0])
  | 42 => some (.istore 6, 2, [])
  | 44 => some (.iload 4, 2, [])
  | 46 => some (.ifCond .le 8, 3, [54])
  | 49 => some (.iload 6, 2, [])
  | 51 => some (.ifCond .gt 13, 3, [64])
  | 54 => some (.iload_n 3, 1, [])
  | 55 => some (.ifCond .eq 7, 3, [62])
  | 58 => some (.iconst 1, 1, [1])
  | 59 => some (.goto 4, 3, [63])
  | 62 => some (.iconst 0, 1, [0])
  | 63 => some (.ireturn, 1, [0])
  | 64 => some (.iload_n 3, 1, [])
  | 65 => some (.ifCond .eq 11, 3, [76])
  | 68 => some (.iload 5, 2, [])
  | 70 => some (.iload 6, 2, [])
  | 72 => some (.idiv, 1, [])
  | 73 => some (.goto 8, 3, [81])
  | 76 => some (.iload 4, 2, [])
  | 78 => some (.iload 6, 2, [])
  | 80 => some (.idiv, 1, [])
  | 81 => some (.ireturn, 1, [0])
  | _ => none
def dec132 (pc : Nat) : Option (ClassFile.Instr × Nat × List Nat) := match pc with
  | 0 => some (.iload_n 0, 1, [])
  | 1 => some (.istore_n 2, 1, [])
  | 2 => some (.iload_n 1, 1, [])
  | 3 => some (.istore_n 3, 1, [])
  | 4 => some (.iconst 0, 1, [0])
  | 5 => some (.istore 4, 2, [])
  | 7 => some (.iload 4, 2, [])
  | 9 => some (.bipush 64, 2, [64])
  | 11 => some (.if_icmp .ge 23, 3, [34])
  | 14 => some (.iload_n 3, 1, [])
  | 15 => some (.ifCond .le 19, 3, [34])
  | 18 => some (.iload_n 2, 1, [])
  | 19 => some (.iload_n 3, 1, [])
  | 20 => some (.irem, 1, [])
  | 21 => some (.istore 5, 2, [])
  | 23 => some (.iload_n 3, 1, [])
  | 24 => some (.istore_n 2, 1, [])
  | 25 => some (.iload 5, 2, [])
  | 27 => some (.istore_n 3, 1, [])
  | 28 => some (.iinc 4 1, 3, [1])
  | 31 => some (.goto (-24), 3, [7])
  | 34 => some (.iload_n 2, 1, [])
  | 35 => some (.ireturn, 1, [0])
  | _ => none
def dec133 (pc : Nat) : Option (ClassFile.Instr × Nat × List Nat) := match pc with
  | 0 => some (.aload_n 0, 1, [])
  | 1 => some (.iload_n 1, 1, [])
  | 2 => some (.iload_n 2, 1, [])
  | 3 => some (.invokevirtual 74, 3, [2, 134, 2, 9, 0, 815, 0, 0])
  | 6 => some (.istore_n 3, 1, [])
  | 7 => some (.goto 8, 3, [15])
  | 10 => some (.astore 4, 2, [])
  | 12 => some (.ldc 17, 2, [8, 4289967293, 582])
  | 14 => some (.ireturn, 1, [0])
  | 15 => some (.iload_n 3, 1, [])
  | 16 => some (.ireturn, 1, [0])
  | _ => none
def dec134 (pc : Nat) : Option (ClassFile.Instr × Nat × List Nat) := match pc with
  | 0 => some (.iload_n 1, 1, [])
  | 1 => some (.invokestatic 64, 3, [2, 86, 0, 9, 0, 507, 0])
  | 4 => some (.iload_n 2, 1, [])
  | 5 => some (.invokestatic 183, 3, [2, 129, 0, 9, 0, 798, 0])
  | 8 => some (.aload_n 0, 1, [])
  | 9 => some (.getfield 57, 3, [1, 9, 7, 2, 0, 274])
  | 12 => some (.aload_n 0, 1, [])
  | 13 => some (.getfield 12, 3, [1, 9, 0, 2, 0, 267])
  | 16 => some (.iload_n 1, 1, [])
  | 17 => some (.invokevirtual 201, 3, [2, 75, 2, 0, 0, 819, 0, 2])
  | 20 => some (.aload_n 0, 1, [])
  | 21 => some (.getfield 57, 3, [1, 9, 7, 2, 0, 274])
  | 24 => some (.iload_n 2, 1, [])
  | 25 => some (.invokevirtual 205, 3, [2, 135, 2, 0, 0, 851, 0])
  | 28 => some (.l2i, 1, [])
  | 29 => some (.ireturn, 1, [0])
  | _ => none
def dec135 (pc : Nat) : Option (ClassFile.Instr × Nat × List Nat) := match pc with
  | 0 => some (.aload_n 0, 1, [])
  | 1 => some (.getfield 25, 3, [1, 0, 3, 2, 0, 246])
  | 4 => some (.iload_n 1, 1, [])
  | 5 => some (.invokestatic 64, 3, [2, 83, 0, 9, 1, 855, 0, 2])
  | 8 => some (.lreturn, 1, [])
  | _ => none
def dec136 (pc : Nat) : Option (ClassFile.Instr × Nat × List Nat) := match pc with
  | 0 => some (.aload_n 0, 1, [])
  | 1 => some (.iload_n 1, 1, [])
  | 2 => some (.iload_n 2, 1, [])
  | 3 => some (.invokevirtual 77, 3, [2, 137, 2, 9, 0, 861, 0, 0])
  | 6 => some (.istore_n 3, 1, [])
  | 7 => some (.goto 13, 3, [20])
  | 10 => some (.astore 4, 2, [])
  | 12 => some (.ldc 17, 2, [8, 4289967293, 582])
  | 14 => some (.ireturn, 1, [0])
  | 15 => some (.astore 4, 2, [])
  | 17 => some (.ldc 20, 2, [8, 4289967295, 498])
  | 19 => some (.ireturn, 1, [0])
  | 20 => some (.iload_n 3, 1, [])
  | 21 => some (.ireturn, 1, [0])
  | _ => none
def dec137 (pc : Nat) : Option (ClassFile.Instr × Nat × List Nat) := match pc with
  | 0 => some (.iload_n 1, 1, [])
  | 1 => some (.invokestatic 64, 3, [2, 86, 0, 9, 0, 507, 0])
  | 4 => some (.iload_n 2, 1, [])
  | 5 => some (.iconst 0, 1, [0])
  | 6 => some (.iconst 3, 1, [3])
  | 7 => some (.invokestatic 68, 3, [2, 87, 0, 9, 0, 434, 0, 0, 0])
  | 10 => some (.aload_n 0, 1, [])
  | 11 => some (.getfield 57, 3, [1, 9, 7, 2, 0, 274])
  | 14 => some (.aload_n 0, 1, [])
  | 15 => some (.getfield 12, 3, [1, 9, 0, 2, 0, 267])
  | 18 => some (.iload_n 1, 1, [])
  | 19 => some (.invokevirtual 201, 3, [2, 75, 2, 0, 0, 819, 0, 2])
  | 22 => some (.aload_n 0, 1, [])
  | 23 => some (.getfield 57, 3, [1, 9, 7, 2, 0, 274])
  | 26 => some (.iload_n 2, 1, [])
  | 27 => some (.invokevirtual 209, 3, [2, 82, 2, 0, 0, 865, 0])
  | 30 => some (.l2i, 1, [])
  | 31 => some (.ireturn, 1, [0])
  | _ => none
def dec138 (pc : Nat) : Option (ClassFile.Instr × Nat × List Nat) := match pc with
  | 0 => some (.aload_n 0, 1, [])
  | 1 => some (.iload_n 1, 1, [])
  | 2 => some (.invokevirtual 80, 3, [2, 139, 2, 9, 0, 872, 0])
  | 5 => some (.lstore_n 2, 1, [])
  | 6 => some (.goto 9, 3, [15])
  | 9 => some (.astore 4, 2, [])
  | 11 => some (.ldc2_w 84, 3, [9, 18446744073704551613, 876])
  | 14 => some (.lreturn, 1, [])
  | 15 => some (.lload_n 2, 1, [])
  | 16 => some (.lreturn, 1, [])
  | _ => none
def dec139 (pc : Nat) : Option (ClassFile.Instr × Nat × List Nat) := match pc with
  | 0 => some (.iload_n 1, 1, [])
  | 1 => some (.invokestatic 64, 3, [2, 86, 0, 9, 0, 507, 0])
  | 4 => some (.aload_n 0, 1, [])
  | 5 => some (.getfield 57, 3, [1, 9, 7, 2, 0, 274])
  | 8 => some (.aload_n 0, 1, [])
  | 9 => some (.getfield 12, 3, [1, 9, 0, 2, 0, 267])
  | 12 => some (.iload_n 1, 1, [])
  | 13 => some (.invokevirtual 201, 3, [2, 75, 2, 0, 0, 819, 0, 2])
  | 16 => some (.aload_n 0, 1, [])
  | 17 => some (.getfield 57, 3, [1, 9, 7, 2, 0, 274])
  | 20 => some (.getfield 212, 3, [1, 0, 5, 1, 1, 249])
  | 23 => some (.lreturn, 1, [])
  | _ => none
def dec140 (pc : Nat) : Option (ClassFile.Instr × Nat × List Nat) := match pc with
  | 0 => some (.aload_n 0, 1, [])
  | 1 => some (.iload_n 1, 1, [])
  | 2 => some (.iload_n 2, 1, [])
  | 3 => some (.invokevirtual 86, 3, [2, 141, 2, 9, 0, 880, 0, 0])
  | 6 => some (.istore_n 3, 1, [])
  | 7 => some (.goto 8, 3, [15])
  | 10 => some (.astore 4, 2, [])
  | 12 => some (.ldc 17, 2, [8, 4289967293, 582])
  | 14 => some (.ireturn, 1, [0])
  | 15 => some (.iload_n 3, 1, [])
  | 16 => some (.ireturn, 1, [0])
  | _ => none
def dec141 (pc : Nat) : Option (ClassFile.Instr × Nat × List Nat) := match pc with
  | 0 => some (.iload_n 1, 1, [])
  | 1 => some (.invokestatic 64, 3, [2, 86, 0, 9, 0, 507, 0])
  | 4 => some (.iload_n 2, 1, [])
  | 5 => some (.invokestatic 183, 3, [2, 129, 0, 9, 0, 798, 0])
  | 8 => some (.aload_n 0, 1, [])
  | 9 => some (.getfield 16, 3, [1, 9, 1, 2, 0, 268])
  | 12 => some (.aload_n 0, 1, [])
  | 13 => some (.getfield 12, 3, [1, 9, 0, 2, 0, 267])
  | 16 => some (.invokevirtual 222, 3, [2, 15, 2, 6, 0, 884, 2])
  | 19 => some (.aload_n 0, 1, [])
  | 20 => some (.getfield 12, 3, [1, 9, 0, 2, 0, 267])
  | 23 => some (.getfield 174, 3, [1, 6, 2, 2, 1, 147])
  | 26 => some (.getfield 186, 3, [1, 2, 0, 2, 1, 114])
  | 29 => some (.iload_n 2, 1, [])
  | 30 => some (.invokestatic 161, 3, [2, 26, 0, 9, 0, 530, 0, 2])
  | 33 => some (.istore_n 3, 1, [])
  | 34 => some (.iconst 1, 1, [1])
  | 35 => some (.istore 4, 2, [])
  | 37 => some (.iload 4, 2, [])
  | 39 => some (.sipush 300, 3, [300])
  | 42 => some (.if_icmp .gt 43, 3, [85])
  | 45 => some (.aload_n 0, 1, [])
  | 46 => some (.getfield 43, 3, [1, 9, 5, 2, 0, 272])
  | 49 => some (.aload_n 0, 1, [])
  | 50 => some (.getfield 16, 3, [1, 9, 1, 2, 0, 268])
  | 53 => some (.iload_n 1, 1, [])
  | 54 => some (.invokevirtual 168, 3, [2, 115, 2, 4, 0, 728, 0, 2])
  | 57 => some (.pop, 1, [])
  | 58 => some (.aload_n 0, 1, [])
  | 59 => some (.getfield 16, 3, [1, 9, 1, 2, 0, 268])
  | 62 => some (.getfield 174, 3, [1, 6, 2, 2, 1, 147])
  | 65 => some (.getfield 186, 3, [1, 2, 0, 2, 1, 114])
  | 68 => some (.iload_n 2, 1, [])
  | 69 => some (.invokestatic 161, 3, [2, 26, 0, 9, 0, 530, 0, 2])
  | 72 => some (.iload_n 3, 1, [])
  | 73 => some (.if_icmp .le 6, 3, [79])
  | 76 => some (.iload 4, 2, [])
  | 78 => some (.ireturn, 1, [0])
  | 79 => some (.iinc 4 1, 3, [1])
  | 82 => some (.goto (-45), 3, [37])
  | 85 => some (.iconst (-1), 1, [4294967295])
  | 86 => some (.ireturn, 1, [0])
  | _ => none
def dec142 (pc : Nat) : Option (ClassFile.Instr × Nat × List Nat) := match pc with
  | 0 => some (.aload_n 0, 1, [])
  | 1 => some (.iload_n 1, 1, [])
  | 2 => some (.iload_n 2, 1, [])
  | 3 => some (.invokevirtual 89, 3, [2, 143, 2, 9, 0, 888, 0, 0])
  | 6 => some (.istore_n 3, 1, [])
  | 7 => some (.goto 8, 3, [15])
  | 10 => some (.astore 4, 2, [])
  | 12 => some (.ldc 17, 2, [8, 4289967293, 582])
  | 14 => some (.ireturn, 1, [0])
  | 15 => some (.iload_n 3, 1, [])
  | 16 => some (.ireturn, 1, [0])
  | _ => none
def dec143_0 (pc : Nat) : Option (ClassFile.Instr × Nat × List Nat) := match pc with
  | 0 => some (.iload_n 1, 1, [])
  | 1 => some (.invokestatic 64, 3, [2, 86, 0, 9, 0, 507, 0])
  | 4 => some (.iload_n 2, 1, [])
  | 5 => some (.invokestatic 183, 3, [2, 129, 0, 9, 0, 798, 0])
  | 8 => some (.aload_n 0, 1, [])
  | 9 => some (.getfield 16, 3, [1, 9, 1, 2, 0, 268])
  | 12 => some (.aload_n 0, 1, [])
  | 13 => some (.getfield 12, 3, [1, 9, 0, 2, 0, 267])
  | 16 => some (.invokevirtual 222, 3, [2, 15, 2, 6, 0, 884, 2])
  | 19 => some (.iconst (-1), 1, [4294967295])
  | 20 => some (.istore_n 3, 1, [])
  | 21 => some (.ldc2_w 226, 3, [9, 18446744073709551615, 892])
  | 24 => some (.lstore 4, 2, [])
  | 26 => some (.iconst 0, 1, [0])
  | 27 => some (.istore 6, 2, [])
  | 29 => some (.iload 6, 2, [])
  | 31 => some (.aload_n 0, 1, [])
  | 32 => some (.getfield 12, 3, [1, 9, 0, 2, 0, 267])
  | 35 => some (.getfield 75, 3, [1, 6, 0, 2, 1, 138])
  | 38 => some (.iload_n 1, 1, [])
  | 39 => some (.invokevirtual 101, 3, [2, 25, 2, 7, 0, 531, 0])
  | 42 => some (.if_icmp .ge 122, 3, [164])
  | 45 => some (.iload_n 1, 1, [])
  | 46 => some (.iload 6, 2, [])
  | 48 => some (.invokestatic 124, 3, [2, 27, 0, 9, 0, 599, 0, 0])
  | 51 => some (.istore 7, 2, [])
  | 53 => some (.aload_n 0, 1, [])
  | 54 => some (.getfield 12, 3, [1, 9, 0, 2, 0, 267])
  | 57 => some (.getfield 75, 3, [1, 6, 0, 2, 1, 138])
  | 60 => some (.getfield 121, 3, [1, 7, 3, 2, 1, 53])
  | 63 => some (.iload 7, 2, [])
  | 65 => some (.invokestatic 161, 3, [2, 26, 0, 9, 0, 530, 0, 2])
  | 68 => some (.istore 8, 2, [])
  | 70 => some (.aload_n 0, 1, [])
  | 71 => some (.getfield 16, 3, [1, 9, 1, 2, 0, 268])
  | 74 => some (.getfield 75, 3, [1, 6, 0, 2, 1, 138])
  | 77 => some (.getfield 121, 3, [1, 7, 3, 2, 1, 53])
  | 80 => some (.iload 7, 2, [])
  | 82 => some (.sipush 1000, 3, [1000])
  | 85 => some (.iconst 2, 1, [2])
  | 86 => some (.iload 8, 2, [])
  | 88 => some (.imul, 1, [])
  | 89 => some (.invokestatic 228, 3, [10, 400])
  | 92 => some (.invokestatic 233, 3, [2, 44, 0, 9, 0, 652, 0, 0, 2])
  | 95 => some (.aload_n 0, 1, [])
  | 96 => some (.getfield 61, 3, [1, 9, 8, 2, 0, 275])
  | 99 => some (.invokevirtual 237, 3, [2, 21, 2, 0, 0, 416])
  | 102 => some (.aload_n 0, 1, [])
  | _ => none
def dec143_1 (pc : Nat) : Option (ClassFile.Instr × Nat × List Nat) := match pc with
  | 103 => some (.getfield 61, 3, [1, 9, 8, 2, 0, 275])
  | 106 => some (.aload_n 0, 1, [])
  | 107 => some (.getfield 16, 3, [1, 9, 1, 2, 0, 268])
  | 110 => some (.iload_n 1, 1, [])
  | 111 => some (.invokevirtual 201, 3, [2, 75, 2, 0, 0, 819, 0, 2])
  | 114 => some (.aload_n 0, 1, [])
  | 115 => some (.getfield 16, 3, [1, 9, 1, 2, 0, 268])
  | 118 => some (.getfield 75, 3, [1, 6, 0, 2, 1, 138])
  | 121 => some (.getfield 121, 3, [1, 7, 3, 2, 1, 53])
  | 124 => some (.iload 7, 2, [])
  | 126 => some (.iload 8, 2, [])
  | 128 => some (.invokestatic 233, 3, [2, 44, 0, 9, 0, 652, 0, 0, 2])
  | 131 => some (.aload_n 0, 1, [])
  | 132 => some (.getfield 61, 3, [1, 9, 8, 2, 0, 275])
  | 135 => some (.iload_n 2, 1, [])
  | 136 => some (.invokevirtual 205, 3, [2, 135, 2, 0, 0, 851, 0])
  | 139 => some (.lload 4, 2, [])
  | 141 => some (.lcmp, 1, [])
  | 142 => some (.ifCond .le 16, 3, [158])
  | 145 => some (.aload_n 0, 1, [])
  | 146 => some (.getfield 61, 3, [1, 9, 8, 2, 0, 275])
  | 149 => some (.iload_n 2, 1, [])
  | 150 => some (.invokevirtual 205, 3, [2, 135, 2, 0, 0, 851, 0])
  | 153 => some (.lstore 4, 2, [])
  | 155 => some (.iload 6, 2, [])
  | 157 => some (.istore_n 3, 1, [])
  | 158 => some (.iinc 6 1, 3, [1])
  | 161 => some (.goto (-132), 3, [29])
  | 164 => some (.iload_n 3, 1, [])
  | 165 => some (.ireturn, 1, [0])
  | _ => none
def dec143 (pc : Nat) : Option (ClassFile.Instr × Nat × List Nat) := if pc < 103 then dec143_0 pc else if pc < 166 then dec143_1 pc else none
def dec144 (pc : Nat) : Option (ClassFile.Instr × Nat × List Nat) := match pc with
  | 0 => some (.aload_n 0, 1, [])
  | 1 => some (.iload_n 1, 1, [])
  | 2 => some (.invokevirtual 92, 3, [2, 145, 2, 9, 0, 896, 0])
  | 5 => some (.istore_n 2, 1, [])
  | 6 => some (.goto 11, 3, [17])
  | 9 => some (.astore_n 3, 1, [])
  | 10 => some (.ldc 20, 2, [8, 4289967295, 498])
  | 12 => some (.ireturn, 1, [0])
  | 13 => some (.astore_n 3, 1, [])
  | 14 => some (.ldc 27, 2, [8, 4289967294, 420])
  | 16 => some (.ireturn, 1, [0])
  | 17 => some (.iload_n 2, 1, [])
  | 18 => some (.ireturn, 1, [0])
  | _ => none
def dec145 (pc : Nat) : Option (ClassFile.Instr × Nat × List Nat) := match pc with
  | 0 => some (.iload_n 1, 1, [])
  | 1 => some (.iconst 0, 1, [0])
  | 2 => some (.bipush 127, 2, [127])
  | 4 => some (.invokestatic 68, 3, [2, 87, 0, 9, 0, 434, 0, 0, 0])
  | 7 => some (.aload_n 0, 1, [])
  | 8 => some (.getfield 29, 3, [1, 9, 3, 2, 0, 270])
  | 11 => some (.getfield 240, 3, [1, 8, 1, 0, 1, 183])
  | 14 => some (.sipush 160, 3, [160])
  | 17 => some (.if_icmp .lt 13, 3, [30])
  | 20 => some (.new 104, 3, [6, 2, 311])
  | 23 => some (.dup, 1, [])
  | 24 => some (.ldc 243, 2, [])
  | 26 => some (.invokespecial 108, 3, [])
  | 29 => some (.athrow, 1, [])
  | 30 => some (.aload_n 0, 1, [])
  | 31 => some (.getfield 29, 3, [1, 9, 3, 2, 0, 270])
  | 34 => some (.iload_n 1, 1, [])
  | 35 => some (.invokevirtual 245, 3, [2, 146, 2, 8, 0, 901, 0])
  | 38 => some (.ireturn, 1, [0])
  | _ => none
def dec146 (pc : Nat) : Option (ClassFile.Instr × Nat × List Nat) := match pc with
  | 0 => some (.aload_n 0, 1, [])
  | 1 => some (.getfield 15, 3, [1, 8, 1, 0, 0, 182])
  | 4 => some (.ifCond .lt 36, 3, [40])
  | 7 => some (.aload_n 0, 1, [])
  | 8 => some (.getfield 15, 3, [1, 8, 1, 0, 0, 182])
  | 11 => some (.aload_n 0, 1, [])
  | 12 => some (.getfield 9, 3, [1, 8, 0, 2, 0, 181])
  | 15 => some (.arraylength, 1, [])
  | 16 => some (.if_icmp .ge 24, 3, [40])
  | 19 => some (.aload_n 0, 1, [])
  | 20 => some (.getfield 9, 3, [1, 8, 0, 2, 0, 181])
  | 23 => some (.aload_n 0, 1, [])
  | 24 => some (.getfield 15, 3, [1, 8, 1, 0, 0, 182])
  | 27 => some (.iload_n 1, 1, [])
  | 28 => some (.i2b, 1, [])
  | 29 => some (.bastore, 1, [])
  | 30 => some (.aload_n 0, 1, [])
  | 31 => some (.dup, 1, [])
  | 32 => some (.getfield 15, 3, [1, 8, 1, 0, 0, 182])
  | 35 => some (.iconst 1, 1, [1])
  | 36 => some (.iadd, 1, [])
  | 37 => some (.putfield 15, 3, [1, 8, 1, 0, 0, 182])
  | 40 => some (.aload_n 0, 1, [])
  | 41 => some (.getfield 15, 3, [1, 8, 1, 0, 0, 182])
  | 44 => some (.ireturn, 1, [0])
  | _ => none
def dec147 (pc : Nat) : Option (ClassFile.Instr × Nat × List Nat) := match pc with
  | 0 => some (.aload_n 0, 1, [])
  | 1 => some (.invokevirtual 95, 3, [2, 148, 2, 9, 0, 307])
  | 4 => some (.istore_n 1, 1, [])
  | 5 => some (.goto 7, 3, [12])
  | 8 => some (.astore_n 2, 1, [])
  | 9 => some (.ldc 27, 2, [8, 4289967294, 420])
  | 11 => some (.ireturn, 1, [0])
  | 12 => some (.iload_n 1, 1, [])
  | 13 => some (.ireturn, 1, [0])
  | _ => none
def dec148 (pc : Nat) : Option (ClassFile.Instr × Nat × List Nat) := match pc with
  | 0 => some (.aload_n 0, 1, [])
  | 1 => some (.getfield 22, 3, [1, 9, 2, 2, 0, 269])
  | 4 => some (.getfield 258, 3, [1, 5, 2, 0, 1, 167])
  | 7 => some (.ifCond .gt 14, 3, [21])
  | 10 => some (.new 104, 3, [6, 2, 311])
  | 13 => some (.dup, 1, [])
  | 14 => some (.ldc_w 261, 3, [])
  | 17 => some (.invokespecial 108, 3, [])
  | 20 => some (.athrow, 1, [])
  | 21 => some (.aload_n 0, 1, [])
  | 22 => some (.getfield 22, 3, [1, 9, 2, 2, 0, 269])
  | 25 => some (.aload_n 0, 1, [])
  | 26 => some (.getfield 12, 3, [1, 9, 0, 2, 0, 267])
  | 29 => some (.invokevirtual 263, 3, [2, 149, 2, 5, 0, 378, 2])
  | 32 => some (.aload_n 0, 1, [])
  | 33 => some (.getfield 57, 3, [1, 9, 7, 2, 0, 274])
  | 36 => some (.invokevirtual 237, 3, [2, 21, 2, 0, 0, 416])
  | 39 => some (.aload_n 0, 1, [])
  | 40 => some (.getfield 22, 3, [1, 9, 2, 2, 0, 269])
  | 43 => some (.getfield 258, 3, [1, 5, 2, 0, 1, 167])
  | 46 => some (.ireturn, 1, [0])
  | _ => none
def dec149 (pc : Nat) : Option (ClassFile.Instr × Nat × List Nat) := match pc with
  | 0 => some (.aload_n 0, 1, [])
  | 1 => some (.aload_n 0, 1, [])
  | 2 => some (.getfield 18, 3, [1, 5, 2, 0, 0, 166])
  | 5 => some (.iconst 1, 1, [1])
  | 6 => some (.isub, 1, [])
  | 7 => some (.invokevirtual 22, 3, [2, 13, 2, 5, 0, 382, 0])
  | 10 => some (.astore_n 2, 1, [])
  | 11 => some (.aload_n 2, 1, [])
  | 12 => some (.ifnull 8, 3, [20])
  | 15 => some (.aload_n 1, 1, [])
  | 16 => some (.aload_n 2, 1, [])
  | 17 => some (.invokevirtual 26, 3, [2, 15, 2, 6, 0, 389, 2])
  | 20 => some (.aload_n 0, 1, [])
  | 21 => some (.dup, 1, [])
  | 22 => some (.getfield 18, 3, [1, 5, 2, 0, 0, 166])
  | 25 => some (.iconst 1, 1, [1])
  | 26 => some (.isub, 1, [])
  | 27 => some (.putfield 18, 3, [1, 5, 2, 0, 0, 166])
  | 30 => some (.return_, 1, [])
  | _ => none
def dec150 (pc : Nat) : Option (ClassFile.Instr × Nat × List Nat) := match pc with
  | 0 => some (.iload_n 1, 1, [])
  | 1 => some (.aload_n 0, 1, [])
  | 2 => some (.arraylength, 1, [])
  | 3 => some (.if_icmp .ge 9, 3, [12])
  | 6 => some (.aload_n 0, 1, [])
  | 7 => some (.iload_n 1, 1, [])
  | 8 => some (.iaload, 1, [])
  | 9 => some (.goto 9, 3, [18])
  | 12 => some (.ldc 7, 2, [8, 916318735, 298])
  | 14 => some (.iload_n 1, 1, [])
  | 15 => some (.iconst 3, 1, [3])
  | 16 => some (.iadd, 1, [])
  | 17 => some (.imul, 1, [])
  | 18 => some (.istore_n 2, 1, [])
  | 19 => some (.iload_n 2, 1, [])
  | 20 => some (.iload_n 2, 1, [])
  | 21 => some (.bipush 15, 2, [15])
  | 23 => some (.iushr, 1, [])
  | 24 => some (.ixor, 1, [])
  | 25 => some (.ireturn, 1, [0])
  | _ => none
def dec151 (pc : Nat) : Option (ClassFile.Instr × Nat × List Nat) := match pc with
  | 0 => some (.iload_n 0, 1, [])
  | 1 => some (.ldc 8, 2, [8, 2147483647, 302])
  | 3 => some (.iand, 1, [])
  | 4 => some (.iload_n 1, 1, [])
  | 5 => some (.irem, 1, [])
  | 6 => some (.ireturn, 1, [0])
  | _ => none
def dec152_0 (pc : Nat) : Option (ClassFile.Instr × Nat × List Nat) := match pc with
  | 0 => some (.ldc2_w 99, 3, [9, 97, 424])
  | 3 => some (.lstore_n 1, 1, [])
  | 4 => some (.iconst 0, 1, [0])
  | 5 => some (.istore_n 3, 1, [])
  | 6 => some (.iload_n 3, 1, [])
  | 7 => some (.bipush 8, 2, [8])
  | 9 => some (.if_icmp .ge 22, 3, [31])
  | 12 => some (.ldc2_w 101, 3, [9, 31, 425])
  | 15 => some (.lload_n 1, 1, [])
  | 16 => some (.lmul, 1, [])
  | 17 => some (.aload_n 0, 1, [])
  | 18 => some (.iload_n 3, 1, [])
  | 19 => some (.invokestatic 103, 3, [2, 111, 0, 14, 0, 426, 0, 2])
  | 22 => some (.i2l, 1, [])
  | 23 => some (.ladd, 1, [])
  | 24 => some (.lstore_n 1, 1, [])
  | 25 => some (.iinc 3 1, 3, [1])
  | 28 => some (.goto (-22), 3, [6])
  | 31 => some (.iconst 0, 1, [0])
  | 32 => some (.istore_n 3, 1, [])
  | 33 => some (.iload_n 3, 1, [])
  | 34 => some (.iconst 3, 1, [3])
  | 35 => some (.if_icmp .ge 118, 3, [153])
  | 38 => some (.iconst 0, 1, [0])
  | 39 => some (.istore 4, 2, [])
  | 41 => some (.iload 4, 2, [])
  | 43 => some (.iconst 4, 1, [4])
  | 44 => some (.if_icmp .ge 24, 3, [68])
  | 47 => some (.ldc2_w 101, 3, [9, 31, 425])
  | 50 => some (.lload_n 1, 1, [])
  | 51 => some (.lmul, 1, [])
  | 52 => some (.aload_n 0, 1, [])
  | 53 => some (.iload_n 3, 1, [])
  | 54 => some (.iload 4, 2, [])
  | 56 => some (.invokestatic 108, 3, [2, 100, 0, 14, 0, 499, 0, 0, 2])
  | 59 => some (.i2l, 1, [])
  | 60 => some (.ladd, 1, [])
  | 61 => some (.lstore_n 1, 1, [])
  | 62 => some (.iinc 4 1, 3, [1])
  | 65 => some (.goto (-24), 3, [41])
  | 68 => some (.iconst 0, 1, [0])
  | 69 => some (.istore 4, 2, [])
  | 71 => some (.iload 4, 2, [])
  | 73 => some (.bipush 6, 2, [6])
  | 75 => some (.if_icmp .ge 42, 3, [117])
  | 78 => some (.iconst 0, 1, [0])
  | 79 => some (.istore 5, 2, [])
  | 81 => some (.iload 5, 2, [])
  | _ => none
def dec152_1 (pc : Nat) : Option (ClassFile.Instr × Nat × List Nat) := match pc with
  | 83 => some (.bipush 8, 2, [8])
  | 85 => some (.if_icmp .ge 26, 3, [111])
  | 88 => some (.ldc2_w 101, 3, [9, 31, 425])
  | 91 => some (.lload_n 1, 1, [])
  | 92 => some (.lmul, 1, [])
  | 93 => some (.aload_n 0, 1, [])
  | 94 => some (.iload_n 3, 1, [])
  | 95 => some (.iload 4, 2, [])
  | 97 => some (.iload 5, 2, [])
  | 99 => some (.invokestatic 111, 3, [2, 98, 0, 14, 0, 583, 0, 0, 0, 2])
  | 102 => some (.i2l, 1, [])
  | 103 => some (.ladd, 1, [])
  | 104 => some (.lstore_n 1, 1, [])
  | 105 => some (.iinc 5 1, 3, [1])
  | 108 => some (.goto (-27), 3, [81])
  | 111 => some (.iinc 4 1, 3, [1])
  | 114 => some (.goto (-43), 3, [71])
  | 117 => some (.ldc2_w 101, 3, [9, 31, 425])
  | 120 => some (.ldc2_w 101, 3, [9, 31, 425])
  | 123 => some (.lload_n 1, 1, [])
  | 124 => some (.lmul, 1, [])
  | 125 => some (.aload_n 0, 1, [])
  | 126 => some (.iconst 1, 1, [1])
  | 127 => some (.iload_n 3, 1, [])
  | 128 => some (.iadd, 1, [])
  | 129 => some (.iconst 0, 1, [0])
  | 130 => some (.invokestatic 114, 3, [2, 109, 0, 14, 0, 606, 0, 0, 2])
  | 133 => some (.i2l, 1, [])
  | 134 => some (.ladd, 1, [])
  | 135 => some (.lmul, 1, [])
  | 136 => some (.aload_n 0, 1, [])
  | 137 => some (.iconst 1, 1, [1])
  | 138 => some (.iload_n 3, 1, [])
  | 139 => some (.iadd, 1, [])
  | 140 => some (.iconst 1, 1, [1])
  | 141 => some (.invokestatic 114, 3, [2, 109, 0, 14, 0, 606, 0, 0, 2])
  | 144 => some (.i2l, 1, [])
  | 145 => some (.ladd, 1, [])
  | 146 => some (.lstore_n 1, 1, [])
  | 147 => some (.iinc 3 1, 3, [1])
  | 150 => some (.goto (-117), 3, [33])
  | 153 => some (.iconst 0, 1, [0])
  | 154 => some (.istore_n 3, 1, [])
  | 155 => some (.iload_n 3, 1, [])
  | 156 => some (.bipush 20, 2, [20])
  | 158 => some (.if_icmp .ge 47, 3, [205])
  | 161 => some (.ldc2_w 101, 3, [9, 31, 425])
  | 164 => some (.ldc2_w 101, 3, [9, 31, 425])
  | _ => none
def dec152_2 (pc : Nat) : Option (ClassFile.Instr × Nat × List Nat) := match pc with
  | 167 => some (.ldc2_w 101, 3, [9, 31, 425])
  | 170 => some (.lload_n 1, 1, [])
  | 171 => some (.lmul, 1, [])
  | 172 => some (.aload_n 0, 1, [])
  | 173 => some (.iload_n 3, 1, [])
  | 174 => some (.iconst 0, 1, [0])
  | 175 => some (.invokestatic 117, 3, [2, 125, 0, 14, 0, 617, 0, 0, 2])
  | 178 => some (.i2l, 1, [])
  | 179 => some (.ladd, 1, [])
  | 180 => some (.lmul, 1, [])
  | 181 => some (.aload_n 0, 1, [])
  | 182 => some (.iload_n 3, 1, [])
  | 183 => some (.iconst 1, 1, [1])
  | 184 => some (.invokestatic 117, 3, [2, 125, 0, 14, 0, 617, 0, 0, 2])
  | 187 => some (.i2l, 1, [])
  | 188 => some (.ladd, 1, [])
  | 189 => some (.lmul, 1, [])
  | 190 => some (.aload_n 0, 1, [])
  | 191 => some (.iload_n 3, 1, [])
  | 192 => some (.iconst 2, 1, [2])
  | 193 => some (.invokestatic 117, 3, [2, 125, 0, 14, 0, 617, 0, 0, 2])
  | 196 => some (.i2l, 1, [])
  | 197 => some (.ladd, 1, [])
  | 198 => some (.lstore_n 1, 1, [])
  | 199 => some (.iinc 3 1, 3, [1])
  | 202 => some (.goto (-47), 3, [155])
  | 205 => some (.lload_n 1, 1, [])
  | 206 => some (.lreturn, 1, [])
  | _ => none
def dec152 (pc : Nat) : Option (ClassFile.Instr × Nat × List Nat) := if pc < 82 then dec152_0 pc else if pc < 165 then dec152_1 pc else if pc < 207 then dec152_2 pc else none
def dec153_0 (pc : Nat) : Option (ClassFile.Instr × Nat × List Nat) := match pc with
  | 0 => some (.aload_n 0, 1, [])
  | 1 => some (.invokestatic 119, 3, [2, 152, 0, 14, 0, 421, 2])
  | 4 => some (.lstore_n 1, 1, [])
  | 5 => some (.aload_n 0, 1, [])
  | 6 => some (.iconst (-1), 1, [4294967295])
  | 7 => some (.iconst 1, 1, [1])
  | 8 => some (.invokestatic 123, 3, [2, 84, 0, 14, 0, 634, 0, 0, 2])
  | 11 => some (.ldc 17, 2, [8, 4289967293, 582])
  | 13 => some (.if_icmp .ne 192, 3, [205])
  | 16 => some (.aload_n 0, 1, [])
  | 17 => some (.iconst 0, 1, [0])
  | 18 => some (.iconst 3, 1, [3])
  | 19 => some (.invokestatic 123, 3, [2, 84, 0, 14, 0, 634, 0, 0, 2])
  | 22 => some (.ldc 20, 2, [8, 4289967295, 498])
  | 24 => some (.if_icmp .ne 181, 3, [205])
  | 27 => some (.aload_n 0, 1, [])
  | 28 => some (.iconst 5, 1, [5])
  | 29 => some (.iconst 0, 1, [0])
  | 30 => some (.iconst 1, 1, [1])
  | 31 => some (.iconst 0, 1, [0])
  | 32 => some (.iconst 0, 1, [0])
  | 33 => some (.iconst 0, 1, [0])
  | 34 => some (.invokestatic 125, 3, [2, 89, 0, 14, 0, 655, 0, 0, 0, 0, 0, 0, 2])
  | 37 => some (.ldc 17, 2, [8, 4289967293, 582])
  | 39 => some (.if_icmp .ne 166, 3, [205])
  | 42 => some (.aload_n 0, 1, [])
  | 43 => some (.iconst 1, 1, [1])
  | 44 => some (.bipush 17, 2, [17])
  | 46 => some (.iconst 1, 1, [1])
  | 47 => some (.iconst 0, 1, [0])
  | 48 => some (.iconst 0, 1, [0])
  | 49 => some (.iconst 1, 1, [1])
  | 50 => some (.invokestatic 125, 3, [2, 89, 0, 14, 0, 655, 0, 0, 0, 0, 0, 0, 2])
  | 53 => some (.ldc 20, 2, [8, 4289967295, 498])
  | 55 => some (.if_icmp .ne 150, 3, [205])
  | 58 => some (.aload_n 0, 1, [])
  | 59 => some (.iconst 0, 1, [0])
  | 60 => some (.iconst 0, 1, [0])
  | 61 => some (.iconst 1, 1, [1])
  | 62 => some (.iconst (-1), 1, [4294967295])
  | 63 => some (.iconst 0, 1, [0])
  | 64 => some (.iconst 1, 1, [1])
  | 65 => some (.invokestatic 125, 3, [2, 89, 0, 14, 0, 655, 0, 0, 0, 0, 0, 0, 2])
  | 68 => some (.ldc 20, 2, [8, 4289967295, 498])
  | 70 => some (.if_icmp .ne 135, 3, [205])
  | 73 => some (.aload_n 0, 1, [])
  | 74 => some (.iconst 0, 1, [0])
  | 75 => some (.bipush 6, 2, [6])
  | _ => none
def dec153_1 (pc : Nat) : Option (ClassFile.Instr × Nat × List Nat) := match pc with
  | 77 => some (.invokestatic 128, 3, [2, 91, 0, 14, 0, 677, 0, 0, 2])
  | 80 => some (.ldc 17, 2, [8, 4289967293, 582])
  | 82 => some (.if_icmp .ne 123, 3, [205])
  | 85 => some (.aload_n 0, 1, [])
  | 86 => some (.iconst 3, 1, [3])
  | 87 => some (.iconst 0, 1, [0])
  | 88 => some (.invokestatic 128, 3, [2, 91, 0, 14, 0, 677, 0, 0, 2])
  | 91 => some (.ldc 17, 2, [8, 4289967293, 582])
  | 93 => some (.if_icmp .ne 112, 3, [205])
  | 96 => some (.aload_n 0, 1, [])
  | 97 => some (.iconst 1, 1, [1])
  | 98 => some (.iconst (-1), 1, [4294967295])
  | 99 => some (.iconst 1, 1, [1])
  | 100 => some (.invokestatic 130, 3, [2, 96, 0, 14, 0, 692, 0, 0, 0, 2])
  | 103 => some (.ldc 17, 2, [8, 4289967293, 582])
  | 105 => some (.if_icmp .ne 100, 3, [205])
  | 108 => some (.aload_n 0, 1, [])
  | 109 => some (.iconst 0, 1, [0])
  | 110 => some (.bipush 6, 2, [6])
  | 112 => some (.iconst 0, 1, [0])
  | 113 => some (.invokestatic 111, 3, [2, 98, 0, 14, 0, 583, 0, 0, 0, 2])
  | 116 => some (.ldc 17, 2, [8, 4289967293, 582])
  | 118 => some (.if_icmp .ne 87, 3, [205])
  | 121 => some (.aload_n 0, 1, [])
  | 122 => some (.iconst 0, 1, [0])
  | 123 => some (.iconst (-1), 1, [4294967295])
  | 124 => some (.invokestatic 108, 3, [2, 100, 0, 14, 0, 499, 0, 0, 2])
  | 127 => some (.ldc 20, 2, [8, 4289967295, 498])
  | 129 => some (.if_icmp .ne 76, 3, [205])
  | 132 => some (.aload_n 0, 1, [])
  | 133 => some (.iconst 0, 1, [0])
  | 134 => some (.iconst 0, 1, [0])
  | 135 => some (.invokestatic 132, 3, [2, 102, 0, 14, 0, 699, 0, 0, 2])
  | 138 => some (.ldc 17, 2, [8, 4289967293, 582])
  | 140 => some (.if_icmp .ne 65, 3, [205])
  | 143 => some (.aload_n 0, 1, [])
  | 144 => some (.iconst 2, 1, [2])
  | 145 => some (.sipush 201, 3, [201])
  | 148 => some (.invokestatic 132, 3, [2, 102, 0, 14, 0, 699, 0, 0, 2])
  | 151 => some (.ldc 20, 2, [8, 4289967295, 498])
  | 153 => some (.if_icmp .ne 52, 3, [205])
  | 156 => some (.aload_n 0, 1, [])
  | 157 => some (.iconst 4, 1, [4])
  | 158 => some (.iconst 0, 1, [0])
  | 159 => some (.invokestatic 134, 3, [2, 105, 0, 14, 0, 706, 0, 0, 2])
  | 162 => some (.ldc 17, 2, [8, 4289967293, 582])
  | 164 => some (.if_icmp .ne 41, 3, [205])
  | 167 => some (.aload_n 0, 1, [])
  | _ => none
def dec153_2 (pc : Nat) : Option (ClassFile.Instr × Nat × List Nat) := match pc with
  | 168 => some (.iconst 1, 1, [1])
  | 169 => some (.iconst (-1), 1, [4294967295])
  | 170 => some (.invokestatic 134, 3, [2, 105, 0, 14, 0, 706, 0, 0, 2])
  | 173 => some (.ldc 20, 2, [8, 4289967295, 498])
  | 175 => some (.if_icmp .ne 30, 3, [205])
  | 178 => some (.aload_n 0, 1, [])
  | 179 => some (.bipush 51, 2, [51])
  | 181 => some (.iconst 0, 1, [0])
  | 182 => some (.invokestatic 136, 3, [2, 107, 0, 14, 0, 713, 0, 0, 2])
  | 185 => some (.ldc 20, 2, [8, 4289967295, 498])
  | 187 => some (.if_icmp .ne 18, 3, [205])
  | 190 => some (.aload_n 0, 1, [])
  | 191 => some (.iconst (-1), 1, [4294967295])
  | 192 => some (.iconst 1, 1, [1])
  | 193 => some (.invokestatic 114, 3, [2, 109, 0, 14, 0, 606, 0, 0, 2])
  | 196 => some (.ldc 17, 2, [8, 4289967293, 582])
  | 198 => some (.if_icmp .ne 7, 3, [205])
  | 201 => some (.iconst 1, 1, [1])
  | 202 => some (.goto 4, 3, [206])
  | 205 => some (.iconst 0, 1, [0])
  | 206 => some (.istore_n 3, 1, [])
  | 207 => some (.iload_n 3, 1, [])
  | 208 => some (.ifCond .eq 203, 3, [411])
  | 211 => some (.aload_n 0, 1, [])
  | 212 => some (.bipush 8, 2, [8])
  | 214 => some (.invokestatic 103, 3, [2, 111, 0, 14, 0, 426, 0, 2])
  | 217 => some (.ldc 20, 2, [8, 4289967295, 498])
  | 219 => some (.if_icmp .ne 192, 3, [411])
  | 222 => some (.aload_n 0, 1, [])
  | 223 => some (.iconst (-1), 1, [4294967295])
  | 224 => some (.invokestatic 138, 3, [2, 113, 0, 14, 0, 721, 0, 2])
  | 227 => some (.ldc 17, 2, [8, 4289967293, 582])
  | 229 => some (.if_icmp .ne 182, 3, [411])
  | 232 => some (.aload_n 0, 1, [])
  | 233 => some (.iconst 0, 1, [0])
  | 234 => some (.iconst (-1), 1, [4294967295])
  | 235 => some (.invokestatic 140, 3, [2, 123, 0, 14, 0, 784, 0, 0, 2])
  | 238 => some (.ldc 20, 2, [8, 4289967295, 498])
  | 240 => some (.if_icmp .ne 171, 3, [411])
  | 243 => some (.aload_n 0, 1, [])
  | 244 => some (.iconst (-1), 1, [4294967295])
  | 245 => some (.iconst 0, 1, [0])
  | 246 => some (.invokestatic 117, 3, [2, 125, 0, 14, 0, 617, 0, 0, 2])
  | 249 => some (.ldc 20, 2, [8, 4289967295, 498])
  | 251 => some (.if_icmp .ne 160, 3, [411])
  | 254 => some (.aload_n 0, 1, [])
  | 255 => some (.iconst 0, 1, [0])
  | 256 => some (.iconst (-1), 1, [4294967295])
  | _ => none
def dec153_3 (pc : Nat) : Option (ClassFile.Instr × Nat × List Nat) := match pc with
  | 257 => some (.invokestatic 117, 3, [2, 125, 0, 14, 0, 617, 0, 0, 2])
  | 260 => some (.ldc 20, 2, [8, 4289967295, 498])
  | 262 => some (.if_icmp .ne 149, 3, [411])
  | 265 => some (.aload_n 0, 1, [])
  | 266 => some (.iconst (-1), 1, [4294967295])
  | 267 => some (.invokestatic 142, 3, [2, 127, 0, 14, 0, 791, 0, 2])
  | 270 => some (.ldc 17, 2, [8, 4289967293, 582])
  | 272 => some (.if_icmp .ne 139, 3, [411])
  | 275 => some (.aload_n 0, 1, [])
  | 276 => some (.iconst 0, 1, [0])
  | 277 => some (.bipush 6, 2, [6])
  | 279 => some (.iconst 0, 1, [0])
  | 280 => some (.invokestatic 144, 3, [2, 130, 0, 14, 0, 802, 0, 0, 0, 2])
  | 283 => some (.ldc 17, 2, [8, 4289967293, 582])
  | 285 => some (.if_icmp .ne 126, 3, [411])
  | 288 => some (.aload_n 0, 1, [])
  | 289 => some (.iconst 3, 1, [3])
  | 290 => some (.iconst 0, 1, [0])
  | 291 => some (.invokestatic 147, 3, [2, 133, 0, 14, 0, 812, 0, 0, 2])
  | 294 => some (.ldc 17, 2, [8, 4289967293, 582])
  | 296 => some (.if_icmp .ne 115, 3, [411])
  | 299 => some (.aload_n 0, 1, [])
  | 300 => some (.iconst 0, 1, [0])
  | 301 => some (.iconst 4, 1, [4])
  | 302 => some (.invokestatic 149, 3, [2, 136, 0, 14, 0, 858, 0, 0, 2])
  | 305 => some (.ldc 20, 2, [8, 4289967295, 498])
  | 307 => some (.if_icmp .ne 104, 3, [411])
  | 310 => some (.aload_n 0, 1, [])
  | 311 => some (.iconst 3, 1, [3])
  | 312 => some (.invokestatic 151, 3, [2, 138, 0, 14, 0, 869, 0, 2])
  | 315 => some (.ldc2_w 84, 3, [9, 18446744073704551613, 876])
  | 318 => some (.lcmp, 1, [])
  | 319 => some (.ifCond .ne 92, 3, [411])
  | 322 => some (.aload_n 0, 1, [])
  | 323 => some (.iconst 0, 1, [0])
  | 324 => some (.bipush 16, 2, [16])
  | 326 => some (.invokestatic 154, 3, [2, 140, 0, 14, 0, 877, 0, 0, 2])
  | 329 => some (.ldc 17, 2, [8, 4289967293, 582])
  | 331 => some (.if_icmp .ne 80, 3, [411])
  | 334 => some (.aload_n 0, 1, [])
  | 335 => some (.iconst 3, 1, [3])
  | 336 => some (.iconst 0, 1, [0])
  | 337 => some (.invokestatic 156, 3, [2, 142, 0, 14, 0, 885, 0, 0, 2])
  | 340 => some (.ldc 17, 2, [8, 4289967293, 582])
  | 342 => some (.if_icmp .ne 69, 3, [411])
  | 345 => some (.aload_n 0, 1, [])
  | 346 => some (.sipush 130, 3, [130])
  | 349 => some (.invokestatic 158, 3, [2, 144, 0, 14, 0, 893, 0, 2])
  | _ => none
def dec153_4 (pc : Nat) : Option (ClassFile.Instr × Nat × List Nat) := match pc with
  | 352 => some (.ldc 20, 2, [8, 4289967295, 498])
  | 354 => some (.if_icmp .ne 57, 3, [411])
  | 357 => some (.aload_n 0, 1, [])
  | 358 => some (.iconst 0, 1, [0])
  | 359 => some (.iconst 1, 1, [1])
  | 360 => some (.invokestatic 108, 3, [2, 100, 0, 14, 0, 499, 0, 0, 2])
  | 363 => some (.bipush 6, 2, [6])
  | 365 => some (.if_icmp .lt 33, 3, [398])
  | 368 => some (.aload_n 0, 1, [])
  | 369 => some (.iconst 0, 1, [0])
  | 370 => some (.iconst 0, 1, [0])
  | 371 => some (.iconst 1, 1, [1])
  | 372 => some (.iconst 0, 1, [0])
  | 373 => some (.iconst 0, 1, [0])
  | 374 => some (.iconst 0, 1, [0])
  | 375 => some (.invokestatic 125, 3, [2, 89, 0, 14, 0, 655, 0, 0, 0, 0, 0, 0, 2])
  | 378 => some (.ldc 27, 2, [8, 4289967294, 420])
  | 380 => some (.if_icmp .ne 31, 3, [411])
  | 383 => some (.aload_n 0, 1, [])
  | 384 => some (.iconst 0, 1, [0])
  | 385 => some (.iconst 0, 1, [0])
  | 386 => some (.iconst 0, 1, [0])
  | 387 => some (.iconst 0, 1, [0])
  | 388 => some (.iconst 0, 1, [0])
  | 389 => some (.iconst 0, 1, [0])
  | 390 => some (.invokestatic 125, 3, [2, 89, 0, 14, 0, 655, 0, 0, 0, 0, 0, 0, 2])
  | 393 => some (.ldc 20, 2, [8, 4289967295, 498])
  | 395 => some (.if_icmp .ne 16, 3, [411])
  | 398 => some (.aload_n 0, 1, [])
  | 399 => some (.invokestatic 119, 3, [2, 152, 0, 14, 0, 421, 2])
  | 402 => some (.lload_n 1, 1, [])
  | 403 => some (.lcmp, 1, [])
  | 404 => some (.ifCond .ne 7, 3, [411])
  | 407 => some (.iconst 1, 1, [1])
  | 408 => some (.goto 4, 3, [412])
  | 411 => some (.iconst 0, 1, [0])
  | 412 => some (.ireturn, 1, [1])
  | _ => none
def dec153 (pc : Nat) : Option (ClassFile.Instr × Nat × List Nat) := if pc < 76 then dec153_0 pc else if pc < 168 then dec153_1 pc else if pc < 257 then dec153_2 pc else if pc < 350 then dec153_3 pc else if pc < 413 then dec153_4 pc else none
def dec154_0 (pc : Nat) : Option (ClassFile.Instr × Nat × List Nat) := match pc with
  | 0 => some (.iconst 0, 1, [0])
  | 1 => some (.istore_n 1, 1, [])
  | 2 => some (.iconst 0, 1, [0])
  | 3 => some (.istore_n 2, 1, [])
  | 4 => some (.iconst 1, 1, [1])
  | 5 => some (.istore_n 3, 1, [])
  | 6 => some (.iconst 0, 1, [0])
  | 7 => some (.istore 4, 2, [])
  | 9 => some (.iload 4, 2, [])
  | 11 => some (.iconst 3, 1, [3])
  | 12 => some (.if_icmp .ge 469, 3, [481])
  | 15 => some (.iload_n 3, 1, [])
  | 16 => some (.ifCond .eq 465, 3, [481])
  | 19 => some (.iconst 0, 1, [0])
  | 20 => some (.istore 5, 2, [])
  | 22 => some (.aload_n 0, 1, [])
  | 23 => some (.iload 4, 2, [])
  | 25 => some (.iconst 1, 1, [1])
  | 26 => some (.invokestatic 108, 3, [2, 100, 0, 14, 0, 499, 0, 0, 2])
  | 29 => some (.istore 6, 2, [])
  | 31 => some (.aload_n 0, 1, [])
  | 32 => some (.iload 4, 2, [])
  | 34 => some (.iconst 2, 1, [2])
  | 35 => some (.invokestatic 108, 3, [2, 100, 0, 14, 0, 499, 0, 0, 2])
  | 38 => some (.istore 7, 2, [])
  | 40 => some (.iload_n 1, 1, [])
  | 41 => some (.iload 6, 2, [])
  | 43 => some (.iadd, 1, [])
  | 44 => some (.istore_n 1, 1, [])
  | 45 => some (.iconst 0, 1, [0])
  | 46 => some (.istore 8, 2, [])
  | 48 => some (.iload 8, 2, [])
  | 50 => some (.iload 6, 2, [])
  | 52 => some (.if_icmp .ge 341, 3, [393])
  | 55 => some (.iload_n 3, 1, [])
  | 56 => some (.ifCond .eq 337, 3, [393])
  | 59 => some (.aload_n 0, 1, [])
  | 60 => some (.iload 4, 2, [])
  | 62 => some (.iload 8, 2, [])
  | 64 => some (.bipush 7, 2, [7])
  | 66 => some (.invokestatic 111, 3, [2, 98, 0, 14, 0, 583, 0, 0, 0, 2])
  | 69 => some (.istore 9, 2, [])
  | 71 => some (.aload_n 0, 1, [])
  | 72 => some (.iload 4, 2, [])
  | 74 => some (.iload 8, 2, [])
  | 76 => some (.iconst 2, 1, [2])
  | 77 => some (.invokestatic 111, 3, [2, 98, 0, 14, 0, 583, 0, 0, 0, 2])
  | 80 => some (.istore 10, 2, [])
  | _ => none
def dec154_1 (pc : Nat) : Option (ClassFile.Instr × Nat × List Nat) := match pc with
  | 82 => some (.aload_n 0, 1, [])
  | 83 => some (.iload 4, 2, [])
  | 85 => some (.iload 8, 2, [])
  | 87 => some (.iconst 0, 1, [0])
  | 88 => some (.invokestatic 144, 3, [2, 130, 0, 14, 0, 802, 0, 0, 0, 2])
  | 91 => some (.istore 11, 2, [])
  | 93 => some (.aload_n 0, 1, [])
  | 94 => some (.iload 4, 2, [])
  | 96 => some (.iload 8, 2, [])
  | 98 => some (.iconst 1, 1, [1])
  | 99 => some (.invokestatic 144, 3, [2, 130, 0, 14, 0, 802, 0, 0, 0, 2])
  | 102 => some (.istore 12, 2, [])
  | 104 => some (.iload_n 2, 1, [])
  | 105 => some (.aload_n 0, 1, [])
  | 106 => some (.iload 4, 2, [])
  | 108 => some (.iload 8, 2, [])
  | 110 => some (.iconst 5, 1, [5])
  | 111 => some (.invokestatic 111, 3, [2, 98, 0, 14, 0, 583, 0, 0, 0, 2])
  | 114 => some (.iadd, 1, [])
  | 115 => some (.istore_n 2, 1, [])
  | 116 => some (.iload 5, 2, [])
  | 118 => some (.iload 9, 2, [])
  | 120 => some (.aload_n 0, 1, [])
  | 121 => some (.iload 4, 2, [])
  | 123 => some (.iload 8, 2, [])
  | 125 => some (.bipush 6, 2, [6])
  | 127 => some (.invokestatic 111, 3, [2, 98, 0, 14, 0, 583, 0, 0, 0, 2])
  | 130 => some (.imul, 1, [])
  | 131 => some (.iadd, 1, [])
  | 132 => some (.istore 5, 2, [])
  | 134 => some (.iload 9, 2, [])
  | 136 => some (.ifCond .eq 15, 3, [151])
  | 139 => some (.aload_n 0, 1, [])
  | 140 => some (.iload 4, 2, [])
  | 142 => some (.iload 8, 2, [])
  | 144 => some (.iconst 5, 1, [5])
  | 145 => some (.invokestatic 111, 3, [2, 98, 0, 14, 0, 583, 0, 0, 0, 2])
  | 148 => some (.ifCond .ne 237, 3, [385])
  | 151 => some (.aload_n 0, 1, [])
  | 152 => some (.iload 4, 2, [])
  | 154 => some (.iload 8, 2, [])
  | 156 => some (.iconst 5, 1, [5])
  | 157 => some (.invokestatic 111, 3, [2, 98, 0, 14, 0, 583, 0, 0, 0, 2])
  | 160 => some (.aload_n 0, 1, [])
  | 161 => some (.iload 4, 2, [])
  | 163 => some (.iload 8, 2, [])
  | 165 => some (.iconst 4, 1, [4])
  | 166 => some (.invokestatic 111, 3, [2, 98, 0, 14, 0, 583, 0, 0, 0, 2])
  | _ => none
def dec154_2 (pc : Nat) : Option (ClassFile.Instr × Nat × List Nat) := match pc with
  | 169 => some (.if_icmp .gt 216, 3, [385])
  | 172 => some (.aload_n 0, 1, [])
  | 173 => some (.iload 4, 2, [])
  | 175 => some (.iload 8, 2, [])
  | 177 => some (.bipush 6, 2, [6])
  | 179 => some (.invokestatic 111, 3, [2, 98, 0, 14, 0, 583, 0, 0, 0, 2])
  | 182 => some (.iload 10, 2, [])
  | 184 => some (.ifCond .ne 15, 3, [199])
  | 187 => some (.aload_n 0, 1, [])
  | 188 => some (.iload 4, 2, [])
  | 190 => some (.iload 8, 2, [])
  | 192 => some (.iconst 1, 1, [1])
  | 193 => some (.invokestatic 111, 3, [2, 98, 0, 14, 0, 583, 0, 0, 0, 2])
  | 196 => some (.goto 32, 3, [228])
  | 199 => some (.aload_n 0, 1, [])
  | 200 => some (.iload 4, 2, [])
  | 202 => some (.iload 8, 2, [])
  | 204 => some (.iconst 1, 1, [1])
  | 205 => some (.invokestatic 111, 3, [2, 98, 0, 14, 0, 583, 0, 0, 0, 2])
  | 208 => some (.bipush 100, 2, [100])
  | 210 => some (.aload_n 0, 1, [])
  | 211 => some (.iconst 0, 1, [0])
  | 212 => some (.invokestatic 103, 3, [2, 111, 0, 14, 0, 426, 0, 2])
  | 215 => some (.aload_n 0, 1, [])
  | 216 => some (.iload 10, 2, [])
  | 218 => some (.iconst 0, 1, [0])
  | 219 => some (.invokestatic 114, 3, [2, 109, 0, 14, 0, 606, 0, 0, 2])
  | 222 => some (.imul, 1, [])
  | 223 => some (.iadd, 1, [])
  | 224 => some (.imul, 1, [])
  | 225 => some (.bipush 100, 2, [100])
  | 227 => some (.idiv, 1, [])
  | 228 => some (.if_icmp .ne 157, 3, [385])
  | 231 => some (.iload 9, 2, [])
  | 233 => some (.iconst 1, 1, [1])
  | 234 => some (.if_icmp .ne 49, 3, [283])
  | 237 => some (.iload 11, 2, [])
  | 239 => some (.ifCond .le 146, 3, [385])
  | 242 => some (.iload 12, 2, [])
  | 244 => some (.iload 11, 2, [])
  | 246 => some (.if_icmp .lt 139, 3, [385])
  | 249 => some (.iload 11, 2, [])
  | 251 => some (.i2l, 1, [])
  | 252 => some (.aload_n 0, 1, [])
  | 253 => some (.iload 4, 2, [])
  | 255 => some (.iconst 3, 1, [3])
  | 256 => some (.invokestatic 108, 3, [2, 100, 0, 14, 0, 499, 0, 0, 2])
  | 259 => some (.i2l, 1, [])
  | _ => none
def dec154_3 (pc : Nat) : Option (ClassFile.Instr × Nat × List Nat) := match pc with
  | 260 => some (.lmul, 1, [])
  | 261 => some (.iload 12, 2, [])
  | 263 => some (.i2l, 1, [])
  | 264 => some (.aload_n 0, 1, [])
  | 265 => some (.iload 4, 2, [])
  | 267 => some (.iload 8, 2, [])
  | 269 => some (.bipush 6, 2, [6])
  | 271 => some (.invokestatic 111, 3, [2, 98, 0, 14, 0, 583, 0, 0, 0, 2])
  | 274 => some (.i2l, 1, [])
  | 275 => some (.lmul, 1, [])
  | 276 => some (.lcmp, 1, [])
  | 277 => some (.ifCond .ne 108, 3, [385])
  | 280 => some (.goto 14, 3, [294])
  | 283 => some (.iload 11, 2, [])
  | 285 => some (.ifCond .ne 100, 3, [385])
  | 288 => some (.iload 12, 2, [])
  | 290 => some (.iconst 1, 1, [1])
  | 291 => some (.if_icmp .ne 94, 3, [385])
  | 294 => some (.iload 9, 2, [])
  | 296 => some (.ifCond .eq 24, 3, [320])
  | 299 => some (.aload_n 0, 1, [])
  | 300 => some (.iload 4, 2, [])
  | 302 => some (.iload 8, 2, [])
  | 304 => some (.iconst 0, 1, [0])
  | 305 => some (.invokestatic 111, 3, [2, 98, 0, 14, 0, 583, 0, 0, 0, 2])
  | 308 => some (.bipush 15, 2, [15])
  | 310 => some (.if_icmp .gt 10, 3, [320])
  | 313 => some (.iload 10, 2, [])
  | 315 => some (.iload 7, 2, [])
  | 317 => some (.if_icmp .lt 68, 3, [385])
  | 320 => some (.aload_n 0, 1, [])
  | 321 => some (.iload 4, 2, [])
  | 323 => some (.iload 8, 2, [])
  | 325 => some (.iconst 0, 1, [0])
  | 326 => some (.invokestatic 111, 3, [2, 98, 0, 14, 0, 583, 0, 0, 0, 2])
  | 329 => some (.bipush 16, 2, [16])
  | 331 => some (.if_icmp .lt 50, 3, [381])
  | 334 => some (.aload_n 0, 1, [])
  | 335 => some (.iload 4, 2, [])
  | 337 => some (.iload 8, 2, [])
  | 339 => some (.iconst 0, 1, [0])
  | 340 => some (.invokestatic 111, 3, [2, 98, 0, 14, 0, 583, 0, 0, 0, 2])
  | 343 => some (.bipush 16, 2, [16])
  | 345 => some (.isub, 1, [])
  | 346 => some (.iload 4, 2, [])
  | 348 => some (.if_icmp .le 37, 3, [385])
  | 351 => some (.iload 10, 2, [])
  | 353 => some (.ifCond .ne 32, 3, [385])
  | _ => none
def dec154_4 (pc : Nat) : Option (ClassFile.Instr × Nat × List Nat) := match pc with
  | 356 => some (.iload 9, 2, [])
  | 358 => some (.ifCond .eq 23, 3, [381])
  | 361 => some (.aload_n 0, 1, [])
  | 362 => some (.aload_n 0, 1, [])
  | 363 => some (.iload 4, 2, [])
  | 365 => some (.iload 8, 2, [])
  | 367 => some (.iconst 0, 1, [0])
  | 368 => some (.invokestatic 111, 3, [2, 98, 0, 14, 0, 583, 0, 0, 0, 2])
  | 371 => some (.bipush 16, 2, [16])
  | 373 => some (.isub, 1, [])
  | 374 => some (.iconst 1, 1, [1])
  | 375 => some (.invokestatic 108, 3, [2, 100, 0, 14, 0, 499, 0, 0, 2])
  | 378 => some (.ifCond .le 7, 3, [385])
  | 381 => some (.iconst 1, 1, [1])
  | 382 => some (.goto 4, 3, [386])
  | 385 => some (.iconst 0, 1, [0])
  | 386 => some (.istore_n 3, 1, [])
  | 387 => some (.iinc 8 1, 3, [1])
  | 390 => some (.goto (-342), 3, [48])
  | 393 => some (.iload_n 3, 1, [])
  | 394 => some (.ifCond .eq 79, 3, [473])
  | 397 => some (.iload 5, 2, [])
  | 399 => some (.aload_n 0, 1, [])
  | 400 => some (.iload 4, 2, [])
  | 402 => some (.iconst 3, 1, [3])
  | 403 => some (.invokestatic 108, 3, [2, 100, 0, 14, 0, 499, 0, 0, 2])
  | 406 => some (.if_icmp .ne 67, 3, [473])
  | 409 => some (.iload 7, 2, [])
  | 411 => some (.ifCond .eq 37, 3, [448])
  | 414 => some (.aload_n 0, 1, [])
  | 415 => some (.iload 7, 2, [])
  | 417 => some (.iconst 1, 1, [1])
  | 418 => some (.invokestatic 114, 3, [2, 109, 0, 14, 0, 606, 0, 0, 2])
  | 421 => some (.ifCond .le 52, 3, [473])
  | 424 => some (.aload_n 0, 1, [])
  | 425 => some (.iload 7, 2, [])
  | 427 => some (.iconst 0, 1, [0])
  | 428 => some (.invokestatic 114, 3, [2, 109, 0, 14, 0, 606, 0, 0, 2])
  | 431 => some (.iconst 1, 1, [1])
  | 432 => some (.iadd, 1, [])
  | 433 => some (.aload_n 0, 1, [])
  | 434 => some (.iload 7, 2, [])
  | 436 => some (.iconst 1, 1, [1])
  | 437 => some (.invokestatic 114, 3, [2, 109, 0, 14, 0, 606, 0, 0, 2])
  | 440 => some (.if_icmp .lt 33, 3, [473])
  | 443 => some (.iload 5, 2, [])
  | 445 => some (.ifCond .le 28, 3, [473])
  | 448 => some (.aload_n 0, 1, [])
  | _ => none
def dec154_5 (pc : Nat) : Option (ClassFile.Instr × Nat × List Nat) := match pc with
  | 449 => some (.iload 4, 2, [])
  | 451 => some (.iconst 0, 1, [0])
  | 452 => some (.invokestatic 108, 3, [2, 100, 0, 14, 0, 499, 0, 0, 2])
  | 455 => some (.ifCond .le 18, 3, [473])
  | 458 => some (.aload_n 0, 1, [])
  | 459 => some (.iload 4, 2, [])
  | 461 => some (.iconst 0, 1, [0])
  | 462 => some (.invokestatic 108, 3, [2, 100, 0, 14, 0, 499, 0, 0, 2])
  | 465 => some (.iconst 3, 1, [3])
  | 466 => some (.if_icmp .ge 7, 3, [473])
  | 469 => some (.iconst 1, 1, [1])
  | 470 => some (.goto 4, 3, [474])
  | 473 => some (.iconst 0, 1, [0])
  | 474 => some (.istore_n 3, 1, [])
  | 475 => some (.iinc 4 1, 3, [1])
  | 478 => some (.goto (-469), 3, [9])
  | 481 => some (.iload_n 3, 1, [])
  | 482 => some (.ifCond .eq 26, 3, [508])
  | 485 => some (.iload_n 1, 1, [])
  | 486 => some (.aload_n 0, 1, [])
  | 487 => some (.iconst 5, 1, [5])
  | 488 => some (.invokestatic 103, 3, [2, 111, 0, 14, 0, 426, 0, 2])
  | 491 => some (.if_icmp .ne 17, 3, [508])
  | 494 => some (.iload_n 2, 1, [])
  | 495 => some (.aload_n 0, 1, [])
  | 496 => some (.bipush 6, 2, [6])
  | 498 => some (.invokestatic 103, 3, [2, 111, 0, 14, 0, 426, 0, 2])
  | 501 => some (.if_icmp .ne 7, 3, [508])
  | 504 => some (.iconst 1, 1, [1])
  | 505 => some (.goto 4, 3, [509])
  | 508 => some (.iconst 0, 1, [0])
  | 509 => some (.ireturn, 1, [1])
  | _ => none
def dec154 (pc : Nat) : Option (ClassFile.Instr × Nat × List Nat) := if pc < 81 then dec154_0 pc else if pc < 167 then dec154_1 pc else if pc < 260 then dec154_2 pc else if pc < 354 then dec154_3 pc else if pc < 449 then dec154_4 pc else if pc < 510 then dec154_5 pc else none
def dec155_0 (pc : Nat) : Option (ClassFile.Instr × Nat × List Nat) := match pc with
  | 0 => some (.iconst 0, 1, [0])
  | 1 => some (.istore_n 1, 1, [])
  | 2 => some (.iconst 0, 1, [0])
  | 3 => some (.istore_n 2, 1, [])
  | 4 => some (.aload_n 0, 1, [])
  | 5 => some (.iconst 4, 1, [4])
  | 6 => some (.invokestatic 103, 3, [2, 111, 0, 14, 0, 426, 0, 2])
  | 9 => some (.aload_n 0, 1, [])
  | 10 => some (.iconst 3, 1, [3])
  | 11 => some (.invokestatic 103, 3, [2, 111, 0, 14, 0, 426, 0, 2])
  | 14 => some (.bipush 20, 2, [20])
  | 16 => some (.if_icmp .ge 11, 3, [27])
  | 19 => some (.aload_n 0, 1, [])
  | 20 => some (.iconst 3, 1, [3])
  | 21 => some (.invokestatic 103, 3, [2, 111, 0, 14, 0, 426, 0, 2])
  | 24 => some (.goto 5, 3, [29])
  | 27 => some (.bipush 20, 2, [20])
  | 29 => some (.if_icmp .ne 21, 3, [50])
  | 32 => some (.aload_n 0, 1, [])
  | 33 => some (.aload_n 0, 1, [])
  | 34 => some (.iconst 4, 1, [4])
  | 35 => some (.invokestatic 103, 3, [2, 111, 0, 14, 0, 426, 0, 2])
  | 38 => some (.iconst 0, 1, [0])
  | 39 => some (.invokestatic 117, 3, [2, 125, 0, 14, 0, 617, 0, 0, 2])
  | 42 => some (.iconst (-1), 1, [4294967295])
  | 43 => some (.if_icmp .ne 7, 3, [50])
  | 46 => some (.iconst 1, 1, [1])
  | 47 => some (.goto 4, 3, [51])
  | 50 => some (.iconst 0, 1, [0])
  | 51 => some (.istore_n 3, 1, [])
  | 52 => some (.iconst 0, 1, [0])
  | 53 => some (.istore 4, 2, [])
  | 55 => some (.iload 4, 2, [])
  | 57 => some (.bipush 16, 2, [16])
  | 59 => some (.if_icmp .ge 35, 3, [94])
  | 62 => some (.iload_n 1, 1, [])
  | 63 => some (.aload_n 0, 1, [])
  | 64 => some (.iload 4, 2, [])
  | 66 => some (.invokestatic 142, 3, [2, 127, 0, 14, 0, 791, 0, 2])
  | 69 => some (.iadd, 1, [])
  | 70 => some (.istore_n 1, 1, [])
  | 71 => some (.iload_n 2, 1, [])
  | 72 => some (.aload_n 0, 1, [])
  | 73 => some (.iload 4, 2, [])
  | 75 => some (.invokestatic 142, 3, [2, 127, 0, 14, 0, 791, 0, 2])
  | 78 => some (.ifCond .le 7, 3, [85])
  | 81 => some (.iconst 1, 1, [1])
  | 82 => some (.goto 4, 3, [86])
  | _ => none
def dec155_1 (pc : Nat) : Option (ClassFile.Instr × Nat × List Nat) := match pc with
  | 85 => some (.iconst 0, 1, [0])
  | 86 => some (.iadd, 1, [])
  | 87 => some (.istore_n 2, 1, [])
  | 88 => some (.iinc 4 1, 3, [1])
  | 91 => some (.goto (-36), 3, [55])
  | 94 => some (.iconst 0, 1, [0])
  | 95 => some (.istore 4, 2, [])
  | 97 => some (.iconst 0, 1, [0])
  | 98 => some (.istore 5, 2, [])
  | 100 => some (.iload 5, 2, [])
  | 102 => some (.aload_n 0, 1, [])
  | 103 => some (.iconst 4, 1, [4])
  | 104 => some (.invokestatic 103, 3, [2, 111, 0, 14, 0, 426, 0, 2])
  | 107 => some (.if_icmp .ge 174, 3, [281])
  | 110 => some (.iload_n 3, 1, [])
  | 111 => some (.ifCond .eq 170, 3, [281])
  | 114 => some (.iload 5, 2, [])
  | 116 => some (.ifCond .eq 22, 3, [138])
  | 119 => some (.aload_n 0, 1, [])
  | 120 => some (.iload 5, 2, [])
  | 122 => some (.iconst 2, 1, [2])
  | 123 => some (.invokestatic 117, 3, [2, 125, 0, 14, 0, 617, 0, 0, 2])
  | 126 => some (.aload_n 0, 1, [])
  | 127 => some (.iload 5, 2, [])
  | 129 => some (.iconst 1, 1, [1])
  | 130 => some (.isub, 1, [])
  | 131 => some (.iconst 2, 1, [2])
  | 132 => some (.invokestatic 117, 3, [2, 125, 0, 14, 0, 617, 0, 0, 2])
  | 135 => some (.if_icmp .ge 7, 3, [142])
  | 138 => some (.iconst 1, 1, [1])
  | 139 => some (.goto 4, 3, [143])
  | 142 => some (.iconst 0, 1, [0])
  | 143 => some (.istore 6, 2, [])
  | 145 => some (.iload 4, 2, [])
  | 147 => some (.iload 6, 2, [])
  | 149 => some (.ifCond .eq 7, 3, [156])
  | 152 => some (.iconst 1, 1, [1])
  | 153 => some (.goto 4, 3, [157])
  | 156 => some (.iconst 0, 1, [0])
  | 157 => some (.iadd, 1, [])
  | 158 => some (.istore 4, 2, [])
  | 160 => some (.aload_n 0, 1, [])
  | 161 => some (.aload_n 0, 1, [])
  | 162 => some (.iload 5, 2, [])
  | 164 => some (.iconst 0, 1, [0])
  | 165 => some (.invokestatic 117, 3, [2, 125, 0, 14, 0, 617, 0, 0, 2])
  | 168 => some (.invokestatic 142, 3, [2, 127, 0, 14, 0, 791, 0, 2])
  | 171 => some (.ifCond .le 102, 3, [273])
  | _ => none
def dec155_2 (pc : Nat) : Option (ClassFile.Instr × Nat × List Nat) := match pc with
  | 174 => some (.aload_n 0, 1, [])
  | 175 => some (.iload 5, 2, [])
  | 177 => some (.iconst 1, 1, [1])
  | 178 => some (.invokestatic 117, 3, [2, 125, 0, 14, 0, 617, 0, 0, 2])
  | 181 => some (.ifCond .lt 92, 3, [273])
  | 184 => some (.aload_n 0, 1, [])
  | 185 => some (.iload 5, 2, [])
  | 187 => some (.iconst 1, 1, [1])
  | 188 => some (.invokestatic 117, 3, [2, 125, 0, 14, 0, 617, 0, 0, 2])
  | 191 => some (.iconst 4, 1, [4])
  | 192 => some (.if_icmp .ge 81, 3, [273])
  | 195 => some (.aload_n 0, 1, [])
  | 196 => some (.iload 5, 2, [])
  | 198 => some (.iconst 2, 1, [2])
  | 199 => some (.invokestatic 117, 3, [2, 125, 0, 14, 0, 617, 0, 0, 2])
  | 202 => some (.ifCond .le 71, 3, [273])
  | 205 => some (.aload_n 0, 1, [])
  | 206 => some (.iload 5, 2, [])
  | 208 => some (.iconst 2, 1, [2])
  | 209 => some (.invokestatic 117, 3, [2, 125, 0, 14, 0, 617, 0, 0, 2])
  | 212 => some (.aload_n 0, 1, [])
  | 213 => some (.iconst 2, 1, [2])
  | 214 => some (.invokestatic 103, 3, [2, 111, 0, 14, 0, 426, 0, 2])
  | 217 => some (.if_icmp .gt 56, 3, [273])
  | 220 => some (.iload 6, 2, [])
  | 222 => some (.ifCond .ne 22, 3, [244])
  | 225 => some (.aload_n 0, 1, [])
  | 226 => some (.iload 5, 2, [])
  | 228 => some (.iconst 2, 1, [2])
  | 229 => some (.invokestatic 117, 3, [2, 125, 0, 14, 0, 617, 0, 0, 2])
  | 232 => some (.aload_n 0, 1, [])
  | 233 => some (.iload 5, 2, [])
  | 235 => some (.iconst 1, 1, [1])
  | 236 => some (.isub, 1, [])
  | 237 => some (.iconst 2, 1, [2])
  | 238 => some (.invokestatic 117, 3, [2, 125, 0, 14, 0, 617, 0, 0, 2])
  | 241 => some (.if_icmp .ne 32, 3, [273])
  | 244 => some (.iload 5, 2, [])
  | 246 => some (.iconst 2, 1, [2])
  | 247 => some (.if_icmp .lt 22, 3, [269])
  | 250 => some (.aload_n 0, 1, [])
  | 251 => some (.iload 5, 2, [])
  | 253 => some (.iconst 2, 1, [2])
  | 254 => some (.invokestatic 117, 3, [2, 125, 0, 14, 0, 617, 0, 0, 2])
  | 257 => some (.aload_n 0, 1, [])
  | 258 => some (.iload 5, 2, [])
  | 260 => some (.iconst 2, 1, [2])
  | 261 => some (.isub, 1, [])
  | _ => none
def dec155_3 (pc : Nat) : Option (ClassFile.Instr × Nat × List Nat) := match pc with
  | 262 => some (.iconst 2, 1, [2])
  | 263 => some (.invokestatic 117, 3, [2, 125, 0, 14, 0, 617, 0, 0, 2])
  | 266 => some (.if_icmp .ge 7, 3, [273])
  | 269 => some (.iconst 1, 1, [1])
  | 270 => some (.goto 4, 3, [274])
  | 273 => some (.iconst 0, 1, [0])
  | 274 => some (.istore_n 3, 1, [])
  | 275 => some (.iinc 5 1, 3, [1])
  | 278 => some (.goto (-178), 3, [100])
  | 281 => some (.iload_n 3, 1, [])
  | 282 => some (.ifCond .eq 71, 3, [353])
  | 285 => some (.iload_n 1, 1, [])
  | 286 => some (.aload_n 0, 1, [])
  | 287 => some (.iconst 3, 1, [3])
  | 288 => some (.invokestatic 103, 3, [2, 111, 0, 14, 0, 426, 0, 2])
  | 291 => some (.if_icmp .ne 62, 3, [353])
  | 294 => some (.iload_n 2, 1, [])
  | 295 => some (.aload_n 0, 1, [])
  | 296 => some (.bipush 7, 2, [7])
  | 298 => some (.invokestatic 103, 3, [2, 111, 0, 14, 0, 426, 0, 2])
  | 301 => some (.if_icmp .ne 52, 3, [353])
  | 304 => some (.aload_n 0, 1, [])
  | 305 => some (.invokevirtual 160, 3, [2, 31, 2, 9, 0, 911])
  | 308 => some (.aload_n 0, 1, [])
  | 309 => some (.iconst 2, 1, [2])
  | 310 => some (.invokestatic 103, 3, [2, 111, 0, 14, 0, 426, 0, 2])
  | 313 => some (.ifCond .ne 7, 3, [320])
  | 316 => some (.dconst 0, 1, [])
  | 317 => some (.goto 13, 3, [330])
  | 320 => some (.iload 4, 2, [])
  | 322 => some (.i2d, 1, [])
  | 323 => some (.aload_n 0, 1, [])
  | 324 => some (.iconst 2, 1, [2])
  | 325 => some (.invokestatic 103, 3, [2, 111, 0, 14, 0, 426, 0, 2])
  | 328 => some (.i2d, 1, [])
  | 329 => some (.ddiv, 1, [])
  | 330 => some (.dcmp .l, 1, [])
  | 331 => some (.ifCond .ne 22, 3, [353])
  | 334 => some (.aload_n 0, 1, [])
  | 335 => some (.iconst 3, 1, [3])
  | 336 => some (.invokestatic 103, 3, [2, 111, 0, 14, 0, 426, 0, 2])
  | 339 => some (.iconst 2, 1, [2])
  | 340 => some (.aload_n 0, 1, [])
  | 341 => some (.iconst 2, 1, [2])
  | 342 => some (.invokestatic 103, 3, [2, 111, 0, 14, 0, 426, 0, 2])
  | 345 => some (.imul, 1, [])
  | 346 => some (.if_icmp .gt 7, 3, [353])
  | 349 => some (.iconst 1, 1, [1])
  | _ => none
def dec155_4 (pc : Nat) : Option (ClassFile.Instr × Nat × List Nat) := match pc with
  | 350 => some (.goto 4, 3, [354])
  | 353 => some (.iconst 0, 1, [0])
  | 354 => some (.ireturn, 1, [1])
  | _ => none
def dec155 (pc : Nat) : Option (ClassFile.Instr × Nat × List Nat) := if pc < 83 then dec155_0 pc else if pc < 172 then dec155_1 pc else if pc < 262 then dec155_2 pc else if pc < 350 then dec155_3 pc else if pc < 355 then dec155_4 pc else none
end
section
def dec156_0 (pc : Nat) : Option (ClassFile.Instr × Nat × List Nat) := match pc with
  | 0 => some (.aload_n 0, 1, [])
  | 1 => some (.invokestatic 119, 3, [2, 152, 0, 14, 0, 421, 2])
  | 4 => some (.lstore_n 3, 1, [])
  | 5 => some (.aload_n 0, 1, [])
  | 6 => some (.iload_n 1, 1, [])
  | 7 => some (.iconst 0, 1, [0])
  | 8 => some (.invokestatic 149, 3, [2, 136, 0, 14, 0, 858, 0, 0, 2])
  | 11 => some (.istore 5, 2, [])
  | 13 => some (.aload_n 0, 1, [])
  | 14 => some (.iload_n 1, 1, [])
  | 15 => some (.invokestatic 151, 3, [2, 138, 0, 14, 0, 869, 0, 2])
  | 18 => some (.lstore 6, 2, [])
  | 20 => some (.iload 5, 2, [])
  | 22 => some (.ifCond .lt 56, 3, [78])
  | 25 => some (.iload 5, 2, [])
  | 27 => some (.ldc 164, 2, [8, 1000000000, 923])
  | 29 => some (.if_icmp .gt 49, 3, [78])
  | 32 => some (.lload 6, 2, [])
  | 34 => some (.iload 5, 2, [])
  | 36 => some (.i2l, 1, [])
  | 37 => some (.lcmp, 1, [])
  | 38 => some (.ifCond .lt 40, 3, [78])
  | 41 => some (.lload 6, 2, [])
  | 43 => some (.ldc2_w 165, 3, [9, 1000000000, 924])
  | 46 => some (.aload_n 0, 1, [])
  | 47 => some (.iload_n 1, 1, [])
  | 48 => some (.iconst 0, 1, [0])
  | 49 => some (.invokestatic 108, 3, [2, 100, 0, 14, 0, 499, 0, 0, 2])
  | 52 => some (.i2l, 1, [])
  | 53 => some (.lmul, 1, [])
  | 54 => some (.lcmp, 1, [])
  | 55 => some (.ifCond .gt 23, 3, [78])
  | 58 => some (.aload_n 0, 1, [])
  | 59 => some (.iload_n 1, 1, [])
  | 60 => some (.iconst 3, 1, [3])
  | 61 => some (.invokestatic 108, 3, [2, 100, 0, 14, 0, 499, 0, 0, 2])
  | 64 => some (.ifCond .gt 10, 3, [74])
  | 67 => some (.lload 6, 2, [])
  | 69 => some (.lconst 0, 1, [0])
  | 70 => some (.lcmp, 1, [])
  | 71 => some (.ifCond .ne 7, 3, [78])
  | 74 => some (.iconst 1, 1, [1])
  | 75 => some (.goto 4, 3, [79])
  | 78 => some (.iconst 0, 1, [0])
  | 79 => some (.istore 8, 2, [])
  | 81 => some (.iconst 1, 1, [1])
  | 82 => some (.istore 9, 2, [])
  | 84 => some (.iload 9, 2, [])
  | _ => none
def dec156_1 (pc : Nat) : Option (ClassFile.Instr × Nat × List Nat) := match pc with
  | 86 => some (.iconst 4, 1, [4])
  | 87 => some (.if_icmp .ge 50, 3, [137])
  | 90 => some (.iload 8, 2, [])
  | 92 => some (.ifCond .eq 45, 3, [137])
  | 95 => some (.aload_n 0, 1, [])
  | 96 => some (.iload_n 1, 1, [])
  | 97 => some (.iload 9, 2, [])
  | 99 => some (.invokestatic 149, 3, [2, 136, 0, 14, 0, 858, 0, 0, 2])
  | 102 => some (.ifCond .lt 26, 3, [128])
  | 105 => some (.aload_n 0, 1, [])
  | 106 => some (.iload_n 1, 1, [])
  | 107 => some (.iload 9, 2, [])
  | 109 => some (.invokestatic 149, 3, [2, 136, 0, 14, 0, 858, 0, 0, 2])
  | 112 => some (.aload_n 0, 1, [])
  | 113 => some (.iload_n 1, 1, [])
  | 114 => some (.iload 9, 2, [])
  | 116 => some (.iconst 1, 1, [1])
  | 117 => some (.isub, 1, [])
  | 118 => some (.invokestatic 149, 3, [2, 136, 0, 14, 0, 858, 0, 0, 2])
  | 121 => some (.if_icmp .gt 7, 3, [128])
  | 124 => some (.iconst 1, 1, [1])
  | 125 => some (.goto 4, 3, [129])
  | 128 => some (.iconst 0, 1, [0])
  | 129 => some (.istore 8, 2, [])
  | 131 => some (.iinc 9 1, 3, [1])
  | 134 => some (.goto (-50), 3, [84])
  | 137 => some (.lconst 0, 1, [0])
  | 138 => some (.lstore 9, 2, [])
  | 140 => some (.iconst 0, 1, [0])
  | 141 => some (.istore 11, 2, [])
  | 143 => some (.iload 11, 2, [])
  | 145 => some (.bipush 16, 2, [16])
  | 147 => some (.if_icmp .ge 50, 3, [197])
  | 150 => some (.iload 8, 2, [])
  | 152 => some (.ifCond .eq 45, 3, [197])
  | 155 => some (.aload_n 0, 1, [])
  | 156 => some (.iload_n 1, 1, [])
  | 157 => some (.iload 11, 2, [])
  | 159 => some (.invokestatic 147, 3, [2, 133, 0, 14, 0, 812, 0, 0, 2])
  | 162 => some (.istore 12, 2, [])
  | 164 => some (.lload 9, 2, [])
  | 166 => some (.iload 12, 2, [])
  | 168 => some (.i2l, 1, [])
  | 169 => some (.ladd, 1, [])
  | 170 => some (.lstore 9, 2, [])
  | 172 => some (.iload 12, 2, [])
  | 174 => some (.ifCond .lt 14, 3, [188])
  | 177 => some (.iload 12, 2, [])
  | _ => none
def dec156_2 (pc : Nat) : Option (ClassFile.Instr × Nat × List Nat) := match pc with
  | 179 => some (.iload 5, 2, [])
  | 181 => some (.if_icmp .gt 7, 3, [188])
  | 184 => some (.iconst 1, 1, [1])
  | 185 => some (.goto 4, 3, [189])
  | 188 => some (.iconst 0, 1, [0])
  | 189 => some (.istore 8, 2, [])
  | 191 => some (.iinc 11 1, 3, [1])
  | 194 => some (.goto (-51), 3, [143])
  | 197 => some (.iload 8, 2, [])
  | 199 => some (.ifCond .eq 42, 3, [241])
  | 202 => some (.lload 9, 2, [])
  | 204 => some (.lload 6, 2, [])
  | 206 => some (.lcmp, 1, [])
  | 207 => some (.ifCond .gt 34, 3, [241])
  | 210 => some (.aload_n 0, 1, [])
  | 211 => some (.iload_n 1, 1, [])
  | 212 => some (.iconst 0, 1, [0])
  | 213 => some (.invokestatic 108, 3, [2, 100, 0, 14, 0, 499, 0, 0, 2])
  | 216 => some (.iconst 1, 1, [1])
  | 217 => some (.if_icmp .gt 20, 3, [237])
  | 220 => some (.lload 9, 2, [])
  | 222 => some (.lload 6, 2, [])
  | 224 => some (.lcmp, 1, [])
  | 225 => some (.ifCond .ne 16, 3, [241])
  | 228 => some (.lload 9, 2, [])
  | 230 => some (.iload 5, 2, [])
  | 232 => some (.i2l, 1, [])
  | 233 => some (.lcmp, 1, [])
  | 234 => some (.ifCond .ne 7, 3, [241])
  | 237 => some (.iconst 1, 1, [1])
  | 238 => some (.goto 4, 3, [242])
  | 241 => some (.iconst 0, 1, [0])
  | 242 => some (.istore 8, 2, [])
  | 244 => some (.aload_n 0, 1, [])
  | 245 => some (.iload_n 1, 1, [])
  | 246 => some (.iconst 2, 1, [2])
  | 247 => some (.invokestatic 108, 3, [2, 100, 0, 14, 0, 499, 0, 0, 2])
  | 250 => some (.istore 11, 2, [])
  | 252 => some (.iload 8, 2, [])
  | 254 => some (.ifCond .eq 24, 3, [278])
  | 257 => some (.iload 11, 2, [])
  | 259 => some (.ifCond .eq 15, 3, [274])
  | 262 => some (.aload_n 0, 1, [])
  | 263 => some (.iload_n 1, 1, [])
  | 264 => some (.iload 11, 2, [])
  | 266 => some (.invokestatic 149, 3, [2, 136, 0, 14, 0, 858, 0, 0, 2])
  | 269 => some (.ldc 167, 2, [8, 999000000, 925])
  | 271 => some (.if_icmp .lt 7, 3, [278])
  | _ => none
def dec156_3 (pc : Nat) : Option (ClassFile.Instr × Nat × List Nat) := match pc with
  | 274 => some (.iconst 1, 1, [1])
  | 275 => some (.goto 4, 3, [279])
  | 278 => some (.iconst 0, 1, [0])
  | 279 => some (.istore 8, 2, [])
  | 281 => some (.aload_n 0, 1, [])
  | 282 => some (.iload_n 1, 1, [])
  | 283 => some (.iload_n 2, 1, [])
  | 284 => some (.invokestatic 156, 3, [2, 142, 0, 14, 0, 885, 0, 0, 2])
  | 287 => some (.istore 12, 2, [])
  | 289 => some (.iload 8, 2, [])
  | 291 => some (.ifCond .eq 44, 3, [335])
  | 294 => some (.iload 12, 2, [])
  | 296 => some (.iconst (-1), 1, [4294967295])
  | 297 => some (.if_icmp .ne 7, 3, [304])
  | 300 => some (.iconst 1, 1, [1])
  | 301 => some (.goto 4, 3, [305])
  | 304 => some (.iconst 0, 1, [0])
  | 305 => some (.aload_n 0, 1, [])
  | 306 => some (.iload_n 1, 1, [])
  | 307 => some (.iconst 1, 1, [1])
  | 308 => some (.invokestatic 108, 3, [2, 100, 0, 14, 0, 499, 0, 0, 2])
  | 311 => some (.ifCond .ne 7, 3, [318])
  | 314 => some (.iconst 1, 1, [1])
  | 315 => some (.goto 4, 3, [319])
  | 318 => some (.iconst 0, 1, [0])
  | 319 => some (.if_icmp .ne 16, 3, [335])
  | 322 => some (.aload_n 0, 1, [])
  | 323 => some (.invokestatic 119, 3, [2, 152, 0, 14, 0, 421, 2])
  | 326 => some (.lload_n 3, 1, [])
  | 327 => some (.lcmp, 1, [])
  | 328 => some (.ifCond .ne 7, 3, [335])
  | 331 => some (.iconst 1, 1, [1])
  | 332 => some (.goto 4, 3, [336])
  | 335 => some (.iconst 0, 1, [0])
  | 336 => some (.istore 8, 2, [])
  | 338 => some (.iconst 0, 1, [0])
  | 339 => some (.istore 13, 2, [])
  | 341 => some (.iconst 0, 1, [0])
  | 342 => some (.istore 14, 2, [])
  | 344 => some (.iload 14, 2, [])
  | 346 => some (.aload_n 0, 1, [])
  | 347 => some (.iload_n 1, 1, [])
  | 348 => some (.iconst 1, 1, [1])
  | 349 => some (.invokestatic 108, 3, [2, 100, 0, 14, 0, 499, 0, 0, 2])
  | 352 => some (.if_icmp .ge 109, 3, [461])
  | 355 => some (.iload 8, 2, [])
  | 357 => some (.ifCond .eq 104, 3, [461])
  | 360 => some (.aload_n 0, 1, [])
  | _ => none
def dec156_4 (pc : Nat) : Option (ClassFile.Instr × Nat × List Nat) := match pc with
  | 361 => some (.iload_n 1, 1, [])
  | 362 => some (.iload 14, 2, [])
  | 364 => some (.iconst 1, 1, [1])
  | 365 => some (.invokestatic 111, 3, [2, 98, 0, 14, 0, 583, 0, 0, 0, 2])
  | 368 => some (.istore 15, 2, [])
  | 370 => some (.aload_n 0, 1, [])
  | 371 => some (.iload_n 1, 1, [])
  | 372 => some (.iload 14, 2, [])
  | 374 => some (.iload 15, 2, [])
  | 376 => some (.sipush 500, 3, [500])
  | 379 => some (.if_icmp .le 9, 3, [388])
  | 382 => some (.sipush 1000, 3, [1000])
  | 385 => some (.goto 7, 3, [392])
  | 388 => some (.iconst 2, 1, [2])
  | 389 => some (.iload 15, 2, [])
  | 391 => some (.imul, 1, [])
  | 392 => some (.invokestatic 130, 3, [2, 96, 0, 14, 0, 692, 0, 0, 0, 2])
  | 395 => some (.iload 15, 2, [])
  | 397 => some (.if_icmp .ne 7, 3, [404])
  | 400 => some (.iconst 1, 1, [1])
  | 401 => some (.goto 4, 3, [405])
  | 404 => some (.iconst 0, 1, [0])
  | 405 => some (.istore 8, 2, [])
  | 407 => some (.aload_n 0, 1, [])
  | 408 => some (.iload_n 1, 1, [])
  | 409 => some (.iload_n 2, 1, [])
  | 410 => some (.invokestatic 147, 3, [2, 133, 0, 14, 0, 812, 0, 0, 2])
  | 413 => some (.istore 16, 2, [])
  | 415 => some (.iload 14, 2, [])
  | 417 => some (.ifCond .eq 10, 3, [427])
  | 420 => some (.iload 16, 2, [])
  | 422 => some (.iload 13, 2, [])
  | 424 => some (.if_icmp .le 8, 3, [432])
  | 427 => some (.iload 16, 2, [])
  | 429 => some (.goto 5, 3, [434])
  | 432 => some (.iload 13, 2, [])
  | 434 => some (.istore 13, 2, [])
  | 436 => some (.iload 8, 2, [])
  | 438 => some (.ifCond .eq 14, 3, [452])
  | 441 => some (.aload_n 0, 1, [])
  | 442 => some (.invokestatic 168, 3, [2, 147, 0, 14, 0, 303, 2])
  | 445 => some (.ifCond .lt 7, 3, [452])
  | 448 => some (.iconst 1, 1, [1])
  | 449 => some (.goto 4, 3, [453])
  | 452 => some (.iconst 0, 1, [0])
  | 453 => some (.istore 8, 2, [])
  | 455 => some (.iinc 14 1, 3, [1])
  | 458 => some (.goto (-114), 3, [344])
  | _ => none
def dec156_5 (pc : Nat) : Option (ClassFile.Instr × Nat × List Nat) := match pc with
  | 461 => some (.iload 8, 2, [])
  | 463 => some (.ifCond .eq 73, 3, [536])
  | 466 => some (.iload 12, 2, [])
  | 468 => some (.ifCond .lt 68, 3, [536])
  | 471 => some (.aload_n 0, 1, [])
  | 472 => some (.iload_n 1, 1, [])
  | 473 => some (.iload 12, 2, [])
  | 475 => some (.iconst 1, 1, [1])
  | 476 => some (.invokestatic 111, 3, [2, 98, 0, 14, 0, 583, 0, 0, 0, 2])
  | 479 => some (.istore 14, 2, [])
  | 481 => some (.aload_n 0, 1, [])
  | 482 => some (.iload_n 1, 1, [])
  | 483 => some (.iload 12, 2, [])
  | 485 => some (.iload 14, 2, [])
  | 487 => some (.sipush 500, 3, [500])
  | 490 => some (.if_icmp .le 9, 3, [499])
  | 493 => some (.sipush 1000, 3, [1000])
  | 496 => some (.goto 7, 3, [503])
  | 499 => some (.iconst 2, 1, [2])
  | 500 => some (.iload 14, 2, [])
  | 502 => some (.imul, 1, [])
  | 503 => some (.invokestatic 130, 3, [2, 96, 0, 14, 0, 692, 0, 0, 0, 2])
  | 506 => some (.iload 14, 2, [])
  | 508 => some (.if_icmp .ne 25, 3, [533])
  | 511 => some (.aload_n 0, 1, [])
  | 512 => some (.iload_n 1, 1, [])
  | 513 => some (.iload_n 2, 1, [])
  | 514 => some (.invokestatic 147, 3, [2, 133, 0, 14, 0, 812, 0, 0, 2])
  | 517 => some (.iload 13, 2, [])
  | 519 => some (.if_icmp .ne 14, 3, [533])
  | 522 => some (.aload_n 0, 1, [])
  | 523 => some (.invokestatic 168, 3, [2, 147, 0, 14, 0, 303, 2])
  | 526 => some (.ifCond .lt 7, 3, [533])
  | 529 => some (.iconst 1, 1, [1])
  | 530 => some (.goto 4, 3, [534])
  | 533 => some (.iconst 0, 1, [0])
  | 534 => some (.istore 8, 2, [])
  | 536 => some (.iload 8, 2, [])
  | 538 => some (.ifCond .eq 16, 3, [554])
  | 541 => some (.aload_n 0, 1, [])
  | 542 => some (.invokestatic 119, 3, [2, 152, 0, 14, 0, 421, 2])
  | 545 => some (.lload_n 3, 1, [])
  | 546 => some (.lcmp, 1, [])
  | 547 => some (.ifCond .ne 7, 3, [554])
  | 550 => some (.iconst 1, 1, [1])
  | 551 => some (.goto 4, 3, [555])
  | 554 => some (.iconst 0, 1, [0])
  | 555 => some (.ireturn, 1, [1])
  | _ => none
def dec156 (pc : Nat) : Option (ClassFile.Instr × Nat × List Nat) := if pc < 85 then dec156_0 pc else if pc < 178 then dec156_1 pc else if pc < 272 then dec156_2 pc else if pc < 361 then dec156_3 pc else if pc < 459 then dec156_4 pc else if pc < 556 then dec156_5 pc else none
def dec157_0 (pc : Nat) : Option (ClassFile.Instr × Nat × List Nat) := match pc with
  | 0 => some (.aload_n 0, 1, [])
  | 1 => some (.invokestatic 119, 3, [2, 152, 0, 14, 0, 421, 2])
  | 4 => some (.lstore_n 3, 1, [])
  | 5 => some (.aload_n 0, 1, [])
  | 6 => some (.iload_n 1, 1, [])
  | 7 => some (.iload_n 2, 1, [])
  | 8 => some (.invokestatic 154, 3, [2, 140, 0, 14, 0, 877, 0, 0, 2])
  | 11 => some (.istore 5, 2, [])
  | 13 => some (.aload_n 0, 1, [])
  | 14 => some (.iload_n 2, 1, [])
  | 15 => some (.invokestatic 142, 3, [2, 127, 0, 14, 0, 791, 0, 2])
  | 18 => some (.istore 6, 2, [])
  | 20 => some (.aload_n 0, 1, [])
  | 21 => some (.invokestatic 119, 3, [2, 152, 0, 14, 0, 421, 2])
  | 24 => some (.lload_n 3, 1, [])
  | 25 => some (.lcmp, 1, [])
  | 26 => some (.ifCond .ne 20, 3, [46])
  | 29 => some (.iload 5, 2, [])
  | 31 => some (.ifCond .eq 15, 3, [46])
  | 34 => some (.iload 5, 2, [])
  | 36 => some (.sipush 300, 3, [300])
  | 39 => some (.if_icmp .gt 7, 3, [46])
  | 42 => some (.iconst 1, 1, [1])
  | 43 => some (.goto 4, 3, [47])
  | 46 => some (.iconst 0, 1, [0])
  | 47 => some (.istore 7, 2, [])
  | 49 => some (.iload 5, 2, [])
  | 51 => some (.iconst (-1), 1, [4294967295])
  | 52 => some (.if_icmp .ne 9, 3, [61])
  | 55 => some (.sipush 200, 3, [200])
  | 58 => some (.goto 7, 3, [65])
  | 61 => some (.iload 5, 2, [])
  | 63 => some (.iconst 1, 1, [1])
  | 64 => some (.isub, 1, [])
  | 65 => some (.istore 8, 2, [])
  | 67 => some (.iload 7, 2, [])
  | 69 => some (.ifCond .eq 84, 3, [153])
  | 72 => some (.iload 8, 2, [])
  | 74 => some (.ifCond .le 79, 3, [153])
  | 77 => some (.iload 8, 2, [])
  | 79 => some (.sipush 200, 3, [200])
  | 82 => some (.if_icmp .gt 71, 3, [153])
  | 85 => some (.aload_n 0, 1, [])
  | 86 => some (.iload_n 1, 1, [])
  | 87 => some (.iload 8, 2, [])
  | 89 => some (.invokestatic 140, 3, [2, 123, 0, 14, 0, 784, 0, 0, 2])
  | 92 => some (.ifCond .lt 55, 3, [147])
  | 95 => some (.aload_n 0, 1, [])
  | _ => none
def dec157_1 (pc : Nat) : Option (ClassFile.Instr × Nat × List Nat) := match pc with
  | 96 => some (.iload_n 2, 1, [])
  | 97 => some (.invokestatic 142, 3, [2, 127, 0, 14, 0, 791, 0, 2])
  | 100 => some (.iload 6, 2, [])
  | 102 => some (.if_icmp .ne 45, 3, [147])
  | 105 => some (.iload 5, 2, [])
  | 107 => some (.iconst (-1), 1, [4294967295])
  | 108 => some (.if_icmp .eq 28, 3, [136])
  | 111 => some (.aload_n 0, 1, [])
  | 112 => some (.iload_n 1, 1, [])
  | 113 => some (.invokestatic 138, 3, [2, 113, 0, 14, 0, 721, 0, 2])
  | 116 => some (.ifCond .le 31, 3, [147])
  | 119 => some (.aload_n 0, 1, [])
  | 120 => some (.iload_n 2, 1, [])
  | 121 => some (.invokestatic 142, 3, [2, 127, 0, 14, 0, 791, 0, 2])
  | 124 => some (.iload 6, 2, [])
  | 126 => some (.if_icmp .le 21, 3, [147])
  | 129 => some (.aload_n 0, 1, [])
  | 130 => some (.invokestatic 168, 3, [2, 147, 0, 14, 0, 303, 2])
  | 133 => some (.ifCond .lt 14, 3, [147])
  | 136 => some (.aload_n 0, 1, [])
  | 137 => some (.invokestatic 168, 3, [2, 147, 0, 14, 0, 303, 2])
  | 140 => some (.ifCond .lt 7, 3, [147])
  | 143 => some (.iconst 1, 1, [1])
  | 144 => some (.goto 4, 3, [148])
  | 147 => some (.iconst 0, 1, [0])
  | 148 => some (.istore 7, 2, [])
  | 150 => some (.goto 46, 3, [196])
  | 153 => some (.iload 7, 2, [])
  | 155 => some (.ifCond .eq 41, 3, [196])
  | 158 => some (.iload 5, 2, [])
  | 160 => some (.iconst 1, 1, [1])
  | 161 => some (.if_icmp .ne 35, 3, [196])
  | 164 => some (.aload_n 0, 1, [])
  | 165 => some (.iload_n 1, 1, [])
  | 166 => some (.invokestatic 138, 3, [2, 113, 0, 14, 0, 721, 0, 2])
  | 169 => some (.ifCond .le 24, 3, [193])
  | 172 => some (.aload_n 0, 1, [])
  | 173 => some (.iload_n 2, 1, [])
  | 174 => some (.invokestatic 142, 3, [2, 127, 0, 14, 0, 791, 0, 2])
  | 177 => some (.iload 6, 2, [])
  | 179 => some (.if_icmp .le 14, 3, [193])
  | 182 => some (.aload_n 0, 1, [])
  | 183 => some (.invokestatic 168, 3, [2, 147, 0, 14, 0, 303, 2])
  | 186 => some (.ifCond .lt 7, 3, [193])
  | 189 => some (.iconst 1, 1, [1])
  | 190 => some (.goto 4, 3, [194])
  | 193 => some (.iconst 0, 1, [0])
  | 194 => some (.istore 7, 2, [])
  | _ => none
def dec157_2 (pc : Nat) : Option (ClassFile.Instr × Nat × List Nat) := match pc with
  | 196 => some (.iload 7, 2, [])
  | 198 => some (.ifCond .eq 16, 3, [214])
  | 201 => some (.aload_n 0, 1, [])
  | 202 => some (.invokestatic 119, 3, [2, 152, 0, 14, 0, 421, 2])
  | 205 => some (.lload_n 3, 1, [])
  | 206 => some (.lcmp, 1, [])
  | 207 => some (.ifCond .ne 7, 3, [214])
  | 210 => some (.iconst 1, 1, [1])
  | 211 => some (.goto 4, 3, [215])
  | 214 => some (.iconst 0, 1, [0])
  | 215 => some (.ireturn, 1, [1])
  | _ => none
def dec157 (pc : Nat) : Option (ClassFile.Instr × Nat × List Nat) := if pc < 96 then dec157_0 pc else if pc < 195 then dec157_1 pc else if pc < 216 then dec157_2 pc else none
def dec158_0 (pc : Nat) : Option (ClassFile.Instr × Nat × List Nat) := match pc with
  | 0 => some (.aload_n 0, 1, [])
  | 1 => some (.invokestatic 119, 3, [2, 152, 0, 14, 0, 421, 2])
  | 4 => some (.lstore_n 2, 1, [])
  | 5 => some (.aload_n 0, 1, [])
  | 6 => some (.iconst 3, 1, [3])
  | 7 => some (.invokestatic 103, 3, [2, 111, 0, 14, 0, 426, 0, 2])
  | 10 => some (.istore 4, 2, [])
  | 12 => some (.aload_n 0, 1, [])
  | 13 => some (.iconst 1, 1, [1])
  | 14 => some (.iconst 0, 1, [0])
  | 15 => some (.invokestatic 114, 3, [2, 109, 0, 14, 0, 606, 0, 0, 2])
  | 18 => some (.istore 5, 2, [])
  | 20 => some (.aload_n 0, 1, [])
  | 21 => some (.iconst 2, 1, [2])
  | 22 => some (.iconst 0, 1, [0])
  | 23 => some (.invokestatic 114, 3, [2, 109, 0, 14, 0, 606, 0, 0, 2])
  | 26 => some (.istore 6, 2, [])
  | 28 => some (.aload_n 0, 1, [])
  | 29 => some (.iconst 3, 1, [3])
  | 30 => some (.iconst 0, 1, [0])
  | 31 => some (.invokestatic 114, 3, [2, 109, 0, 14, 0, 606, 0, 0, 2])
  | 34 => some (.istore 7, 2, [])
  | 36 => some (.aload_n 0, 1, [])
  | 37 => some (.iload_n 1, 1, [])
  | 38 => some (.iconst 3, 1, [3])
  | 39 => some (.invokestatic 108, 3, [2, 100, 0, 14, 0, 499, 0, 0, 2])
  | 42 => some (.istore 8, 2, [])
  | 44 => some (.aload_n 0, 1, [])
  | 45 => some (.iload_n 1, 1, [])
  | 46 => some (.iconst 2, 1, [2])
  | 47 => some (.invokestatic 108, 3, [2, 100, 0, 14, 0, 499, 0, 0, 2])
  | 50 => some (.istore 9, 2, [])
  | 52 => some (.aload_n 0, 1, [])
  | 53 => some (.iload_n 1, 1, [])
  | 54 => some (.invokestatic 138, 3, [2, 113, 0, 14, 0, 721, 0, 2])
  | 57 => some (.istore 10, 2, [])
  | 59 => some (.iconst (-1), 1, [4294967295])
  | 60 => some (.istore 11, 2, [])
  | 62 => some (.iconst 0, 1, [0])
  | 63 => some (.istore 12, 2, [])
  | 65 => some (.iload 12, 2, [])
  | 67 => some (.iload 10, 2, [])
  | 69 => some (.if_icmp .ge 35, 3, [104])
  | 72 => some (.aload_n 0, 1, [])
  | 73 => some (.iload 12, 2, [])
  | 75 => some (.iconst 1, 1, [1])
  | 76 => some (.invokestatic 117, 3, [2, 125, 0, 14, 0, 617, 0, 0, 2])
  | 79 => some (.iload 11, 2, [])
  | _ => none
def dec158_1 (pc : Nat) : Option (ClassFile.Instr × Nat × List Nat) := match pc with
  | 81 => some (.if_icmp .le 13, 3, [94])
  | 84 => some (.aload_n 0, 1, [])
  | 85 => some (.iload 12, 2, [])
  | 87 => some (.iconst 1, 1, [1])
  | 88 => some (.invokestatic 117, 3, [2, 125, 0, 14, 0, 617, 0, 0, 2])
  | 91 => some (.goto 5, 3, [96])
  | 94 => some (.iload 11, 2, [])
  | 96 => some (.istore 11, 2, [])
  | 98 => some (.iinc 12 1, 3, [1])
  | 101 => some (.goto (-36), 3, [65])
  | 104 => some (.iload 10, 2, [])
  | 106 => some (.ifCond .lt 202, 3, [308])
  | 109 => some (.iload 10, 2, [])
  | 111 => some (.aload_n 0, 1, [])
  | 112 => some (.iload_n 1, 1, [])
  | 113 => some (.iconst 0, 1, [0])
  | 114 => some (.invokestatic 108, 3, [2, 100, 0, 14, 0, 499, 0, 0, 2])
  | 117 => some (.if_icmp .gt 191, 3, [308])
  | 120 => some (.iload 10, 2, [])
  | 122 => some (.ifCond .le 7, 3, [129])
  | 125 => some (.iconst 1, 1, [1])
  | 126 => some (.goto 4, 3, [130])
  | 129 => some (.iconst 0, 1, [0])
  | 130 => some (.iload 8, 2, [])
  | 132 => some (.ifCond .le 7, 3, [139])
  | 135 => some (.iconst 1, 1, [1])
  | 136 => some (.goto 4, 3, [140])
  | 139 => some (.iconst 0, 1, [0])
  | 140 => some (.if_icmp .ne 168, 3, [308])
  | 143 => some (.iload 11, 2, [])
  | 145 => some (.iload 9, 2, [])
  | 147 => some (.ifCond .ne 7, 3, [154])
  | 150 => some (.iconst (-1), 1, [4294967295])
  | 151 => some (.goto 5, 3, [156])
  | 154 => some (.iload 9, 2, [])
  | 156 => some (.if_icmp .lt 152, 3, [308])
  | 159 => some (.aload_n 0, 1, [])
  | 160 => some (.iconst 3, 1, [3])
  | 161 => some (.invokestatic 103, 3, [2, 111, 0, 14, 0, 426, 0, 2])
  | 164 => some (.iload 4, 2, [])
  | 166 => some (.iload 10, 2, [])
  | 168 => some (.iadd, 1, [])
  | 169 => some (.if_icmp .ne 139, 3, [308])
  | 172 => some (.aload_n 0, 1, [])
  | 173 => some (.iconst 1, 1, [1])
  | 174 => some (.iconst 0, 1, [0])
  | 175 => some (.invokestatic 114, 3, [2, 109, 0, 14, 0, 606, 0, 0, 2])
  | 178 => some (.iload 11, 2, [])
  | _ => none
def dec158_2 (pc : Nat) : Option (ClassFile.Instr × Nat × List Nat) := match pc with
  | 180 => some (.ifCond .le 7, 3, [187])
  | 183 => some (.iconst 0, 1, [0])
  | 184 => some (.goto 21, 3, [205])
  | 187 => some (.iload 5, 2, [])
  | 189 => some (.sipush 200, 3, [200])
  | 192 => some (.if_icmp .ge 10, 3, [202])
  | 195 => some (.iload 5, 2, [])
  | 197 => some (.iconst 1, 1, [1])
  | 198 => some (.iadd, 1, [])
  | 199 => some (.goto 6, 3, [205])
  | 202 => some (.sipush 200, 3, [200])
  | 205 => some (.if_icmp .ne 103, 3, [308])
  | 208 => some (.aload_n 0, 1, [])
  | 209 => some (.iconst 2, 1, [2])
  | 210 => some (.iconst 0, 1, [0])
  | 211 => some (.invokestatic 114, 3, [2, 109, 0, 14, 0, 606, 0, 0, 2])
  | 214 => some (.iload 11, 2, [])
  | 216 => some (.iconst 1, 1, [1])
  | 217 => some (.if_icmp .le 7, 3, [224])
  | 220 => some (.iconst 0, 1, [0])
  | 221 => some (.goto 21, 3, [242])
  | 224 => some (.iload 6, 2, [])
  | 226 => some (.sipush 200, 3, [200])
  | 229 => some (.if_icmp .ge 10, 3, [239])
  | 232 => some (.iload 6, 2, [])
  | 234 => some (.iconst 1, 1, [1])
  | 235 => some (.iadd, 1, [])
  | 236 => some (.goto 6, 3, [242])
  | 239 => some (.sipush 200, 3, [200])
  | 242 => some (.if_icmp .ne 66, 3, [308])
  | 245 => some (.aload_n 0, 1, [])
  | 246 => some (.iconst 3, 1, [3])
  | 247 => some (.iconst 0, 1, [0])
  | 248 => some (.invokestatic 114, 3, [2, 109, 0, 14, 0, 606, 0, 0, 2])
  | 251 => some (.iload 11, 2, [])
  | 253 => some (.iconst 2, 1, [2])
  | 254 => some (.if_icmp .le 7, 3, [261])
  | 257 => some (.iconst 0, 1, [0])
  | 258 => some (.goto 21, 3, [279])
  | 261 => some (.iload 7, 2, [])
  | 263 => some (.sipush 200, 3, [200])
  | 266 => some (.if_icmp .ge 10, 3, [276])
  | 269 => some (.iload 7, 2, [])
  | 271 => some (.iconst 1, 1, [1])
  | 272 => some (.iadd, 1, [])
  | 273 => some (.goto 6, 3, [279])
  | 276 => some (.sipush 200, 3, [200])
  | 279 => some (.if_icmp .ne 29, 3, [308])
  | _ => none
def dec158_3 (pc : Nat) : Option (ClassFile.Instr × Nat × List Nat) := match pc with
  | 282 => some (.iload 10, 2, [])
  | 284 => some (.ifCond .eq 20, 3, [304])
  | 287 => some (.aload_n 0, 1, [])
  | 288 => some (.iload 10, 2, [])
  | 290 => some (.iconst 1, 1, [1])
  | 291 => some (.isub, 1, [])
  | 292 => some (.iconst 2, 1, [2])
  | 293 => some (.invokestatic 117, 3, [2, 125, 0, 14, 0, 617, 0, 0, 2])
  | 296 => some (.aload_n 0, 1, [])
  | 297 => some (.iconst 2, 1, [2])
  | 298 => some (.invokestatic 103, 3, [2, 111, 0, 14, 0, 426, 0, 2])
  | 301 => some (.if_icmp .ne 7, 3, [308])
  | 304 => some (.iconst 1, 1, [1])
  | 305 => some (.goto 4, 3, [309])
  | 308 => some (.iconst 0, 1, [0])
  | 309 => some (.istore 12, 2, [])
  | 311 => some (.iload 10, 2, [])
  | 313 => some (.aload_n 0, 1, [])
  | 314 => some (.iload_n 1, 1, [])
  | 315 => some (.invokestatic 138, 3, [2, 113, 0, 14, 0, 721, 0, 2])
  | 318 => some (.iadd, 1, [])
  | 319 => some (.istore 10, 2, [])
  | 321 => some (.iload 10, 2, [])
  | 323 => some (.aload_n 0, 1, [])
  | 324 => some (.iload_n 1, 1, [])
  | 325 => some (.invokestatic 138, 3, [2, 113, 0, 14, 0, 721, 0, 2])
  | 328 => some (.iadd, 1, [])
  | 329 => some (.istore 10, 2, [])
  | 331 => some (.aload_n 0, 1, [])
  | 332 => some (.invokestatic 119, 3, [2, 152, 0, 14, 0, 421, 2])
  | 335 => some (.lstore 13, 2, [])
  | 337 => some (.iload 12, 2, [])
  | 339 => some (.ifCond .eq 58, 3, [397])
  | 342 => some (.aload_n 0, 1, [])
  | 343 => some (.invokestatic 168, 3, [2, 147, 0, 14, 0, 303, 2])
  | 346 => some (.ifCond .lt 51, 3, [397])
  | 349 => some (.aload_n 0, 1, [])
  | 350 => some (.invokestatic 168, 3, [2, 147, 0, 14, 0, 303, 2])
  | 353 => some (.ifCond .lt 44, 3, [397])
  | 356 => some (.aload_n 0, 1, [])
  | 357 => some (.invokestatic 168, 3, [2, 147, 0, 14, 0, 303, 2])
  | 360 => some (.ifCond .lt 37, 3, [397])
  | 363 => some (.aload_n 0, 1, [])
  | 364 => some (.invokestatic 119, 3, [2, 152, 0, 14, 0, 421, 2])
  | 367 => some (.lload_n 2, 1, [])
  | 368 => some (.lcmp, 1, [])
  | 369 => some (.ifCond .ne 28, 3, [397])
  | 372 => some (.aload_n 0, 1, [])
  | _ => none
def dec158_4 (pc : Nat) : Option (ClassFile.Instr × Nat × List Nat) := match pc with
  | 373 => some (.iload_n 1, 1, [])
  | 374 => some (.iconst 3, 1, [3])
  | 375 => some (.invokestatic 140, 3, [2, 123, 0, 14, 0, 784, 0, 0, 2])
  | 378 => some (.iload 10, 2, [])
  | 380 => some (.if_icmp .ne 17, 3, [397])
  | 383 => some (.aload_n 0, 1, [])
  | 384 => some (.invokestatic 119, 3, [2, 152, 0, 14, 0, 421, 2])
  | 387 => some (.lload 13, 2, [])
  | 389 => some (.lcmp, 1, [])
  | 390 => some (.ifCond .ne 7, 3, [397])
  | 393 => some (.iconst 1, 1, [1])
  | 394 => some (.goto 4, 3, [398])
  | 397 => some (.iconst 0, 1, [0])
  | 398 => some (.istore 12, 2, [])
  | 400 => some (.iload 12, 2, [])
  | 402 => some (.ifCond .eq 23, 3, [425])
  | 405 => some (.aload_n 0, 1, [])
  | 406 => some (.invokestatic 168, 3, [2, 147, 0, 14, 0, 303, 2])
  | 409 => some (.ifCond .lt 16, 3, [425])
  | 412 => some (.aload_n 0, 1, [])
  | 413 => some (.invokestatic 119, 3, [2, 152, 0, 14, 0, 421, 2])
  | 416 => some (.lload_n 2, 1, [])
  | 417 => some (.lcmp, 1, [])
  | 418 => some (.ifCond .ne 7, 3, [425])
  | 421 => some (.iconst 1, 1, [1])
  | 422 => some (.goto 4, 3, [426])
  | 425 => some (.iconst 0, 1, [0])
  | 426 => some (.ireturn, 1, [1])
  | _ => none
def dec158 (pc : Nat) : Option (ClassFile.Instr × Nat × List Nat) := if pc < 80 then dec158_0 pc else if pc < 179 then dec158_1 pc else if pc < 280 then dec158_2 pc else if pc < 373 then dec158_3 pc else if pc < 427 then dec158_4 pc else none
def dec159_0 (pc : Nat) : Option (ClassFile.Instr × Nat × List Nat) := match pc with
  | 0 => some (.iload_n 2, 1, [])
  | 1 => some (.iconst 3, 1, [3])
  | 2 => some (.irem, 1, [])
  | 3 => some (.istore_n 3, 1, [])
  | 4 => some (.aload_n 0, 1, [])
  | 5 => some (.iload_n 3, 1, [])
  | 6 => some (.iconst 1, 1, [1])
  | 7 => some (.invokestatic 108, 3, [2, 100, 0, 14, 0, 499, 0, 0, 2])
  | 10 => some (.istore 4, 2, [])
  | 12 => some (.iload_n 1, 1, [])
  | 13 => some (.bipush 18, 2, [18])
  | 15 => some (.invokestatic 171, 3, [2, 151, 0, 14, 0, 299, 0, 0])
  | 18 => some (.tableswitch 323 0 13 #[70, 70, 70, 70, 189, 210, 240, 245, 245, 258, 272, 286, 309, 309], 70, [])
  | 88 => some (.aload_n 0, 1, [])
  | 89 => some (.iload_n 3, 1, [])
  | 90 => some (.iload_n 2, 1, [])
  | 91 => some (.iconst 3, 1, [3])
  | 92 => some (.idiv, 1, [])
  | 93 => some (.iconst 4, 1, [4])
  | 94 => some (.irem, 1, [])
  | 95 => some (.ifCond .ne 15, 3, [110])
  | 98 => some (.bipush 16, 2, [16])
  | 100 => some (.iload_n 2, 1, [])
  | 101 => some (.bipush 12, 2, [12])
  | 103 => some (.idiv, 1, [])
  | 104 => some (.iconst 3, 1, [3])
  | 105 => some (.irem, 1, [])
  | 106 => some (.iadd, 1, [])
  | 107 => some (.goto 10, 3, [117])
  | 110 => some (.iload_n 2, 1, [])
  | 111 => some (.bipush 12, 2, [12])
  | 113 => some (.idiv, 1, [])
  | 114 => some (.bipush 8, 2, [8])
  | 116 => some (.irem, 1, [])
  | 117 => some (.iload_n 2, 1, [])
  | 118 => some (.bipush 96, 2, [96])
  | 120 => some (.idiv, 1, [])
  | 121 => some (.iconst 5, 1, [5])
  | 122 => some (.irem, 1, [])
  | 123 => some (.ifCond .ne 17, 3, [140])
  | 126 => some (.iconst 1, 1, [1])
  | 127 => some (.iload_n 2, 1, [])
  | 128 => some (.sipush 480, 3, [480])
  | 131 => some (.idiv, 1, [])
  | 132 => some (.sipush 1000, 3, [1000])
  | 135 => some (.irem, 1, [])
  | 136 => some (.iadd, 1, [])
  | 137 => some (.goto 13, 3, [150])
  | _ => none
def dec159_1 (pc : Nat) : Option (ClassFile.Instr × Nat × List Nat) := match pc with
  | 140 => some (.iconst 1, 1, [1])
  | 141 => some (.iload_n 2, 1, [])
  | 142 => some (.sipush 480, 3, [480])
  | 145 => some (.idiv, 1, [])
  | 146 => some (.bipush 12, 2, [12])
  | 148 => some (.irem, 1, [])
  | 149 => some (.iadd, 1, [])
  | 150 => some (.iload_n 2, 1, [])
  | 151 => some (.iconst 3, 1, [3])
  | 152 => some (.idiv, 1, [])
  | 153 => some (.iconst 4, 1, [4])
  | 154 => some (.irem, 1, [])
  | 155 => some (.ifCond .ne 7, 3, [162])
  | 158 => some (.iconst 0, 1, [0])
  | 159 => some (.goto 9, 3, [168])
  | 162 => some (.iload_n 2, 1, [])
  | 163 => some (.bipush 7, 2, [7])
  | 165 => some (.idiv, 1, [])
  | 166 => some (.iconst 4, 1, [4])
  | 167 => some (.irem, 1, [])
  | 168 => some (.iload_n 2, 1, [])
  | 169 => some (.bipush 11, 2, [11])
  | 171 => some (.idiv, 1, [])
  | 172 => some (.bipush 6, 2, [6])
  | 174 => some (.irem, 1, [])
  | 175 => some (.iconst 3, 1, [3])
  | 176 => some (.if_icmp .ge 7, 3, [183])
  | 179 => some (.iconst 0, 1, [0])
  | 180 => some (.goto 12, 3, [192])
  | 183 => some (.iload_n 2, 1, [])
  | 184 => some (.bipush 11, 2, [11])
  | 186 => some (.idiv, 1, [])
  | 187 => some (.bipush 6, 2, [6])
  | 189 => some (.irem, 1, [])
  | 190 => some (.iconst 2, 1, [2])
  | 191 => some (.isub, 1, [])
  | 192 => some (.iload_n 2, 1, [])
  | 193 => some (.iconst 5, 1, [5])
  | 194 => some (.irem, 1, [])
  | 195 => some (.ifCond .ne 7, 3, [202])
  | 198 => some (.iconst 1, 1, [1])
  | 199 => some (.goto 4, 3, [203])
  | 202 => some (.iconst 0, 1, [0])
  | 203 => some (.invokestatic 125, 3, [2, 89, 0, 14, 0, 655, 0, 0, 0, 0, 0, 0, 2])
  | 206 => some (.ireturn, 1, [0])
  | 207 => some (.aload_n 0, 1, [])
  | 208 => some (.iload_n 3, 1, [])
  | 209 => some (.iload 4, 2, [])
  | _ => none
def dec159_2 (pc : Nat) : Option (ClassFile.Instr × Nat × List Nat) := match pc with
  | 211 => some (.ifCond .ne 7, 3, [218])
  | 214 => some (.iconst 0, 1, [0])
  | 215 => some (.goto 9, 3, [224])
  | 218 => some (.iload_n 2, 1, [])
  | 219 => some (.iconst 3, 1, [3])
  | 220 => some (.idiv, 1, [])
  | 221 => some (.iload 4, 2, [])
  | 223 => some (.irem, 1, [])
  | 224 => some (.invokestatic 128, 3, [2, 91, 0, 14, 0, 677, 0, 0, 2])
  | 227 => some (.ireturn, 1, [0])
  | 228 => some (.aload_n 0, 1, [])
  | 229 => some (.iload_n 3, 1, [])
  | 230 => some (.iload 4, 2, [])
  | 232 => some (.ifCond .ne 7, 3, [239])
  | 235 => some (.iconst 0, 1, [0])
  | 236 => some (.goto 9, 3, [245])
  | 239 => some (.iload_n 2, 1, [])
  | 240 => some (.iconst 3, 1, [3])
  | 241 => some (.idiv, 1, [])
  | 242 => some (.iload 4, 2, [])
  | 244 => some (.irem, 1, [])
  | 245 => some (.iconst 1, 1, [1])
  | 246 => some (.iload_n 2, 1, [])
  | 247 => some (.bipush 20, 2, [20])
  | 249 => some (.idiv, 1, [])
  | 250 => some (.bipush 40, 2, [40])
  | 252 => some (.irem, 1, [])
  | 253 => some (.iadd, 1, [])
  | 254 => some (.invokestatic 130, 3, [2, 96, 0, 14, 0, 692, 0, 0, 0, 2])
  | 257 => some (.ireturn, 1, [0])
  | 258 => some (.aload_n 0, 1, [])
  | 259 => some (.invokevirtual 174, 3, [2, 10, 2, 9, 0, 935])
  | 262 => some (.ireturn, 1, [0])
  | 263 => some (.aload_n 0, 1, [])
  | 264 => some (.iload_n 3, 1, [])
  | 265 => some (.iconst 1, 1, [1])
  | 266 => some (.iload_n 2, 1, [])
  | 267 => some (.iconst 3, 1, [3])
  | 268 => some (.idiv, 1, [])
  | 269 => some (.iconst 2, 1, [2])
  | 270 => some (.irem, 1, [])
  | 271 => some (.iadd, 1, [])
  | 272 => some (.invokestatic 123, 3, [2, 84, 0, 14, 0, 634, 0, 0, 2])
  | 275 => some (.ireturn, 1, [0])
  | 276 => some (.aload_n 0, 1, [])
  | 277 => some (.iconst 1, 1, [1])
  | 278 => some (.iload_n 3, 1, [])
  | 279 => some (.iadd, 1, [])
  | _ => none
def dec159_3 (pc : Nat) : Option (ClassFile.Instr × Nat × List Nat) := match pc with
  | 280 => some (.iload_n 2, 1, [])
  | 281 => some (.iconst 3, 1, [3])
  | 282 => some (.idiv, 1, [])
  | 283 => some (.bipush 20, 2, [20])
  | 285 => some (.irem, 1, [])
  | 286 => some (.invokestatic 132, 3, [2, 102, 0, 14, 0, 699, 0, 0, 2])
  | 289 => some (.ireturn, 1, [0])
  | 290 => some (.aload_n 0, 1, [])
  | 291 => some (.iconst 1, 1, [1])
  | 292 => some (.iload_n 3, 1, [])
  | 293 => some (.iadd, 1, [])
  | 294 => some (.iload_n 2, 1, [])
  | 295 => some (.iconst 3, 1, [3])
  | 296 => some (.idiv, 1, [])
  | 297 => some (.bipush 12, 2, [12])
  | 299 => some (.irem, 1, [])
  | 300 => some (.invokestatic 134, 3, [2, 105, 0, 14, 0, 706, 0, 0, 2])
  | 303 => some (.ireturn, 1, [0])
  | 304 => some (.aload_n 0, 1, [])
  | 305 => some (.iload_n 2, 1, [])
  | 306 => some (.bipush 51, 2, [51])
  | 308 => some (.irem, 1, [])
  | 309 => some (.iload_n 2, 1, [])
  | 310 => some (.bipush 51, 2, [51])
  | 312 => some (.idiv, 1, [])
  | 313 => some (.iconst 2, 1, [2])
  | 314 => some (.irem, 1, [])
  | 315 => some (.ifCond .ne 7, 3, [322])
  | 318 => some (.iconst (-1), 1, [4294967295])
  | 319 => some (.goto 4, 3, [323])
  | 322 => some (.iload_n 2, 1, [])
  | 323 => some (.invokestatic 136, 3, [2, 107, 0, 14, 0, 713, 0, 0, 2])
  | 326 => some (.ireturn, 1, [0])
  | 327 => some (.aload_n 0, 1, [])
  | 328 => some (.iload_n 3, 1, [])
  | 329 => some (.iconst 1, 1, [1])
  | 330 => some (.iload_n 2, 1, [])
  | 331 => some (.iconst 3, 1, [3])
  | 332 => some (.idiv, 1, [])
  | 333 => some (.bipush 30, 2, [30])
  | 335 => some (.irem, 1, [])
  | 336 => some (.iadd, 1, [])
  | 337 => some (.invokestatic 140, 3, [2, 123, 0, 14, 0, 784, 0, 0, 2])
  | 340 => some (.ireturn, 1, [0])
  | 341 => some (.aload_n 0, 1, [])
  | 342 => some (.iload_n 3, 1, [])
  | 343 => some (.invokestatic 138, 3, [2, 113, 0, 14, 0, 721, 0, 2])
  | 346 => some (.ireturn, 1, [0])
  | _ => none
def dec159 (pc : Nat) : Option (ClassFile.Instr × Nat × List Nat) := if pc < 138 then dec159_0 pc else if pc < 210 then dec159_1 pc else if pc < 280 then dec159_2 pc else if pc < 347 then dec159_3 pc else none
def dec160 (pc : Nat) : Option (ClassFile.Instr × Nat × List Nat) := match pc with
  | 0 => some (.iconst 1, 1, [1])
  | 1 => some (.iload_n 0, 1, [])
  | 2 => some (.ishl, 1, [])
  | 3 => some (.ireturn, 1, [0])
  | _ => none
def dec161 (pc : Nat) : Option (ClassFile.Instr × Nat × List Nat) := match pc with
  | 0 => some (.iconst 1, 1, [1])
  | 1 => some (.iload_n 0, 1, [])
  | 2 => some (.ishl, 1, [])
  | 3 => some (.ireturn, 1, [0])
  | _ => none
def dec162 (pc : Nat) : Option (ClassFile.Instr × Nat × List Nat) := match pc with
  | 0 => some (.iconst 1, 1, [1])
  | 1 => some (.iload_n 0, 1, [])
  | 2 => some (.ishl, 1, [])
  | 3 => some (.ireturn, 1, [0])
  | _ => none
def dec163 (pc : Nat) : Option (ClassFile.Instr × Nat × List Nat) := match pc with
  | 0 => some (.iconst 1, 1, [1])
  | 1 => some (.iload_n 0, 1, [])
  | 2 => some (.ishl, 1, [])
  | 3 => some (.ireturn, 1, [0])
  | _ => none
def dec164 (pc : Nat) : Option (ClassFile.Instr × Nat × List Nat) := match pc with
  | 0 => some (.iconst 1, 1, [1])
  | 1 => some (.iload_n 0, 1, [])
  | 2 => some (.ishl, 1, [])
  | 3 => some (.ireturn, 1, [0])
  | _ => none
def dec165 (pc : Nat) : Option (ClassFile.Instr × Nat × List Nat) := match pc with
  | 0 => some (.iconst 1, 1, [1])
  | 1 => some (.iload_n 0, 1, [])
  | 2 => some (.ishl, 1, [])
  | 3 => some (.ireturn, 1, [0])
  | _ => none
def dec166 (pc : Nat) : Option (ClassFile.Instr × Nat × List Nat) := match pc with
  | 0 => some (.iconst 1, 1, [1])
  | 1 => some (.iload_n 0, 1, [])
  | 2 => some (.ishl, 1, [])
  | 3 => some (.ireturn, 1, [0])
  | _ => none
def dec167 (pc : Nat) : Option (ClassFile.Instr × Nat × List Nat) := match pc with
  | 0 => some (.iconst 1, 1, [1])
  | 1 => some (.iload_n 0, 1, [])
  | 2 => some (.ishl, 1, [])
  | 3 => some (.ireturn, 1, [0])
  | _ => none
def dec168 (pc : Nat) : Option (ClassFile.Instr × Nat × List Nat) := match pc with
  | 0 => some (.iconst 1, 1, [1])
  | 1 => some (.iload_n 0, 1, [])
  | 2 => some (.ishl, 1, [])
  | 3 => some (.ireturn, 1, [0])
  | _ => none
def dec169 (pc : Nat) : Option (ClassFile.Instr × Nat × List Nat) := match pc with
  | 0 => some (.iconst 1, 1, [1])
  | 1 => some (.iload_n 0, 1, [])
  | 2 => some (.ishl, 1, [])
  | 3 => some (.ireturn, 1, [0])
  | _ => none
def dec170 (pc : Nat) : Option (ClassFile.Instr × Nat × List Nat) := match pc with
  | 0 => some (.iconst 1, 1, [1])
  | 1 => some (.iload_n 0, 1, [])
  | 2 => some (.ishl, 1, [])
  | 3 => some (.ireturn, 1, [0])
  | _ => none
def dec171 (pc : Nat) : Option (ClassFile.Instr × Nat × List Nat) := match pc with
  | 0 => some (.iconst 1, 1, [1])
  | 1 => some (.iload_n 0, 1, [])
  | 2 => some (.ishl, 1, [])
  | 3 => some (.ireturn, 1, [0])
  | _ => none
def dec172 (pc : Nat) : Option (ClassFile.Instr × Nat × List Nat) := match pc with
  | 0 => some (.iconst 1, 1, [1])
  | 1 => some (.iload_n 0, 1, [])
  | 2 => some (.ishl, 1, [])
  | 3 => some (.ireturn, 1, [0])
  | _ => none
def dec173 (pc : Nat) : Option (ClassFile.Instr × Nat × List Nat) := match pc with
  | 0 => some (.iconst 1, 1, [1])
  | 1 => some (.iload_n 0, 1, [])
  | 2 => some (.ishl, 1, [])
  | 3 => some (.ireturn, 1, [0])
  | _ => none
def dec174 (pc : Nat) : Option (ClassFile.Instr × Nat × List Nat) := match pc with
  | 0 => some (.iconst 1, 1, [1])
  | 1 => some (.iload_n 0, 1, [])
  | 2 => some (.ishl, 1, [])
  | 3 => some (.ireturn, 1, [0])
  | _ => none
def dec175 (pc : Nat) : Option (ClassFile.Instr × Nat × List Nat) := match pc with
  | 0 => some (.iconst 1, 1, [1])
  | 1 => some (.iload_n 0, 1, [])
  | 2 => some (.ishl, 1, [])
  | 3 => some (.ireturn, 1, [0])
  | _ => none
def dec176 (pc : Nat) : Option (ClassFile.Instr × Nat × List Nat) := match pc with
  | 0 => some (.iconst 1, 1, [1])
  | 1 => some (.iload_n 0, 1, [])
  | 2 => some (.ishl, 1, [])
  | 3 => some (.ireturn, 1, [0])
  | _ => none
def dec177 (pc : Nat) : Option (ClassFile.Instr × Nat × List Nat) := match pc with
  | 0 => some (.iconst 1, 1, [1])
  | 1 => some (.iload_n 0, 1, [])
  | 2 => some (.ishl, 1, [])
  | 3 => some (.ireturn, 1, [0])
  | _ => none
def dec178 (pc : Nat) : Option (ClassFile.Instr × Nat × List Nat) := match pc with
  | 0 => some (.iconst 1, 1, [1])
  | 1 => some (.iload_n 0, 1, [])
  | 2 => some (.ishl, 1, [])
  | 3 => some (.ireturn, 1, [0])
  | _ => none
def dec179 (pc : Nat) : Option (ClassFile.Instr × Nat × List Nat) := match pc with
  | 0 => some (.iconst 1, 1, [1])
  | 1 => some (.iload_n 0, 1, [])
  | 2 => some (.ishl, 1, [])
  | 3 => some (.ireturn, 1, [0])
  | _ => none
def dec180 (pc : Nat) : Option (ClassFile.Instr × Nat × List Nat) := match pc with
  | 0 => some (.iconst 1, 1, [1])
  | 1 => some (.iload_n 0, 1, [])
  | 2 => some (.ishl, 1, [])
  | 3 => some (.ireturn, 1, [0])
  | _ => none
def dec181 (pc : Nat) : Option (ClassFile.Instr × Nat × List Nat) := match pc with
  | 0 => some (.iconst 1, 1, [1])
  | 1 => some (.iload_n 0, 1, [])
  | 2 => some (.ishl, 1, [])
  | 3 => some (.ireturn, 1, [0])
  | _ => none
def dec182 (pc : Nat) : Option (ClassFile.Instr × Nat × List Nat) := match pc with
  | 0 => some (.iconst 1, 1, [1])
  | 1 => some (.iload_n 0, 1, [])
  | 2 => some (.ishl, 1, [])
  | 3 => some (.ireturn, 1, [0])
  | _ => none
def dec183 (pc : Nat) : Option (ClassFile.Instr × Nat × List Nat) := match pc with
  | 0 => some (.iconst 1, 1, [1])
  | 1 => some (.iload_n 0, 1, [])
  | 2 => some (.ishl, 1, [])
  | 3 => some (.ireturn, 1, [0])
  | _ => none
def dec184 (pc : Nat) : Option (ClassFile.Instr × Nat × List Nat) := match pc with
  | 0 => some (.iconst 1, 1, [1])
  | 1 => some (.iload_n 0, 1, [])
  | 2 => some (.ishl, 1, [])
  | 3 => some (.ireturn, 1, [0])
  | _ => none
def dec185 (pc : Nat) : Option (ClassFile.Instr × Nat × List Nat) := match pc with
  | 0 => some (.iconst 1, 1, [1])
  | 1 => some (.iload_n 0, 1, [])
  | 2 => some (.ishl, 1, [])
  | 3 => some (.ireturn, 1, [0])
  | _ => none
def dec186 (pc : Nat) : Option (ClassFile.Instr × Nat × List Nat) := match pc with
  | 0 => some (.iconst 1, 1, [1])
  | 1 => some (.iload_n 0, 1, [])
  | 2 => some (.ishl, 1, [])
  | 3 => some (.ireturn, 1, [0])
  | _ => none
def dec187 (pc : Nat) : Option (ClassFile.Instr × Nat × List Nat) := match pc with
  | 0 => some (.iconst 1, 1, [1])
  | 1 => some (.iload_n 0, 1, [])
  | 2 => some (.ishl, 1, [])
  | 3 => some (.ireturn, 1, [0])
  | _ => none
def dec188 (pc : Nat) : Option (ClassFile.Instr × Nat × List Nat) := match pc with
  | 0 => some (.iconst 1, 1, [1])
  | 1 => some (.iload_n 0, 1, [])
  | 2 => some (.ishl, 1, [])
  | 3 => some (.ireturn, 1, [0])
  | _ => none
def dec189 (pc : Nat) : Option (ClassFile.Instr × Nat × List Nat) := match pc with
  | 0 => some (.iconst 1, 1, [1])
  | 1 => some (.iload_n 0, 1, [])
  | 2 => some (.ishl, 1, [])
  | 3 => some (.ireturn, 1, [0])
  | _ => none
def dec190 (pc : Nat) : Option (ClassFile.Instr × Nat × List Nat) := match pc with
  | 0 => some (.iconst 1, 1, [1])
  | 1 => some (.iload_n 0, 1, [])
  | 2 => some (.ishl, 1, [])
  | 3 => some (.ireturn, 1, [0])
  | _ => none
def dec191 (pc : Nat) : Option (ClassFile.Instr × Nat × List Nat) := match pc with
  | 0 => some (.iconst 1, 1, [1])
  | 1 => some (.iload_n 0, 1, [])
  | 2 => some (.ishl, 1, [])
  | 3 => some (.ireturn, 1, [0])
  | _ => none
def dec192 (pc : Nat) : Option (ClassFile.Instr × Nat × List Nat) := match pc with
  | 0 => some (.iconst 1, 1, [1])
  | 1 => some (.iload_n 0, 1, [])
  | 2 => some (.ishl, 1, [])
  | 3 => some (.ireturn, 1, [0])
  | _ => none
def dec193 (pc : Nat) : Option (ClassFile.Instr × Nat × List Nat) := match pc with
  | 0 => some (.iconst 1, 1, [1])
  | 1 => some (.iload_n 0, 1, [])
  | 2 => some (.ishl, 1, [])
  | 3 => some (.ireturn, 1, [0])
  | _ => none
def dec194 (pc : Nat) : Option (ClassFile.Instr × Nat × List Nat) := match pc with
  | 0 => some (.iconst 1, 1, [1])
  | 1 => some (.iload_n 0, 1, [])
  | 2 => some (.ishl, 1, [])
  | 3 => some (.ireturn, 1, [0])
  | _ => none
def dec195 (pc : Nat) : Option (ClassFile.Instr × Nat × List Nat) := match pc with
  | 0 => some (.iconst 1, 1, [1])
  | 1 => some (.iload_n 0, 1, [])
  | 2 => some (.ishl, 1, [])
  | 3 => some (.ireturn, 1, [0])
  | _ => none
def dec196 (pc : Nat) : Option (ClassFile.Instr × Nat × List Nat) := match pc with
  | 0 => some (.iconst 1, 1, [1])
  | 1 => some (.iload_n 0, 1, [])
  | 2 => some (.ishl, 1, [])
  | 3 => some (.ireturn, 1, [0])
  | _ => none
def dec197 (pc : Nat) : Option (ClassFile.Instr × Nat × List Nat) := match pc with
  | 0 => some (.iconst 1, 1, [1])
  | 1 => some (.iload_n 0, 1, [])
  | 2 => some (.ishl, 1, [])
  | 3 => some (.ireturn, 1, [0])
  | _ => none
def dec198 (pc : Nat) : Option (ClassFile.Instr × Nat × List Nat) := match pc with
  | 0 => some (.iconst 1, 1, [1])
  | 1 => some (.iload_n 0, 1, [])
  | 2 => some (.ishl, 1, [])
  | 3 => some (.ireturn, 1, [0])
  | _ => none
def dec199 (pc : Nat) : Option (ClassFile.Instr × Nat × List Nat) := match pc with
  | 0 => some (.iconst 1, 1, [1])
  | 1 => some (.iload_n 0, 1, [])
  | 2 => some (.ishl, 1, [])
  | 3 => some (.ireturn, 1, [0])
  | _ => none
def dec200 (pc : Nat) : Option (ClassFile.Instr × Nat × List Nat) := match pc with
  | 0 => some (.iconst 1, 1, [1])
  | 1 => some (.iload_n 0, 1, [])
  | 2 => some (.ishl, 1, [])
  | 3 => some (.ireturn, 1, [0])
  | _ => none
def dec201 (pc : Nat) : Option (ClassFile.Instr × Nat × List Nat) := match pc with
  | 0 => some (.iconst 1, 1, [1])
  | 1 => some (.iload_n 0, 1, [])
  | 2 => some (.ishl, 1, [])
  | 3 => some (.ireturn, 1, [0])
  | _ => none
def dec202 (pc : Nat) : Option (ClassFile.Instr × Nat × List Nat) := match pc with
  | 0 => some (.iconst 1, 1, [1])
  | 1 => some (.iload_n 0, 1, [])
  | 2 => some (.ishl, 1, [])
  | 3 => some (.ireturn, 1, [0])
  | _ => none
def dec203 (pc : Nat) : Option (ClassFile.Instr × Nat × List Nat) := match pc with
  | 0 => some (.iconst 1, 1, [1])
  | 1 => some (.iload_n 0, 1, [])
  | 2 => some (.ishl, 1, [])
  | 3 => some (.ireturn, 1, [0])
  | _ => none
def dec204 (pc : Nat) : Option (ClassFile.Instr × Nat × List Nat) := match pc with
  | 0 => some (.iconst 1, 1, [1])
  | 1 => some (.iload_n 0, 1, [])
  | 2 => some (.ishl, 1, [])
  | 3 => some (.ireturn, 1, [0])
  | _ => none
def dec205 (pc : Nat) : Option (ClassFile.Instr × Nat × List Nat) := match pc with
  | 0 => some (.iconst 1, 1, [1])
  | 1 => some (.iload_n 0, 1, [])
  | 2 => some (.ishl, 1, [])
  | 3 => some (.ireturn, 1, [0])
  | _ => none
def dec206 (pc : Nat) : Option (ClassFile.Instr × Nat × List Nat) := match pc with
  | 0 => some (.iconst 1, 1, [1])
  | 1 => some (.iload_n 0, 1, [])
  | 2 => some (.ishl, 1, [])
  | 3 => some (.ireturn, 1, [0])
  | _ => none
def dec207 (pc : Nat) : Option (ClassFile.Instr × Nat × List Nat) := match pc with
  | 0 => some (.iconst 1, 1, [1])
  | 1 => some (.iload_n 0, 1, [])
  | 2 => some (.ishl, 1, [])
  | 3 => some (.ireturn, 1, [0])
  | _ => none
def dec208 (pc : Nat) : Option (ClassFile.Instr × Nat × List Nat) := match pc with
  | 0 => some (.iconst 1, 1, [1])
  | 1 => some (.iload_n 0, 1, [])
  | 2 => some (.ishl, 1, [])
  | 3 => some (.ireturn, 1, [0])
  | _ => none
def dec209 (pc : Nat) : Option (ClassFile.Instr × Nat × List Nat) := match pc with
  | 0 => some (.iconst 1, 1, [1])
  | 1 => some (.iload_n 0, 1, [])
  | 2 => some (.ishl, 1, [])
  | 3 => some (.ireturn, 1, [0])
  | _ => none
def dec210 (pc : Nat) : Option (ClassFile.Instr × Nat × List Nat) := match pc with
  | 0 => some (.iconst 1, 1, [1])
  | 1 => some (.iload_n 0, 1, [])
  | 2 => some (.ishl, 1, [])
  | 3 => some (.ireturn, 1, [0])
  | _ => none
def dec211 (pc : Nat) : Option (ClassFile.Instr × Nat × List Nat) := match pc with
  | 0 => some (.iconst 1, 1, [1])
  | 1 => some (.iload_n 0, 1, [])
  | 2 => some (.ishl, 1, [])
  | 3 => some (.ireturn, 1, [0])
  | _ => none
def dec212 (pc : Nat) : Option (ClassFile.Instr × Nat × List Nat) := match pc with
  | 0 => some (.iconst 1, 1, [1])
  | 1 => some (.iload_n 0, 1, [])
  | 2 => some (.ishl, 1, [])
  | 3 => some (.ireturn, 1, [0])
  | _ => none
def dec213 (pc : Nat) : Option (ClassFile.Instr × Nat × List Nat) := match pc with
  | 0 => some (.iconst 1, 1, [1])
  | 1 => some (.iload_n 0, 1, [])
  | 2 => some (.ishl, 1, [])
  | 3 => some (.ireturn, 1, [0])
  | _ => none
def dec214 (pc : Nat) : Option (ClassFile.Instr × Nat × List Nat) := match pc with
  | 0 => some (.iconst 1, 1, [1])
  | 1 => some (.iload_n 0, 1, [])
  | 2 => some (.ishl, 1, [])
  | 3 => some (.ireturn, 1, [0])
  | _ => none
def dec215 (pc : Nat) : Option (ClassFile.Instr × Nat × List Nat) := match pc with
  | 0 => some (.iconst 1, 1, [1])
  | 1 => some (.iload_n 0, 1, [])
  | 2 => some (.ishl, 1, [])
  | 3 => some (.ireturn, 1, [0])
  | _ => none
def dec216 (pc : Nat) : Option (ClassFile.Instr × Nat × List Nat) := match pc with
  | 0 => some (.iconst 1, 1, [1])
  | 1 => some (.iload_n 0, 1, [])
  | 2 => some (.ishl, 1, [])
  | 3 => some (.ireturn, 1, [0])
  | _ => none
def dec217 (pc : Nat) : Option (ClassFile.Instr × Nat × List Nat) := match pc with
  | 0 => some (.iconst 1, 1, [1])
  | 1 => some (.iload_n 0, 1, [])
  | 2 => some (.ishl, 1, [])
  | 3 => some (.ireturn, 1, [0])
  | _ => none
def dec218 (pc : Nat) : Option (ClassFile.Instr × Nat × List Nat) := match pc with
  | 0 => some (.iconst 1, 1, [1])
  | 1 => some (.iload_n 0, 1, [])
  | 2 => some (.ishl, 1, [])
  | 3 => some (.ireturn, 1, [0])
  | _ => none
def dec219 (pc : Nat) : Option (ClassFile.Instr × Nat × List Nat) := match pc with
  | 0 => some (.iconst 1, 1, [1])
  | 1 => some (.iload_n 0, 1, [])
  | 2 => some (.ishl, 1, [])
  | 3 => some (.ireturn, 1, [0])
  | _ => none
def dec220 (pc : Nat) : Option (ClassFile.Instr × Nat × List Nat) := match pc with
  | 0 => some (.iconst 1, 1, [1])
  | 1 => some (.iload_n 0, 1, [])
  | 2 => some (.ishl, 1, [])
  | 3 => some (.ireturn, 1, [0])
  | _ => none
def dec221 (pc : Nat) : Option (ClassFile.Instr × Nat × List Nat) := match pc with
  | 0 => some (.iconst 1, 1, [1])
  | 1 => some (.iload_n 0, 1, [])
  | 2 => some (.ishl, 1, [])
  | 3 => some (.ireturn, 1, [0])
  | _ => none
def dec222 (pc : Nat) : Option (ClassFile.Instr × Nat × List Nat) := match pc with
  | 0 => some (.iconst 1, 1, [1])
  | 1 => some (.iload_n 0, 1, [])
  | 2 => some (.ishl, 1, [])
  | 3 => some (.ireturn, 1, [0])
  | _ => none
def dec223 (pc : Nat) : Option (ClassFile.Instr × Nat × List Nat) := match pc with
  | 0 => some (.iconst 1, 1, [1])
  | 1 => some (.iload_n 0, 1, [])
  | 2 => some (.ishl, 1, [])
  | 3 => some (.ireturn, 1, [0])
  | _ => none
def dec224 (pc : Nat) : Option (ClassFile.Instr × Nat × List Nat) := match pc with
  | 0 => some (.iconst 1, 1, [1])
  | 1 => some (.iload_n 0, 1, [])
  | 2 => some (.ishl, 1, [])
  | 3 => some (.ireturn, 1, [0])
  | _ => none
def dec225 (pc : Nat) : Option (ClassFile.Instr × Nat × List Nat) := match pc with
  | 0 => some (.iconst 1, 1, [1])
  | 1 => some (.iload_n 0, 1, [])
  | 2 => some (.ishl, 1, [])
  | 3 => some (.ireturn, 1, [0])
  | _ => none
def dec226_0 (pc : Nat) : Option (ClassFile.Instr × Nat × List Nat) := match pc with
  | 0 => some (.new 10, 3, [5, 9, 21, 22, 1])
  | 3 => some (.dup, 1, [])
  | 4 => some (.invokespecial 177, 3, [2, 0, 1, 9, 0, 23])
  | 7 => some (.astore_n 1, 1, [])
  | 8 => some (.aload_n 1, 1, [])
  | 9 => some (.invokestatic 168, 3, [2, 147, 0, 14, 0, 303, 2])
  | 12 => some (.ldc 27, 2, [8, 4289967294, 420])
  | 14 => some (.if_icmp .ne 28, 3, [42])
  | 17 => some (.aload_n 1, 1, [])
  | 18 => some (.invokestatic 178, 3, [2, 153, 0, 14, 0, 631, 2])
  | 21 => some (.ifCond .eq 21, 3, [42])
  | 24 => some (.aload_n 1, 1, [])
  | 25 => some (.invokestatic 182, 3, [2, 154, 0, 14, 0, 905, 2])
  | 28 => some (.ifCond .eq 14, 3, [42])
  | 31 => some (.aload_n 1, 1, [])
  | 32 => some (.invokestatic 185, 3, [2, 155, 0, 14, 0, 908, 2])
  | 35 => some (.ifCond .eq 7, 3, [42])
  | 38 => some (.iconst 1, 1, [1])
  | 39 => some (.goto 4, 3, [43])
  | 42 => some (.iconst 0, 1, [0])
  | 43 => some (.istore_n 2, 1, [])
  | 44 => some (.iconst 0, 1, [0])
  | 45 => some (.istore_n 3, 1, [])
  | 46 => some (.iload_n 3, 1, [])
  | 47 => some (.bipush 46, 2, [46])
  | 49 => some (.if_icmp .ge 278, 3, [327])
  | 52 => some (.iload_n 2, 1, [])
  | 53 => some (.ifCond .eq 274, 3, [327])
  | 56 => some (.aload_n 0, 1, [])
  | 57 => some (.iconst 2, 1, [2])
  | 58 => some (.iload_n 3, 1, [])
  | 59 => some (.imul, 1, [])
  | 60 => some (.invokestatic 188, 3, [2, 150, 0, 14, 0, 295, 0, 2])
  | 63 => some (.istore 4, 2, [])
  | 65 => some (.aload_n 0, 1, [])
  | 66 => some (.iconst 2, 1, [2])
  | 67 => some (.iload_n 3, 1, [])
  | 68 => some (.imul, 1, [])
  | 69 => some (.iconst 1, 1, [1])
  | 70 => some (.iadd, 1, [])
  | 71 => some (.invokestatic 188, 3, [2, 150, 0, 14, 0, 295, 0, 2])
  | 74 => some (.ldc 192, 2, [8, 1000000, 947])
  | 76 => some (.invokestatic 171, 3, [2, 151, 0, 14, 0, 299, 0, 0])
  | 79 => some (.istore 5, 2, [])
  | 81 => some (.aload_n 1, 1, [])
  | 82 => some (.invokestatic 119, 3, [2, 152, 0, 14, 0, 421, 2])
  | 85 => some (.lstore 6, 2, [])
  | 87 => some (.iload_n 3, 1, [])
  | _ => none
def dec226_1 (pc : Nat) : Option (ClassFile.Instr × Nat × List Nat) := match pc with
  | 88 => some (.bipush 12, 2, [12])
  | 90 => some (.if_icmp .ge 7, 3, [97])
  | 93 => some (.iconst 0, 1, [0])
  | 94 => some (.goto 10, 3, [104])
  | 97 => some (.iload 4, 2, [])
  | 99 => some (.bipush 18, 2, [18])
  | 101 => some (.invokestatic 171, 3, [2, 151, 0, 14, 0, 299, 0, 0])
  | 104 => some (.istore 8, 2, [])
  | 106 => some (.aload_n 1, 1, [])
  | 107 => some (.bipush 18, 2, [18])
  | 109 => some (.iload 4, 2, [])
  | 111 => some (.iconst 4, 1, [4])
  | 112 => some (.ishr, 1, [])
  | 113 => some (.ldc 193, 2, [8, 99999, 948])
  | 115 => some (.invokestatic 171, 3, [2, 151, 0, 14, 0, 299, 0, 0])
  | 118 => some (.imul, 1, [])
  | 119 => some (.iload 8, 2, [])
  | 121 => some (.iadd, 1, [])
  | 122 => some (.iload 5, 2, [])
  | 124 => some (.invokestatic 194, 3, [2, 159, 0, 14, 0, 932, 0, 0, 2])
  | 127 => some (.istore 9, 2, [])
  | 129 => some (.iload 9, 2, [])
  | 131 => some (.ifCond .ge 24, 3, [155])
  | 134 => some (.iload 9, 2, [])
  | 136 => some (.ldc 27, 2, [8, 4289967294, 420])
  | 138 => some (.if_icmp .eq 17, 3, [155])
  | 141 => some (.iload 9, 2, [])
  | 143 => some (.ldc 20, 2, [8, 4289967295, 498])
  | 145 => some (.if_icmp .eq 10, 3, [155])
  | 148 => some (.iload 9, 2, [])
  | 150 => some (.ldc 17, 2, [8, 4289967293, 582])
  | 152 => some (.if_icmp .ne 7, 3, [159])
  | 155 => some (.iconst 1, 1, [1])
  | 156 => some (.goto 4, 3, [160])
  | 159 => some (.iconst 0, 1, [0])
  | 160 => some (.istore_n 2, 1, [])
  | 161 => some (.iload_n 2, 1, [])
  | 162 => some (.ifCond .eq 41, 3, [203])
  | 165 => some (.iload 9, 2, [])
  | 167 => some (.ifCond .lt 36, 3, [203])
  | 170 => some (.iload 4, 2, [])
  | 172 => some (.bipush 25, 2, [25])
  | 174 => some (.ishr, 1, [])
  | 175 => some (.iconst 3, 1, [3])
  | 176 => some (.iand, 1, [])
  | 177 => some (.ifCond .ne 26, 3, [203])
  | 180 => some (.aload_n 1, 1, [])
  | 181 => some (.invokestatic 168, 3, [2, 147, 0, 14, 0, 303, 2])
  | _ => none
def dec226_2 (pc : Nat) : Option (ClassFile.Instr × Nat × List Nat) := match pc with
  | 184 => some (.ifCond .lt 17, 3, [201])
  | 187 => some (.aload_n 1, 1, [])
  | 188 => some (.invokestatic 119, 3, [2, 152, 0, 14, 0, 421, 2])
  | 191 => some (.lload 6, 2, [])
  | 193 => some (.lcmp, 1, [])
  | 194 => some (.ifCond .ne 7, 3, [201])
  | 197 => some (.iconst 1, 1, [1])
  | 198 => some (.goto 4, 3, [202])
  | 201 => some (.iconst 0, 1, [0])
  | 202 => some (.istore_n 2, 1, [])
  | 203 => some (.iload_n 2, 1, [])
  | 204 => some (.ifCond .eq 115, 3, [319])
  | 207 => some (.aload_n 1, 1, [])
  | 208 => some (.invokestatic 182, 3, [2, 154, 0, 14, 0, 905, 2])
  | 211 => some (.ifCond .eq 108, 3, [319])
  | 214 => some (.iload_n 3, 1, [])
  | 215 => some (.iconst 2, 1, [2])
  | 216 => some (.irem, 1, [])
  | 217 => some (.ifCond .eq 10, 3, [227])
  | 220 => some (.aload_n 1, 1, [])
  | 221 => some (.invokestatic 185, 3, [2, 155, 0, 14, 0, 908, 2])
  | 224 => some (.ifCond .eq 95, 3, [319])
  | 227 => some (.iload_n 3, 1, [])
  | 228 => some (.bipush 9, 2, [9])
  | 230 => some (.irem, 1, [])
  | 231 => some (.bipush 8, 2, [8])
  | 233 => some (.if_icmp .ne 21, 3, [254])
  | 236 => some (.aload_n 1, 1, [])
  | 237 => some (.iload 5, 2, [])
  | 239 => some (.iconst 3, 1, [3])
  | 240 => some (.irem, 1, [])
  | 241 => some (.iload 5, 2, [])
  | 243 => some (.iconst 3, 1, [3])
  | 244 => some (.idiv, 1, [])
  | 245 => some (.bipush 8, 2, [8])
  | 247 => some (.irem, 1, [])
  | 248 => some (.invokestatic 197, 3, [2, 156, 0, 14, 0, 920, 0, 0, 2])
  | 251 => some (.ifCond .eq 68, 3, [319])
  | 254 => some (.iload_n 3, 1, [])
  | 255 => some (.bipush 6, 2, [6])
  | 257 => some (.irem, 1, [])
  | 258 => some (.iconst 5, 1, [5])
  | 259 => some (.if_icmp .ne 14, 3, [273])
  | 262 => some (.aload_n 1, 1, [])
  | 263 => some (.iload 5, 2, [])
  | 265 => some (.iconst 3, 1, [3])
  | 266 => some (.irem, 1, [])
  | 267 => some (.invokestatic 201, 3, [2, 158, 0, 14, 0, 929, 0, 2])
  | _ => none
def dec226_3 (pc : Nat) : Option (ClassFile.Instr × Nat × List Nat) := match pc with
  | 270 => some (.ifCond .eq 49, 3, [319])
  | 273 => some (.iload_n 3, 1, [])
  | 274 => some (.bipush 10, 2, [10])
  | 276 => some (.irem, 1, [])
  | 277 => some (.bipush 9, 2, [9])
  | 279 => some (.if_icmp .ne 21, 3, [300])
  | 282 => some (.aload_n 1, 1, [])
  | 283 => some (.iload 5, 2, [])
  | 285 => some (.iconst 3, 1, [3])
  | 286 => some (.irem, 1, [])
  | 287 => some (.iload 5, 2, [])
  | 289 => some (.iconst 3, 1, [3])
  | 290 => some (.idiv, 1, [])
  | 291 => some (.bipush 8, 2, [8])
  | 293 => some (.irem, 1, [])
  | 294 => some (.invokestatic 205, 3, [2, 157, 0, 14, 0, 926, 0, 0, 2])
  | 297 => some (.ifCond .eq 22, 3, [319])
  | 300 => some (.iload_n 3, 1, [])
  | 301 => some (.bipush 11, 2, [11])
  | 303 => some (.irem, 1, [])
  | 304 => some (.iconst 5, 1, [5])
  | 305 => some (.if_icmp .ne 10, 3, [315])
  | 308 => some (.aload_n 1, 1, [])
  | 309 => some (.invokestatic 178, 3, [2, 153, 0, 14, 0, 631, 2])
  | 312 => some (.ifCond .eq 7, 3, [319])
  | 315 => some (.iconst 1, 1, [1])
  | 316 => some (.goto 4, 3, [320])
  | 319 => some (.iconst 0, 1, [0])
  | 320 => some (.istore_n 2, 1, [])
  | 321 => some (.iinc 3 1, 3, [1])
  | 324 => some (.goto (-278), 3, [46])
  | 327 => some (.iload_n 2, 1, [])
  | 328 => some (.ifCond .eq 21, 3, [349])
  | 331 => some (.aload_n 1, 1, [])
  | 332 => some (.invokestatic 178, 3, [2, 153, 0, 14, 0, 631, 2])
  | 335 => some (.ifCond .eq 14, 3, [349])
  | 338 => some (.aload_n 1, 1, [])
  | 339 => some (.invokestatic 185, 3, [2, 155, 0, 14, 0, 908, 2])
  | 342 => some (.ifCond .eq 7, 3, [349])
  | 345 => some (.iconst 1, 1, [1])
  | 346 => some (.goto 4, 3, [350])
  | 349 => some (.iconst 0, 1, [0])
  | 350 => some (.ireturn, 1, [1])
  | _ => none
def dec226 (pc : Nat) : Option (ClassFile.Instr × Nat × List Nat) := if pc < 88 then dec226_0 pc else if pc < 182 then dec226_1 pc else if pc < 268 then dec226_2 pc else if pc < 351 then dec226_3 pc else none
end
section
def dcl_0 : List (Nat × (Nat → Option (ClassFile.Instr × Nat × List Nat))) := [(104, dec0), (38, dec1), (79, dec2), (24, dec3), (37, dec4), (43, dec5), (14, dec6), (16, dec7), (20, dec8), (54, dec9), (15, dec10), (19, dec11), (52, dec12), (35, dec13), (20, dec14), (34, dec15), (89, dec16), (15, dec17), (11, dec18), (39, dec19), (61, dec20), (6, dec21), (15, dec22), (8, dec23), (61, dec24), (9, dec25), (18, dec26), (7, dec27), (4, dec28), (53, dec29), (21, dec30), (32, dec31)]
def dcl_1 : List (Nat × (Nat → Option (ClassFile.Instr × Nat × List Nat))) := [(42, dec32), (10, dec33), (79, dec34), (4, dec35), (4, dec36), (4, dec37), (4, dec38), (4, dec39), (4, dec40), (4, dec41), (4, dec42), (4, dec43), (15, dec44), (4, dec45), (4, dec46), (4, dec47), (4, dec48), (4, dec49), (21, dec50), (12, dec51), (5, dec52), (13, dec53), (4, dec54), (101, dec55), (25, dec56), (4, dec57), (4, dec58), (132, dec59), (32, dec60), (4, dec61), (82, dec62), (24, dec63)]
def dcl_2 : List (Nat × (Nat → Option (ClassFile.Instr × Nat × List Nat))) := [(72, dec64), (44, dec65), (161, dec66), (28, dec67), (19, dec68), (64, dec69), (20, dec70), (38, dec71), (32, dec72), (181, dec73), (9, dec74), (53, dec75), (23, dec76), (116, dec77), (105, dec78), (209, dec79), (43, dec80), (11, dec81), (31, dec82), (18, dec83), (22, dec84), (30, dec85), (21, dec86), (22, dec87), (14, dec88), (36, dec89), (104, dec90), (17, dec91), (23, dec92), (35, dec93), (52, dec94), (97, dec95)]
def dcl_3 : List (Nat × (Nat → Option (ClassFile.Instr × Nat × List Nat))) := [(25, dec96), (38, dec97), (25, dec98), (21, dec99), (22, dec100), (17, dec101), (22, dec102), (32, dec103), (22, dec104), (22, dec105), (32, dec106), (17, dec107), (63, dec108), (17, dec109), (36, dec110), (15, dec111), (13, dec112), (15, dec113), (21, dec114), (84, dec115), (174, dec116), (40, dec117), (44, dec118), (17, dec119), (32, dec120), (69, dec121), (49, dec122), (22, dec123), (50, dec124), (17, dec125), (33, dec126), (15, dec127)]
def dcl_4 : List (Nat × (Nat → Option (ClassFile.Instr × Nat × List Nat))) := [(19, dec128), (22, dec129), (20, dec130), (82, dec131), (36, dec132), (17, dec133), (30, dec134), (9, dec135), (22, dec136), (32, dec137), (17, dec138), (24, dec139), (17, dec140), (87, dec141), (17, dec142), (166, dec143), (19, dec144), (39, dec145), (45, dec146), (14, dec147), (47, dec148), (31, dec149), (26, dec150), (7, dec151), (207, dec152), (413, dec153), (510, dec154), (355, dec155), (556, dec156), (216, dec157), (427, dec158), (347, dec159)]
def dcl_5 : List (Nat × (Nat → Option (ClassFile.Instr × Nat × List Nat))) := [(4, dec160), (4, dec161), (4, dec162), (4, dec163), (4, dec164), (4, dec165), (4, dec166), (4, dec167), (4, dec168), (4, dec169), (4, dec170), (4, dec171), (4, dec172), (4, dec173), (4, dec174), (4, dec175), (4, dec176), (4, dec177), (4, dec178), (4, dec179), (4, dec180), (4, dec181), (4, dec182), (4, dec183), (4, dec184), (4, dec185), (4, dec186), (4, dec187), (4, dec188), (4, dec189), (4, dec190), (4, dec191)]
def dcl_6 : List (Nat × (Nat → Option (ClassFile.Instr × Nat × List Nat))) := [(4, dec192), (4, dec193), (4, dec194), (4, dec195), (4, dec196), (4, dec197), (4, dec198), (4, dec199), (4, dec200), (4, dec201), (4, dec202), (4, dec203), (4, dec204), (4, dec205), (4, dec206), (4, dec207), (4, dec208), (4, dec209), (4, dec210), (4, dec211), (4, dec212), (4, dec213), (4, dec214), (4, dec215), (4, dec216), (4, dec217), (4, dec218), (4, dec219), (4, dec220), (4, dec221), (4, dec222), (4, dec223)]
def dcl_7 : List (Nat × (Nat → Option (ClassFile.Instr × Nat × List Nat))) := [(4, dec224), (4, dec225), (351, dec226)]
def dcl : List (Nat × (Nat → Option (ClassFile.Instr × Nat × List Nat))) := dcl_0 ++ (dcl_1 ++ (dcl_2 ++ (dcl_3 ++ (dcl_4 ++ (dcl_5 ++ (dcl_6 ++ (dcl_7)))))))
def dec (mi pc : Nat) : Option (ClassFile.Instr × Nat × List Nat) := match dcl[mi]? with
  | some e => if pc < e.1 then e.2 pc else none
  | none => none
end
section
/-! CHECKS: every table entry is held against the printed words, every instruction against decode, by program -/
def ckLk (mi idx : Nat) (rz : List Nat) : Bool := rz == [] || (decide (idx < 1000) && lkT.lookup (mO mi * 1000 + idx) == some rz)
def ckX (mi E ic : Nat) : Bool := mO mi == 9 && ((E == 0 && ic == 283) || (E == 1 && ic == 94) || (E == 2 && ic == 108)) && (mG mi).2.2.2.2.isEmpty
def ckTh (mi pc E : Nat) : Bool := (match dec mi (pc + 3), dec mi (pc + 4), dec mi (pc + 6), dec mi (pc + 9) with
  | some (.dup, 1, _), some (.ldc _, 2, _), some (.invokespecial ic, 3, _), some (.athrow, 1, _) => ckX mi E ic
  | _, _, _, _ => false) || (match dec mi (pc + 3), dec mi (pc + 4), dec mi (pc + 7), dec mi (pc + 10) with
  | some (.dup, 1, _), some (.ldc_w _, 3, _), some (.invokespecial ic, 3, _), some (.athrow, 1, _) => ckX mi E ic
  | _, _, _, _ => false)
def ckT1 (pc : Nat) (o : Int) (rz : List Nat) : Bool := match rz with
  | [t] => (pc : Int) + o == (t : Int)
  | _ => false
def ckR (mi pc : Nat) (i : ClassFile.Instr) (len : Nat) (rz : List Nat) : Bool := match i with
  | .iconst n => len == 1 && (match rz with | [k] => Int32.ofInt n == nI k | _ => false)
  | .bipush n => len == 2 && (match rz with | [k] => (Int8.ofInt n).toInt32 == nI k | _ => false)
  | .sipush n => len == 3 && (match rz with | [k] => (Int16.ofInt n).toInt32 == nI k | _ => false)
  | .lconst n => len == 1 && (match rz with | [k] => Int64.ofNat (n : Nat) == lN k | _ => false)
  | .dconst n => len == 1 && n == 0
  | .goto o => len == 3 && ckT1 pc o rz
  | .ifCond _ o => len == 3 && ckT1 pc o rz
  | .if_icmp _ o => len == 3 && ckT1 pc o rz
  | .ifnull o => len == 3 && ckT1 pc o rz
  | .ifnonnull o => len == 3 && ckT1 pc o rz
  | .iinc k n => len == 3 && decide (k < mL mi) && (match rz with | [v] => Int32.ofInt n == nI v | _ => false)
  | .istore k => len == 2 && decide (k < mL mi)
  | .astore k => len == 2 && decide (k < mL mi)
  | .lstore k => len == 2 && decide (k + 1 < mL mi)
  | .dstore k => len == 2 && decide (k + 1 < mL mi)
  | .istore_n k => len == 1 && decide ((k : Nat) < mL mi)
  | .astore_n k => len == 1 && decide ((k : Nat) < mL mi)
  | .lstore_n k => len == 1 && decide ((k : Nat) + 1 < mL mi)
  | .dstore_n k => len == 1 && decide ((k : Nat) + 1 < mL mi)
  | .iload _ => len == 2
  | .aload _ => len == 2
  | .lload _ => len == 2
  | .dload _ => len == 2
  | .getfield k => len == 3 && ckLk mi k rz
  | .putfield k => len == 3 && ckLk mi k rz && (match rz with | 1 :: ci :: fi :: _ :: nest :: _ => (fT ci fi).2.2.2 == false || ((mG mi).1.name == "<init>" && (fT ci fi).1 == cn (mO mi) && nest == 0) | _ => true)
  | .invokevirtual k => len == 3 && ckLk mi k rz && (match rz with | 2 :: _ :: knd :: _ => knd == 2 | [] => true | _ => false)
  | .invokespecial k => len == 3 && ckLk mi k rz && (match rz with | 2 :: _ :: knd :: _ => knd == 1 | [4, _] => true | [] => true | _ => false)
  | .invokestatic k => len == 3 && ckLk mi k rz && (match rz with | 2 :: _ :: knd :: _ => knd == 0 | [3, _] => true | [10, _] => true | [11, _] => true | [] => true | _ => false)
  | .ireturn => len == 1 && (match rz with | [0] => decide ((mG mi).2.2.2.1 = some .int) | [1] => decide ((mG mi).2.2.2.1 = some .boolean) | _ => false)
  | .lreturn => len == 1 && decide ((mG mi).2.2.2.1 = some .long)
  | .dreturn => len == 1 && decide ((mG mi).2.2.2.1 = some .double)
  | .areturn => len == 1 && (match (mG mi).2.2.2.1 with | some (.object _) => true | _ => false)
  | .return_ => len == 1 && decide ((mG mi).2.2.2.1 = none)
  | .new k => len == 3 && ckLk mi k rz && (match rz with | 6 :: E :: _ => ckTh mi pc E | _ => true)
  | .anewarray k => len == 3 && ckLk mi k rz
  | .newarray _ => len == 2
  | .ldc k => len == 2 && ckLk mi k rz
  | .ldc_w k => len == 3 && ckLk mi k rz
  | .ldc2_w k => len == 3 && ckLk mi k rz
  | .tableswitch _ _ _ _ => true
  | .lookupswitch _ ps => (ps.toList.zip (ps.toList.drop 1)).all (fun (a, next) => decide (a.1 < next.1))
  | _ => len == 1
def ckI (mi pc : Nat) : Bool := match dec mi pc with
  | none => true
  | some (i, len, rz) => decide (decode (mG mi).2.1 pc = .ok (i, len)) && ckR mi pc i len rz
def dln (mi : Nat) : Nat := (dcl.map (fun e => e.1)).getD mi 0
def ckM (mi : Nat) : Prop := ((List.range (dln mi)).all (ckI mi)) = true
end
section
theorem ckm0 : ckM 0 := by unfold ckM; decide +kernel
theorem ckm1 : ckM 1 := by unfold ckM; decide +kernel
theorem ckm2 : ckM 2 := by unfold ckM; decide +kernel
theorem ckm3 : ckM 3 := by unfold ckM; decide +kernel
theorem ckm4 : ckM 4 := by unfold ckM; decide +kernel
theorem ckm5 : ckM 5 := by unfold ckM; decide +kernel
theorem ckm6 : ckM 6 := by unfold ckM; decide +kernel
theorem ckm7 : ckM 7 := by unfold ckM; decide +kernel
theorem ckm8 : ckM 8 := by unfold ckM; decide +kernel
theorem ckm9 : ckM 9 := by unfold ckM; decide +kernel
theorem ckm10 : ckM 10 := by unfold ckM; decide +kernel
theorem ckm11 : ckM 11 := by unfold ckM; decide +kernel
theorem ckm12 : ckM 12 := by unfold ckM; decide +kernel
theorem ckm13 : ckM 13 := by unfold ckM; decide +kernel
theorem ckm14 : ckM 14 := by unfold ckM; decide +kernel
theorem ckm15 : ckM 15 := by unfold ckM; decide +kernel
theorem ckm16 : ckM 16 := by unfold ckM; decide +kernel
theorem ckm17 : ckM 17 := by unfold ckM; decide +kernel
theorem ckm18 : ckM 18 := by unfold ckM; decide +kernel
theorem ckm19 : ckM 19 := by unfold ckM; decide +kernel
theorem ckm20 : ckM 20 := by unfold ckM; decide +kernel
theorem ckm21 : ckM 21 := by unfold ckM; decide +kernel
theorem ckm22 : ckM 22 := by unfold ckM; decide +kernel
theorem ckm23 : ckM 23 := by unfold ckM; decide +kernel
theorem ckm24 : ckM 24 := by unfold ckM; decide +kernel
theorem ckm25 : ckM 25 := by unfold ckM; decide +kernel
theorem ckm26 : ckM 26 := by unfold ckM; decide +kernel
theorem ckm27 : ckM 27 := by unfold ckM; decide +kernel
theorem ckm28 : ckM 28 := by unfold ckM; decide +kernel
theorem ckm29 : ckM 29 := by unfold ckM; decide +kernel
theorem ckm30 : ckM 30 := by unfold ckM; decide +kernel
theorem ckm31 : ckM 31 := by unfold ckM; decide +kernel
theorem ckm32 : ckM 32 := by unfold ckM; decide +kernel
theorem ckm33 : ckM 33 := by unfold ckM; decide +kernel
theorem ckm34 : ckM 34 := by unfold ckM; decide +kernel
theorem ckm35 : ckM 35 := by unfold ckM; decide +kernel
theorem ckm36 : ckM 36 := by unfold ckM; decide +kernel
theorem ckm37 : ckM 37 := by unfold ckM; decide +kernel
theorem ckm38 : ckM 38 := by unfold ckM; decide +kernel
theorem ckm39 : ckM 39 := by unfold ckM; decide +kernel
theorem ckm40 : ckM 40 := by unfold ckM; decide +kernel
theorem ckm41 : ckM 41 := by unfold ckM; decide +kernel
theorem ckm42 : ckM 42 := by unfold ckM; decide +kernel
theorem ckm43 : ckM 43 := by unfold ckM; decide +kernel
theorem ckm44 : ckM 44 := by unfold ckM; decide +kernel
theorem ckm45 : ckM 45 := by unfold ckM; decide +kernel
theorem ckm46 : ckM 46 := by unfold ckM; decide +kernel
theorem ckm47 : ckM 47 := by unfold ckM; decide +kernel
theorem ckm48 : ckM 48 := by unfold ckM; decide +kernel
theorem ckm49 : ckM 49 := by unfold ckM; decide +kernel
theorem ckm50 : ckM 50 := by unfold ckM; decide +kernel
theorem ckm51 : ckM 51 := by unfold ckM; decide +kernel
theorem ckm52 : ckM 52 := by unfold ckM; decide +kernel
theorem ckm53 : ckM 53 := by unfold ckM; decide +kernel
theorem ckm54 : ckM 54 := by unfold ckM; decide +kernel
theorem ckm55 : ckM 55 := by unfold ckM; decide +kernel
theorem ckm56 : ckM 56 := by unfold ckM; decide +kernel
theorem ckm57 : ckM 57 := by unfold ckM; decide +kernel
theorem ckm58 : ckM 58 := by unfold ckM; decide +kernel
theorem ckm59 : ckM 59 := by unfold ckM; decide +kernel
theorem ckm60 : ckM 60 := by unfold ckM; decide +kernel
theorem ckm61 : ckM 61 := by unfold ckM; decide +kernel
theorem ckm62 : ckM 62 := by unfold ckM; decide +kernel
theorem ckm63 : ckM 63 := by unfold ckM; decide +kernel
theorem ckm64 : ckM 64 := by unfold ckM; decide +kernel
theorem ckm65 : ckM 65 := by unfold ckM; decide +kernel
theorem ckm66 : ckM 66 := by unfold ckM; decide +kernel
theorem ckm67 : ckM 67 := by unfold ckM; decide +kernel
theorem ckm68 : ckM 68 := by unfold ckM; decide +kernel
theorem ckm69 : ckM 69 := by unfold ckM; decide +kernel
theorem ckm70 : ckM 70 := by unfold ckM; decide +kernel
theorem ckm71 : ckM 71 := by unfold ckM; decide +kernel
theorem ckm72 : ckM 72 := by unfold ckM; decide +kernel
theorem ckm73 : ckM 73 := by unfold ckM; decide +kernel
theorem ckm74 : ckM 74 := by unfold ckM; decide +kernel
theorem ckm75 : ckM 75 := by unfold ckM; decide +kernel
theorem ckm76 : ckM 76 := by unfold ckM; decide +kernel
theorem ckm77 : ckM 77 := by unfold ckM; decide +kernel
theorem ckm78 : ckM 78 := by unfold ckM; decide +kernel
theorem ckm79 : ckM 79 := by unfold ckM; decide +kernel
theorem ckm80 : ckM 80 := by unfold ckM; decide +kernel
theorem ckm81 : ckM 81 := by unfold ckM; decide +kernel
theorem ckm82 : ckM 82 := by unfold ckM; decide +kernel
theorem ckm83 : ckM 83 := by unfold ckM; decide +kernel
theorem ckm84 : ckM 84 := by unfold ckM; decide +kernel
theorem ckm85 : ckM 85 := by unfold ckM; decide +kernel
theorem ckm86 : ckM 86 := by unfold ckM; decide +kernel
theorem ckm87 : ckM 87 := by unfold ckM; decide +kernel
theorem ckm88 : ckM 88 := by unfold ckM; decide +kernel
theorem ckm89 : ckM 89 := by unfold ckM; decide +kernel
theorem ckm90 : ckM 90 := by unfold ckM; decide +kernel
theorem ckm91 : ckM 91 := by unfold ckM; decide +kernel
theorem ckm92 : ckM 92 := by unfold ckM; decide +kernel
theorem ckm93 : ckM 93 := by unfold ckM; decide +kernel
theorem ckm94 : ckM 94 := by unfold ckM; decide +kernel
theorem ckm95 : ckM 95 := by unfold ckM; decide +kernel
theorem ckm96 : ckM 96 := by unfold ckM; decide +kernel
theorem ckm97 : ckM 97 := by unfold ckM; decide +kernel
theorem ckm98 : ckM 98 := by unfold ckM; decide +kernel
theorem ckm99 : ckM 99 := by unfold ckM; decide +kernel
theorem ckm100 : ckM 100 := by unfold ckM; decide +kernel
theorem ckm101 : ckM 101 := by unfold ckM; decide +kernel
theorem ckm102 : ckM 102 := by unfold ckM; decide +kernel
theorem ckm103 : ckM 103 := by unfold ckM; decide +kernel
theorem ckm104 : ckM 104 := by unfold ckM; decide +kernel
theorem ckm105 : ckM 105 := by unfold ckM; decide +kernel
theorem ckm106 : ckM 106 := by unfold ckM; decide +kernel
theorem ckm107 : ckM 107 := by unfold ckM; decide +kernel
theorem ckm108 : ckM 108 := by unfold ckM; decide +kernel
theorem ckm109 : ckM 109 := by unfold ckM; decide +kernel
theorem ckm110 : ckM 110 := by unfold ckM; decide +kernel
theorem ckm111 : ckM 111 := by unfold ckM; decide +kernel
theorem ckm112 : ckM 112 := by unfold ckM; decide +kernel
theorem ckm113 : ckM 113 := by unfold ckM; decide +kernel
theorem ckm114 : ckM 114 := by unfold ckM; decide +kernel
theorem ckm115 : ckM 115 := by unfold ckM; decide +kernel
end
section
theorem ckm116 : ckM 116 := by unfold ckM; decide +kernel
theorem ckm117 : ckM 117 := by unfold ckM; decide +kernel
theorem ckm118 : ckM 118 := by unfold ckM; decide +kernel
theorem ckm119 : ckM 119 := by unfold ckM; decide +kernel
theorem ckm120 : ckM 120 := by unfold ckM; decide +kernel
theorem ckm121 : ckM 121 := by unfold ckM; decide +kernel
theorem ckm122 : ckM 122 := by unfold ckM; decide +kernel
theorem ckm123 : ckM 123 := by unfold ckM; decide +kernel
theorem ckm124 : ckM 124 := by unfold ckM; decide +kernel
theorem ckm125 : ckM 125 := by unfold ckM; decide +kernel
theorem ckm126 : ckM 126 := by unfold ckM; decide +kernel
theorem ckm127 : ckM 127 := by unfold ckM; decide +kernel
theorem ckm128 : ckM 128 := by unfold ckM; decide +kernel
theorem ckm129 : ckM 129 := by unfold ckM; decide +kernel
theorem ckm130 : ckM 130 := by unfold ckM; decide +kernel
theorem ckm131 : ckM 131 := by unfold ckM; decide +kernel
theorem ckm132 : ckM 132 := by unfold ckM; decide +kernel
theorem ckm133 : ckM 133 := by unfold ckM; decide +kernel
theorem ckm134 : ckM 134 := by unfold ckM; decide +kernel
theorem ckm135 : ckM 135 := by unfold ckM; decide +kernel
theorem ckm136 : ckM 136 := by unfold ckM; decide +kernel
theorem ckm137 : ckM 137 := by unfold ckM; decide +kernel
theorem ckm138 : ckM 138 := by unfold ckM; decide +kernel
theorem ckm139 : ckM 139 := by unfold ckM; decide +kernel
theorem ckm140 : ckM 140 := by unfold ckM; decide +kernel
theorem ckm141 : ckM 141 := by unfold ckM; decide +kernel
theorem ckm142 : ckM 142 := by unfold ckM; decide +kernel
theorem ckm143 : ckM 143 := by unfold ckM; decide +kernel
theorem ckm144 : ckM 144 := by unfold ckM; decide +kernel
theorem ckm145 : ckM 145 := by unfold ckM; decide +kernel
theorem ckm146 : ckM 146 := by unfold ckM; decide +kernel
theorem ckm147 : ckM 147 := by unfold ckM; decide +kernel
theorem ckm148 : ckM 148 := by unfold ckM; decide +kernel
theorem ckm149 : ckM 149 := by unfold ckM; decide +kernel
theorem ckm150 : ckM 150 := by unfold ckM; decide +kernel
theorem ckm151 : ckM 151 := by unfold ckM; decide +kernel
theorem ckm152 : ckM 152 := by unfold ckM; decide +kernel
end
section
theorem ckm153_0 : (List.range' 0 96).all (ckI 153) = true := by decide +kernel
theorem ckm153_1 : (List.range' 96 96).all (ckI 153) = true := by decide +kernel
theorem ckm153_2 : (List.range' 192 96).all (ckI 153) = true := by decide +kernel
theorem ckm153_3 : (List.range' 288 96).all (ckI 153) = true := by decide +kernel
theorem ckm153_4 : (List.range' 384 29).all (ckI 153) = true := by decide +kernel
theorem ckm153 : ckM 153 := by
  unfold ckM
  have hd : dln 153 = 413 := by decide +kernel
  rw [hd]
  refine List.all_eq_true.mpr fun pc hp => ?_
  have hp := List.mem_range.mp hp
  by_cases h0 : pc < 96
  · exact List.all_eq_true.mp ckm153_0 pc (List.mem_range'_1.mpr (by omega))
  by_cases h1 : pc < 192
  · exact List.all_eq_true.mp ckm153_1 pc (List.mem_range'_1.mpr (by omega))
  by_cases h2 : pc < 288
  · exact List.all_eq_true.mp ckm153_2 pc (List.mem_range'_1.mpr (by omega))
  by_cases h3 : pc < 384
  · exact List.all_eq_true.mp ckm153_3 pc (List.mem_range'_1.mpr (by omega))
  by_cases h4 : pc < 413
  · exact List.all_eq_true.mp ckm153_4 pc (List.mem_range'_1.mpr (by omega))
  omega
end
section
theorem ckm154_0 : (List.range' 0 96).all (ckI 154) = true := by decide +kernel
theorem ckm154_1 : (List.range' 96 96).all (ckI 154) = true := by decide +kernel
theorem ckm154_2 : (List.range' 192 96).all (ckI 154) = true := by decide +kernel
theorem ckm154_3 : (List.range' 288 96).all (ckI 154) = true := by decide +kernel
theorem ckm154_4 : (List.range' 384 96).all (ckI 154) = true := by decide +kernel
theorem ckm154_5 : (List.range' 480 30).all (ckI 154) = true := by decide +kernel
theorem ckm154 : ckM 154 := by
  unfold ckM
  have hd : dln 154 = 510 := by decide +kernel
  rw [hd]
  refine List.all_eq_true.mpr fun pc hp => ?_
  have hp := List.mem_range.mp hp
  by_cases h0 : pc < 96
  · exact List.all_eq_true.mp ckm154_0 pc (List.mem_range'_1.mpr (by omega))
  by_cases h1 : pc < 192
  · exact List.all_eq_true.mp ckm154_1 pc (List.mem_range'_1.mpr (by omega))
  by_cases h2 : pc < 288
  · exact List.all_eq_true.mp ckm154_2 pc (List.mem_range'_1.mpr (by omega))
  by_cases h3 : pc < 384
  · exact List.all_eq_true.mp ckm154_3 pc (List.mem_range'_1.mpr (by omega))
  by_cases h4 : pc < 480
  · exact List.all_eq_true.mp ckm154_4 pc (List.mem_range'_1.mpr (by omega))
  by_cases h5 : pc < 510
  · exact List.all_eq_true.mp ckm154_5 pc (List.mem_range'_1.mpr (by omega))
  omega
end
section
theorem ckm155 : ckM 155 := by unfold ckM; decide +kernel
end
section
theorem ckm156_0 : (List.range' 0 96).all (ckI 156) = true := by decide +kernel
theorem ckm156_1 : (List.range' 96 96).all (ckI 156) = true := by decide +kernel
theorem ckm156_2 : (List.range' 192 96).all (ckI 156) = true := by decide +kernel
theorem ckm156_3 : (List.range' 288 96).all (ckI 156) = true := by decide +kernel
theorem ckm156_4 : (List.range' 384 96).all (ckI 156) = true := by decide +kernel
theorem ckm156_5 : (List.range' 480 76).all (ckI 156) = true := by decide +kernel
theorem ckm156 : ckM 156 := by
  unfold ckM
  have hd : dln 156 = 556 := by decide +kernel
  rw [hd]
  refine List.all_eq_true.mpr fun pc hp => ?_
  have hp := List.mem_range.mp hp
  by_cases h0 : pc < 96
  · exact List.all_eq_true.mp ckm156_0 pc (List.mem_range'_1.mpr (by omega))
  by_cases h1 : pc < 192
  · exact List.all_eq_true.mp ckm156_1 pc (List.mem_range'_1.mpr (by omega))
  by_cases h2 : pc < 288
  · exact List.all_eq_true.mp ckm156_2 pc (List.mem_range'_1.mpr (by omega))
  by_cases h3 : pc < 384
  · exact List.all_eq_true.mp ckm156_3 pc (List.mem_range'_1.mpr (by omega))
  by_cases h4 : pc < 480
  · exact List.all_eq_true.mp ckm156_4 pc (List.mem_range'_1.mpr (by omega))
  by_cases h5 : pc < 556
  · exact List.all_eq_true.mp ckm156_5 pc (List.mem_range'_1.mpr (by omega))
  omega
end
section
theorem ckm157 : ckM 157 := by unfold ckM; decide +kernel
end
section
theorem ckm158_0 : (List.range' 0 96).all (ckI 158) = true := by decide +kernel
theorem ckm158_1 : (List.range' 96 96).all (ckI 158) = true := by decide +kernel
theorem ckm158_2 : (List.range' 192 96).all (ckI 158) = true := by decide +kernel
theorem ckm158_3 : (List.range' 288 96).all (ckI 158) = true := by decide +kernel
theorem ckm158_4 : (List.range' 384 43).all (ckI 158) = true := by decide +kernel
theorem ckm158 : ckM 158 := by
  unfold ckM
  have hd : dln 158 = 427 := by decide +kernel
  rw [hd]
  refine List.all_eq_true.mpr fun pc hp => ?_
  have hp := List.mem_range.mp hp
  by_cases h0 : pc < 96
  · exact List.all_eq_true.mp ckm158_0 pc (List.mem_range'_1.mpr (by omega))
  by_cases h1 : pc < 192
  · exact List.all_eq_true.mp ckm158_1 pc (List.mem_range'_1.mpr (by omega))
  by_cases h2 : pc < 288
  · exact List.all_eq_true.mp ckm158_2 pc (List.mem_range'_1.mpr (by omega))
  by_cases h3 : pc < 384
  · exact List.all_eq_true.mp ckm158_3 pc (List.mem_range'_1.mpr (by omega))
  by_cases h4 : pc < 427
  · exact List.all_eq_true.mp ckm158_4 pc (List.mem_range'_1.mpr (by omega))
  omega
end
section
theorem ckm159 : ckM 159 := by unfold ckM; decide +kernel
theorem ckm160 : ckM 160 := by unfold ckM; decide +kernel
theorem ckm161 : ckM 161 := by unfold ckM; decide +kernel
theorem ckm162 : ckM 162 := by unfold ckM; decide +kernel
theorem ckm163 : ckM 163 := by unfold ckM; decide +kernel
theorem ckm164 : ckM 164 := by unfold ckM; decide +kernel
theorem ckm165 : ckM 165 := by unfold ckM; decide +kernel
theorem ckm166 : ckM 166 := by unfold ckM; decide +kernel
theorem ckm167 : ckM 167 := by unfold ckM; decide +kernel
theorem ckm168 : ckM 168 := by unfold ckM; decide +kernel
theorem ckm169 : ckM 169 := by unfold ckM; decide +kernel
theorem ckm170 : ckM 170 := by unfold ckM; decide +kernel
theorem ckm171 : ckM 171 := by unfold ckM; decide +kernel
theorem ckm172 : ckM 172 := by unfold ckM; decide +kernel
theorem ckm173 : ckM 173 := by unfold ckM; decide +kernel
theorem ckm174 : ckM 174 := by unfold ckM; decide +kernel
theorem ckm175 : ckM 175 := by unfold ckM; decide +kernel
theorem ckm176 : ckM 176 := by unfold ckM; decide +kernel
theorem ckm177 : ckM 177 := by unfold ckM; decide +kernel
theorem ckm178 : ckM 178 := by unfold ckM; decide +kernel
theorem ckm179 : ckM 179 := by unfold ckM; decide +kernel
theorem ckm180 : ckM 180 := by unfold ckM; decide +kernel
theorem ckm181 : ckM 181 := by unfold ckM; decide +kernel
theorem ckm182 : ckM 182 := by unfold ckM; decide +kernel
theorem ckm183 : ckM 183 := by unfold ckM; decide +kernel
theorem ckm184 : ckM 184 := by unfold ckM; decide +kernel
theorem ckm185 : ckM 185 := by unfold ckM; decide +kernel
theorem ckm186 : ckM 186 := by unfold ckM; decide +kernel
theorem ckm187 : ckM 187 := by unfold ckM; decide +kernel
theorem ckm188 : ckM 188 := by unfold ckM; decide +kernel
theorem ckm189 : ckM 189 := by unfold ckM; decide +kernel
theorem ckm190 : ckM 190 := by unfold ckM; decide +kernel
theorem ckm191 : ckM 191 := by unfold ckM; decide +kernel
theorem ckm192 : ckM 192 := by unfold ckM; decide +kernel
theorem ckm193 : ckM 193 := by unfold ckM; decide +kernel
theorem ckm194 : ckM 194 := by unfold ckM; decide +kernel
theorem ckm195 : ckM 195 := by unfold ckM; decide +kernel
theorem ckm196 : ckM 196 := by unfold ckM; decide +kernel
theorem ckm197 : ckM 197 := by unfold ckM; decide +kernel
theorem ckm198 : ckM 198 := by unfold ckM; decide +kernel
theorem ckm199 : ckM 199 := by unfold ckM; decide +kernel
theorem ckm200 : ckM 200 := by unfold ckM; decide +kernel
theorem ckm201 : ckM 201 := by unfold ckM; decide +kernel
theorem ckm202 : ckM 202 := by unfold ckM; decide +kernel
theorem ckm203 : ckM 203 := by unfold ckM; decide +kernel
theorem ckm204 : ckM 204 := by unfold ckM; decide +kernel
theorem ckm205 : ckM 205 := by unfold ckM; decide +kernel
theorem ckm206 : ckM 206 := by unfold ckM; decide +kernel
theorem ckm207 : ckM 207 := by unfold ckM; decide +kernel
theorem ckm208 : ckM 208 := by unfold ckM; decide +kernel
theorem ckm209 : ckM 209 := by unfold ckM; decide +kernel
theorem ckm210 : ckM 210 := by unfold ckM; decide +kernel
theorem ckm211 : ckM 211 := by unfold ckM; decide +kernel
theorem ckm212 : ckM 212 := by unfold ckM; decide +kernel
theorem ckm213 : ckM 213 := by unfold ckM; decide +kernel
theorem ckm214 : ckM 214 := by unfold ckM; decide +kernel
theorem ckm215 : ckM 215 := by unfold ckM; decide +kernel
theorem ckm216 : ckM 216 := by unfold ckM; decide +kernel
theorem ckm217 : ckM 217 := by unfold ckM; decide +kernel
theorem ckm218 : ckM 218 := by unfold ckM; decide +kernel
theorem ckm219 : ckM 219 := by unfold ckM; decide +kernel
theorem ckm220 : ckM 220 := by unfold ckM; decide +kernel
theorem ckm221 : ckM 221 := by unfold ckM; decide +kernel
theorem ckm222 : ckM 222 := by unfold ckM; decide +kernel
theorem ckm223 : ckM 223 := by unfold ckM; decide +kernel
theorem ckm224 : ckM 224 := by unfold ckM; decide +kernel
theorem ckm225 : ckM 225 := by unfold ckM; decide +kernel
theorem ckm226 : ckM 226 := by unfold ckM; decide +kernel
end
section
theorem cka0 : ∀ a, a < 32 → ckM a := (lt_s (lt_s (lt_s (lt_s (lt_s (lt_s (lt_s (lt_s (lt_s (lt_s (lt_s (lt_s (lt_s (lt_s (lt_s (lt_s (lt_s (lt_s (lt_s (lt_s (lt_s (lt_s (lt_s (lt_s (lt_s (lt_s (lt_s (lt_s (lt_s (lt_s (lt_s (lt_s lt_0 ckm0) ckm1) ckm2) ckm3) ckm4) ckm5) ckm6) ckm7) ckm8) ckm9) ckm10) ckm11) ckm12) ckm13) ckm14) ckm15) ckm16) ckm17) ckm18) ckm19) ckm20) ckm21) ckm22) ckm23) ckm24) ckm25) ckm26) ckm27) ckm28) ckm29) ckm30) ckm31)
theorem cka1 : ∀ a, a < 64 → ckM a := (lt_s (lt_s (lt_s (lt_s (lt_s (lt_s (lt_s (lt_s (lt_s (lt_s (lt_s (lt_s (lt_s (lt_s (lt_s (lt_s (lt_s (lt_s (lt_s (lt_s (lt_s (lt_s (lt_s (lt_s (lt_s (lt_s (lt_s (lt_s (lt_s (lt_s (lt_s (lt_s cka0 ckm32) ckm33) ckm34) ckm35) ckm36) ckm37) ckm38) ckm39) ckm40) ckm41) ckm42) ckm43) ckm44) ckm45) ckm46) ckm47) ckm48) ckm49) ckm50) ckm51) ckm52) ckm53) ckm54) ckm55) ckm56) ckm57) ckm58) ckm59) ckm60) ckm61) ckm62) ckm63)
theorem cka2 : ∀ a, a < 96 → ckM a := (lt_s (lt_s (lt_s (lt_s (lt_s (lt_s (lt_s (lt_s (lt_s (lt_s (lt_s (lt_s (lt_s (lt_s (lt_s (lt_s (lt_s (lt_s (lt_s (lt_s (lt_s (lt_s (lt_s (lt_s (lt_s (lt_s (lt_s (lt_s (lt_s (lt_s (lt_s (lt_s cka1 ckm64) ckm65) ckm66) ckm67) ckm68) ckm69) ckm70) ckm71) ckm72) ckm73) ckm74) ckm75) ckm76) ckm77) ckm78) ckm79) ckm80) ckm81) ckm82) ckm83) ckm84) ckm85) ckm86) ckm87) ckm88) ckm89) ckm90) ckm91) ckm92) ckm93) ckm94) ckm95)
theorem cka3 : ∀ a, a < 128 → ckM a := (lt_s (lt_s (lt_s (lt_s (lt_s (lt_s (lt_s (lt_s (lt_s (lt_s (lt_s (lt_s (lt_s (lt_s (lt_s (lt_s (lt_s (lt_s (lt_s (lt_s (lt_s (lt_s (lt_s (lt_s (lt_s (lt_s (lt_s (lt_s (lt_s (lt_s (lt_s (lt_s cka2 ckm96) ckm97) ckm98) ckm99) ckm100) ckm101) ckm102) ckm103) ckm104) ckm105) ckm106) ckm107) ckm108) ckm109) ckm110) ckm111) ckm112) ckm113) ckm114) ckm115) ckm116) ckm117) ckm118) ckm119) ckm120) ckm121) ckm122) ckm123) ckm124) ckm125) ckm126) ckm127)
theorem cka4 : ∀ a, a < 160 → ckM a := (lt_s (lt_s (lt_s (lt_s (lt_s (lt_s (lt_s (lt_s (lt_s (lt_s (lt_s (lt_s (lt_s (lt_s (lt_s (lt_s (lt_s (lt_s (lt_s (lt_s (lt_s (lt_s (lt_s (lt_s (lt_s (lt_s (lt_s (lt_s (lt_s (lt_s (lt_s (lt_s cka3 ckm128) ckm129) ckm130) ckm131) ckm132) ckm133) ckm134) ckm135) ckm136) ckm137) ckm138) ckm139) ckm140) ckm141) ckm142) ckm143) ckm144) ckm145) ckm146) ckm147) ckm148) ckm149) ckm150) ckm151) ckm152) ckm153) ckm154) ckm155) ckm156) ckm157) ckm158) ckm159)
theorem cka5 : ∀ a, a < 192 → ckM a := (lt_s (lt_s (lt_s (lt_s (lt_s (lt_s (lt_s (lt_s (lt_s (lt_s (lt_s (lt_s (lt_s (lt_s (lt_s (lt_s (lt_s (lt_s (lt_s (lt_s (lt_s (lt_s (lt_s (lt_s (lt_s (lt_s (lt_s (lt_s (lt_s (lt_s (lt_s (lt_s cka4 ckm160) ckm161) ckm162) ckm163) ckm164) ckm165) ckm166) ckm167) ckm168) ckm169) ckm170) ckm171) ckm172) ckm173) ckm174) ckm175) ckm176) ckm177) ckm178) ckm179) ckm180) ckm181) ckm182) ckm183) ckm184) ckm185) ckm186) ckm187) ckm188) ckm189) ckm190) ckm191)
theorem cka6 : ∀ a, a < 224 → ckM a := (lt_s (lt_s (lt_s (lt_s (lt_s (lt_s (lt_s (lt_s (lt_s (lt_s (lt_s (lt_s (lt_s (lt_s (lt_s (lt_s (lt_s (lt_s (lt_s (lt_s (lt_s (lt_s (lt_s (lt_s (lt_s (lt_s (lt_s (lt_s (lt_s (lt_s (lt_s (lt_s cka5 ckm192) ckm193) ckm194) ckm195) ckm196) ckm197) ckm198) ckm199) ckm200) ckm201) ckm202) ckm203) ckm204) ckm205) ckm206) ckm207) ckm208) ckm209) ckm210) ckm211) ckm212) ckm213) ckm214) ckm215) ckm216) ckm217) ckm218) ckm219) ckm220) ckm221) ckm222) ckm223)
theorem cka7 : ∀ a, a < 227 → ckM a := (lt_s (lt_s (lt_s cka6 ckm224) ckm225) ckm226)
theorem dec_ck {mi pc : Nat} {r : ClassFile.Instr × Nat × List Nat} (h : dec mi pc = some r) : ckI mi pc = true := by
  have h0 := h
  unfold dec at h
  cases he : dcl[mi]? with
  | none => rw [he] at h; cases h
  | some e =>
    rw [he] at h
    dsimp only at h
    by_cases hp : pc < e.1
    · have hm : mi < 227 := by
        have := (List.getElem?_eq_some_iff.mp he).1
        have h2 : dcl.length = 227 := by decide +kernel
        omega
      have hc := cka7 mi hm
      unfold ckM at hc
      have hd : dln mi = e.1 := by
        unfold dln
        rw [List.getD_eq_getElem?_getD, List.getElem?_map, he]; rfl
      rw [hd] at hc
      exact List.all_eq_true.mp hc pc (List.mem_range.mpr hp)
    · rw [if_neg hp] at h; cases h
theorem dec_ok {mi pc : Nat} {i : ClassFile.Instr} {len : Nat} {rz : List Nat} (h : dec mi pc = some (i, len, rz)) : decode (mG mi).2.1 pc = .ok (i, len) ∧ ckR mi pc i len rz = true := by
  have hc := dec_ck h
  unfold ckI at hc
  rw [h] at hc
  simpa using hc
/-- the three exceptions -/
def xcN (E : Nat) : String := match E with
  | 0 => "java/lang/IndexOutOfBoundsException"
  | 1 => "java/lang/IllegalArgumentException"
  | _ => "java/lang/IllegalStateException"
/-- a link entry, held against the printed words -/
def lkB (k : Nat) (rz : List Nat) : Bool := match rz with
  | [1, ci, fi, ty, 0, pl] => decide (tables_1[pl]? = some (.fieldLink (cn (k / 1000)) (k % 1000) (fT ci fi).1 (fT ci fi).2.1 (fT ci fi).2.2.1)) && decide (ci < 11) && decide (fi < fN ci) && decide (ty = match fY ci fi with | .int => 0 | .long => 1 | _ => 2)
  | [1, ci, fi, ty, _, pl] => decide (tables_1[pl]? = some (.fieldLinkNest (cn (k / 1000)) (k % 1000) (fT ci fi).1 (fT ci fi).2.1 (fT ci fi).2.2.1 RX9)) && decide (ci < 11) && decide (fi < fN ci) && decide (ty = match fY ci fi with | .int => 0 | .long => 1 | _ => 2)
  | 2 :: mj :: knd :: ci :: nest :: pl :: ps => (if nest = 0 then decide (tables_1[pl]? = some (.methodLink (cn (k / 1000)) (k % 1000) (mG mj).1)) else decide (tables_1[pl]? = some (.methodLinkNest (cn (k / 1000)) (k % 1000) (mG mj).1 RX9))) && decide (mj < 226 ∧ mj ≠ 18 ∧ mj ≠ 81) && decide ((mG mj).1.cls = cn ci) && decide ((parseMethodDescriptor (mG mj).1.desc).map (fun d => d.parameters.length) = some ps.length) && (match mpl[mj]? with
      | some (_, p2, p3, _) => if knd = 0 then decide (tables_1[p2]? = some (.static (mG mj).1)) else decide (tables_1[p2]? = some (.instanceMethod (mG mj).1)) && decide (ci < 11) && (if knd = 1 then decide ((mG mj).1.name = "<init>") && decide ((mG mj).2.2.2.1 = none) else decide (lw_tbl[p3]? = some (.selects (cn ci) (mG mj).1 (mG mj).1)))
      | none => false)
  | [3, pl] => decide (tables_1[pl]? = some (.methodLink (cn (k / 1000)) (k % 1000) arraycopyName))
  | [10, pl] => decide (tables_1[pl]? = some (.methodLink (cn (k / 1000)) (k % 1000) Lib.Math.min.name))
  | [11, pl] => decide (tables_1[pl]? = some (.methodLink (cn (k / 1000)) (k % 1000) Lib.Math.max.name))
  | [4, pl] => decide (tables_1[pl]? = some (.methodLink (cn (k / 1000)) (k % 1000) objectInit))
  | [5, ci, pl, pi, pj] => decide (tables_1[pl]? = some (.classLink (cn (k / 1000)) (k % 1000) (cn ci))) && decide (tables_1[pi]? = some (.instantiable (cn ci) (fN ci))) && decide (tables_1[pj]? = some (.initialized (cn ci))) && decide (ci < 11)
  | [6, E, pl] => decide (tables_1[pl]? = some (.classLink (cn (k / 1000)) (k % 1000) (xcN E))) && decide (E < 3)
  | [7, pl, pi] => decide (tables_1[pl]? = some (.classLink (cn (k / 1000)) (k % 1000) RX6)) && decide (tables_1[pi]? = some (.instantiable RX6 3))
  | [8, v, pl] => decide (tables_1[pl]? = some (.constant (cn (k / 1000)) (k % 1000) (nI v)))
  | [9, v, pl] => decide (tables_1[pl]? = some (.constantLong (cn (k / 1000)) (k % 1000) (lN v)))
  | _ => false
theorem lkc0 : lkT_0.all (fun e => lkB e.1 e.2) = true := by decide +kernel
theorem lkc1 : lkT_1.all (fun e => lkB e.1 e.2) = true := by decide +kernel
theorem lkc2 : lkT_2.all (fun e => lkB e.1 e.2) = true := by decide +kernel
theorem lkc3 : lkT_3.all (fun e => lkB e.1 e.2) = true := by decide +kernel
theorem lkc4 : lkT_4.all (fun e => lkB e.1 e.2) = true := by decide +kernel
theorem lkc5 : lkT_5.all (fun e => lkB e.1 e.2) = true := by decide +kernel
theorem lkc6 : lkT_6.all (fun e => lkB e.1 e.2) = true := by decide +kernel
theorem lkc7 : lkT_7.all (fun e => lkB e.1 e.2) = true := by decide +kernel
theorem lkc8 : lkT_8.all (fun e => lkB e.1 e.2) = true := by decide +kernel
theorem lk_ok {k : Nat} {rz : List Nat} (h : lkT.lookup k = some rz) : lkB k rz = true := by
  have hall : lkT.all (fun e => lkB e.1 e.2) = true := by
    unfold lkT
    simp only [List.all_append, Bool.and_eq_true]
    exact ⟨lkc0, ⟨lkc1, ⟨lkc2, ⟨lkc3, ⟨lkc4, ⟨lkc5, ⟨lkc6, ⟨lkc7, lkc8⟩⟩⟩⟩⟩⟩⟩⟩
  have key : ∀ (l : List (Nat × List Nat)), l.all (fun e => lkB e.1 e.2) = true → l.lookup k = some rz → lkB k rz = true := by
    intro l
    induction l with
    | nil => intro _ h; cases h
    | cons e l ih =>
      intro h1 h2
      simp only [List.all_cons, Bool.and_eq_true] at h1
      rw [List.lookup_cons] at h2
      by_cases hk : k == e.1
      · rw [hk] at h2
        cases h2
        rw [beq_iff_eq.mp hk]; exact h1.1
      · rw [Bool.not_eq_true] at hk
        rw [hk] at h2
        exact ih h1.2 h2
  exact key lkT hall h
/-- a method's words -/
def mwB (mi : Nat) : Bool := match mpl[mi]? with
  | some (p1, _, _, p4) => (match (mG mi).2.2.2.2 with
      | [] => decide (tables_1[p1]? = some (.code (mG mi).1 (mG mi).2.1 (mL mi) (mG mi).2.2.2.1))
      | hh => decide (tables_1[p1]? = some (.codeWith (mG mi).1 (mG mi).2.1 (mL mi) (mG mi).2.2.2.1 hh))) &&
      decide (tables_1[p4]? = some (.initialized (mG mi).1.cls)) && decide ((mG mi).1.cls = cn (mO mi)) && plainFor (mG mi).1 && decide ((mG mi).2.2.1 = mL mi)
  | none => false
theorem mwc0 : (List.range' 0 8).all mwB = true := by decide +kernel
theorem mwc8 : (List.range' 8 8).all mwB = true := by decide +kernel
theorem mwc16 : (List.range' 16 2).all mwB = true := by decide +kernel
theorem mwc19 : (List.range' 19 8).all mwB = true := by decide +kernel
theorem mwc27 : (List.range' 27 8).all mwB = true := by decide +kernel
theorem mwc35 : (List.range' 35 8).all mwB = true := by decide +kernel
theorem mwc43 : (List.range' 43 8).all mwB = true := by decide +kernel
theorem mwc51 : (List.range' 51 8).all mwB = true := by decide +kernel
theorem mwc59 : (List.range' 59 8).all mwB = true := by decide +kernel
theorem mwc67 : (List.range' 67 8).all mwB = true := by decide +kernel
theorem mwc75 : (List.range' 75 6).all mwB = true := by decide +kernel
theorem mwc82 : (List.range' 82 8).all mwB = true := by decide +kernel
theorem mwc90 : (List.range' 90 8).all mwB = true := by decide +kernel
theorem mwc98 : (List.range' 98 8).all mwB = true := by decide +kernel
theorem mwc106 : (List.range' 106 8).all mwB = true := by decide +kernel
theorem mwc114 : (List.range' 114 8).all mwB = true := by decide +kernel
theorem mwc122 : (List.range' 122 8).all mwB = true := by decide +kernel
theorem mwc130 : (List.range' 130 8).all mwB = true := by decide +kernel
theorem mwc138 : (List.range' 138 8).all mwB = true := by decide +kernel
theorem mwc146 : (List.range' 146 8).all mwB = true := by decide +kernel
theorem mwc154 : (List.range' 154 8).all mwB = true := by decide +kernel
theorem mwc162 : (List.range' 162 8).all mwB = true := by decide +kernel
theorem mwc170 : (List.range' 170 8).all mwB = true := by decide +kernel
theorem mwc178 : (List.range' 178 8).all mwB = true := by decide +kernel
theorem mwc186 : (List.range' 186 8).all mwB = true := by decide +kernel
theorem mwc194 : (List.range' 194 8).all mwB = true := by decide +kernel
theorem mwc202 : (List.range' 202 8).all mwB = true := by decide +kernel
theorem mwc210 : (List.range' 210 8).all mwB = true := by decide +kernel
theorem mwc218 : (List.range' 218 8).all mwB = true := by decide +kernel
theorem mw_ok {mi : Nat} (h : mi < 226) (h1 : mi ≠ 18) (h2 : mi ≠ 81) : mwB mi = true := by
  by_cases h0 : 0 ≤ mi ∧ mi < 8
  · exact List.all_eq_true.mp mwc0 mi (List.mem_range'_1.mpr (by omega))
  by_cases h8 : 8 ≤ mi ∧ mi < 16
  · exact List.all_eq_true.mp mwc8 mi (List.mem_range'_1.mpr (by omega))
  by_cases h16 : 16 ≤ mi ∧ mi < 18
  · exact List.all_eq_true.mp mwc16 mi (List.mem_range'_1.mpr (by omega))
  by_cases h19 : 19 ≤ mi ∧ mi < 27
  · exact List.all_eq_true.mp mwc19 mi (List.mem_range'_1.mpr (by omega))
  by_cases h27 : 27 ≤ mi ∧ mi < 35
  · exact List.all_eq_true.mp mwc27 mi (List.mem_range'_1.mpr (by omega))
  by_cases h35 : 35 ≤ mi ∧ mi < 43
  · exact List.all_eq_true.mp mwc35 mi (List.mem_range'_1.mpr (by omega))
  by_cases h43 : 43 ≤ mi ∧ mi < 51
  · exact List.all_eq_true.mp mwc43 mi (List.mem_range'_1.mpr (by omega))
  by_cases h51 : 51 ≤ mi ∧ mi < 59
  · exact List.all_eq_true.mp mwc51 mi (List.mem_range'_1.mpr (by omega))
  by_cases h59 : 59 ≤ mi ∧ mi < 67
  · exact List.all_eq_true.mp mwc59 mi (List.mem_range'_1.mpr (by omega))
  by_cases h67 : 67 ≤ mi ∧ mi < 75
  · exact List.all_eq_true.mp mwc67 mi (List.mem_range'_1.mpr (by omega))
  by_cases h75 : 75 ≤ mi ∧ mi < 81
  · exact List.all_eq_true.mp mwc75 mi (List.mem_range'_1.mpr (by omega))
  by_cases h82 : 82 ≤ mi ∧ mi < 90
  · exact List.all_eq_true.mp mwc82 mi (List.mem_range'_1.mpr (by omega))
  by_cases h90 : 90 ≤ mi ∧ mi < 98
  · exact List.all_eq_true.mp mwc90 mi (List.mem_range'_1.mpr (by omega))
  by_cases h98 : 98 ≤ mi ∧ mi < 106
  · exact List.all_eq_true.mp mwc98 mi (List.mem_range'_1.mpr (by omega))
  by_cases h106 : 106 ≤ mi ∧ mi < 114
  · exact List.all_eq_true.mp mwc106 mi (List.mem_range'_1.mpr (by omega))
  by_cases h114 : 114 ≤ mi ∧ mi < 122
  · exact List.all_eq_true.mp mwc114 mi (List.mem_range'_1.mpr (by omega))
  by_cases h122 : 122 ≤ mi ∧ mi < 130
  · exact List.all_eq_true.mp mwc122 mi (List.mem_range'_1.mpr (by omega))
  by_cases h130 : 130 ≤ mi ∧ mi < 138
  · exact List.all_eq_true.mp mwc130 mi (List.mem_range'_1.mpr (by omega))
  by_cases h138 : 138 ≤ mi ∧ mi < 146
  · exact List.all_eq_true.mp mwc138 mi (List.mem_range'_1.mpr (by omega))
  by_cases h146 : 146 ≤ mi ∧ mi < 154
  · exact List.all_eq_true.mp mwc146 mi (List.mem_range'_1.mpr (by omega))
  by_cases h154 : 154 ≤ mi ∧ mi < 162
  · exact List.all_eq_true.mp mwc154 mi (List.mem_range'_1.mpr (by omega))
  by_cases h162 : 162 ≤ mi ∧ mi < 170
  · exact List.all_eq_true.mp mwc162 mi (List.mem_range'_1.mpr (by omega))
  by_cases h170 : 170 ≤ mi ∧ mi < 178
  · exact List.all_eq_true.mp mwc170 mi (List.mem_range'_1.mpr (by omega))
  by_cases h178 : 178 ≤ mi ∧ mi < 186
  · exact List.all_eq_true.mp mwc178 mi (List.mem_range'_1.mpr (by omega))
  by_cases h186 : 186 ≤ mi ∧ mi < 194
  · exact List.all_eq_true.mp mwc186 mi (List.mem_range'_1.mpr (by omega))
  by_cases h194 : 194 ≤ mi ∧ mi < 202
  · exact List.all_eq_true.mp mwc194 mi (List.mem_range'_1.mpr (by omega))
  by_cases h202 : 202 ≤ mi ∧ mi < 210
  · exact List.all_eq_true.mp mwc202 mi (List.mem_range'_1.mpr (by omega))
  by_cases h210 : 210 ≤ mi ∧ mi < 218
  · exact List.all_eq_true.mp mwc210 mi (List.mem_range'_1.mpr (by omega))
  by_cases h218 : 218 ≤ mi ∧ mi < 226
  · exact List.all_eq_true.mp mwc218 mi (List.mem_range'_1.mpr (by omega))
  omega
end
section
/-! SEM: the abstract interpreter. A memory is: the kinds and the pointers of the cells and how many there are; the ints; the longs; how much was made. A cell's number stands for its address. -/
abbrev MP : Type := (Nat → Nat × Nat) × (Nat → Nat → Option Nat) × Nat
abbrev MI : Type := Nat → Nat → Int32
abbrev ML : Type := Nat → Nat → Int64
abbrev MC : Type := Nat × Nat
abbrev FR : Type := Nat × List Value × List Value
abbrev MM : Type := MP × MI × ML × MC
abbrev SR : Type := Option ((FR × MM) ⊕ (Option Value ⊕ ((Nat × List Value × List Value) ⊕ Nat)))
abbrev RV : Type := Option Value ⊕ Nat
/-- a local that is not set -/
abbrev UN : Value := .retAddr 0
def xu {α : Type} (f : Nat → Nat → α) (k j : Nat) (v : α) : Nat → Nat → α := fun a b => if a = k ∧ b = j then v else f a b
def xr {α : Type} (f : Nat → α) (k : Nat) (r : α) : Nat → α := fun a => if a = k then r else f a
def gl : List Value → Nat → Option Value
  | [], _ => none
  | v :: _, 0 => some v
  | _ :: r, n + 1 => gl r n
def sl : List Value → Nat → Value → List Value
  | [], _, _ => []
  | _ :: r, 0, w => w :: r
  | v :: r, n + 1, w => v :: sl r n w
/-- a store at n: a long ahead of it is gone -/
def k1 (ls : List Value) (n : Nat) : List Value := match n with
  | 0 => ls
  | j + 1 => match gl ls j with
    | some (.long _) => sl ls j UN
    | some (.double _) => sl ls j UN
    | _ => ls
def s1 (ls : List Value) (n : Nat) (v : Value) : List Value := sl (k1 ls n) n v
def s2 (ls : List Value) (n : Nat) (v : Value) : List Value := sl (sl (k1 ls n) n v) (n + 1) UN
def pops : List Nat → List Value → List Value → Option (List Value × List Value)
  | [], st, acc => some (acc, st)
  | _ :: ps, v :: st, acc => pops ps st (v :: acc)
  | _ :: _, [], _ => none
def catS (st : List Value) : Nat := (st.map fun v => v.category).sum
def lay : List Value → List Value
  | [] => []
  | v :: r => if v.category = 2 then v :: UN :: lay r else v :: lay r
def ent (mj : Nat) (as : List Value) : List Value := lay as ++ List.replicate (mL mj - (lay as).length) UN
def sN (pc : Nat) (ls st : List Value) (P : MP) (I : MI) (L : ML) (C : MC) : SR := some (.inl ((pc, ls, st), (P, I, L, C)))
def sR (v : Option Value) : SR := some (.inr (.inl v))
def sC (mj : Nat) (as st : List Value) : SR := some (.inr (.inr (.inl (mj, as, st))))
def sT (E : Nat) : SR := some (.inr (.inr (.inr E)))
def inb (i : Int32) (n : Nat) : Bool := !decide (i < 0) && decide (i.toNatClampNeg < n)
theorem inb_in {i : Int32} {n : Nat} (h : inb i n = true) : vp_in i n := by
  unfold inb at h
  simp only [Bool.and_eq_true, Bool.not_eq_true', decide_eq_false_iff_not, decide_eq_true_eq] at h
  exact fun q => q.elim h.1 (fun z => absurd h.2 (Nat.not_lt.mpr z))
def ldI (ls : List Value) (k pc : Nat) (st : List Value) (P : MP) (I : MI) (L : ML) (C : MC) : SR := match gl ls k with
  | some (.int v) => sN pc ls (.int v :: st) P I L C
  | _ => none
def ldA (ls : List Value) (k pc : Nat) (st : List Value) (P : MP) (I : MI) (L : ML) (C : MC) : SR := match gl ls k with
  | some (.ref v) => sN pc ls (.ref v :: st) P I L C
  | _ => none
def ldL (ls : List Value) (k pc : Nat) (st : List Value) (P : MP) (I : MI) (L : ML) (C : MC) : SR := match gl ls k with
  | some (.long v) => sN pc ls (.long v :: st) P I L C
  | _ => none
def ldD (ls : List Value) (k pc : Nat) (st : List Value) (P : MP) (I : MI) (L : ML) (C : MC) : SR := match gl ls k with
  | some (.double v) => sN pc ls (.double v :: st) P I L C
  | _ => none
def stI (ls : List Value) (k pc : Nat) (st : List Value) (P : MP) (I : MI) (L : ML) (C : MC) : SR := match st with
  | .int v :: st => sN pc (s1 ls k (.int v)) st P I L C
  | _ => none
def stA (ls : List Value) (k pc : Nat) (st : List Value) (P : MP) (I : MI) (L : ML) (C : MC) : SR := match st with
  | .ref v :: st => sN pc (s1 ls k (.ref v)) st P I L C
  | _ => none
def stL (ls : List Value) (k pc : Nat) (st : List Value) (P : MP) (I : MI) (L : ML) (C : MC) : SR := match st with
  | .long v :: st => sN pc (s2 ls k (.long v)) st P I L C
  | _ => none
def stD (ls : List Value) (k pc : Nat) (st : List Value) (P : MP) (I : MI) (L : ML) (C : MC) : SR := match st with
  | .double v :: st => sN pc (s2 ls k (.double v)) st P I L C
  | _ => none
/-- a new cell -/
def mkP (P : MP) (t len : Nat) : MP := (xr P.1 (P.2.2 + 1) (t, len), xr P.2.1 (P.2.2 + 1) (fun _ => none), P.2.2 + 1)
def mk (pc : Nat) (ls st : List Value) (t len nf : Nat) (P : MP) (I : MI) (L : ML) (C : MC) : SR :=
  sN pc ls (.ref (P.2.2 + 1) :: st) (mkP P t len) (xr I (P.2.2 + 1) (fun _ => 0)) (xr L (P.2.2 + 1) (fun _ => 0)) (C.1 + 1, C.2 + nf)
def o1I (f : Int32 → Value) (pc : Nat) (ls st : List Value) (P : MP) (I : MI) (L : ML) (C : MC) : SR := match st with
  | .int x :: st => sN pc ls (f x :: st) P I L C
  | _ => none
def o2I (f : Int32 → Int32 → Int32) (pc : Nat) (ls st : List Value) (P : MP) (I : MI) (L : ML) (C : MC) : SR := match st with
  | .int y :: .int x :: st => sN pc ls (.int (f x y) :: st) P I L C
  | _ => none
def o2L (f : Int64 → Int64 → Int64) (pc : Nat) (ls st : List Value) (P : MP) (I : MI) (L : ML) (C : MC) : SR := match st with
  | .long y :: .long x :: st => sN pc ls (.long (f x y) :: st) P I L C
  | _ => none
def brI (c : ClassFile.Cond) (x : Int32) (t f : SR) : SR := match c with
  | .eq => if x = 0 then t else f
  | .ne => if x = 0 then f else t
  | .lt => if x < 0 then t else f
  | .ge => if 0 ≤ x then t else f
  | .gt => if 0 < x then t else f
  | .le => if x ≤ 0 then t else f
def brII (c : ClassFile.Cond) (x y : Int32) (t f : SR) : SR := match c with
  | .eq => if x = y then t else f
  | .ne => if x = y then f else t
  | .lt => if x < y then t else f
  | .ge => if y ≤ x then t else f
  | .gt => if y < x then t else f
  | .le => if x ≤ y then t else f
def stp (pc : Nat) (i : ClassFile.Instr) (len : Nat) (rz : List Nat) (ls st : List Value) (P : MP) (I : MI) (L : ML) (C : MC) : SR := match i with
  | .aload_n n => ldA ls n (pc + len) st P I L C
  | .aload n => ldA ls n (pc + len) st P I L C
  | .iload_n n => ldI ls n (pc + len) st P I L C
  | .iload n => ldI ls n (pc + len) st P I L C
  | .lload_n n => ldL ls n (pc + len) st P I L C
  | .lload n => ldL ls n (pc + len) st P I L C
  | .dload n => ldD ls n (pc + len) st P I L C
  | .dload_n n => ldD ls n (pc + len) st P I L C
  | .istore_n n => stI ls n (pc + len) st P I L C
  | .istore n => stI ls n (pc + len) st P I L C
  | .astore_n n => stA ls n (pc + len) st P I L C
  | .astore n => stA ls n (pc + len) st P I L C
  | .lstore_n n => stL ls n (pc + len) st P I L C
  | .lstore n => stL ls n (pc + len) st P I L C
  | .dstore n => stD ls n (pc + len) st P I L C
  | .dstore_n n => stD ls n (pc + len) st P I L C
  | .iconst _ => match rz with
    | [k] => sN (pc + len) ls (.int (nI k) :: st) P I L C
    | _ => none
  | .bipush _ => match rz with
    | [k] => sN (pc + len) ls (.int (nI k) :: st) P I L C
    | _ => none
  | .sipush _ => match rz with
    | [k] => sN (pc + len) ls (.int (nI k) :: st) P I L C
    | _ => none
  | .ldc _ => match rz with
    | [8, k, _] => sN (pc + len) ls (.int (nI k) :: st) P I L C
    | _ => none
  | .ldc_w _ => match rz with
    | [8, k, _] => sN (pc + len) ls (.int (nI k) :: st) P I L C
    | _ => none
  | .ldc2_w _ => match rz with
    | [9, k, _] => sN (pc + len) ls (.long (lN k) :: st) P I L C
    | _ => none
  | .lconst _ => match rz with
    | [k] => sN (pc + len) ls (.long (lN k) :: st) P I L C
    | _ => none
  | .dconst _ => sN (pc + len) ls (.double FP.dconst0 :: st) P I L C
  | .aconst_null => sN (pc + len) ls (.null :: st) P I L C
  | .iinc n _ => match gl ls n, rz with
    | some (.int x), [k] => sN (pc + len) (s1 ls n (.int (x + nI k))) st P I L C
    | _, _ => none
  | .dup => match st with
    | v :: st => if v.category = 1 then sN (pc + len) ls (v :: v :: st) P I L C else none
    | _ => none
  | .dup2 => match st with
    | v :: w :: st => if v.category = 1 ∧ w.category = 1 then sN (pc + len) ls (v :: w :: v :: w :: st) P I L C else none
    | _ => none
  | .pop => match st with
    | v :: st => if v.category = 1 then sN (pc + len) ls st P I L C else none
    | _ => none
  | .iadd => o2I (fun x y => x + y) (pc + len) ls st P I L C
  | .isub => o2I (fun x y => x - y) (pc + len) ls st P I L C
  | .imul => o2I (fun x y => x * y) (pc + len) ls st P I L C
  | .iand => o2I (fun x y => x &&& y) (pc + len) ls st P I L C
  | .ior => o2I (fun x y => x ||| y) (pc + len) ls st P I L C
  | .ixor => o2I (fun x y => x ^^^ y) (pc + len) ls st P I L C
  | .ishl => o2I (fun x y => x <<< (y &&& 31)) (pc + len) ls st P I L C
  | .ishr => o2I (fun x y => x >>> (y &&& 31)) (pc + len) ls st P I L C
  | .iushr => o2I (fun x y => (x.toUInt32 >>> (y.toUInt32 &&& Int32.toUInt32 31)).toInt32) (pc + len) ls st P I L C
  | .idiv => match st with
    | .int y :: .int x :: st => if y = 0 then none else sN (pc + len) ls (.int (x / y) :: st) P I L C
    | _ => none
  | .irem => match st with
    | .int y :: .int x :: st => if y = 0 then none else sN (pc + len) ls (.int (x - x / y * y) :: st) P I L C
    | _ => none
  | .i2l => o1I (fun x => .long x.toInt64) (pc + len) ls st P I L C
  | .i2d => o1I (fun x => .double (FP.i2d x)) (pc + len) ls st P I L C
  | .i2b => o1I (fun x => .int x.toInt8.toInt32) (pc + len) ls st P I L C
  | .l2i => match st with
    | .long x :: st => sN (pc + len) ls (.int x.toInt32 :: st) P I L C
    | _ => none
  | .ladd => o2L (fun x y => x + y) (pc + len) ls st P I L C
  | .lmul => o2L (fun x y => x * y) (pc + len) ls st P I L C
  | .ldiv => match st with
    | .long y :: .long x :: st => if y = 0 then none else sN (pc + len) ls (.long (x / y) :: st) P I L C
    | _ => none
  | .lrem => match st with
    | .long y :: .long x :: st => if y = 0 then none else sN (pc + len) ls (.long (x - x / y * y) :: st) P I L C
    | _ => none
  | .lcmp => match st with
    | .long y :: .long x :: st => sN (pc + len) ls (.int (lg_cmp x y) :: st) P I L C
    | _ => none
  | .dcmp op => match st with
    | .double y :: .double x :: st => sN (pc + len) ls (.int (Op.cmpValue (FP.dcmp x y) op) :: st) P I L C
    | _ => none
  | .ddiv => match st with
    | .double y :: .double x :: st => if FP.ddiv x y &&& 0x7fffffffffffffff ≤ 0x7ff0000000000000 then sN (pc + len) ls (.double (FP.ddiv x y) :: st) P I L C else none
    | _ => none
  | .goto _ => match rz with
    | [t] => sN t ls st P I L C
    | _ => none
  | .ifCond c _ => match st, rz with
    | .int x :: st, [t] => brI c x (sN t ls st P I L C) (sN (pc + len) ls st P I L C)
    | _, _ => none
  | .if_icmp c _ => match st, rz with
    | .int y :: .int x :: st, [t] => brII c x y (sN t ls st P I L C) (sN (pc + len) ls st P I L C)
    | _, _ => none
  | .ifnull _ => match st with
    | .ref _ :: st => sN (pc + len) ls st P I L C
    | _ => none
  | .ifnonnull _ => match st, rz with
    | .ref _ :: st, [t] => sN t ls st P I L C
    | _, _ => none
  | .tableswitch dflt lo hi offs => match st with
    | .int x :: st => if x.toInt < lo ∨ hi < x.toInt then (if 0 ≤ (pc : Int) + dflt then sN ((pc : Int) + dflt).toNat ls st P I L C else none) else (match offs[(x.toInt - lo).toNat]? with
      | some o => if 0 ≤ (pc : Int) + o then sN ((pc : Int) + o).toNat ls st P I L C else none
      | none => none)
    | _ => none
  | .lookupswitch dflt ps => match st with
    | .int x :: st => if 0 ≤ (pc : Int) + Op.lookupswitch.offset ps.toList dflt x.toInt then sN ((pc : Int) + Op.lookupswitch.offset ps.toList dflt x.toInt).toNat ls st P I L C else none
    | _ => none
  | .getfield _ => match rz, st with
    | [1, ci, fi, 0, _, _], .ref k :: st => if (P.1 k).1 = ci + 1 then sN (pc + len) ls (.int (I k fi) :: st) P I L C else none
    | [1, ci, fi, 1, _, _], .ref k :: st => if (P.1 k).1 = ci + 1 then sN (pc + len) ls (.long (L k fi) :: st) P I L C else none
    | [1, ci, fi, 2, _, _], .ref k :: st => if (P.1 k).1 = ci + 1 then sN (pc + len) ls (va_rf (P.2.1 k fi) :: st) P I L C else none
    | _, _ => none
  | .putfield _ => match rz, st with
    | [1, ci, fi, 0, _, _], .int v :: .ref k :: st => if (P.1 k).1 = ci + 1 then sN (pc + len) ls st P (xu I k fi v) L C else none
    | [1, ci, fi, 1, _, _], .long v :: .ref k :: st => if (P.1 k).1 = ci + 1 then sN (pc + len) ls st P I (xu L k fi v) C else none
    | [1, ci, fi, 2, _, _], .ref v :: .ref k :: st => if (P.1 k).1 = ci + 1 ∧ 1 ≤ v then sN (pc + len) ls st (P.1, xu P.2.1 k fi (some v), P.2.2) I L C else none
    | _, _ => none
  | .arraylength => match st with
    | .ref k :: st => if 20 ≤ (P.1 k).1 then sN (pc + len) ls (.int (nI (P.1 k).2) :: st) P I L C else none
    | _ => none
  | .iaload => match st with
    | .int i :: .ref k :: st => if ((P.1 k).1 = 20 ∨ (P.1 k).1 = 30) ∧ inb i (P.1 k).2 then sN (pc + len) ls (.int (I k i.toNatClampNeg) :: st) P I L C else none
    | _ => none
  | .baload => match st with
    | .int i :: .ref k :: st => if (P.1 k).1 = 22 ∧ inb i (P.1 k).2 then sN (pc + len) ls (.int (I k i.toNatClampNeg) :: st) P I L C else none
    | _ => none
  | .laload => match st with
    | .int i :: .ref k :: st => if (P.1 k).1 = 21 ∧ inb i (P.1 k).2 then sN (pc + len) ls (.long (L k i.toNatClampNeg) :: st) P I L C else none
    | _ => none
  | .aaload => match st with
    | .int i :: .ref k :: st => if (P.1 k).1 = 23 ∧ inb i (P.1 k).2 then sN (pc + len) ls (va_rf (P.2.1 k i.toNatClampNeg) :: st) P I L C else none
    | _ => none
  | .iastore => match st with
    | .int v :: .int i :: .ref k :: st => if (P.1 k).1 = 20 ∧ inb i (P.1 k).2 then sN (pc + len) ls st P (xu I k i.toNatClampNeg v) L C else none
    | _ => none
  | .bastore => match st with
    | .int v :: .int i :: .ref k :: st => if (P.1 k).1 = 22 ∧ inb i (P.1 k).2 then sN (pc + len) ls st P (xu I k i.toNatClampNeg v.toInt8.toInt32) L C else none
    | _ => none
  | .lastore => match st with
    | .long v :: .int i :: .ref k :: st => if (P.1 k).1 = 21 ∧ inb i (P.1 k).2 then sN (pc + len) ls st P I (xu L k i.toNatClampNeg v) C else none
    | _ => none
  | .aastore => match st with
    | .ref v :: .int i :: .ref k :: st => if ((P.1 k).1 = 23 ∧ (P.1 v).1 = 7) ∧ inb i (P.1 k).2 then sN (pc + len) ls st (P.1, xu P.2.1 k i.toNatClampNeg (some v), P.2.2) I L C else none
    | _ => none
  | .new _ => match rz with
    | [5, ci, _, _, _] => mk (pc + len) ls st (ci + 1) 0 (fN ci) P I L C
    | [7, _, _] => mk (pc + len) ls st (6 + 1) 0 (fN 6) P I L C
    | 6 :: E :: _ => if catS st ≤ 8 then sT E else none
    | _ => none
  | .newarray t => match st with
    | .int a :: st => if inb a 10000 then (match t with
      | .int => mk (pc + len) ls st 20 a.toNatClampNeg a.toNatClampNeg P I L C
      | .long => mk (pc + len) ls st 21 a.toNatClampNeg a.toNatClampNeg P I L C
      | .byte => mk (pc + len) ls st 22 a.toNatClampNeg a.toNatClampNeg P I L C
      | _ => none) else none
    | _ => none
  | .anewarray _ => match rz, st with
    | [7, _, _], .int a :: st => if inb a 10000 then mk (pc + len) ls st 23 a.toNatClampNeg a.toNatClampNeg P I L C else none
    | _, _ => none
  | .invokestatic _ => match rz with
    | 2 :: mj :: _ :: _ :: _ :: _ :: ps => (match pops ps st [] with
      | some (as, st) => if catS st ≤ 8 then sC mj as st else none
      | none => none)
    | [3, _] => (match st with
      | .int n :: .int dp :: .ref a :: .int sp :: .ref a0 :: st => if (((P.1 a).1 = 20 ∧ (P.1 a0).1 = 20) ∧ ¬ sp < 0 ∧ ¬ dp < 0 ∧ ¬ n < 0) ∧ (sp.toNatClampNeg + n.toNatClampNeg ≤ (P.1 a0).2 ∧ dp.toNatClampNeg + n.toNatClampNeg ≤ (P.1 a).2) ∧ catS st ≤ 8 then sN (pc + len) ls st P (xr I a (va_cpy (I a0) (I a) sp.toNatClampNeg dp.toNatClampNeg n.toNatClampNeg)) L C else none
      | _ => none)
    | [10, _] => (match st with
      | .int y :: .int x :: st => if catS st ≤ 8 then sN (pc + len) ls (.int (if y < x then y else x) :: st) P I L C else none
      | _ => none)
    | [11, _] => (match st with
      | .int y :: .int x :: st => if catS st ≤ 8 then sN (pc + len) ls (.int (if x < y then y else x) :: st) P I L C else none
      | _ => none)
    | _ => none
  | .invokespecial _ => match rz with
    | 2 :: mj :: _ :: ci :: _ :: _ :: ps => (match pops ps st [] with
      | some (as, .ref k :: st) => if (P.1 k).1 = ci + 1 ∧ catS st ≤ 8 then sC mj (.ref k :: as) st else none
      | _ => none)
    | [4, _] => (match st with
      | .ref _ :: st => if catS st ≤ 8 then sN (pc + len) ls st P I L C else none
      | _ => none)
    | _ => none
  | .invokevirtual _ => match rz with
    | 2 :: mj :: _ :: ci :: _ :: _ :: ps => (match pops ps st [] with
      | some (as, .ref k :: st) => if (P.1 k).1 = ci + 1 ∧ catS st ≤ 8 then sC mj (.ref k :: as) st else none
      | _ => none)
    | _ => none
  | .return_ => match st with
    | [] => sR none
    | _ => none
  | .ireturn => match rz, st with
    | [0], [.int v] => sR (some (.int v))
    | [1], [.int v] => if v &&& 1 = v then sR (some (.int v)) else none
    | _, _ => none
  | .lreturn => match st with
    | [.long v] => sR (some (.long v))
    | _ => none
  | .dreturn => match st with
    | [.double v] => sR (some (.double v))
    | _ => none
  | .areturn => match st with
    | [.ref v] => sR (some (.ref v))
    | _ => none
  | _ => none
def xct (ct : Nat) : Nat := match ct with
  | 15 => 0
  | 18 => 1
  | 25 => 2
  | _ => 9
def hfind : List (Nat × Nat × Nat × Nat) → Nat → Nat → Option Nat
  | [], _, _ => none
  | (a, b, h, ct) :: r, pc, E => if a ≤ pc ∧ pc < b ∧ xct ct = E then some h else hfind r pc E
/-- at a handler's head the exception is put away -/
def hgo (mi h : Nat) (ls : List Value) : Option FR := match dec mi h with
  | some (.astore_n k, _, _) => some (h + 1, s1 ls k UN, [])
  | some (.astore k, _, _) => some (h + 2, s1 ls k UN, [])
  | _ => none
/-- the machine: f steps at most, d calls deep at most -/
def ex : Nat → Nat → Nat → FR → MM → Option (RV × MM)
  | 0, _, _, _, _ => none
  | f + 1, d, mi, fr, M => match dec mi fr.1 with
    | none => none
    | some (i, len, rz) => match stp fr.1 i len rz fr.2.1 fr.2.2 M.1 M.2.1 M.2.2.1 M.2.2.2 with
      | none => none
      | some (.inl (fr', M')) => ex f d mi fr' M'
      | some (.inr (.inl v)) => some (.inl v, M)
      | some (.inr (.inr (.inr E))) => some (.inr E, (M.1, M.2.1, M.2.2.1, (M.2.2.2.1 + 1, M.2.2.2.2 + 6)))
      | some (.inr (.inr (.inl (mj, as, st)))) => if d = 0 ∨ mL mj < (lay as).length then none else match ex f (d - 1) mj (0, ent mj as, []) M with
        | none => none
        | some (.inl v, M') => ex f d mi (fr.1 + 3, fr.2.1, v.toList ++ st) M'
        | some (.inr E, M') => match hfind (mG mi).2.2.2.2 fr.1 E with
          | none => some (.inr E, M')
          | some h => match hgo mi h fr.2.1 with
            | none => none
            | some fr' => ex f d mi fr' M'
theorem ex_mono {f : Nat} : ∀ {d mi : Nat} {fr : FR} {M : MM} {r : RV × MM}, ex f d mi fr M = some r → ex (f + 1) d mi fr M = some r := by
  induction f with
  | zero => intro d mi fr M r h; cases h
  | succ f ih =>
    intro d mi fr M r h
    rw [ex] at h ⊢
    cases hd : dec mi fr.1 with
    | none => rw [hd] at h; cases h
    | some q =>
      obtain ⟨i, len, rz⟩ := q
      rw [hd] at h
      dsimp only at h ⊢
      cases hs : stp fr.1 i len rz fr.2.1 fr.2.2 M.1 M.2.1 M.2.2.1 M.2.2.2 with
      | none => rw [hs] at h; cases h
      | some w =>
        rw [hs] at h
        rcases w with ⟨fr', M'⟩ | v | ⟨mj, as, st⟩ | E
        · exact ih h
        · exact h
        · dsimp only at h ⊢
          by_cases hc : d = 0 ∨ mL mj < (lay as).length
          · rw [if_pos hc] at h; cases h
          · rw [if_neg hc] at h ⊢
            cases he : ex f (d - 1) mj (0, ent mj as, []) M with
            | none => rw [he] at h; cases h
            | some z =>
              rw [he] at h
              rw [ih he]
              obtain ⟨v | E, M'⟩ := z
              · exact ih h
              · dsimp only at h ⊢
                cases hh : hfind (mG mi).2.2.2.2 fr.1 E with
                | none => rw [hh] at h; exact h
                | some hd2 =>
                  rw [hh] at h
                  dsimp only at h ⊢
                  cases hg : hgo mi hd2 fr.2.1 with
                  | none => rw [hg] at h; cases h
                  | some fr' => rw [hg] at h; exact ih h
        · exact h
theorem ex_more {f : Nat} (k : Nat) {d mi : Nat} {fr : FR} {M : MM} {r : RV × MM} (h : ex f d mi fr M = some r) : ex (f + k) d mi fr M = some r := by
  induction k with
  | zero => exact h
  | succ k ih => exact ex_mono ih
theorem ex_det {f g d mi : Nat} {fr : FR} {M : MM} {r r' : RV × MM} (h : ex f d mi fr M = some r) (h' : ex g d mi fr M = some r') : r = r' := by
  have h1 := ex_more g h
  have h2 := ex_more f h'
  rw [Nat.add_comm] at h2
  exact Option.some.inj (h1.symm.trans h2)
abbrev QT : Type := RV → MP → MI → ML → MC → Prop
/-- from here the method comes to an end with Q -/
def X (d mi pc : Nat) (ls st : List Value) (P : MP) (I : MI) (L : ML) (C : MC) (Q : QT) : Prop := ∃ (f : Nat) (r : RV × MM), ex f d mi (pc, ls, st) (P, I, L, C) = some r ∧ Q r.1 r.2.1 r.2.2.1 r.2.2.2.1 r.2.2.2.2
/-- a call -/
def Ct (d mj : Nat) (as : List Value) (P : MP) (I : MI) (L : ML) (C : MC) (Q : QT) : Prop := X d mj 0 (ent mj as) [] P I L C Q
/-- where a method goes on behind a call -/
def bk (d mi pc : Nat) (ls st : List Value) (Q : QT) : QT := fun r P I L C => match r with
  | .inl v => X d mi (pc + 3) ls (v.toList ++ st) P I L C Q
  | .inr E => match hfind (mG mi).2.2.2.2 pc E with
    | none => Q (.inr E) P I L C
    | some h => match hgo mi h ls with
      | none => False
      | some fr => X d mi fr.1 fr.2.1 fr.2.2 P I L C Q
def go (d mi pc : Nat) (ls : List Value) (P : MP) (I : MI) (L : ML) (C : MC) (Q : QT) (s : SR) : Prop := match s with
  | none => False
  | some (.inl (fr, M)) => X d mi fr.1 fr.2.1 fr.2.2 M.1 M.2.1 M.2.2.1 M.2.2.2 Q
  | some (.inr (.inl v)) => Q (.inl v) P I L C
  | some (.inr (.inr (.inl (mj, as, st)))) => ¬ (d = 0 ∨ mL mj < (lay as).length) ∧ Ct (d - 1) mj as P I L C (bk d mi pc ls st Q)
  | some (.inr (.inr (.inr E))) => Q (.inr E) P I L (C.1 + 1, C.2 + 6)
def go2 (d mi pc : Nat) (ls st : List Value) (P : MP) (I : MI) (L : ML) (C : MC) (Q : QT) (o : Option (ClassFile.Instr × Nat × List Nat)) : Prop := match o with
  | none => False
  | some (i, len, rz) => go d mi pc ls P I L C Q (stp pc i len rz ls st P I L C)
theorem X_go {d mi pc : Nat} {ls st : List Value} {P : MP} {I : MI} {L : ML} {C : MC} {Q : QT} : X d mi pc ls st P I L C Q = go2 d mi pc ls st P I L C Q (dec mi pc) := by
  apply propext
  constructor
  · rintro ⟨f, r, h, hq⟩
    cases f with
    | zero => cases h
    | succ f =>
      rw [ex] at h
      dsimp only at h
      unfold go2
      cases hd : dec mi pc with
      | none => rw [hd] at h; cases h
      | some q =>
        obtain ⟨i, len, rz⟩ := q
        rw [hd] at h
        dsimp only at h ⊢
        unfold go
        cases hs : stp pc i len rz ls st P I L C with
        | none => rw [hs] at h; cases h
        | some w =>
          rw [hs] at h
          rcases w with ⟨fr', M'⟩ | v | ⟨mj, as, st'⟩ | E
          · exact ⟨f, r, h, hq⟩
          · cases h; exact hq
          · dsimp only at h ⊢
            by_cases hc : d = 0 ∨ mL mj < (lay as).length
            · rw [if_pos hc] at h; cases h
            · rw [if_neg hc] at h
              refine ⟨hc, ?_⟩
              cases he : ex f (d - 1) mj (0, ent mj as, []) (P, I, L, C) with
              | none => rw [he] at h; cases h
              | some z =>
                rw [he] at h
                obtain ⟨v | E, M'⟩ := z
                · exact ⟨f, _, he, ⟨f, r, h, hq⟩⟩
                · refine ⟨f, _, he, ?_⟩
                  dsimp only at h
                  unfold bk
                  dsimp only
                  cases hh : hfind (mG mi).2.2.2.2 pc E with
                  | none => rw [hh] at h; cases h; exact hq
                  | some hd2 =>
                    rw [hh] at h
                    dsimp only at h ⊢
                    cases hg : hgo mi hd2 ls with
                    | none => rw [hg] at h; cases h
                    | some fr' => rw [hg] at h; exact ⟨f, r, h, hq⟩
          · cases h; exact hq
  · intro h
    unfold go2 at h
    cases hd : dec mi pc with
    | none => rw [hd] at h; exact h.elim
    | some q =>
      obtain ⟨i, len, rz⟩ := q
      rw [hd] at h
      dsimp only at h
      unfold go at h
      cases hs : stp pc i len rz ls st P I L C with
      | none => rw [hs] at h; exact h.elim
      | some w =>
        rw [hs] at h
        have step : ∀ f r, (match stp pc i len rz ls st P I L C with
            | none => none
            | some (.inl (fr', M')) => ex f d mi fr' M'
            | some (.inr (.inl v)) => some (.inl v, (P, I, L, C))
            | some (.inr (.inr (.inr E))) => some (.inr E, (P, I, L, (C.1 + 1, C.2 + 6)))
            | some (.inr (.inr (.inl (mj, as, st)))) => if d = 0 ∨ mL mj < (lay as).length then none else match ex f (d - 1) mj (0, ent mj as, []) (P, I, L, C) with
              | none => none
              | some (.inl v, M') => ex f d mi (pc + 3, ls, v.toList ++ st) M'
              | some (.inr E, M') => match hfind (mG mi).2.2.2.2 pc E with
                | none => some (.inr E, M')
                | some h => match hgo mi h ls with
                  | none => none
                  | some fr' => ex f d mi fr' M') = some r → ex (f + 1) d mi (pc, ls, st) (P, I, L, C) = some r := by
          intro f r hh
          rw [ex]
          dsimp only
          rw [hd]
          exact hh
        rw [hs] at step
        rcases w with ⟨fr', M'⟩ | v | ⟨mj, as, st'⟩ | E
        · obtain ⟨f, r, h1, hq⟩ := h
          exact ⟨f + 1, r, step f r h1, hq⟩
        · exact ⟨1, _, step 0 _ rfl, h⟩
        · obtain ⟨hc, f, z, he, hb⟩ := h
          dsimp only at step
          simp only [if_neg hc] at step
          obtain ⟨v | E, M'⟩ := z
          · obtain ⟨g, r, h1, hq⟩ := hb
            refine ⟨f + g + 1, r, step (f + g) r ?_, hq⟩
            rw [ex_more g he]
            dsimp only
            have := ex_more f h1
            rw [Nat.add_comm] at this
            exact this
          · unfold bk at hb
            dsimp only at hb
            cases hh : hfind (mG mi).2.2.2.2 pc E with
            | none =>
              rw [hh] at hb
              refine ⟨f + 1, _, step f (.inr E, M') ?_, hb⟩
              rw [he]
              dsimp only
              rw [hh]
            | some hd2 =>
              rw [hh] at hb
              dsimp only at hb
              cases hg : hgo mi hd2 ls with
              | none => rw [hg] at hb; exact hb.elim
              | some fr' =>
                rw [hg] at hb
                obtain ⟨g, r, h1, hq⟩ := hb
                refine ⟨f + g + 1, r, step (f + g) r ?_, hq⟩
                rw [ex_more g he]
                dsimp only
                rw [hh]
                dsimp only
                rw [hg]
                dsimp only
                have := ex_more f h1
                rw [Nat.add_comm] at this
                exact this
        · exact ⟨1, _, step 0 _ rfl, h⟩
theorem X_mono {d mi pc : Nat} {ls st : List Value} {P : MP} {I : MI} {L : ML} {C : MC} {Q Q' : QT} (h : X d mi pc ls st P I L C Q) (hq : ∀ r P I L C, Q r P I L C → Q' r P I L C) : X d mi pc ls st P I L C Q' := by
  obtain ⟨f, r, h1, h2⟩ := h
  exact ⟨f, r, h1, hq _ _ _ _ _ h2⟩
/-- what a call answers, told once, tells all that is asked of it -/
theorem Ct_eq {d mj : Nat} {as : List Value} {P : MP} {I : MI} {L : ML} {C : MC} {r0 : RV} {P0 : MP} {I0 : MI} {L0 : ML} {C0 : MC} (h : Ct d mj as P I L C (fun r P I L C => r = r0 ∧ P = P0 ∧ I = I0 ∧ L = L0 ∧ C = C0)) (Q : QT) : Ct d mj as P I L C Q = Q r0 P0 I0 L0 C0 := by
  obtain ⟨f, ⟨r, P1, I1, L1, C1⟩, h1, h2, h3, h4, h5, h6⟩ := h
  dsimp only at h2 h3 h4 h5 h6
  subst h2; subst h3; subst h4; subst h5; subst h6
  apply propext
  constructor
  · rintro ⟨g, r', g1, g2⟩
    have := ex_det h1 g1
    subst this
    exact g2
  · intro hq
    exact ⟨f, _, h1, hq⟩
theorem go_sN {d mi pc : Nat} {ls : List Value} {P : MP} {I : MI} {L : ML} {C : MC} {Q : QT} {pc' : Nat} {ls' st' : List Value} {P' : MP} {I' : MI} {L' : ML} {C' : MC} : go d mi pc ls P I L C Q (sN pc' ls' st' P' I' L' C') = X d mi pc' ls' st' P' I' L' C' Q := rfl
theorem go_sR {d mi pc : Nat} {ls : List Value} {P : MP} {I : MI} {L : ML} {C : MC} {Q : QT} {v : Option Value} : go d mi pc ls P I L C Q (sR v) = Q (.inl v) P I L C := rfl
theorem go_sC {d mi pc : Nat} {ls : List Value} {P : MP} {I : MI} {L : ML} {C : MC} {Q : QT} {mj : Nat} {as st : List Value} : go d mi pc ls P I L C Q (sC mj as st) = (¬ (d = 0 ∨ mL mj < (lay as).length) ∧ Ct (d - 1) mj as P I L C (bk d mi pc ls st Q)) := rfl
theorem go_sT {d mi pc : Nat} {ls : List Value} {P : MP} {I : MI} {L : ML} {C : MC} {Q : QT} {E : Nat} : go d mi pc ls P I L C Q (sT E) = Q (.inr E) P I L (C.1 + 1, C.2 + 6) := rfl
theorem go_no {d mi pc : Nat} {ls : List Value} {P : MP} {I : MI} {L : ML} {C : MC} {Q : QT} : go d mi pc ls P I L C Q none = False := rfl
theorem go_if {d mi pc : Nat} {ls : List Value} {P : MP} {I : MI} {L : ML} {C : MC} {Q : QT} {c : Prop} [Decidable c] {a b : SR} : go d mi pc ls P I L C Q (if c then a else b) = if c then go d mi pc ls P I L C Q a else go d mi pc ls P I L C Q b := by
  by_cases h : c
  · rw [if_pos h, if_pos h]
  · rw [if_neg h, if_neg h]
theorem go2_some {d mi pc : Nat} {ls st : List Value} {P : MP} {I : MI} {L : ML} {C : MC} {Q : QT} {i : ClassFile.Instr} {len : Nat} {rz : List Nat} : go2 d mi pc ls st P I L C Q (some (i, len, rz)) = go d mi pc ls P I L C Q (stp pc i len rz ls st P I L C) := rfl
theorem bk_v {d mi pc : Nat} {ls st : List Value} {P : MP} {I : MI} {L : ML} {C : MC} {Q : QT} {v : Value} : bk d mi pc ls st Q (.inl (some v)) P I L C = X d mi (pc + 3) ls (v :: st) P I L C Q := rfl
theorem bk_0 {d mi pc : Nat} {ls st : List Value} {P : MP} {I : MI} {L : ML} {C : MC} {Q : QT} : bk d mi pc ls st Q (.inl none) P I L C = X d mi (pc + 3) ls st P I L C Q := rfl
end
section
/-! SOUND, first part: worlds, values, locals -/
def conc (ad : Nat → Nat) (v : Value) : Value := match v with
  | .ref k => .ref (ad k)
  | w => w
def cv (ad : Nat → Nat) (vs : List Value) : List Value := vs.map (conc ad)
abbrev CY : Type := ClassId × ClassId × ClassId × ClassId
def fval (ad : Nat → Nat) (P : MP) (I : MI) (L : ML) (ty : FieldType) (k f : Nat) : Value := match ty with
  | .int => .int (I k f)
  | .long => .long (L k f)
  | _ => va_re ad (P.2.1 k f)
def flds (ad : Nat → Nat) (P : MP) (I : MI) (L : ML) (ci k : Nat) : List Value := (List.range (fN ci)).map (fun f => fval ad P I L (fY ci f) k f)
def elt (cy : CY) (ad : Nat → Nat) (P : MP) (I : MI) (L : ML) (k : Nat) : va_E :=
  if (P.1 k).1 = 20 then .inl (cy.1, (P.1 k).2, .inl (I k))
  else if (P.1 k).1 = 21 then .inl (cy.2.1, (P.1 k).2, .inr (.inl (L k)))
  else if (P.1 k).1 = 22 then .inl (cy.2.2.1, (P.1 k).2, .inl (I k))
  else if (P.1 k).1 = 23 then .inl (cy.2.2.2, (P.1 k).2, .inr (.inr (.inr (.inr (fun i => (P.2.1 k i).map ad)))))
  else .inr ((P.1 k).1 - 1, flds ad P I L ((P.1 k).1 - 1) k)
def wl (cy : CY) (ad : Nat → Nat) (P : MP) (I : MI) (L : ML) : va_W := (List.range P.2.2).map (fun j => (ad (j + 1), elt cy ad P I L (j + 1)))
def wf (P : MP) : Prop := (∀ k, (P.1 k).1 ≠ 0 → (k = 0 ∧ (P.1 k).1 = 30) ∨ (1 ≤ k ∧ k ≤ P.2.2 ∧ ((1 ≤ (P.1 k).1 ∧ (P.1 k).1 ≤ 11) ∨ (20 ≤ (P.1 k).1 ∧ (P.1 k).1 ≤ 23)))) ∧ ∀ k f a, P.2.1 k f = some a → 1 ≤ a ∧ a ≤ P.2.2
def vk (P : MP) (v : Value) : Prop := ∀ k, v = .ref k → k ≤ P.2.2
theorem wl_get {cy : CY} {ad : Nat → Nat} {P : MP} {I : MI} {L : ML} {k : Nat} (h1 : 1 ≤ k) (h2 : k ≤ P.2.2) : (wl cy ad P I L)[k - 1]? = some (ad k, elt cy ad P I L k) := by
  unfold wl
  rw [List.getElem?_map, List.getElem?_range (by omega)]
  simp only [Option.map_some]
  rw [show k - 1 + 1 = k by omega]
theorem wl_len {cy : CY} {ad : Nat → Nat} {P : MP} {I : MI} {L : ML} : (wl cy ad P I L).length = P.2.2 := by
  unfold wl; rw [List.length_map, List.length_range]
theorem wl_set {cy : CY} {ad : Nat → Nat} {P P' : MP} {I I' : MI} {L L' : ML} {k : Nat} {e : va_E} (h1 : 1 ≤ k) (h2 : k ≤ P.2.2) (hn : P'.2.2 = P.2.2) (he : elt cy ad P' I' L' k = e)
    (ho : ∀ j, j ≠ k → elt cy ad P' I' L' j = elt cy ad P I L j) : (wl cy ad P I L).set (k - 1) (ad k, e) = wl cy ad P' I' L' := by
  apply List.ext_getElem?
  intro i
  by_cases hi : i = k - 1
  · subst hi
    rw [List.getElem?_set_self (by rw [wl_len]; omega), wl_get h1 (by omega), he]
  · rw [List.getElem?_set_ne (Ne.symm hi)]
    by_cases hl : i < P.2.2
    · have g1 := wl_get (cy := cy) (ad := ad) (P := P) (I := I) (L := L) (k := i + 1) (by omega) (by omega)
      have g2 := wl_get (cy := cy) (ad := ad) (P := P') (I := I') (L := L') (k := i + 1) (by omega) (by omega)
      rw [Nat.add_sub_cancel] at g1 g2
      rw [g1, g2, ho (i + 1) (by omega)]
    · rw [List.getElem?_eq_none (by rw [wl_len]; omega), List.getElem?_eq_none (by rw [wl_len]; omega)]
theorem xr_s {α : Type} (f : Nat → α) (k : Nat) (r : α) : xr f k r k = r := if_pos rfl
theorem xr_n {α : Type} (f : Nat → α) {k j : Nat} (r : α) (h : j ≠ k) : xr f k r j = f j := if_neg h
theorem xu_s {α : Type} (f : Nat → Nat → α) (k j : Nat) (v : α) : xu f k j v k j = v := if_pos ⟨rfl, rfl⟩
theorem xu_n {α : Type} (f : Nat → Nat → α) {k j a b : Nat} (v : α) (h : a ≠ k ∨ b ≠ j) : xu f k j v a b = f a b := if_neg (fun q => h.elim (fun z => z q.1) (fun z => z q.2))
theorem xu_row {α : Type} (f : Nat → Nat → α) {k j a : Nat} (v : α) (h : a ≠ k) : xu f k j v a = f a := funext fun b => xu_n f v (Or.inl h)
theorem fval_ext {ad ad' : Nat → Nat} {P P' : MP} {I I' : MI} {L L' : ML} {ty : FieldType} {k f : Nat} (hI : I' k f = I k f) (hL : L' k f = L k f) (hp : (P'.2.1 k f).map ad' = (P.2.1 k f).map ad) : fval ad' P' I' L' ty k f = fval ad P I L ty k f := by
  unfold fval
  split
  · rw [hI]
  · rw [hL]
  · unfold va_re; rw [hp]
theorem elt_ext {cy : CY} {ad ad' : Nat → Nat} {P P' : MP} {I I' : MI} {L L' : ML} {k : Nat} (hk : P'.1 k = P.1 k) (hI : I' k = I k) (hL : L' k = L k) (hp : ∀ f, (P'.2.1 k f).map ad' = (P.2.1 k f).map ad) : elt cy ad' P' I' L' k = elt cy ad P I L k := by
  unfold elt flds
  rw [hk, hI, hL, show (fun i => (P'.2.1 k i).map ad') = (fun i => (P.2.1 k i).map ad) from funext hp]
  rw [show (fun f => fval ad' P' I' L' (fY ((P.1 k).1 - 1) f) k f) = (fun f => fval ad P I L (fY ((P.1 k).1 - 1) f) k f) from funext fun f => fval_ext (congrFun hI f) (congrFun hL f) (hp f)]
theorem wl_push {cy : CY} {ad : Nat → Nat} {P : MP} {I : MI} {L : ML} {t len q : Nat} {e : va_E} (hw : wf P)
    (he : elt cy (xr ad (P.2.2 + 1) q) (mkP P t len) (xr I (P.2.2 + 1) (fun _ => 0)) (xr L (P.2.2 + 1) (fun _ => 0)) (P.2.2 + 1) = e) :
    wl cy ad P I L ++ [(q, e)] = wl cy (xr ad (P.2.2 + 1) q) (mkP P t len) (xr I (P.2.2 + 1) (fun _ => 0)) (xr L (P.2.2 + 1) (fun _ => 0)) := by
  unfold wl
  show _ = List.map _ (List.range (P.2.2 + 1))
  rw [List.range_succ, List.map_append, List.map_singleton, he, xr_s]
  congr 1
  apply List.map_congr_left
  intro j hj
  have hj := List.mem_range.mp hj
  rw [xr_n _ _ (by omega)]
  congr 1
  symm
  refine elt_ext (xr_n _ _ (by omega)) (xr_n _ _ (by omega)) (xr_n _ _ (by omega)) fun f => ?_
  show ((xr P.2.1 (P.2.2 + 1) (fun _ => none)) (j + 1) f).map _ = _
  rw [xr_n _ _ (by omega)]
  cases hp : P.2.1 (j + 1) f with
  | none => rfl
  | some a =>
    have := (hw.2 _ _ _ hp).2
    simp only [Option.map_some]
    rw [xr_n _ _ (by omega)]
theorem wf_put {P : MP} (h : wf P) {k f v : Nat} (hv : 1 ≤ v ∧ v ≤ P.2.2) : wf (P.1, xu P.2.1 k f (some v), P.2.2) := by
  refine ⟨h.1, fun a b c hc => ?_⟩
  by_cases hab : a = k ∧ b = f
  · have h2 : xu P.2.1 k f (some v) a b = some v := if_pos hab
    have h3 : some v = some c := h2.symm.trans hc
    cases h3
    exact hv
  · have h2 : xu P.2.1 k f (some v) a b = P.2.1 a b := if_neg hab
    exact h.2 a b c (h2.symm.trans hc)
theorem wf_mk {P : MP} (h : wf P) {t len : Nat} (ht : (1 ≤ t ∧ t ≤ 11) ∨ (20 ≤ t ∧ t ≤ 23)) : wf (mkP P t len) := by
  refine ⟨fun k hk => ?_, fun k f a hf => ?_⟩
  · show (_ ∧ (xr P.1 (P.2.2 + 1) (t, len) k).1 = 30) ∨ (1 ≤ k ∧ k ≤ P.2.2 + 1 ∧ ((1 ≤ (xr P.1 (P.2.2 + 1) (t, len) k).1 ∧ (xr P.1 (P.2.2 + 1) (t, len) k).1 ≤ 11) ∨ (20 ≤ (xr P.1 (P.2.2 + 1) (t, len) k).1 ∧ (xr P.1 (P.2.2 + 1) (t, len) k).1 ≤ 23)))
    have hk' : (xr P.1 (P.2.2 + 1) (t, len) k).1 ≠ 0 := hk
    by_cases e : k = P.2.2 + 1
    · subst e
      rw [xr_s]
      exact Or.inr ⟨by omega, by omega, ht⟩
    · rw [xr_n _ _ e] at hk' ⊢
      rcases h.1 k hk' with g | ⟨g1, g2, g3⟩
      · exact Or.inl g
      · exact Or.inr ⟨g1, by omega, g3⟩
  · have hf' : (xr P.2.1 (P.2.2 + 1) (fun _ => none)) k f = some a := hf
    show 1 ≤ a ∧ a ≤ P.2.2 + 1
    by_cases e : k = P.2.2 + 1
    · subst e
      rw [xr_s] at hf'
      cases hf'
    · rw [xr_n _ _ e] at hf'
      have := h.2 k f a hf'
      omega
/-! values -/
theorem conc_cat (ad : Nat → Nat) (v : Value) : (conc ad v).category = v.category := by cases v <;> rfl
theorem catS_cv (ad : Nat → Nat) (st : List Value) : ((cv ad st).map fun v => v.category).sum = catS st := by
  unfold cv catS
  rw [List.map_map]
  congr 1
  exact List.map_congr_left fun v _ => conc_cat ad v
theorem conc_rf {ad : Nat → Nat} {r : Option Nat} : conc ad (va_rf r) = va_re ad r := by cases r <;> rfl
theorem conc_eq {ad ad' : Nat → Nat} {P : MP} (h : ∀ k, k ≤ P.2.2 → ad' k = ad k) {v : Value} (hv : vk P v) : conc ad' v = conc ad v := by
  cases v <;> first | rfl | skip
  rename_i k
  show Value.ref (ad' k) = Value.ref (ad k)
  rw [h k (hv k rfl)]
theorem cv_eq {ad ad' : Nat → Nat} {P : MP} (h : ∀ k, k ≤ P.2.2 → ad' k = ad k) {vs : List Value} (hv : ∀ v ∈ vs, vk P v) : cv ad' vs = cv ad vs :=
  List.map_congr_left fun v hm => conc_eq h (hv v hm)
theorem vk_mono {P P' : MP} (h : P.2.2 ≤ P'.2.2) {v : Value} (hv : vk P v) : vk P' v := fun k hk => Nat.le_trans (hv k hk) h
theorem vk_i (P : MP) (x : Int32) : vk P (.int x) := fun _ h => by cases h
theorem vk_l (P : MP) (x : Int64) : vk P (.long x) := fun _ h => by cases h
theorem vk_d (P : MP) (x : UInt64) : vk P (.double x) := fun _ h => by cases h
theorem vk_0 (P : MP) : vk P .null := fun _ h => by cases h
theorem vk_u (P : MP) : vk P UN := fun _ h => by cases h
theorem vk_rf {P : MP} (h : wf P) (k f : Nat) : vk P (va_rf (P.2.1 k f)) := by
  intro a ha
  cases hp : P.2.1 k f with
  | none => rw [hp] at ha; cases ha
  | some b => rw [hp] at ha; cases ha; exact (h.2 _ _ _ hp).2
/-! locals -/
def lh (lsA : Array Slot) (n : Nat) (ad : Nat → Nat) (ls : List Value) : Prop := lsA.size = n ∧ lv_wf lsA ∧ ls.length = n ∧ ∀ i v, gl ls i = some v → (∀ a, v ≠ .retAddr a) → lsA[i]? = some (.val (conc ad v))
theorem gl_eq (ls : List Value) (i : Nat) : gl ls i = ls[i]? := by
  induction ls generalizing i with
  | nil => cases i <;> rfl
  | cons v r ih =>
    cases i with
    | zero => rfl
    | succ n => exact ih n
theorem sl_eq (ls : List Value) (i : Nat) (w : Value) : sl ls i w = ls.set i w := by
  induction ls generalizing i with
  | nil => cases i <;> rfl
  | cons v r ih =>
    cases i with
    | zero => rfl
    | succ n => exact congrArg (v :: ·) (ih n)
theorem sl_len (ls : List Value) (i : Nat) (w : Value) : (sl ls i w).length = ls.length := by rw [sl_eq, List.length_set]
theorem k1_len (ls : List Value) (n : Nat) : (k1 ls n).length = ls.length := by
  unfold k1
  split
  · rfl
  · split
    · exact sl_len _ _ _
    · exact sl_len _ _ _
    · rfl
theorem s1_len (ls : List Value) (n : Nat) (v : Value) : (s1 ls n v).length = ls.length := by unfold s1; rw [sl_len, k1_len]
theorem s2_len (ls : List Value) (n : Nat) (v : Value) : (s2 ls n v).length = ls.length := by unfold s2; rw [sl_len, sl_len, k1_len]
theorem mem_sl {ls : List Value} {i : Nat} {w v : Value} (h : v ∈ sl ls i w) : v ∈ ls ∨ v = w := by
  rw [sl_eq] at h
  exact List.mem_or_eq_of_mem_set h
theorem mem_k1 {ls : List Value} {n : Nat} {v : Value} (h : v ∈ k1 ls n) : v ∈ ls ∨ v = UN := by
  unfold k1 at h
  split at h
  · exact Or.inl h
  · split at h
    · exact mem_sl h
    · exact mem_sl h
    · exact Or.inl h
theorem mem_s1 {ls : List Value} {n : Nat} {w v : Value} (h : v ∈ s1 ls n w) : v ∈ ls ∨ v = w ∨ v = UN := by
  rcases mem_sl h with h | h
  · rcases mem_k1 h with h | h
    · exact Or.inl h
    · exact Or.inr (Or.inr h)
  · exact Or.inr (Or.inl h)
theorem mem_s2 {ls : List Value} {n : Nat} {w v : Value} (h : v ∈ s2 ls n w) : v ∈ ls ∨ v = w ∨ v = UN := by
  rcases mem_sl h with h | h
  · rcases mem_sl h with h | h
    · rcases mem_k1 h with h | h
      · exact Or.inl h
      · exact Or.inr (Or.inr h)
    · exact Or.inr (Or.inl h)
  · exact Or.inr (Or.inr h)
/-- what is known behind the killing -/
theorem k1_get {ls : List Value} {n j : Nat} {w : Value} (h : gl (k1 ls n) j = some w) (hu : ∀ a, w ≠ .retAddr a) : gl ls j = some w ∧ ¬ (j + 1 = n ∧ w.category = 2) := by
  unfold k1 at h
  split at h
  · exact ⟨h, fun q => by omega⟩
  · rename_i i
    have key : ∀ x, gl ls i = some x → gl (sl ls i UN) j = some w → gl ls j = some w ∧ ¬ (j + 1 = i + 1 ∧ w.category = 2) := by
      intro x hx hh
      rw [sl_eq, gl_eq] at hh
      by_cases e : j = i
      · subst e
        have hl : j < ls.length := by rw [gl_eq] at hx; exact (List.getElem?_eq_some_iff.mp hx).1
        rw [List.getElem?_set_self hl] at hh
        cases hh
        exact absurd rfl (hu 0)
      · rw [List.getElem?_set_ne (Ne.symm e)] at hh
        rw [gl_eq]
        exact ⟨hh, fun q => e (by omega)⟩
    split at h
    · rename_i hx; exact key _ hx h
    · rename_i hx; exact key _ hx h
    · rename_i h1 h2
      refine ⟨h, fun q => ?_⟩
      have e : j = i := by omega
      subst e
      cases w <;> simp [Value.category] at q
      · exact h1 _ h
      · exact h2 _ h
def prs (ad : Nat → Nat) (ls : List Value) : List (Nat × Value) := (List.range ls.length).filterMap fun i => match gl ls i with
  | some (.retAddr _) => none
  | some v => some (i, conc ad v)
  | none => none
theorem mem_prs {ad : Nat → Nat} {ls : List Value} {q : Nat × Value} : q ∈ prs ad ls ↔ ∃ v, gl ls q.1 = some v ∧ (∀ a, v ≠ .retAddr a) ∧ q.2 = conc ad v := by
  unfold prs
  rw [List.mem_filterMap]
  constructor
  · rintro ⟨i, hi, h⟩
    cases hg : gl ls i with
    | none => rw [hg] at h; cases h
    | some v =>
      rw [hg] at h
      cases v <;> dsimp only at h <;> cases h <;> (refine ⟨_, hg, ?_, rfl⟩; intro a z; cases z)
  · rintro ⟨v, h1, h2, h3⟩
    have hl : q.1 < ls.length := by rw [gl_eq] at h1; exact (List.getElem?_eq_some_iff.mp h1).1
    refine ⟨q.1, List.mem_range.mpr hl, ?_⟩
    rw [h1]
    cases v <;> first | exact absurd rfl (h2 _) | (show some (q.1, _) = some q; rw [← h3])
theorem lh_has {lsA : Array Slot} {n : Nat} {ad : Nat → Nat} {ls : List Value} (h : lh lsA n ad ls) : lv_has lsA n (prs ad ls) := by
  refine ⟨h.1, h.2.1, fun q hq => ?_⟩
  obtain ⟨v, h1, h2, h3⟩ := mem_prs.mp hq
  rw [h3]
  exact h.2.2.2 _ _ h1 h2
theorem lh_at {lsA : Array Slot} {n : Nat} {ad : Nat → Nat} {ls : List Value} (h : lh lsA n ad ls) {i : Nat} {v : Value} (hg : gl ls i = some v) (hu : ∀ a, v ≠ .retAddr a) : lsA[i]? = some (.val (conc ad v)) := h.2.2.2 i v hg hu
theorem lh_s1 {lsA : Array Slot} {n : Nat} {ad : Nat → Nat} {ls : List Value} {i : Nat} {v : Value} (hlen : ls.length = n) (h : lv_has lsA n ((i, conc ad v) :: (prs ad ls).filter (fun q => !(q.1 == i) && !(q.1 + 1 == i && q.2.category == 2)))) : lh lsA n ad (s1 ls i v) := by
  refine ⟨h.1, h.2.1, by rw [s1_len]; exact hlen, fun j w hj hu => ?_⟩
  unfold s1 at hj
  rw [sl_eq, gl_eq] at hj
  by_cases e : j = i
  · subst e
    have hl : j < (k1 ls j).length := by
      have := (List.getElem?_eq_some_iff.mp hj).1
      rw [List.length_set] at this
      exact this
    rw [List.getElem?_set_self hl] at hj
    cases hj
    exact h.2.2 (j, conc ad v) List.mem_cons_self
  · rw [List.getElem?_set_ne (Ne.symm e), ← gl_eq] at hj
    obtain ⟨g1, g2⟩ := k1_get hj hu
    refine h.2.2 (j, conc ad w) (List.mem_cons_of_mem _ (List.mem_filter.mpr ⟨mem_prs.mpr ⟨w, g1, hu, rfl⟩, ?_⟩))
    rw [conc_cat]
    have e1 : (j == i) = false := by simpa using e
    rw [e1]
    by_cases e2 : j + 1 = i
    · have e3 : ¬ w.category = 2 := fun z => g2 ⟨e2, z⟩
      simp [e3]
    · simp [e2]
theorem lh_s2 {lsA : Array Slot} {n : Nat} {ad : Nat → Nat} {ls : List Value} {i : Nat} {v : Value} (hlen : ls.length = n) (h : lv_has lsA n ((i, conc ad v) :: (prs ad ls).filter (fun q => !(q.1 == i) && (!(q.1 == i + 1) && !(q.1 + 1 == i && q.2.category == 2))))) : lh lsA n ad (s2 ls i v) := by
  refine ⟨h.1, h.2.1, by rw [s2_len]; exact hlen, fun j w hj hu => ?_⟩
  unfold s2 at hj
  rw [sl_eq, sl_eq, gl_eq] at hj
  by_cases e9 : j = i + 1
  · subst e9
    have hl : i + 1 < ((k1 ls i).set i v).length := by
      have := (List.getElem?_eq_some_iff.mp hj).1
      rw [List.length_set] at this
      exact this
    rw [List.getElem?_set_self hl] at hj
    cases hj
    exact absurd rfl (hu 0)
  · rw [List.getElem?_set_ne (Ne.symm e9)] at hj
    by_cases e : j = i
    · subst e
      have hl : j < (k1 ls j).length := by
        have := (List.getElem?_eq_some_iff.mp hj).1
        rw [List.length_set] at this
        exact this
      rw [List.getElem?_set_self hl] at hj
      cases hj
      exact h.2.2 (j, conc ad v) List.mem_cons_self
    · rw [List.getElem?_set_ne (Ne.symm e), ← gl_eq] at hj
      obtain ⟨g1, g2⟩ := k1_get hj hu
      refine h.2.2 (j, conc ad w) (List.mem_cons_of_mem _ (List.mem_filter.mpr ⟨mem_prs.mpr ⟨w, g1, hu, rfl⟩, ?_⟩))
      rw [conc_cat]
      have e1 : (j == i) = false := by simpa using e
      have e4 : (j == i + 1) = false := by simpa using e9
      rw [e1, e4]
      by_cases e2 : j + 1 = i
      · have e3 : ¬ w.category = 2 := fun z => g2 ⟨e2, z⟩
        simp [e3]
      · simp [e2]
theorem lh_ad {lsA : Array Slot} {n : Nat} {ad ad' : Nat → Nat} {P : MP} {ls : List Value} (h : lh lsA n ad ls) (he : ∀ k, k ≤ P.2.2 → ad' k = ad k) (hv : ∀ v ∈ ls, vk P v) : lh lsA n ad' ls := by
  refine ⟨h.1, h.2.1, h.2.2.1, fun i v hg hu => ?_⟩
  rw [conc_eq he (hv v (by rw [gl_eq] at hg; exact List.mem_of_getElem? hg))]
  exact h.2.2.2 i v hg hu
end
section
/-! SOUND, second part: what stays true of the tables; one step -/
def tw (w : Cond) : Bool := goodWord w || (match w with
  | .fieldLinkNest .. => true
  | .methodLinkNest .. => true
  | .castable .. => true
  | .declares _ => true
  | _ => false)
def GT : List Cond := lw_tbl.filter tw
theorem tw_moves {w : Cond} (h : tw w = true) {s U : State} (hW : s.WarmedH U.vm) {a a' : Array Value} (hb : w.before a s = true) : w.before a' U = true := by
  unfold tw at h
  rw [Bool.or_eq_true] at h
  rcases h with h | h
  · exact word_at hW (good_of_word h) hb
  · revert hb
    split at h
    · intro hb; exact va_Nw.use rfl (va_Nw.warmF hW (va_Nw.of rfl hb))
    · intro hb; exact va_Nw.use rfl (va_Nw.warmM hW (va_Nw.of rfl hb))
    · intro hb; exact va_Nw.use rfl (va_Nw.warmC hW (va_Nw.of rfl hb))
    · intro hb; exact va_Nw.use rfl (va_Nw.warmD hW (va_Nw.of rfl hb))
    · cases h
theorem mem_GT {i : Nat} {w : Cond} (h : lw_tbl[i]? = some w) (ht : tw w = true) : w ∈ GT := List.mem_filter.mpr ⟨List.mem_of_getElem? h, ht⟩
theorem mem_GT1 {i : Nat} {w : Cond} (h : tables_1[i]? = some w) (ht : tw w = true) : w ∈ GT := List.mem_filter.mpr ⟨List.mem_append_right _ (List.mem_of_getElem? h), ht⟩
def strT : List (Nat × String) := [(281, "no such table"), (290, "out of range"), (92, "a link leads to a higher table"), (106, "the table is full"), (284, "no such entry"), (288, "no such rarity"), (172, "the index is negative"), (286, "no such item"), (243, "the text is full"), (261, "no state is saved")]
abbrev XX : Type := Nat × Nat × (Nat → Int32)
def SV (D : va_G) (cy : CY) (U : State) : Prop := (∀ w ∈ GT, ∀ a : Array Value, w.before a U = true) ∧ va_K D vwCl [(cy.1, .int), (cy.2.1, .long), (cy.2.2.1, .byte), (cy.2.2.2, .object RX6)] U ∧ (∀ q ∈ strT, ∃ sa, vk_R RX9 q.1 q.2 sa U) ∧ (∀ i j, i < 3 → j < 3 → i ≠ j → va_Nc (xcN i) (xcN j) U) ∧ va_AO RX6 U
def SH (L0 : Nat) (x0 : XX) (U : State) (H : Heap) : Prop := vx_Zq Bundle.tN "UNASSIGNED_STACK" Bundle.steD (fun q => L0 ≤ q) U H ∧ vx_Zq Bundle.tN "SUPPRESSED_SENTINEL" Bundle.listD (fun q => L0 ≤ q) U H ∧ va_X x0.1 x0.2.1 x0.2.2 U H ∧ x0.1 < L0 ∧ L0 ≤ H.size
theorem SV_moves {D : va_G} {cy : CY} {s U : State} (hW : s.WarmedH U.vm) (h : SV D cy s) : SV D cy U :=
  ⟨fun w hw a => tw_moves (List.mem_filter.mp hw).2 hW (h.1 w hw #[]), va_K.moved hW.alike h.2.1, fun q hq => (h.2.2.1 q hq).imp fun _ z => vk_R.warm hW z, fun i j hi hj n => va_Nc.moved hW.alike (h.2.2.2.1 i j hi hj n), va_AO.moved hW.alike h.2.2.2.2⟩
theorem SH_moves {L0 : Nat} {x0 : XX} {s U : State} {H : Heap} {locs : List Loc} (hvm : s.vm.Alike U.vm) (hS : va_S (fun q => L0 ≤ q) s.heap H locs) (h : SH L0 x0 s s.heap) : SH L0 x0 U H :=
  ⟨vx_Zq.moved hvm (h.1.kept hS.2.1), vx_Zq.moved hvm (h.2.1.kept hS.2.1), va_X.moved hvm (h.2.2.1.kept (hS.2.1 _ (Nat.lt_of_lt_of_le h.2.2.2.1 h.2.2.2.2) (Nat.not_le.mpr h.2.2.2.1))), h.2.2.2.1, Nat.le_trans h.2.2.2.2 hS.1⟩
def FO (p : Program) (s : State) (m : MethodId) (meth : Method) (c : Code) (mi : Nat) : Prop := p.tables.exec = Jvm.exec ∧ c.code = (mG mi).2.1 ∧ c.maxLocals = mL mi ∧ meth.sig.returnType = (mG mi).2.2.2.1 ∧ s.vm.findClass (cn (mO mi)) = some m.cls ∧ meth.locks = false ∧ c.exceptionTable.toList = tableOf (mG mi).2.2.2.2 ∧ meth.name = (mG mi).1.name
def IV (D : va_G) (cy : CY) (L0 : Nat) (x0 : XX) (s : State) (mi : Nat) (ad : Nat → Nat) (P : MP) (I : MI) (L : ML) (ls st : List Value) (lsA : Array Slot) (H : Heap) (locs : List Loc) : Prop :=
  va_P D vwCl (wl cy ad P I L) H ∧ va_D (fun q => L0 ≤ q) (wl cy ad P I L) ∧ wf P ∧ va_S (fun q => L0 ≤ q) s.heap H locs ∧ lh lsA (mL mi) ad ls ∧ (∀ v ∈ ls, vk P v) ∧ (∀ v ∈ st, vk P v) ∧ P.1 0 = (30, x0.2.1) ∧ ad 0 = x0.1 ∧ I 0 = x0.2.2
theorem IV.stk {D : va_G} {cy : CY} {L0 : Nat} {x0 : XX} {s : State} {mi : Nat} {ad : Nat → Nat} {P : MP} {I : MI} {L : ML} {ls st st' : List Value} {lsA : Array Slot} {H : Heap} {locs : List Loc} (h : IV D cy L0 x0 s mi ad P I L ls st lsA H locs) (hv : ∀ v ∈ st', vk P v) : IV D cy L0 x0 s mi ad P I L ls st' lsA H locs :=
  ⟨h.1, h.2.1, h.2.2.1, h.2.2.2.1, h.2.2.2.2.1, h.2.2.2.2.2.1, hv, h.2.2.2.2.2.2.2⟩
theorem IV.loc {D : va_G} {cy : CY} {L0 : Nat} {x0 : XX} {s : State} {mi : Nat} {ad : Nat → Nat} {P : MP} {I : MI} {L : ML} {ls ls' st st' : List Value} {lsA lsA' : Array Slot} {H : Heap} {locs : List Loc} (h : IV D cy L0 x0 s mi ad P I L ls st lsA H locs) (hl : lh lsA' (mL mi) ad ls') (hw : ∀ v ∈ ls', vk P v) (hv : ∀ v ∈ st', vk P v) : IV D cy L0 x0 s mi ad P I L ls' st' lsA' H locs :=
  ⟨h.1, h.2.1, h.2.2.1, h.2.2.2.1, hl, hw, hv, h.2.2.2.2.2.2.2⟩

theorem ldI_inv {ls : List Value} {k pc : Nat} {st : List Value} {P : MP} {I : MI} {L : ML} {C : MC} {w} (h : ldI ls k pc st P I L C = some w) : ∃ v, gl ls k = some (.int v) ∧ w = .inl ((pc, ls, .int v :: st), (P, I, L, C)) := by
  unfold ldI at h
  split at h
  · rename_i v hg
    cases h
    exact ⟨v, hg, rfl⟩
  · cases h
theorem ldA_inv {ls : List Value} {k pc : Nat} {st : List Value} {P : MP} {I : MI} {L : ML} {C : MC} {w} (h : ldA ls k pc st P I L C = some w) : ∃ v, gl ls k = some (.ref v) ∧ w = .inl ((pc, ls, .ref v :: st), (P, I, L, C)) := by
  unfold ldA at h
  split at h
  · rename_i v hg
    cases h
    exact ⟨v, hg, rfl⟩
  · cases h
theorem ldL_inv {ls : List Value} {k pc : Nat} {st : List Value} {P : MP} {I : MI} {L : ML} {C : MC} {w} (h : ldL ls k pc st P I L C = some w) : ∃ v, gl ls k = some (.long v) ∧ w = .inl ((pc, ls, .long v :: st), (P, I, L, C)) := by
  unfold ldL at h
  split at h
  · rename_i v hg
    cases h
    exact ⟨v, hg, rfl⟩
  · cases h
theorem ldD_inv {ls : List Value} {k pc : Nat} {st : List Value} {P : MP} {I : MI} {L : ML} {C : MC} {w} (h : ldD ls k pc st P I L C = some w) : ∃ v, gl ls k = some (.double v) ∧ w = .inl ((pc, ls, .double v :: st), (P, I, L, C)) := by
  unfold ldD at h
  split at h
  · rename_i v hg
    cases h
    exact ⟨v, hg, rfl⟩
  · cases h
theorem stI_inv {ls : List Value} {k pc : Nat} {st : List Value} {P : MP} {I : MI} {L : ML} {C : MC} {w} (h : stI ls k pc st P I L C = some w) : ∃ v st', st = .int v :: st' ∧ w = .inl ((pc, s1 ls k (.int v), st'), (P, I, L, C)) := by
  unfold stI at h
  split at h
  · cases h
    exact ⟨_, _, rfl, rfl⟩
  · cases h
theorem stA_inv {ls : List Value} {k pc : Nat} {st : List Value} {P : MP} {I : MI} {L : ML} {C : MC} {w} (h : stA ls k pc st P I L C = some w) : ∃ v st', st = .ref v :: st' ∧ w = .inl ((pc, s1 ls k (.ref v), st'), (P, I, L, C)) := by
  unfold stA at h
  split at h
  · cases h
    exact ⟨_, _, rfl, rfl⟩
  · cases h
theorem stL_inv {ls : List Value} {k pc : Nat} {st : List Value} {P : MP} {I : MI} {L : ML} {C : MC} {w} (h : stL ls k pc st P I L C = some w) : ∃ v st', st = .long v :: st' ∧ w = .inl ((pc, s2 ls k (.long v), st'), (P, I, L, C)) := by
  unfold stL at h
  split at h
  · cases h
    exact ⟨_, _, rfl, rfl⟩
  · cases h
theorem stD_inv {ls : List Value} {k pc : Nat} {st : List Value} {P : MP} {I : MI} {L : ML} {C : MC} {w} (h : stD ls k pc st P I L C = some w) : ∃ v st', st = .double v :: st' ∧ w = .inl ((pc, s2 ls k (.double v), st'), (P, I, L, C)) := by
  unfold stD at h
  split at h
  · cases h
    exact ⟨_, _, rfl, rfl⟩
  · cases h
theorem o1I_inv {f : Int32 → Value} {pc : Nat} {ls st : List Value} {P : MP} {I : MI} {L : ML} {C : MC} {w} (h : o1I f pc ls st P I L C = some w) : ∃ x st', st = .int x :: st' ∧ w = .inl ((pc, ls, f x :: st'), (P, I, L, C)) := by
  unfold o1I at h
  split at h
  · cases h
    exact ⟨_, _, rfl, rfl⟩
  · cases h
theorem o2I_inv {f : Int32 → Int32 → Int32} {pc : Nat} {ls st : List Value} {P : MP} {I : MI} {L : ML} {C : MC} {w} (h : o2I f pc ls st P I L C = some w) : ∃ x y st', st = .int y :: .int x :: st' ∧ w = .inl ((pc, ls, .int (f x y) :: st'), (P, I, L, C)) := by
  unfold o2I at h
  split at h
  · cases h
    exact ⟨_, _, _, rfl, rfl⟩
  · cases h
theorem o2L_inv {f : Int64 → Int64 → Int64} {pc : Nat} {ls st : List Value} {P : MP} {I : MI} {L : ML} {C : MC} {w} (h : o2L f pc ls st P I L C = some w) : ∃ x y st', st = .long y :: .long x :: st' ∧ w = .inl ((pc, ls, .long (f x y) :: st'), (P, I, L, C)) := by
  unfold o2L at h
  split at h
  · cases h
    exact ⟨_, _, _, rfl, rfl⟩
  · cases h
theorem ckT1_inv {pc : Nat} {o : Int} {rz : List Nat} (h : ckT1 pc o rz = true) : ∃ t, rz = [t] ∧ (pc : Int) + o = (t : Int) := by
  unfold ckT1 at h
  split at h
  · exact ⟨_, rfl, by simpa using h⟩
  · cases h

theorem ckLk_inv {mi idx : Nat} {rz : List Nat} (h : ckLk mi idx rz = true) (hn : rz ≠ []) : lkB (mO mi * 1000 + idx) rz = true ∧ (mO mi * 1000 + idx) / 1000 = mO mi ∧ (mO mi * 1000 + idx) % 1000 = idx := by
  unfold ckLk at h
  rw [Bool.or_eq_true, Bool.and_eq_true, decide_eq_true_eq] at h
  rcases h with h | h
  · exact absurd (beq_iff_eq.mp h) hn
  · exact ⟨lk_ok (beq_iff_eq.mp h.2), by omega, by omega⟩
section SND
variable {p : Program} {l : Launch} {e : Env} {R : Room} {s : State} {m : MethodId} {args : Array Value} {below : List Frame} {meth : Method} {c : Code} {H : Heap} {locs : List Loc} {cells slots : Nat} {Q : State → Prop}
variable {D : va_G} {cy : CY} {L0 : Nat} {x0 : XX} {mi : Nat} {ad : Nat → Nat} {P P' : MP} {I I' : MI} {L L' : ML} {C C' : MC} {ls ls' st st' : List Value} {lsA : Array Slot} {pc pc' : Nat} {i : ClassFile.Instr} {len : Nat} {rz : List Nat}
/-- how it goes on behind a step -/
def KN (p : Program) (l : Launch) (e : Env) (R : Room) (s : State) (m : MethodId) (args : Array Value) (below : List Frame) (meth : Method) (c : Code) (cells slots : Nat) (Q : State → Prop) (D : va_G) (cy : CY) (L0 : Nat) (x0 : XX) (mi : Nat) (ad : Nat → Nat) (P : MP) (C : MC) (w : FR × MM) : Prop :=
  ∀ (ad' : Nat → Nat) (lsA' : Array Slot) (H' : Heap) (locs' : List Loc), (∀ k, k ≤ P.2.2 → ad' k = ad k) → P.2.2 ≤ w.2.1.2.2 → IV D cy L0 x0 s mi ad' w.2.1 w.2.2.1 w.2.2.2.1 w.1.2.1 w.1.2.2 lsA' H' locs' →
    W p l e R s m args below meth c H' locs' (cells + (w.2.2.2.2.1 - C.1)) (slots + (w.2.2.2.2.2 - C.2)) Q (F0 m w.1.1 lsA' (cv ad' w.1.2.2))
theorem KN.pure {pc1 : Nat} {st1 : List Value} (k : KN p l e R s m args below meth c cells slots Q D cy L0 x0 mi ad P C ((pc1, ls, st1), (P, I, L, C))) (h : IV D cy L0 x0 s mi ad P I L ls st lsA H locs) (hv : ∀ v ∈ st1, vk P v) :
    W p l e R s m args below meth c H locs cells slots Q (F0 m pc1 lsA (cv ad st1)) := by
  have := k ad lsA H locs (fun _ _ => rfl) (Nat.le_refl _) (h.stk hv)
  simpa only [Nat.sub_self, Nat.add_zero] using this
theorem KN.lcs {pc1 : Nat} {ls1 st1 : List Value} {lsA1 : Array Slot} (k : KN p l e R s m args below meth c cells slots Q D cy L0 x0 mi ad P C ((pc1, ls1, st1), (P, I, L, C))) (h : IV D cy L0 x0 s mi ad P I L ls st lsA H locs) (hl : lh lsA1 (mL mi) ad ls1) (hw : ∀ v ∈ ls1, vk P v) (hv : ∀ v ∈ st1, vk P v) :
    W p l e R s m args below meth c H locs cells slots Q (F0 m pc1 lsA1 (cv ad st1)) := by
  have := k ad lsA1 H locs (fun _ _ => rfl) (Nat.le_refl _) (h.loc hl hw hv)
  simpa only [Nat.sub_self, Nat.add_zero] using this

set_option maxHeartbeats 4000000 in
theorem sx_aload_n {n : Fin 4} (fo : FO p s m meth c mi) (sv : SV D cy s) (sh : SH L0 x0 s s.heap) (hd : dec mi pc = some (.aload_n n, len, rz)) (hI : IV D cy L0 x0 s mi ad P I L ls st lsA H locs) {w : FR × MM} (hs : stp pc (.aload_n n) len rz ls st P I L C = some (.inl w)) (hcR : cells + w.2.2.2.2.1 ≤ R.cells + C.1) (hsR : slots + w.2.2.2.2.2 ≤ R.slots + C.2) (hfR : 8 ≤ R.frames) (hlR : 128 ≤ R.locals)
    (k : KN p l e R s m args below meth c cells slots Q D cy L0 x0 mi ad P C w) : W p l e R s m args below meth c H locs cells slots Q (F0 m pc lsA (cv ad st)) := by
  obtain ⟨hdec, hck⟩ := dec_ok hd
  obtain ⟨hx, hb, hml, hrt, hown, hlocks, htab, hnm⟩ := fo
  have hts : ∀ w ∈ GT, w.before args s = true := fun w hw => sv.1 w hw args
  obtain ⟨hP, hD, hwf, hS, hlh, hlv, hsv, hx1, hx2, hx3⟩ := id hI
  simp only [stp] at hs
  simp only [ckR, Bool.and_eq_true, beq_iff_eq, decide_eq_true_eq] at hck
  subst hck
  obtain ⟨v, hg, hw⟩ := ldA_inv hs
  cases hw
  exact lv_aload_n (rest := cv ad st) hx hb hdec rfl (lh_at hlh hg (by intro a z; cases z)) (KN.pure k hI (List.forall_mem_cons.mpr ⟨hlv _ (by rw [gl_eq] at hg; exact List.mem_of_getElem? hg), hsv⟩))

set_option maxHeartbeats 4000000 in
theorem sx_iload_n {n : Fin 4} (fo : FO p s m meth c mi) (sv : SV D cy s) (sh : SH L0 x0 s s.heap) (hd : dec mi pc = some (.iload_n n, len, rz)) (hI : IV D cy L0 x0 s mi ad P I L ls st lsA H locs) {w : FR × MM} (hs : stp pc (.iload_n n) len rz ls st P I L C = some (.inl w)) (hcR : cells + w.2.2.2.2.1 ≤ R.cells + C.1) (hsR : slots + w.2.2.2.2.2 ≤ R.slots + C.2) (hfR : 8 ≤ R.frames) (hlR : 128 ≤ R.locals)
    (k : KN p l e R s m args below meth c cells slots Q D cy L0 x0 mi ad P C w) : W p l e R s m args below meth c H locs cells slots Q (F0 m pc lsA (cv ad st)) := by
  obtain ⟨hdec, hck⟩ := dec_ok hd
  obtain ⟨hx, hb, hml, hrt, hown, hlocks, htab, hnm⟩ := fo
  have hts : ∀ w ∈ GT, w.before args s = true := fun w hw => sv.1 w hw args
  obtain ⟨hP, hD, hwf, hS, hlh, hlv, hsv, hx1, hx2, hx3⟩ := id hI
  simp only [stp] at hs
  simp only [ckR, Bool.and_eq_true, beq_iff_eq, decide_eq_true_eq] at hck
  subst hck
  obtain ⟨v, hg, hw⟩ := ldI_inv hs
  cases hw
  exact lv_iload_n (rest := cv ad st) hx hb hdec rfl (lh_at hlh hg (by intro a z; cases z)) (KN.pure k hI (List.forall_mem_cons.mpr ⟨vk_i P _, hsv⟩))

set_option maxHeartbeats 4000000 in
theorem sx_lload_n {n : Fin 4} (fo : FO p s m meth c mi) (sv : SV D cy s) (sh : SH L0 x0 s s.heap) (hd : dec mi pc = some (.lload_n n, len, rz)) (hI : IV D cy L0 x0 s mi ad P I L ls st lsA H locs) {w : FR × MM} (hs : stp pc (.lload_n n) len rz ls st P I L C = some (.inl w)) (hcR : cells + w.2.2.2.2.1 ≤ R.cells + C.1) (hsR : slots + w.2.2.2.2.2 ≤ R.slots + C.2) (hfR : 8 ≤ R.frames) (hlR : 128 ≤ R.locals)
    (k : KN p l e R s m args below meth c cells slots Q D cy L0 x0 mi ad P C w) : W p l e R s m args below meth c H locs cells slots Q (F0 m pc lsA (cv ad st)) := by
  obtain ⟨hdec, hck⟩ := dec_ok hd
  obtain ⟨hx, hb, hml, hrt, hown, hlocks, htab, hnm⟩ := fo
  have hts : ∀ w ∈ GT, w.before args s = true := fun w hw => sv.1 w hw args
  obtain ⟨hP, hD, hwf, hS, hlh, hlv, hsv, hx1, hx2, hx3⟩ := id hI
  simp only [stp] at hs
  simp only [ckR, Bool.and_eq_true, beq_iff_eq, decide_eq_true_eq] at hck
  subst hck
  obtain ⟨v, hg, hw⟩ := ldL_inv hs
  cases hw
  exact lv_lload_n (rest := cv ad st) hx hb hdec rfl (lh_at hlh hg (by intro a z; cases z)) (KN.pure k hI (List.forall_mem_cons.mpr ⟨vk_l P _, hsv⟩))

set_option maxHeartbeats 4000000 in
theorem sx_dload_n {n : Fin 4} (fo : FO p s m meth c mi) (sv : SV D cy s) (sh : SH L0 x0 s s.heap) (hd : dec mi pc = some (.dload_n n, len, rz)) (hI : IV D cy L0 x0 s mi ad P I L ls st lsA H locs) {w : FR × MM} (hs : stp pc (.dload_n n) len rz ls st P I L C = some (.inl w)) (hcR : cells + w.2.2.2.2.1 ≤ R.cells + C.1) (hsR : slots + w.2.2.2.2.2 ≤ R.slots + C.2) (hfR : 8 ≤ R.frames) (hlR : 128 ≤ R.locals)
    (k : KN p l e R s m args below meth c cells slots Q D cy L0 x0 mi ad P C w) : W p l e R s m args below meth c H locs cells slots Q (F0 m pc lsA (cv ad st)) := by
  obtain ⟨hdec, hck⟩ := dec_ok hd
  obtain ⟨hx, hb, hml, hrt, hown, hlocks, htab, hnm⟩ := fo
  have hts : ∀ w ∈ GT, w.before args s = true := fun w hw => sv.1 w hw args
  obtain ⟨hP, hD, hwf, hS, hlh, hlv, hsv, hx1, hx2, hx3⟩ := id hI
  simp only [stp] at hs
  simp only [ckR, Bool.and_eq_true, beq_iff_eq, decide_eq_true_eq] at hck
  subst hck
  obtain ⟨v, hg, hw⟩ := ldD_inv hs
  cases hw
  exact lv_dload_n (rest := cv ad st) hx hb hdec rfl (lh_at hlh hg (by intro a z; cases z)) (KN.pure k hI (List.forall_mem_cons.mpr ⟨vk_d P _, hsv⟩))

set_option maxHeartbeats 4000000 in
theorem sx_aload {n : Nat} (fo : FO p s m meth c mi) (sv : SV D cy s) (sh : SH L0 x0 s s.heap) (hd : dec mi pc = some (.aload n, len, rz)) (hI : IV D cy L0 x0 s mi ad P I L ls st lsA H locs) {w : FR × MM} (hs : stp pc (.aload n) len rz ls st P I L C = some (.inl w)) (hcR : cells + w.2.2.2.2.1 ≤ R.cells + C.1) (hsR : slots + w.2.2.2.2.2 ≤ R.slots + C.2) (hfR : 8 ≤ R.frames) (hlR : 128 ≤ R.locals)
    (k : KN p l e R s m args below meth c cells slots Q D cy L0 x0 mi ad P C w) : W p l e R s m args below meth c H locs cells slots Q (F0 m pc lsA (cv ad st)) := by
  obtain ⟨hdec, hck⟩ := dec_ok hd
  obtain ⟨hx, hb, hml, hrt, hown, hlocks, htab, hnm⟩ := fo
  have hts : ∀ w ∈ GT, w.before args s = true := fun w hw => sv.1 w hw args
  obtain ⟨hP, hD, hwf, hS, hlh, hlv, hsv, hx1, hx2, hx3⟩ := id hI
  simp only [stp] at hs
  simp only [ckR, Bool.and_eq_true, beq_iff_eq, decide_eq_true_eq] at hck
  subst hck
  obtain ⟨v, hg, hw⟩ := ldA_inv hs
  cases hw
  exact lv_aload (rest := cv ad st) hx hb hdec (lh_at hlh hg (by intro a z; cases z)) (KN.pure k hI (List.forall_mem_cons.mpr ⟨hlv _ (by rw [gl_eq] at hg; exact List.mem_of_getElem? hg), hsv⟩))

set_option maxHeartbeats 4000000 in
theorem sx_iload {n : Nat} (fo : FO p s m meth c mi) (sv : SV D cy s) (sh : SH L0 x0 s s.heap) (hd : dec mi pc = some (.iload n, len, rz)) (hI : IV D cy L0 x0 s mi ad P I L ls st lsA H locs) {w : FR × MM} (hs : stp pc (.iload n) len rz ls st P I L C = some (.inl w)) (hcR : cells + w.2.2.2.2.1 ≤ R.cells + C.1) (hsR : slots + w.2.2.2.2.2 ≤ R.slots + C.2) (hfR : 8 ≤ R.frames) (hlR : 128 ≤ R.locals)
    (k : KN p l e R s m args below meth c cells slots Q D cy L0 x0 mi ad P C w) : W p l e R s m args below meth c H locs cells slots Q (F0 m pc lsA (cv ad st)) := by
  obtain ⟨hdec, hck⟩ := dec_ok hd
  obtain ⟨hx, hb, hml, hrt, hown, hlocks, htab, hnm⟩ := fo
  have hts : ∀ w ∈ GT, w.before args s = true := fun w hw => sv.1 w hw args
  obtain ⟨hP, hD, hwf, hS, hlh, hlv, hsv, hx1, hx2, hx3⟩ := id hI
  simp only [stp] at hs
  simp only [ckR, Bool.and_eq_true, beq_iff_eq, decide_eq_true_eq] at hck
  subst hck
  obtain ⟨v, hg, hw⟩ := ldI_inv hs
  cases hw
  exact lv_iload (rest := cv ad st) hx hb hdec (lh_at hlh hg (by intro a z; cases z)) (KN.pure k hI (List.forall_mem_cons.mpr ⟨vk_i P _, hsv⟩))

set_option maxHeartbeats 4000000 in
theorem sx_lload {n : Nat} (fo : FO p s m meth c mi) (sv : SV D cy s) (sh : SH L0 x0 s s.heap) (hd : dec mi pc = some (.lload n, len, rz)) (hI : IV D cy L0 x0 s mi ad P I L ls st lsA H locs) {w : FR × MM} (hs : stp pc (.lload n) len rz ls st P I L C = some (.inl w)) (hcR : cells + w.2.2.2.2.1 ≤ R.cells + C.1) (hsR : slots + w.2.2.2.2.2 ≤ R.slots + C.2) (hfR : 8 ≤ R.frames) (hlR : 128 ≤ R.locals)
    (k : KN p l e R s m args below meth c cells slots Q D cy L0 x0 mi ad P C w) : W p l e R s m args below meth c H locs cells slots Q (F0 m pc lsA (cv ad st)) := by
  obtain ⟨hdec, hck⟩ := dec_ok hd
  obtain ⟨hx, hb, hml, hrt, hown, hlocks, htab, hnm⟩ := fo
  have hts : ∀ w ∈ GT, w.before args s = true := fun w hw => sv.1 w hw args
  obtain ⟨hP, hD, hwf, hS, hlh, hlv, hsv, hx1, hx2, hx3⟩ := id hI
  simp only [stp] at hs
  simp only [ckR, Bool.and_eq_true, beq_iff_eq, decide_eq_true_eq] at hck
  subst hck
  obtain ⟨v, hg, hw⟩ := ldL_inv hs
  cases hw
  exact lv_lload (rest := cv ad st) hx hb hdec (lh_at hlh hg (by intro a z; cases z)) (KN.pure k hI (List.forall_mem_cons.mpr ⟨vk_l P _, hsv⟩))

set_option maxHeartbeats 4000000 in
theorem sx_dload {n : Nat} (fo : FO p s m meth c mi) (sv : SV D cy s) (sh : SH L0 x0 s s.heap) (hd : dec mi pc = some (.dload n, len, rz)) (hI : IV D cy L0 x0 s mi ad P I L ls st lsA H locs) {w : FR × MM} (hs : stp pc (.dload n) len rz ls st P I L C = some (.inl w)) (hcR : cells + w.2.2.2.2.1 ≤ R.cells + C.1) (hsR : slots + w.2.2.2.2.2 ≤ R.slots + C.2) (hfR : 8 ≤ R.frames) (hlR : 128 ≤ R.locals)
    (k : KN p l e R s m args below meth c cells slots Q D cy L0 x0 mi ad P C w) : W p l e R s m args below meth c H locs cells slots Q (F0 m pc lsA (cv ad st)) := by
  obtain ⟨hdec, hck⟩ := dec_ok hd
  obtain ⟨hx, hb, hml, hrt, hown, hlocks, htab, hnm⟩ := fo
  have hts : ∀ w ∈ GT, w.before args s = true := fun w hw => sv.1 w hw args
  obtain ⟨hP, hD, hwf, hS, hlh, hlv, hsv, hx1, hx2, hx3⟩ := id hI
  simp only [stp] at hs
  simp only [ckR, Bool.and_eq_true, beq_iff_eq, decide_eq_true_eq] at hck
  subst hck
  obtain ⟨v, hg, hw⟩ := ldD_inv hs
  cases hw
  exact lv_dload (rest := cv ad st) hx hb hdec (lh_at hlh hg (by intro a z; cases z)) (KN.pure k hI (List.forall_mem_cons.mpr ⟨vk_d P _, hsv⟩))

set_option maxHeartbeats 4000000 in
theorem sx_istore_n {n : Fin 4} (fo : FO p s m meth c mi) (sv : SV D cy s) (sh : SH L0 x0 s s.heap) (hd : dec mi pc = some (.istore_n n, len, rz)) (hI : IV D cy L0 x0 s mi ad P I L ls st lsA H locs) {w : FR × MM} (hs : stp pc (.istore_n n) len rz ls st P I L C = some (.inl w)) (hcR : cells + w.2.2.2.2.1 ≤ R.cells + C.1) (hsR : slots + w.2.2.2.2.2 ≤ R.slots + C.2) (hfR : 8 ≤ R.frames) (hlR : 128 ≤ R.locals)
    (k : KN p l e R s m args below meth c cells slots Q D cy L0 x0 mi ad P C w) : W p l e R s m args below meth c H locs cells slots Q (F0 m pc lsA (cv ad st)) := by
  obtain ⟨hdec, hck⟩ := dec_ok hd
  obtain ⟨hx, hb, hml, hrt, hown, hlocks, htab, hnm⟩ := fo
  have hts : ∀ w ∈ GT, w.before args s = true := fun w hw => sv.1 w hw args
  obtain ⟨hP, hD, hwf, hS, hlh, hlv, hsv, hx1, hx2, hx3⟩ := id hI
  simp only [stp] at hs
  simp only [ckR, Bool.and_eq_true, beq_iff_eq, decide_eq_true_eq] at hck
  obtain ⟨rfl, hn⟩ := hck
  obtain ⟨v, st1, rfl, hw⟩ := stI_inv hs
  cases hw
  have hv := List.forall_mem_cons.mp hsv
  refine lv_istore_n (rest := cv ad st1) hx hb hdec rfl (lh_has hlh) hn rfl (fun lsA1 hl1 => ?_)
  exact KN.lcs k hI (lh_s1 hlh.2.2.1 (v := .int v) hl1) (fun z hz => by
    rcases mem_s1 hz with q | rfl | rfl
    · exact hlv z q
    · exact hv.1
    · exact vk_u P) hv.2

set_option maxHeartbeats 4000000 in
theorem sx_astore_n {n : Fin 4} (fo : FO p s m meth c mi) (sv : SV D cy s) (sh : SH L0 x0 s s.heap) (hd : dec mi pc = some (.astore_n n, len, rz)) (hI : IV D cy L0 x0 s mi ad P I L ls st lsA H locs) {w : FR × MM} (hs : stp pc (.astore_n n) len rz ls st P I L C = some (.inl w)) (hcR : cells + w.2.2.2.2.1 ≤ R.cells + C.1) (hsR : slots + w.2.2.2.2.2 ≤ R.slots + C.2) (hfR : 8 ≤ R.frames) (hlR : 128 ≤ R.locals)
    (k : KN p l e R s m args below meth c cells slots Q D cy L0 x0 mi ad P C w) : W p l e R s m args below meth c H locs cells slots Q (F0 m pc lsA (cv ad st)) := by
  obtain ⟨hdec, hck⟩ := dec_ok hd
  obtain ⟨hx, hb, hml, hrt, hown, hlocks, htab, hnm⟩ := fo
  have hts : ∀ w ∈ GT, w.before args s = true := fun w hw => sv.1 w hw args
  obtain ⟨hP, hD, hwf, hS, hlh, hlv, hsv, hx1, hx2, hx3⟩ := id hI
  simp only [stp] at hs
  simp only [ckR, Bool.and_eq_true, beq_iff_eq, decide_eq_true_eq] at hck
  obtain ⟨rfl, hn⟩ := hck
  obtain ⟨v, st1, rfl, hw⟩ := stA_inv hs
  cases hw
  have hv := List.forall_mem_cons.mp hsv
  refine lv_astore_n (rest := cv ad st1) hx hb hdec rfl (lh_has hlh) hn rfl (fun lsA1 hl1 => ?_)
  exact KN.lcs k hI (lh_s1 hlh.2.2.1 (v := .ref v) hl1) (fun z hz => by
    rcases mem_s1 hz with q | rfl | rfl
    · exact hlv z q
    · exact hv.1
    · exact vk_u P) hv.2

set_option maxHeartbeats 4000000 in
theorem sx_lstore_n {n : Fin 4} (fo : FO p s m meth c mi) (sv : SV D cy s) (sh : SH L0 x0 s s.heap) (hd : dec mi pc = some (.lstore_n n, len, rz)) (hI : IV D cy L0 x0 s mi ad P I L ls st lsA H locs) {w : FR × MM} (hs : stp pc (.lstore_n n) len rz ls st P I L C = some (.inl w)) (hcR : cells + w.2.2.2.2.1 ≤ R.cells + C.1) (hsR : slots + w.2.2.2.2.2 ≤ R.slots + C.2) (hfR : 8 ≤ R.frames) (hlR : 128 ≤ R.locals)
    (k : KN p l e R s m args below meth c cells slots Q D cy L0 x0 mi ad P C w) : W p l e R s m args below meth c H locs cells slots Q (F0 m pc lsA (cv ad st)) := by
  obtain ⟨hdec, hck⟩ := dec_ok hd
  obtain ⟨hx, hb, hml, hrt, hown, hlocks, htab, hnm⟩ := fo
  have hts : ∀ w ∈ GT, w.before args s = true := fun w hw => sv.1 w hw args
  obtain ⟨hP, hD, hwf, hS, hlh, hlv, hsv, hx1, hx2, hx3⟩ := id hI
  simp only [stp] at hs
  simp only [ckR, Bool.and_eq_true, beq_iff_eq, decide_eq_true_eq] at hck
  obtain ⟨rfl, hn⟩ := hck
  obtain ⟨v, st1, rfl, hw⟩ := stL_inv hs
  cases hw
  have hv := List.forall_mem_cons.mp hsv
  refine lv_lstore_n (rest := cv ad st1) hx hb hdec rfl (lh_has hlh) hn rfl (fun lsA1 hl1 => ?_)
  exact KN.lcs k hI (lh_s2 hlh.2.2.1 (v := .long v) hl1) (fun z hz => by
    rcases mem_s2 hz with q | rfl | rfl
    · exact hlv z q
    · exact hv.1
    · exact vk_u P) hv.2

set_option maxHeartbeats 4000000 in
theorem sx_dstore_n {n : Fin 4} (fo : FO p s m meth c mi) (sv : SV D cy s) (sh : SH L0 x0 s s.heap) (hd : dec mi pc = some (.dstore_n n, len, rz)) (hI : IV D cy L0 x0 s mi ad P I L ls st lsA H locs) {w : FR × MM} (hs : stp pc (.dstore_n n) len rz ls st P I L C = some (.inl w)) (hcR : cells + w.2.2.2.2.1 ≤ R.cells + C.1) (hsR : slots + w.2.2.2.2.2 ≤ R.slots + C.2) (hfR : 8 ≤ R.frames) (hlR : 128 ≤ R.locals)
    (k : KN p l e R s m args below meth c cells slots Q D cy L0 x0 mi ad P C w) : W p l e R s m args below meth c H locs cells slots Q (F0 m pc lsA (cv ad st)) := by
  obtain ⟨hdec, hck⟩ := dec_ok hd
  obtain ⟨hx, hb, hml, hrt, hown, hlocks, htab, hnm⟩ := fo
  have hts : ∀ w ∈ GT, w.before args s = true := fun w hw => sv.1 w hw args
  obtain ⟨hP, hD, hwf, hS, hlh, hlv, hsv, hx1, hx2, hx3⟩ := id hI
  simp only [stp] at hs
  simp only [ckR, Bool.and_eq_true, beq_iff_eq, decide_eq_true_eq] at hck
  obtain ⟨rfl, hn⟩ := hck
  obtain ⟨v, st1, rfl, hw⟩ := stD_inv hs
  cases hw
  have hv := List.forall_mem_cons.mp hsv
  refine lv_dstore_n (rest := cv ad st1) hx hb hdec rfl (lh_has hlh) hn rfl (fun lsA1 hl1 => ?_)
  exact KN.lcs k hI (lh_s2 hlh.2.2.1 (v := .double v) hl1) (fun z hz => by
    rcases mem_s2 hz with q | rfl | rfl
    · exact hlv z q
    · exact hv.1
    · exact vk_u P) hv.2

set_option maxHeartbeats 4000000 in
theorem sx_istore {n : Nat} (fo : FO p s m meth c mi) (sv : SV D cy s) (sh : SH L0 x0 s s.heap) (hd : dec mi pc = some (.istore n, len, rz)) (hI : IV D cy L0 x0 s mi ad P I L ls st lsA H locs) {w : FR × MM} (hs : stp pc (.istore n) len rz ls st P I L C = some (.inl w)) (hcR : cells + w.2.2.2.2.1 ≤ R.cells + C.1) (hsR : slots + w.2.2.2.2.2 ≤ R.slots + C.2) (hfR : 8 ≤ R.frames) (hlR : 128 ≤ R.locals)
    (k : KN p l e R s m args below meth c cells slots Q D cy L0 x0 mi ad P C w) : W p l e R s m args below meth c H locs cells slots Q (F0 m pc lsA (cv ad st)) := by
  obtain ⟨hdec, hck⟩ := dec_ok hd
  obtain ⟨hx, hb, hml, hrt, hown, hlocks, htab, hnm⟩ := fo
  have hts : ∀ w ∈ GT, w.before args s = true := fun w hw => sv.1 w hw args
  obtain ⟨hP, hD, hwf, hS, hlh, hlv, hsv, hx1, hx2, hx3⟩ := id hI
  simp only [stp] at hs
  simp only [ckR, Bool.and_eq_true, beq_iff_eq, decide_eq_true_eq] at hck
  obtain ⟨rfl, hn⟩ := hck
  obtain ⟨v, st1, rfl, hw⟩ := stI_inv hs
  cases hw
  have hv := List.forall_mem_cons.mp hsv
  refine lv_istore (rest := cv ad st1) hx hb hdec (lh_has hlh) hn rfl (fun lsA1 hl1 => ?_)
  exact KN.lcs k hI (lh_s1 hlh.2.2.1 (v := .int v) hl1) (fun z hz => by
    rcases mem_s1 hz with q | rfl | rfl
    · exact hlv z q
    · exact hv.1
    · exact vk_u P) hv.2

set_option maxHeartbeats 4000000 in
theorem sx_astore {n : Nat} (fo : FO p s m meth c mi) (sv : SV D cy s) (sh : SH L0 x0 s s.heap) (hd : dec mi pc = some (.astore n, len, rz)) (hI : IV D cy L0 x0 s mi ad P I L ls st lsA H locs) {w : FR × MM} (hs : stp pc (.astore n) len rz ls st P I L C = some (.inl w)) (hcR : cells + w.2.2.2.2.1 ≤ R.cells + C.1) (hsR : slots + w.2.2.2.2.2 ≤ R.slots + C.2) (hfR : 8 ≤ R.frames) (hlR : 128 ≤ R.locals)
    (k : KN p l e R s m args below meth c cells slots Q D cy L0 x0 mi ad P C w) : W p l e R s m args below meth c H locs cells slots Q (F0 m pc lsA (cv ad st)) := by
  obtain ⟨hdec, hck⟩ := dec_ok hd
  obtain ⟨hx, hb, hml, hrt, hown, hlocks, htab, hnm⟩ := fo
  have hts : ∀ w ∈ GT, w.before args s = true := fun w hw => sv.1 w hw args
  obtain ⟨hP, hD, hwf, hS, hlh, hlv, hsv, hx1, hx2, hx3⟩ := id hI
  simp only [stp] at hs
  simp only [ckR, Bool.and_eq_true, beq_iff_eq, decide_eq_true_eq] at hck
  obtain ⟨rfl, hn⟩ := hck
  obtain ⟨v, st1, rfl, hw⟩ := stA_inv hs
  cases hw
  have hv := List.forall_mem_cons.mp hsv
  refine lv_astore (rest := cv ad st1) hx hb hdec (lh_has hlh) hn rfl (fun lsA1 hl1 => ?_)
  exact KN.lcs k hI (lh_s1 hlh.2.2.1 (v := .ref v) hl1) (fun z hz => by
    rcases mem_s1 hz with q | rfl | rfl
    · exact hlv z q
    · exact hv.1
    · exact vk_u P) hv.2

set_option maxHeartbeats 4000000 in
theorem sx_lstore {n : Nat} (fo : FO p s m meth c mi) (sv : SV D cy s) (sh : SH L0 x0 s s.heap) (hd : dec mi pc = some (.lstore n, len, rz)) (hI : IV D cy L0 x0 s mi ad P I L ls st lsA H locs) {w : FR × MM} (hs : stp pc (.lstore n) len rz ls st P I L C = some (.inl w)) (hcR : cells + w.2.2.2.2.1 ≤ R.cells + C.1) (hsR : slots + w.2.2.2.2.2 ≤ R.slots + C.2) (hfR : 8 ≤ R.frames) (hlR : 128 ≤ R.locals)
    (k : KN p l e R s m args below meth c cells slots Q D cy L0 x0 mi ad P C w) : W p l e R s m args below meth c H locs cells slots Q (F0 m pc lsA (cv ad st)) := by
  obtain ⟨hdec, hck⟩ := dec_ok hd
  obtain ⟨hx, hb, hml, hrt, hown, hlocks, htab, hnm⟩ := fo
  have hts : ∀ w ∈ GT, w.before args s = true := fun w hw => sv.1 w hw args
  obtain ⟨hP, hD, hwf, hS, hlh, hlv, hsv, hx1, hx2, hx3⟩ := id hI
  simp only [stp] at hs
  simp only [ckR, Bool.and_eq_true, beq_iff_eq, decide_eq_true_eq] at hck
  obtain ⟨rfl, hn⟩ := hck
  obtain ⟨v, st1, rfl, hw⟩ := stL_inv hs
  cases hw
  have hv := List.forall_mem_cons.mp hsv
  refine lv_lstore (rest := cv ad st1) hx hb hdec (lh_has hlh) hn rfl (fun lsA1 hl1 => ?_)
  exact KN.lcs k hI (lh_s2 hlh.2.2.1 (v := .long v) hl1) (fun z hz => by
    rcases mem_s2 hz with q | rfl | rfl
    · exact hlv z q
    · exact hv.1
    · exact vk_u P) hv.2

set_option maxHeartbeats 4000000 in
theorem sx_dstore {n : Nat} (fo : FO p s m meth c mi) (sv : SV D cy s) (sh : SH L0 x0 s s.heap) (hd : dec mi pc = some (.dstore n, len, rz)) (hI : IV D cy L0 x0 s mi ad P I L ls st lsA H locs) {w : FR × MM} (hs : stp pc (.dstore n) len rz ls st P I L C = some (.inl w)) (hcR : cells + w.2.2.2.2.1 ≤ R.cells + C.1) (hsR : slots + w.2.2.2.2.2 ≤ R.slots + C.2) (hfR : 8 ≤ R.frames) (hlR : 128 ≤ R.locals)
    (k : KN p l e R s m args below meth c cells slots Q D cy L0 x0 mi ad P C w) : W p l e R s m args below meth c H locs cells slots Q (F0 m pc lsA (cv ad st)) := by
  obtain ⟨hdec, hck⟩ := dec_ok hd
  obtain ⟨hx, hb, hml, hrt, hown, hlocks, htab, hnm⟩ := fo
  have hts : ∀ w ∈ GT, w.before args s = true := fun w hw => sv.1 w hw args
  obtain ⟨hP, hD, hwf, hS, hlh, hlv, hsv, hx1, hx2, hx3⟩ := id hI
  simp only [stp] at hs
  simp only [ckR, Bool.and_eq_true, beq_iff_eq, decide_eq_true_eq] at hck
  obtain ⟨rfl, hn⟩ := hck
  obtain ⟨v, st1, rfl, hw⟩ := stD_inv hs
  cases hw
  have hv := List.forall_mem_cons.mp hsv
  refine lv_dstore (rest := cv ad st1) hx hb hdec (lh_has hlh) hn rfl (fun lsA1 hl1 => ?_)
  exact KN.lcs k hI (lh_s2 hlh.2.2.1 (v := .double v) hl1) (fun z hz => by
    rcases mem_s2 hz with q | rfl | rfl
    · exact hlv z q
    · exact hv.1
    · exact vk_u P) hv.2

set_option maxHeartbeats 4000000 in
theorem sx_iinc {n : Nat} {z : Int} (fo : FO p s m meth c mi) (sv : SV D cy s) (sh : SH L0 x0 s s.heap) (hd : dec mi pc = some (.iinc n z, len, rz)) (hI : IV D cy L0 x0 s mi ad P I L ls st lsA H locs) {w : FR × MM} (hs : stp pc (.iinc n z) len rz ls st P I L C = some (.inl w)) (hcR : cells + w.2.2.2.2.1 ≤ R.cells + C.1) (hsR : slots + w.2.2.2.2.2 ≤ R.slots + C.2) (hfR : 8 ≤ R.frames) (hlR : 128 ≤ R.locals)
    (k : KN p l e R s m args below meth c cells slots Q D cy L0 x0 mi ad P C w) : W p l e R s m args below meth c H locs cells slots Q (F0 m pc lsA (cv ad st)) := by
  obtain ⟨hdec, hck⟩ := dec_ok hd
  obtain ⟨hx, hb, hml, hrt, hown, hlocks, htab, hnm⟩ := fo
  have hts : ∀ w ∈ GT, w.before args s = true := fun w hw => sv.1 w hw args
  obtain ⟨hP, hD, hwf, hS, hlh, hlv, hsv, hx1, hx2, hx3⟩ := id hI
  simp only [stp] at hs
  simp only [ckR, Bool.and_eq_true, beq_iff_eq, decide_eq_true_eq] at hck
  obtain ⟨⟨rfl, hn⟩, hv0⟩ := hck
  split at hs
  · rename_i x k0 hg
    cases hs
    have hz : Int32.ofInt z = nI k0 := by simpa using hv0
    obtain ⟨q, hq⟩ := List.getElem?_of_mem (mem_prs.mpr ⟨.int x, hg, (by intro a z; cases z), rfl⟩ : (n, conc ad (.int x)) ∈ prs ad ls)
    refine lv_iinc (rest := cv ad st) (v := x + nI k0) hx hb hdec (lh_has hlh) hq (by rw [hz]) hn rfl (fun lsA1 hl1 => ?_)
    exact KN.lcs k hI (lh_s1 hlh.2.2.1 (v := .int (x + nI k0)) hl1) (fun z hz => by
      rcases mem_s1 hz with q | rfl | rfl
      · exact hlv z q
      · exact vk_i P _
      · exact vk_u P) hsv
  · cases hs

set_option maxHeartbeats 4000000 in
theorem sx_iconst {n : Int} (fo : FO p s m meth c mi) (sv : SV D cy s) (sh : SH L0 x0 s s.heap) (hd : dec mi pc = some (.iconst n, len, rz)) (hI : IV D cy L0 x0 s mi ad P I L ls st lsA H locs) {w : FR × MM} (hs : stp pc (.iconst n) len rz ls st P I L C = some (.inl w)) (hcR : cells + w.2.2.2.2.1 ≤ R.cells + C.1) (hsR : slots + w.2.2.2.2.2 ≤ R.slots + C.2) (hfR : 8 ≤ R.frames) (hlR : 128 ≤ R.locals)
    (k : KN p l e R s m args below meth c cells slots Q D cy L0 x0 mi ad P C w) : W p l e R s m args below meth c H locs cells slots Q (F0 m pc lsA (cv ad st)) := by
  obtain ⟨hdec, hck⟩ := dec_ok hd
  obtain ⟨hx, hb, hml, hrt, hown, hlocks, htab, hnm⟩ := fo
  have hts : ∀ w ∈ GT, w.before args s = true := fun w hw => sv.1 w hw args
  obtain ⟨hP, hD, hwf, hS, hlh, hlv, hsv, hx1, hx2, hx3⟩ := id hI
  simp only [stp] at hs
  simp only [ckR, Bool.and_eq_true, beq_iff_eq, decide_eq_true_eq] at hck
  obtain ⟨rfl, hv0⟩ := hck
  split at hs
  · cases hs
    exact lv_iconst (rest := cv ad st) hx hb hdec (by simpa using hv0) (KN.pure k hI (List.forall_mem_cons.mpr ⟨vk_i P _, hsv⟩))
  · cases hs

set_option maxHeartbeats 4000000 in
theorem sx_bipush {n : Int} (fo : FO p s m meth c mi) (sv : SV D cy s) (sh : SH L0 x0 s s.heap) (hd : dec mi pc = some (.bipush n, len, rz)) (hI : IV D cy L0 x0 s mi ad P I L ls st lsA H locs) {w : FR × MM} (hs : stp pc (.bipush n) len rz ls st P I L C = some (.inl w)) (hcR : cells + w.2.2.2.2.1 ≤ R.cells + C.1) (hsR : slots + w.2.2.2.2.2 ≤ R.slots + C.2) (hfR : 8 ≤ R.frames) (hlR : 128 ≤ R.locals)
    (k : KN p l e R s m args below meth c cells slots Q D cy L0 x0 mi ad P C w) : W p l e R s m args below meth c H locs cells slots Q (F0 m pc lsA (cv ad st)) := by
  obtain ⟨hdec, hck⟩ := dec_ok hd
  obtain ⟨hx, hb, hml, hrt, hown, hlocks, htab, hnm⟩ := fo
  have hts : ∀ w ∈ GT, w.before args s = true := fun w hw => sv.1 w hw args
  obtain ⟨hP, hD, hwf, hS, hlh, hlv, hsv, hx1, hx2, hx3⟩ := id hI
  simp only [stp] at hs
  simp only [ckR, Bool.and_eq_true, beq_iff_eq, decide_eq_true_eq] at hck
  obtain ⟨rfl, hv0⟩ := hck
  split at hs
  · cases hs
    exact lv_bipush (rest := cv ad st) hx hb hdec (by simpa using hv0) (KN.pure k hI (List.forall_mem_cons.mpr ⟨vk_i P _, hsv⟩))
  · cases hs

set_option maxHeartbeats 4000000 in
theorem sx_sipush {n : Int} (fo : FO p s m meth c mi) (sv : SV D cy s) (sh : SH L0 x0 s s.heap) (hd : dec mi pc = some (.sipush n, len, rz)) (hI : IV D cy L0 x0 s mi ad P I L ls st lsA H locs) {w : FR × MM} (hs : stp pc (.sipush n) len rz ls st P I L C = some (.inl w)) (hcR : cells + w.2.2.2.2.1 ≤ R.cells + C.1) (hsR : slots + w.2.2.2.2.2 ≤ R.slots + C.2) (hfR : 8 ≤ R.frames) (hlR : 128 ≤ R.locals)
    (k : KN p l e R s m args below meth c cells slots Q D cy L0 x0 mi ad P C w) : W p l e R s m args below meth c H locs cells slots Q (F0 m pc lsA (cv ad st)) := by
  obtain ⟨hdec, hck⟩ := dec_ok hd
  obtain ⟨hx, hb, hml, hrt, hown, hlocks, htab, hnm⟩ := fo
  have hts : ∀ w ∈ GT, w.before args s = true := fun w hw => sv.1 w hw args
  obtain ⟨hP, hD, hwf, hS, hlh, hlv, hsv, hx1, hx2, hx3⟩ := id hI
  simp only [stp] at hs
  simp only [ckR, Bool.and_eq_true, beq_iff_eq, decide_eq_true_eq] at hck
  obtain ⟨rfl, hv0⟩ := hck
  split at hs
  · cases hs
    exact lv_sipush (rest := cv ad st) hx hb hdec (by simpa using hv0) (KN.pure k hI (List.forall_mem_cons.mpr ⟨vk_i P _, hsv⟩))
  · cases hs

set_option maxHeartbeats 4000000 in
theorem sx_lconst {n : Fin 2} (fo : FO p s m meth c mi) (sv : SV D cy s) (sh : SH L0 x0 s s.heap) (hd : dec mi pc = some (.lconst n, len, rz)) (hI : IV D cy L0 x0 s mi ad P I L ls st lsA H locs) {w : FR × MM} (hs : stp pc (.lconst n) len rz ls st P I L C = some (.inl w)) (hcR : cells + w.2.2.2.2.1 ≤ R.cells + C.1) (hsR : slots + w.2.2.2.2.2 ≤ R.slots + C.2) (hfR : 8 ≤ R.frames) (hlR : 128 ≤ R.locals)
    (k : KN p l e R s m args below meth c cells slots Q D cy L0 x0 mi ad P C w) : W p l e R s m args below meth c H locs cells slots Q (F0 m pc lsA (cv ad st)) := by
  obtain ⟨hdec, hck⟩ := dec_ok hd
  obtain ⟨hx, hb, hml, hrt, hown, hlocks, htab, hnm⟩ := fo
  have hts : ∀ w ∈ GT, w.before args s = true := fun w hw => sv.1 w hw args
  obtain ⟨hP, hD, hwf, hS, hlh, hlv, hsv, hx1, hx2, hx3⟩ := id hI
  simp only [stp] at hs
  simp only [ckR, Bool.and_eq_true, beq_iff_eq, decide_eq_true_eq] at hck
  obtain ⟨rfl, hv0⟩ := hck
  split at hs
  · cases hs
    exact lv_lconst (rest := cv ad st) hx hb hdec (by simpa using hv0) (KN.pure k hI (List.forall_mem_cons.mpr ⟨vk_l P _, hsv⟩))
  · cases hs

set_option maxHeartbeats 4000000 in
theorem sx_dconst {n : Fin 2} (fo : FO p s m meth c mi) (sv : SV D cy s) (sh : SH L0 x0 s s.heap) (hd : dec mi pc = some (.dconst n, len, rz)) (hI : IV D cy L0 x0 s mi ad P I L ls st lsA H locs) {w : FR × MM} (hs : stp pc (.dconst n) len rz ls st P I L C = some (.inl w)) (hcR : cells + w.2.2.2.2.1 ≤ R.cells + C.1) (hsR : slots + w.2.2.2.2.2 ≤ R.slots + C.2) (hfR : 8 ≤ R.frames) (hlR : 128 ≤ R.locals)
    (k : KN p l e R s m args below meth c cells slots Q D cy L0 x0 mi ad P C w) : W p l e R s m args below meth c H locs cells slots Q (F0 m pc lsA (cv ad st)) := by
  obtain ⟨hdec, hck⟩ := dec_ok hd
  obtain ⟨hx, hb, hml, hrt, hown, hlocks, htab, hnm⟩ := fo
  have hts : ∀ w ∈ GT, w.before args s = true := fun w hw => sv.1 w hw args
  obtain ⟨hP, hD, hwf, hS, hlh, hlv, hsv, hx1, hx2, hx3⟩ := id hI
  simp only [stp] at hs
  simp only [ckR, Bool.and_eq_true, beq_iff_eq, decide_eq_true_eq] at hck
  obtain ⟨rfl, rfl⟩ := hck
  cases hs
  exact lv_dconst0 (rest := cv ad st) hx hb hdec (KN.pure k hI (List.forall_mem_cons.mpr ⟨vk_d P _, hsv⟩))

set_option maxHeartbeats 4000000 in
theorem sx_aconst_null  (fo : FO p s m meth c mi) (sv : SV D cy s) (sh : SH L0 x0 s s.heap) (hd : dec mi pc = some (.aconst_null, len, rz)) (hI : IV D cy L0 x0 s mi ad P I L ls st lsA H locs) {w : FR × MM} (hs : stp pc (.aconst_null) len rz ls st P I L C = some (.inl w)) (hcR : cells + w.2.2.2.2.1 ≤ R.cells + C.1) (hsR : slots + w.2.2.2.2.2 ≤ R.slots + C.2) (hfR : 8 ≤ R.frames) (hlR : 128 ≤ R.locals)
    (k : KN p l e R s m args below meth c cells slots Q D cy L0 x0 mi ad P C w) : W p l e R s m args below meth c H locs cells slots Q (F0 m pc lsA (cv ad st)) := by
  obtain ⟨hdec, hck⟩ := dec_ok hd
  obtain ⟨hx, hb, hml, hrt, hown, hlocks, htab, hnm⟩ := fo
  have hts : ∀ w ∈ GT, w.before args s = true := fun w hw => sv.1 w hw args
  obtain ⟨hP, hD, hwf, hS, hlh, hlv, hsv, hx1, hx2, hx3⟩ := id hI
  simp only [stp] at hs
  simp only [ckR, Bool.and_eq_true, beq_iff_eq, decide_eq_true_eq] at hck
  subst hck
  cases hs
  exact lv_null (rest := cv ad st) hx hb hdec (KN.pure k hI (List.forall_mem_cons.mpr ⟨vk_0 P, hsv⟩))

set_option maxHeartbeats 4000000 in
theorem sx_ldc {n : Nat} (fo : FO p s m meth c mi) (sv : SV D cy s) (sh : SH L0 x0 s s.heap) (hd : dec mi pc = some (.ldc n, len, rz)) (hI : IV D cy L0 x0 s mi ad P I L ls st lsA H locs) {w : FR × MM} (hs : stp pc (.ldc n) len rz ls st P I L C = some (.inl w)) (hcR : cells + w.2.2.2.2.1 ≤ R.cells + C.1) (hsR : slots + w.2.2.2.2.2 ≤ R.slots + C.2) (hfR : 8 ≤ R.frames) (hlR : 128 ≤ R.locals)
    (k : KN p l e R s m args below meth c cells slots Q D cy L0 x0 mi ad P C w) : W p l e R s m args below meth c H locs cells slots Q (F0 m pc lsA (cv ad st)) := by
  obtain ⟨hdec, hck⟩ := dec_ok hd
  obtain ⟨hx, hb, hml, hrt, hown, hlocks, htab, hnm⟩ := fo
  have hts : ∀ w ∈ GT, w.before args s = true := fun w hw => sv.1 w hw args
  obtain ⟨hP, hD, hwf, hS, hlh, hlv, hsv, hx1, hx2, hx3⟩ := id hI
  simp only [stp] at hs
  simp only [ckR, Bool.and_eq_true, beq_iff_eq, decide_eq_true_eq] at hck
  obtain ⟨rfl, hv0⟩ := hck
  split at hs
  · rename_i k0 pl
    cases hs
    obtain ⟨hlk, hk1, hk2⟩ := ckLk_inv hv0 (by simp)
    simp only [lkB, hk1, hk2, decide_eq_true_eq] at hlk
    exact lv_ldc (rest := cv ad st) hx hb hown (hts _ (mem_GT1 hlk rfl)) hdec (KN.pure k hI (List.forall_mem_cons.mpr ⟨vk_i P _, hsv⟩))
  · cases hs

set_option maxHeartbeats 4000000 in
theorem sx_ldc_w {n : Nat} (fo : FO p s m meth c mi) (sv : SV D cy s) (sh : SH L0 x0 s s.heap) (hd : dec mi pc = some (.ldc_w n, len, rz)) (hI : IV D cy L0 x0 s mi ad P I L ls st lsA H locs) {w : FR × MM} (hs : stp pc (.ldc_w n) len rz ls st P I L C = some (.inl w)) (hcR : cells + w.2.2.2.2.1 ≤ R.cells + C.1) (hsR : slots + w.2.2.2.2.2 ≤ R.slots + C.2) (hfR : 8 ≤ R.frames) (hlR : 128 ≤ R.locals)
    (k : KN p l e R s m args below meth c cells slots Q D cy L0 x0 mi ad P C w) : W p l e R s m args below meth c H locs cells slots Q (F0 m pc lsA (cv ad st)) := by
  obtain ⟨hdec, hck⟩ := dec_ok hd
  obtain ⟨hx, hb, hml, hrt, hown, hlocks, htab, hnm⟩ := fo
  have hts : ∀ w ∈ GT, w.before args s = true := fun w hw => sv.1 w hw args
  obtain ⟨hP, hD, hwf, hS, hlh, hlv, hsv, hx1, hx2, hx3⟩ := id hI
  simp only [stp] at hs
  simp only [ckR, Bool.and_eq_true, beq_iff_eq, decide_eq_true_eq] at hck
  obtain ⟨rfl, hv0⟩ := hck
  split at hs
  · rename_i k0 pl
    cases hs
    obtain ⟨hlk, hk1, hk2⟩ := ckLk_inv hv0 (by simp)
    simp only [lkB, hk1, hk2, decide_eq_true_eq] at hlk
    exact lv_ldcw (rest := cv ad st) hx hb hown (hts _ (mem_GT1 hlk rfl)) hdec (KN.pure k hI (List.forall_mem_cons.mpr ⟨vk_i P _, hsv⟩))
  · cases hs

set_option maxHeartbeats 4000000 in
theorem sx_ldc2_w {n : Nat} (fo : FO p s m meth c mi) (sv : SV D cy s) (sh : SH L0 x0 s s.heap) (hd : dec mi pc = some (.ldc2_w n, len, rz)) (hI : IV D cy L0 x0 s mi ad P I L ls st lsA H locs) {w : FR × MM} (hs : stp pc (.ldc2_w n) len rz ls st P I L C = some (.inl w)) (hcR : cells + w.2.2.2.2.1 ≤ R.cells + C.1) (hsR : slots + w.2.2.2.2.2 ≤ R.slots + C.2) (hfR : 8 ≤ R.frames) (hlR : 128 ≤ R.locals)
    (k : KN p l e R s m args below meth c cells slots Q D cy L0 x0 mi ad P C w) : W p l e R s m args below meth c H locs cells slots Q (F0 m pc lsA (cv ad st)) := by
  obtain ⟨hdec, hck⟩ := dec_ok hd
  obtain ⟨hx, hb, hml, hrt, hown, hlocks, htab, hnm⟩ := fo
  have hts : ∀ w ∈ GT, w.before args s = true := fun w hw => sv.1 w hw args
  obtain ⟨hP, hD, hwf, hS, hlh, hlv, hsv, hx1, hx2, hx3⟩ := id hI
  simp only [stp] at hs
  simp only [ckR, Bool.and_eq_true, beq_iff_eq, decide_eq_true_eq] at hck
  obtain ⟨rfl, hv0⟩ := hck
  split at hs
  · rename_i k0 pl
    cases hs
    obtain ⟨hlk, hk1, hk2⟩ := ckLk_inv hv0 (by simp)
    simp only [lkB, hk1, hk2, decide_eq_true_eq] at hlk
    exact lv_ldc2 (rest := cv ad st) hx hb hown (hts _ (mem_GT1 hlk rfl)) hdec (KN.pure k hI (List.forall_mem_cons.mpr ⟨vk_l P _, hsv⟩))
  · cases hs

set_option maxHeartbeats 4000000 in
theorem sx_dup  (fo : FO p s m meth c mi) (sv : SV D cy s) (sh : SH L0 x0 s s.heap) (hd : dec mi pc = some (.dup, len, rz)) (hI : IV D cy L0 x0 s mi ad P I L ls st lsA H locs) {w : FR × MM} (hs : stp pc (.dup) len rz ls st P I L C = some (.inl w)) (hcR : cells + w.2.2.2.2.1 ≤ R.cells + C.1) (hsR : slots + w.2.2.2.2.2 ≤ R.slots + C.2) (hfR : 8 ≤ R.frames) (hlR : 128 ≤ R.locals)
    (k : KN p l e R s m args below meth c cells slots Q D cy L0 x0 mi ad P C w) : W p l e R s m args below meth c H locs cells slots Q (F0 m pc lsA (cv ad st)) := by
  obtain ⟨hdec, hck⟩ := dec_ok hd
  obtain ⟨hx, hb, hml, hrt, hown, hlocks, htab, hnm⟩ := fo
  have hts : ∀ w ∈ GT, w.before args s = true := fun w hw => sv.1 w hw args
  obtain ⟨hP, hD, hwf, hS, hlh, hlv, hsv, hx1, hx2, hx3⟩ := id hI
  simp only [stp] at hs
  simp only [ckR, Bool.and_eq_true, beq_iff_eq, decide_eq_true_eq] at hck
  subst hck
  split at hs
  · split at hs
    · rename_i v st1 hc
      cases hs
      have hv := List.forall_mem_cons.mp hsv
      exact lv_dup (rest := cv ad st1) (va := conc ad v) hx hb hdec (by rw [conc_cat]; exact hc) (KN.pure k hI (List.forall_mem_cons.mpr ⟨hv.1, hsv⟩))
    · cases hs
  · cases hs

set_option maxHeartbeats 4000000 in
theorem sx_dup2  (fo : FO p s m meth c mi) (sv : SV D cy s) (sh : SH L0 x0 s s.heap) (hd : dec mi pc = some (.dup2, len, rz)) (hI : IV D cy L0 x0 s mi ad P I L ls st lsA H locs) {w : FR × MM} (hs : stp pc (.dup2) len rz ls st P I L C = some (.inl w)) (hcR : cells + w.2.2.2.2.1 ≤ R.cells + C.1) (hsR : slots + w.2.2.2.2.2 ≤ R.slots + C.2) (hfR : 8 ≤ R.frames) (hlR : 128 ≤ R.locals)
    (k : KN p l e R s m args below meth c cells slots Q D cy L0 x0 mi ad P C w) : W p l e R s m args below meth c H locs cells slots Q (F0 m pc lsA (cv ad st)) := by
  obtain ⟨hdec, hck⟩ := dec_ok hd
  obtain ⟨hx, hb, hml, hrt, hown, hlocks, htab, hnm⟩ := fo
  have hts : ∀ w ∈ GT, w.before args s = true := fun w hw => sv.1 w hw args
  obtain ⟨hP, hD, hwf, hS, hlh, hlv, hsv, hx1, hx2, hx3⟩ := id hI
  simp only [stp] at hs
  simp only [ckR, Bool.and_eq_true, beq_iff_eq, decide_eq_true_eq] at hck
  subst hck
  split at hs
  · split at hs
    · rename_i v u st1 hc
      cases hs
      have hv := List.forall_mem_cons.mp hsv
      have hu := List.forall_mem_cons.mp hv.2
      exact lv_dup2_11 (rest := cv ad st1) (va := conc ad v) (vb := conc ad u) hx hb hdec (by rw [conc_cat]; exact hc.1) (by rw [conc_cat]; exact hc.2) (KN.pure k hI (List.forall_mem_cons.mpr ⟨hv.1, List.forall_mem_cons.mpr ⟨hu.1, hsv⟩⟩))
    · cases hs
  · cases hs

set_option maxHeartbeats 4000000 in
theorem sx_pop  (fo : FO p s m meth c mi) (sv : SV D cy s) (sh : SH L0 x0 s s.heap) (hd : dec mi pc = some (.pop, len, rz)) (hI : IV D cy L0 x0 s mi ad P I L ls st lsA H locs) {w : FR × MM} (hs : stp pc (.pop) len rz ls st P I L C = some (.inl w)) (hcR : cells + w.2.2.2.2.1 ≤ R.cells + C.1) (hsR : slots + w.2.2.2.2.2 ≤ R.slots + C.2) (hfR : 8 ≤ R.frames) (hlR : 128 ≤ R.locals)
    (k : KN p l e R s m args below meth c cells slots Q D cy L0 x0 mi ad P C w) : W p l e R s m args below meth c H locs cells slots Q (F0 m pc lsA (cv ad st)) := by
  obtain ⟨hdec, hck⟩ := dec_ok hd
  obtain ⟨hx, hb, hml, hrt, hown, hlocks, htab, hnm⟩ := fo
  have hts : ∀ w ∈ GT, w.before args s = true := fun w hw => sv.1 w hw args
  obtain ⟨hP, hD, hwf, hS, hlh, hlv, hsv, hx1, hx2, hx3⟩ := id hI
  simp only [stp] at hs
  simp only [ckR, Bool.and_eq_true, beq_iff_eq, decide_eq_true_eq] at hck
  subst hck
  split at hs
  · split at hs
    · rename_i v st1 hc
      cases hs
      have hv := List.forall_mem_cons.mp hsv
      exact lv_pop (rest := cv ad st1) (va := conc ad v) hx hb hdec (by rw [conc_cat]; exact hc) (KN.pure k hI hv.2)
    · cases hs
  · cases hs

set_option maxHeartbeats 4000000 in
theorem sx_iadd  (fo : FO p s m meth c mi) (sv : SV D cy s) (sh : SH L0 x0 s s.heap) (hd : dec mi pc = some (.iadd, len, rz)) (hI : IV D cy L0 x0 s mi ad P I L ls st lsA H locs) {w : FR × MM} (hs : stp pc (.iadd) len rz ls st P I L C = some (.inl w)) (hcR : cells + w.2.2.2.2.1 ≤ R.cells + C.1) (hsR : slots + w.2.2.2.2.2 ≤ R.slots + C.2) (hfR : 8 ≤ R.frames) (hlR : 128 ≤ R.locals)
    (k : KN p l e R s m args below meth c cells slots Q D cy L0 x0 mi ad P C w) : W p l e R s m args below meth c H locs cells slots Q (F0 m pc lsA (cv ad st)) := by
  obtain ⟨hdec, hck⟩ := dec_ok hd
  obtain ⟨hx, hb, hml, hrt, hown, hlocks, htab, hnm⟩ := fo
  have hts : ∀ w ∈ GT, w.before args s = true := fun w hw => sv.1 w hw args
  obtain ⟨hP, hD, hwf, hS, hlh, hlv, hsv, hx1, hx2, hx3⟩ := id hI
  simp only [stp] at hs
  simp only [ckR, Bool.and_eq_true, beq_iff_eq, decide_eq_true_eq] at hck
  subst hck
  obtain ⟨x, y, st1, rfl, hw⟩ := o2I_inv hs
  cases hw
  have hv := (List.forall_mem_cons.mp (List.forall_mem_cons.mp hsv).2).2
  exact lv_iadd (rest := cv ad st1) hx hb hdec (KN.pure k hI (List.forall_mem_cons.mpr ⟨vk_i P _, hv⟩))

set_option maxHeartbeats 4000000 in
theorem sx_isub  (fo : FO p s m meth c mi) (sv : SV D cy s) (sh : SH L0 x0 s s.heap) (hd : dec mi pc = some (.isub, len, rz)) (hI : IV D cy L0 x0 s mi ad P I L ls st lsA H locs) {w : FR × MM} (hs : stp pc (.isub) len rz ls st P I L C = some (.inl w)) (hcR : cells + w.2.2.2.2.1 ≤ R.cells + C.1) (hsR : slots + w.2.2.2.2.2 ≤ R.slots + C.2) (hfR : 8 ≤ R.frames) (hlR : 128 ≤ R.locals)
    (k : KN p l e R s m args below meth c cells slots Q D cy L0 x0 mi ad P C w) : W p l e R s m args below meth c H locs cells slots Q (F0 m pc lsA (cv ad st)) := by
  obtain ⟨hdec, hck⟩ := dec_ok hd
  obtain ⟨hx, hb, hml, hrt, hown, hlocks, htab, hnm⟩ := fo
  have hts : ∀ w ∈ GT, w.before args s = true := fun w hw => sv.1 w hw args
  obtain ⟨hP, hD, hwf, hS, hlh, hlv, hsv, hx1, hx2, hx3⟩ := id hI
  simp only [stp] at hs
  simp only [ckR, Bool.and_eq_true, beq_iff_eq, decide_eq_true_eq] at hck
  subst hck
  obtain ⟨x, y, st1, rfl, hw⟩ := o2I_inv hs
  cases hw
  have hv := (List.forall_mem_cons.mp (List.forall_mem_cons.mp hsv).2).2
  exact lv_isub (rest := cv ad st1) hx hb hdec (KN.pure k hI (List.forall_mem_cons.mpr ⟨vk_i P _, hv⟩))

set_option maxHeartbeats 4000000 in
theorem sx_imul  (fo : FO p s m meth c mi) (sv : SV D cy s) (sh : SH L0 x0 s s.heap) (hd : dec mi pc = some (.imul, len, rz)) (hI : IV D cy L0 x0 s mi ad P I L ls st lsA H locs) {w : FR × MM} (hs : stp pc (.imul) len rz ls st P I L C = some (.inl w)) (hcR : cells + w.2.2.2.2.1 ≤ R.cells + C.1) (hsR : slots + w.2.2.2.2.2 ≤ R.slots + C.2) (hfR : 8 ≤ R.frames) (hlR : 128 ≤ R.locals)
    (k : KN p l e R s m args below meth c cells slots Q D cy L0 x0 mi ad P C w) : W p l e R s m args below meth c H locs cells slots Q (F0 m pc lsA (cv ad st)) := by
  obtain ⟨hdec, hck⟩ := dec_ok hd
  obtain ⟨hx, hb, hml, hrt, hown, hlocks, htab, hnm⟩ := fo
  have hts : ∀ w ∈ GT, w.before args s = true := fun w hw => sv.1 w hw args
  obtain ⟨hP, hD, hwf, hS, hlh, hlv, hsv, hx1, hx2, hx3⟩ := id hI
  simp only [stp] at hs
  simp only [ckR, Bool.and_eq_true, beq_iff_eq, decide_eq_true_eq] at hck
  subst hck
  obtain ⟨x, y, st1, rfl, hw⟩ := o2I_inv hs
  cases hw
  have hv := (List.forall_mem_cons.mp (List.forall_mem_cons.mp hsv).2).2
  exact lv_imul (rest := cv ad st1) hx hb hdec (KN.pure k hI (List.forall_mem_cons.mpr ⟨vk_i P _, hv⟩))

set_option maxHeartbeats 4000000 in
theorem sx_iand  (fo : FO p s m meth c mi) (sv : SV D cy s) (sh : SH L0 x0 s s.heap) (hd : dec mi pc = some (.iand, len, rz)) (hI : IV D cy L0 x0 s mi ad P I L ls st lsA H locs) {w : FR × MM} (hs : stp pc (.iand) len rz ls st P I L C = some (.inl w)) (hcR : cells + w.2.2.2.2.1 ≤ R.cells + C.1) (hsR : slots + w.2.2.2.2.2 ≤ R.slots + C.2) (hfR : 8 ≤ R.frames) (hlR : 128 ≤ R.locals)
    (k : KN p l e R s m args below meth c cells slots Q D cy L0 x0 mi ad P C w) : W p l e R s m args below meth c H locs cells slots Q (F0 m pc lsA (cv ad st)) := by
  obtain ⟨hdec, hck⟩ := dec_ok hd
  obtain ⟨hx, hb, hml, hrt, hown, hlocks, htab, hnm⟩ := fo
  have hts : ∀ w ∈ GT, w.before args s = true := fun w hw => sv.1 w hw args
  obtain ⟨hP, hD, hwf, hS, hlh, hlv, hsv, hx1, hx2, hx3⟩ := id hI
  simp only [stp] at hs
  simp only [ckR, Bool.and_eq_true, beq_iff_eq, decide_eq_true_eq] at hck
  subst hck
  obtain ⟨x, y, st1, rfl, hw⟩ := o2I_inv hs
  cases hw
  have hv := (List.forall_mem_cons.mp (List.forall_mem_cons.mp hsv).2).2
  exact lv_iand (rest := cv ad st1) hx hb hdec (KN.pure k hI (List.forall_mem_cons.mpr ⟨vk_i P _, hv⟩))

set_option maxHeartbeats 4000000 in
theorem sx_ior  (fo : FO p s m meth c mi) (sv : SV D cy s) (sh : SH L0 x0 s s.heap) (hd : dec mi pc = some (.ior, len, rz)) (hI : IV D cy L0 x0 s mi ad P I L ls st lsA H locs) {w : FR × MM} (hs : stp pc (.ior) len rz ls st P I L C = some (.inl w)) (hcR : cells + w.2.2.2.2.1 ≤ R.cells + C.1) (hsR : slots + w.2.2.2.2.2 ≤ R.slots + C.2) (hfR : 8 ≤ R.frames) (hlR : 128 ≤ R.locals)
    (k : KN p l e R s m args below meth c cells slots Q D cy L0 x0 mi ad P C w) : W p l e R s m args below meth c H locs cells slots Q (F0 m pc lsA (cv ad st)) := by
  obtain ⟨hdec, hck⟩ := dec_ok hd
  obtain ⟨hx, hb, hml, hrt, hown, hlocks, htab, hnm⟩ := fo
  have hts : ∀ w ∈ GT, w.before args s = true := fun w hw => sv.1 w hw args
  obtain ⟨hP, hD, hwf, hS, hlh, hlv, hsv, hx1, hx2, hx3⟩ := id hI
  simp only [stp] at hs
  simp only [ckR, Bool.and_eq_true, beq_iff_eq, decide_eq_true_eq] at hck
  subst hck
  obtain ⟨x, y, st1, rfl, hw⟩ := o2I_inv hs
  cases hw
  have hv := (List.forall_mem_cons.mp (List.forall_mem_cons.mp hsv).2).2
  exact lv_ior (rest := cv ad st1) hx hb hdec (KN.pure k hI (List.forall_mem_cons.mpr ⟨vk_i P _, hv⟩))

set_option maxHeartbeats 4000000 in
theorem sx_ixor  (fo : FO p s m meth c mi) (sv : SV D cy s) (sh : SH L0 x0 s s.heap) (hd : dec mi pc = some (.ixor, len, rz)) (hI : IV D cy L0 x0 s mi ad P I L ls st lsA H locs) {w : FR × MM} (hs : stp pc (.ixor) len rz ls st P I L C = some (.inl w)) (hcR : cells + w.2.2.2.2.1 ≤ R.cells + C.1) (hsR : slots + w.2.2.2.2.2 ≤ R.slots + C.2) (hfR : 8 ≤ R.frames) (hlR : 128 ≤ R.locals)
    (k : KN p l e R s m args below meth c cells slots Q D cy L0 x0 mi ad P C w) : W p l e R s m args below meth c H locs cells slots Q (F0 m pc lsA (cv ad st)) := by
  obtain ⟨hdec, hck⟩ := dec_ok hd
  obtain ⟨hx, hb, hml, hrt, hown, hlocks, htab, hnm⟩ := fo
  have hts : ∀ w ∈ GT, w.before args s = true := fun w hw => sv.1 w hw args
  obtain ⟨hP, hD, hwf, hS, hlh, hlv, hsv, hx1, hx2, hx3⟩ := id hI
  simp only [stp] at hs
  simp only [ckR, Bool.and_eq_true, beq_iff_eq, decide_eq_true_eq] at hck
  subst hck
  obtain ⟨x, y, st1, rfl, hw⟩ := o2I_inv hs
  cases hw
  have hv := (List.forall_mem_cons.mp (List.forall_mem_cons.mp hsv).2).2
  exact lv_ixor (rest := cv ad st1) hx hb hdec (KN.pure k hI (List.forall_mem_cons.mpr ⟨vk_i P _, hv⟩))

set_option maxHeartbeats 4000000 in
theorem sx_ishl  (fo : FO p s m meth c mi) (sv : SV D cy s) (sh : SH L0 x0 s s.heap) (hd : dec mi pc = some (.ishl, len, rz)) (hI : IV D cy L0 x0 s mi ad P I L ls st lsA H locs) {w : FR × MM} (hs : stp pc (.ishl) len rz ls st P I L C = some (.inl w)) (hcR : cells + w.2.2.2.2.1 ≤ R.cells + C.1) (hsR : slots + w.2.2.2.2.2 ≤ R.slots + C.2) (hfR : 8 ≤ R.frames) (hlR : 128 ≤ R.locals)
    (k : KN p l e R s m args below meth c cells slots Q D cy L0 x0 mi ad P C w) : W p l e R s m args below meth c H locs cells slots Q (F0 m pc lsA (cv ad st)) := by
  obtain ⟨hdec, hck⟩ := dec_ok hd
  obtain ⟨hx, hb, hml, hrt, hown, hlocks, htab, hnm⟩ := fo
  have hts : ∀ w ∈ GT, w.before args s = true := fun w hw => sv.1 w hw args
  obtain ⟨hP, hD, hwf, hS, hlh, hlv, hsv, hx1, hx2, hx3⟩ := id hI
  simp only [stp] at hs
  simp only [ckR, Bool.and_eq_true, beq_iff_eq, decide_eq_true_eq] at hck
  subst hck
  obtain ⟨x, y, st1, rfl, hw⟩ := o2I_inv hs
  cases hw
  have hv := (List.forall_mem_cons.mp (List.forall_mem_cons.mp hsv).2).2
  exact lv_ishl (rest := cv ad st1) hx hb hdec (KN.pure k hI (List.forall_mem_cons.mpr ⟨vk_i P _, hv⟩))

set_option maxHeartbeats 4000000 in
theorem sx_ishr  (fo : FO p s m meth c mi) (sv : SV D cy s) (sh : SH L0 x0 s s.heap) (hd : dec mi pc = some (.ishr, len, rz)) (hI : IV D cy L0 x0 s mi ad P I L ls st lsA H locs) {w : FR × MM} (hs : stp pc (.ishr) len rz ls st P I L C = some (.inl w)) (hcR : cells + w.2.2.2.2.1 ≤ R.cells + C.1) (hsR : slots + w.2.2.2.2.2 ≤ R.slots + C.2) (hfR : 8 ≤ R.frames) (hlR : 128 ≤ R.locals)
    (k : KN p l e R s m args below meth c cells slots Q D cy L0 x0 mi ad P C w) : W p l e R s m args below meth c H locs cells slots Q (F0 m pc lsA (cv ad st)) := by
  obtain ⟨hdec, hck⟩ := dec_ok hd
  obtain ⟨hx, hb, hml, hrt, hown, hlocks, htab, hnm⟩ := fo
  have hts : ∀ w ∈ GT, w.before args s = true := fun w hw => sv.1 w hw args
  obtain ⟨hP, hD, hwf, hS, hlh, hlv, hsv, hx1, hx2, hx3⟩ := id hI
  simp only [stp] at hs
  simp only [ckR, Bool.and_eq_true, beq_iff_eq, decide_eq_true_eq] at hck
  subst hck
  obtain ⟨x, y, st1, rfl, hw⟩ := o2I_inv hs
  cases hw
  have hv := (List.forall_mem_cons.mp (List.forall_mem_cons.mp hsv).2).2
  exact lv_ishr (rest := cv ad st1) hx hb hdec (KN.pure k hI (List.forall_mem_cons.mpr ⟨vk_i P _, hv⟩))

set_option maxHeartbeats 4000000 in
theorem sx_iushr  (fo : FO p s m meth c mi) (sv : SV D cy s) (sh : SH L0 x0 s s.heap) (hd : dec mi pc = some (.iushr, len, rz)) (hI : IV D cy L0 x0 s mi ad P I L ls st lsA H locs) {w : FR × MM} (hs : stp pc (.iushr) len rz ls st P I L C = some (.inl w)) (hcR : cells + w.2.2.2.2.1 ≤ R.cells + C.1) (hsR : slots + w.2.2.2.2.2 ≤ R.slots + C.2) (hfR : 8 ≤ R.frames) (hlR : 128 ≤ R.locals)
    (k : KN p l e R s m args below meth c cells slots Q D cy L0 x0 mi ad P C w) : W p l e R s m args below meth c H locs cells slots Q (F0 m pc lsA (cv ad st)) := by
  obtain ⟨hdec, hck⟩ := dec_ok hd
  obtain ⟨hx, hb, hml, hrt, hown, hlocks, htab, hnm⟩ := fo
  have hts : ∀ w ∈ GT, w.before args s = true := fun w hw => sv.1 w hw args
  obtain ⟨hP, hD, hwf, hS, hlh, hlv, hsv, hx1, hx2, hx3⟩ := id hI
  simp only [stp] at hs
  simp only [ckR, Bool.and_eq_true, beq_iff_eq, decide_eq_true_eq] at hck
  subst hck
  obtain ⟨x, y, st1, rfl, hw⟩ := o2I_inv hs
  cases hw
  have hv := (List.forall_mem_cons.mp (List.forall_mem_cons.mp hsv).2).2
  exact lv_iushr (rest := cv ad st1) hx hb hdec rfl (KN.pure k hI (List.forall_mem_cons.mpr ⟨vk_i P _, hv⟩))

set_option maxHeartbeats 4000000 in
theorem sx_idiv  (fo : FO p s m meth c mi) (sv : SV D cy s) (sh : SH L0 x0 s s.heap) (hd : dec mi pc = some (.idiv, len, rz)) (hI : IV D cy L0 x0 s mi ad P I L ls st lsA H locs) {w : FR × MM} (hs : stp pc (.idiv) len rz ls st P I L C = some (.inl w)) (hcR : cells + w.2.2.2.2.1 ≤ R.cells + C.1) (hsR : slots + w.2.2.2.2.2 ≤ R.slots + C.2) (hfR : 8 ≤ R.frames) (hlR : 128 ≤ R.locals)
    (k : KN p l e R s m args below meth c cells slots Q D cy L0 x0 mi ad P C w) : W p l e R s m args below meth c H locs cells slots Q (F0 m pc lsA (cv ad st)) := by
  obtain ⟨hdec, hck⟩ := dec_ok hd
  obtain ⟨hx, hb, hml, hrt, hown, hlocks, htab, hnm⟩ := fo
  have hts : ∀ w ∈ GT, w.before args s = true := fun w hw => sv.1 w hw args
  obtain ⟨hP, hD, hwf, hS, hlh, hlv, hsv, hx1, hx2, hx3⟩ := id hI
  simp only [stp] at hs
  simp only [ckR, Bool.and_eq_true, beq_iff_eq, decide_eq_true_eq] at hck
  subst hck
  split at hs
  · split at hs
    · cases hs
    · rename_i y x st1 hc
      cases hs
      have hv := (List.forall_mem_cons.mp (List.forall_mem_cons.mp hsv).2).2
      exact lv_idiv (rest := cv ad st1) hx hb hdec hc (KN.pure k hI (List.forall_mem_cons.mpr ⟨vk_i P _, hv⟩))
  · cases hs

set_option maxHeartbeats 4000000 in
theorem sx_irem  (fo : FO p s m meth c mi) (sv : SV D cy s) (sh : SH L0 x0 s s.heap) (hd : dec mi pc = some (.irem, len, rz)) (hI : IV D cy L0 x0 s mi ad P I L ls st lsA H locs) {w : FR × MM} (hs : stp pc (.irem) len rz ls st P I L C = some (.inl w)) (hcR : cells + w.2.2.2.2.1 ≤ R.cells + C.1) (hsR : slots + w.2.2.2.2.2 ≤ R.slots + C.2) (hfR : 8 ≤ R.frames) (hlR : 128 ≤ R.locals)
    (k : KN p l e R s m args below meth c cells slots Q D cy L0 x0 mi ad P C w) : W p l e R s m args below meth c H locs cells slots Q (F0 m pc lsA (cv ad st)) := by
  obtain ⟨hdec, hck⟩ := dec_ok hd
  obtain ⟨hx, hb, hml, hrt, hown, hlocks, htab, hnm⟩ := fo
  have hts : ∀ w ∈ GT, w.before args s = true := fun w hw => sv.1 w hw args
  obtain ⟨hP, hD, hwf, hS, hlh, hlv, hsv, hx1, hx2, hx3⟩ := id hI
  simp only [stp] at hs
  simp only [ckR, Bool.and_eq_true, beq_iff_eq, decide_eq_true_eq] at hck
  subst hck
  split at hs
  · split at hs
    · cases hs
    · rename_i y x st1 hc
      cases hs
      have hv := (List.forall_mem_cons.mp (List.forall_mem_cons.mp hsv).2).2
      exact lv_irem (rest := cv ad st1) hx hb hdec hc (KN.pure k hI (List.forall_mem_cons.mpr ⟨vk_i P _, hv⟩))
  · cases hs

set_option maxHeartbeats 4000000 in
theorem sx_ldiv  (fo : FO p s m meth c mi) (sv : SV D cy s) (sh : SH L0 x0 s s.heap) (hd : dec mi pc = some (.ldiv, len, rz)) (hI : IV D cy L0 x0 s mi ad P I L ls st lsA H locs) {w : FR × MM} (hs : stp pc (.ldiv) len rz ls st P I L C = some (.inl w)) (hcR : cells + w.2.2.2.2.1 ≤ R.cells + C.1) (hsR : slots + w.2.2.2.2.2 ≤ R.slots + C.2) (hfR : 8 ≤ R.frames) (hlR : 128 ≤ R.locals)
    (k : KN p l e R s m args below meth c cells slots Q D cy L0 x0 mi ad P C w) : W p l e R s m args below meth c H locs cells slots Q (F0 m pc lsA (cv ad st)) := by
  obtain ⟨hdec, hck⟩ := dec_ok hd
  obtain ⟨hx, hb, hml, hrt, hown, hlocks, htab, hnm⟩ := fo
  have hts : ∀ w ∈ GT, w.before args s = true := fun w hw => sv.1 w hw args
  obtain ⟨hP, hD, hwf, hS, hlh, hlv, hsv, hx1, hx2, hx3⟩ := id hI
  simp only [stp] at hs
  simp only [ckR, Bool.and_eq_true, beq_iff_eq, decide_eq_true_eq] at hck
  subst hck
  split at hs
  · split at hs
    · cases hs
    · rename_i y x st1 hc
      cases hs
      have hv := (List.forall_mem_cons.mp (List.forall_mem_cons.mp hsv).2).2
      exact lv_ldiv (rest := cv ad st1) hx hb hdec hc (KN.pure k hI (List.forall_mem_cons.mpr ⟨vk_l P _, hv⟩))
  · cases hs

set_option maxHeartbeats 4000000 in
theorem sx_lrem  (fo : FO p s m meth c mi) (sv : SV D cy s) (sh : SH L0 x0 s s.heap) (hd : dec mi pc = some (.lrem, len, rz)) (hI : IV D cy L0 x0 s mi ad P I L ls st lsA H locs) {w : FR × MM} (hs : stp pc (.lrem) len rz ls st P I L C = some (.inl w)) (hcR : cells + w.2.2.2.2.1 ≤ R.cells + C.1) (hsR : slots + w.2.2.2.2.2 ≤ R.slots + C.2) (hfR : 8 ≤ R.frames) (hlR : 128 ≤ R.locals)
    (k : KN p l e R s m args below meth c cells slots Q D cy L0 x0 mi ad P C w) : W p l e R s m args below meth c H locs cells slots Q (F0 m pc lsA (cv ad st)) := by
  obtain ⟨hdec, hck⟩ := dec_ok hd
  obtain ⟨hx, hb, hml, hrt, hown, hlocks, htab, hnm⟩ := fo
  have hts : ∀ w ∈ GT, w.before args s = true := fun w hw => sv.1 w hw args
  obtain ⟨hP, hD, hwf, hS, hlh, hlv, hsv, hx1, hx2, hx3⟩ := id hI
  simp only [stp] at hs
  simp only [ckR, Bool.and_eq_true, beq_iff_eq, decide_eq_true_eq] at hck
  subst hck
  split at hs
  · split at hs
    · cases hs
    · rename_i y x st1 hc
      cases hs
      have hv := (List.forall_mem_cons.mp (List.forall_mem_cons.mp hsv).2).2
      exact lv_lrem (rest := cv ad st1) hx hb hdec hc (KN.pure k hI (List.forall_mem_cons.mpr ⟨vk_l P _, hv⟩))
  · cases hs

set_option maxHeartbeats 4000000 in
theorem sx_i2l  (fo : FO p s m meth c mi) (sv : SV D cy s) (sh : SH L0 x0 s s.heap) (hd : dec mi pc = some (.i2l, len, rz)) (hI : IV D cy L0 x0 s mi ad P I L ls st lsA H locs) {w : FR × MM} (hs : stp pc (.i2l) len rz ls st P I L C = some (.inl w)) (hcR : cells + w.2.2.2.2.1 ≤ R.cells + C.1) (hsR : slots + w.2.2.2.2.2 ≤ R.slots + C.2) (hfR : 8 ≤ R.frames) (hlR : 128 ≤ R.locals)
    (k : KN p l e R s m args below meth c cells slots Q D cy L0 x0 mi ad P C w) : W p l e R s m args below meth c H locs cells slots Q (F0 m pc lsA (cv ad st)) := by
  obtain ⟨hdec, hck⟩ := dec_ok hd
  obtain ⟨hx, hb, hml, hrt, hown, hlocks, htab, hnm⟩ := fo
  have hts : ∀ w ∈ GT, w.before args s = true := fun w hw => sv.1 w hw args
  obtain ⟨hP, hD, hwf, hS, hlh, hlv, hsv, hx1, hx2, hx3⟩ := id hI
  simp only [stp] at hs
  simp only [ckR, Bool.and_eq_true, beq_iff_eq, decide_eq_true_eq] at hck
  subst hck
  obtain ⟨x, st1, rfl, hw⟩ := o1I_inv hs
  cases hw
  exact lv_i2l (rest := cv ad st1) hx hb hdec rfl (KN.pure k hI (List.forall_mem_cons.mpr ⟨vk_l P _, (List.forall_mem_cons.mp hsv).2⟩))

set_option maxHeartbeats 4000000 in
theorem sx_i2b  (fo : FO p s m meth c mi) (sv : SV D cy s) (sh : SH L0 x0 s s.heap) (hd : dec mi pc = some (.i2b, len, rz)) (hI : IV D cy L0 x0 s mi ad P I L ls st lsA H locs) {w : FR × MM} (hs : stp pc (.i2b) len rz ls st P I L C = some (.inl w)) (hcR : cells + w.2.2.2.2.1 ≤ R.cells + C.1) (hsR : slots + w.2.2.2.2.2 ≤ R.slots + C.2) (hfR : 8 ≤ R.frames) (hlR : 128 ≤ R.locals)
    (k : KN p l e R s m args below meth c cells slots Q D cy L0 x0 mi ad P C w) : W p l e R s m args below meth c H locs cells slots Q (F0 m pc lsA (cv ad st)) := by
  obtain ⟨hdec, hck⟩ := dec_ok hd
  obtain ⟨hx, hb, hml, hrt, hown, hlocks, htab, hnm⟩ := fo
  have hts : ∀ w ∈ GT, w.before args s = true := fun w hw => sv.1 w hw args
  obtain ⟨hP, hD, hwf, hS, hlh, hlv, hsv, hx1, hx2, hx3⟩ := id hI
  simp only [stp] at hs
  simp only [ckR, Bool.and_eq_true, beq_iff_eq, decide_eq_true_eq] at hck
  subst hck
  obtain ⟨x, st1, rfl, hw⟩ := o1I_inv hs
  cases hw
  exact lv_i2b (rest := cv ad st1) hx hb hdec rfl (KN.pure k hI (List.forall_mem_cons.mpr ⟨vk_i P _, (List.forall_mem_cons.mp hsv).2⟩))

set_option maxHeartbeats 4000000 in
theorem sx_i2d  (fo : FO p s m meth c mi) (sv : SV D cy s) (sh : SH L0 x0 s s.heap) (hd : dec mi pc = some (.i2d, len, rz)) (hI : IV D cy L0 x0 s mi ad P I L ls st lsA H locs) {w : FR × MM} (hs : stp pc (.i2d) len rz ls st P I L C = some (.inl w)) (hcR : cells + w.2.2.2.2.1 ≤ R.cells + C.1) (hsR : slots + w.2.2.2.2.2 ≤ R.slots + C.2) (hfR : 8 ≤ R.frames) (hlR : 128 ≤ R.locals)
    (k : KN p l e R s m args below meth c cells slots Q D cy L0 x0 mi ad P C w) : W p l e R s m args below meth c H locs cells slots Q (F0 m pc lsA (cv ad st)) := by
  obtain ⟨hdec, hck⟩ := dec_ok hd
  obtain ⟨hx, hb, hml, hrt, hown, hlocks, htab, hnm⟩ := fo
  have hts : ∀ w ∈ GT, w.before args s = true := fun w hw => sv.1 w hw args
  obtain ⟨hP, hD, hwf, hS, hlh, hlv, hsv, hx1, hx2, hx3⟩ := id hI
  simp only [stp] at hs
  simp only [ckR, Bool.and_eq_true, beq_iff_eq, decide_eq_true_eq] at hck
  subst hck
  obtain ⟨x, st1, rfl, hw⟩ := o1I_inv hs
  cases hw
  exact lv_i2d (rest := cv ad st1) hx hb hdec (KN.pure k hI (List.forall_mem_cons.mpr ⟨vk_d P _, (List.forall_mem_cons.mp hsv).2⟩))

set_option maxHeartbeats 4000000 in
theorem sx_l2i  (fo : FO p s m meth c mi) (sv : SV D cy s) (sh : SH L0 x0 s s.heap) (hd : dec mi pc = some (.l2i, len, rz)) (hI : IV D cy L0 x0 s mi ad P I L ls st lsA H locs) {w : FR × MM} (hs : stp pc (.l2i) len rz ls st P I L C = some (.inl w)) (hcR : cells + w.2.2.2.2.1 ≤ R.cells + C.1) (hsR : slots + w.2.2.2.2.2 ≤ R.slots + C.2) (hfR : 8 ≤ R.frames) (hlR : 128 ≤ R.locals)
    (k : KN p l e R s m args below meth c cells slots Q D cy L0 x0 mi ad P C w) : W p l e R s m args below meth c H locs cells slots Q (F0 m pc lsA (cv ad st)) := by
  obtain ⟨hdec, hck⟩ := dec_ok hd
  obtain ⟨hx, hb, hml, hrt, hown, hlocks, htab, hnm⟩ := fo
  have hts : ∀ w ∈ GT, w.before args s = true := fun w hw => sv.1 w hw args
  obtain ⟨hP, hD, hwf, hS, hlh, hlv, hsv, hx1, hx2, hx3⟩ := id hI
  simp only [stp] at hs
  simp only [ckR, Bool.and_eq_true, beq_iff_eq, decide_eq_true_eq] at hck
  subst hck
  split at hs
  · rename_i x st1
    cases hs
    exact lv_l2i (rest := cv ad st1) hx hb hdec rfl (KN.pure k hI (List.forall_mem_cons.mpr ⟨vk_i P _, (List.forall_mem_cons.mp hsv).2⟩))
  · cases hs

set_option maxHeartbeats 4000000 in
theorem sx_ladd  (fo : FO p s m meth c mi) (sv : SV D cy s) (sh : SH L0 x0 s s.heap) (hd : dec mi pc = some (.ladd, len, rz)) (hI : IV D cy L0 x0 s mi ad P I L ls st lsA H locs) {w : FR × MM} (hs : stp pc (.ladd) len rz ls st P I L C = some (.inl w)) (hcR : cells + w.2.2.2.2.1 ≤ R.cells + C.1) (hsR : slots + w.2.2.2.2.2 ≤ R.slots + C.2) (hfR : 8 ≤ R.frames) (hlR : 128 ≤ R.locals)
    (k : KN p l e R s m args below meth c cells slots Q D cy L0 x0 mi ad P C w) : W p l e R s m args below meth c H locs cells slots Q (F0 m pc lsA (cv ad st)) := by
  obtain ⟨hdec, hck⟩ := dec_ok hd
  obtain ⟨hx, hb, hml, hrt, hown, hlocks, htab, hnm⟩ := fo
  have hts : ∀ w ∈ GT, w.before args s = true := fun w hw => sv.1 w hw args
  obtain ⟨hP, hD, hwf, hS, hlh, hlv, hsv, hx1, hx2, hx3⟩ := id hI
  simp only [stp] at hs
  simp only [ckR, Bool.and_eq_true, beq_iff_eq, decide_eq_true_eq] at hck
  subst hck
  obtain ⟨x, y, st1, rfl, hw⟩ := o2L_inv hs
  cases hw
  have hv := (List.forall_mem_cons.mp (List.forall_mem_cons.mp hsv).2).2
  exact lv_ladd (rest := cv ad st1) hx hb hdec (KN.pure k hI (List.forall_mem_cons.mpr ⟨vk_l P _, hv⟩))

set_option maxHeartbeats 4000000 in
theorem sx_lmul  (fo : FO p s m meth c mi) (sv : SV D cy s) (sh : SH L0 x0 s s.heap) (hd : dec mi pc = some (.lmul, len, rz)) (hI : IV D cy L0 x0 s mi ad P I L ls st lsA H locs) {w : FR × MM} (hs : stp pc (.lmul) len rz ls st P I L C = some (.inl w)) (hcR : cells + w.2.2.2.2.1 ≤ R.cells + C.1) (hsR : slots + w.2.2.2.2.2 ≤ R.slots + C.2) (hfR : 8 ≤ R.frames) (hlR : 128 ≤ R.locals)
    (k : KN p l e R s m args below meth c cells slots Q D cy L0 x0 mi ad P C w) : W p l e R s m args below meth c H locs cells slots Q (F0 m pc lsA (cv ad st)) := by
  obtain ⟨hdec, hck⟩ := dec_ok hd
  obtain ⟨hx, hb, hml, hrt, hown, hlocks, htab, hnm⟩ := fo
  have hts : ∀ w ∈ GT, w.before args s = true := fun w hw => sv.1 w hw args
  obtain ⟨hP, hD, hwf, hS, hlh, hlv, hsv, hx1, hx2, hx3⟩ := id hI
  simp only [stp] at hs
  simp only [ckR, Bool.and_eq_true, beq_iff_eq, decide_eq_true_eq] at hck
  subst hck
  obtain ⟨x, y, st1, rfl, hw⟩ := o2L_inv hs
  cases hw
  have hv := (List.forall_mem_cons.mp (List.forall_mem_cons.mp hsv).2).2
  exact lv_lmul (rest := cv ad st1) hx hb hdec (KN.pure k hI (List.forall_mem_cons.mpr ⟨vk_l P _, hv⟩))

set_option maxHeartbeats 4000000 in
theorem sx_lcmp  (fo : FO p s m meth c mi) (sv : SV D cy s) (sh : SH L0 x0 s s.heap) (hd : dec mi pc = some (.lcmp, len, rz)) (hI : IV D cy L0 x0 s mi ad P I L ls st lsA H locs) {w : FR × MM} (hs : stp pc (.lcmp) len rz ls st P I L C = some (.inl w)) (hcR : cells + w.2.2.2.2.1 ≤ R.cells + C.1) (hsR : slots + w.2.2.2.2.2 ≤ R.slots + C.2) (hfR : 8 ≤ R.frames) (hlR : 128 ≤ R.locals)
    (k : KN p l e R s m args below meth c cells slots Q D cy L0 x0 mi ad P C w) : W p l e R s m args below meth c H locs cells slots Q (F0 m pc lsA (cv ad st)) := by
  obtain ⟨hdec, hck⟩ := dec_ok hd
  obtain ⟨hx, hb, hml, hrt, hown, hlocks, htab, hnm⟩ := fo
  have hts : ∀ w ∈ GT, w.before args s = true := fun w hw => sv.1 w hw args
  obtain ⟨hP, hD, hwf, hS, hlh, hlv, hsv, hx1, hx2, hx3⟩ := id hI
  simp only [stp] at hs
  simp only [ckR, Bool.and_eq_true, beq_iff_eq, decide_eq_true_eq] at hck
  subst hck
  split at hs
  · rename_i y x st1
    cases hs
    have hv := (List.forall_mem_cons.mp (List.forall_mem_cons.mp hsv).2).2
    exact W.lcmp (rest := cv ad st1) hx hb hdec (KN.pure k hI (List.forall_mem_cons.mpr ⟨vk_i P _, hv⟩))
  · cases hs

set_option maxHeartbeats 4000000 in
theorem sx_dcmp {op : ClassFile.CmpOp} (fo : FO p s m meth c mi) (sv : SV D cy s) (sh : SH L0 x0 s s.heap) (hd : dec mi pc = some (.dcmp op, len, rz)) (hI : IV D cy L0 x0 s mi ad P I L ls st lsA H locs) {w : FR × MM} (hs : stp pc (.dcmp op) len rz ls st P I L C = some (.inl w)) (hcR : cells + w.2.2.2.2.1 ≤ R.cells + C.1) (hsR : slots + w.2.2.2.2.2 ≤ R.slots + C.2) (hfR : 8 ≤ R.frames) (hlR : 128 ≤ R.locals)
    (k : KN p l e R s m args below meth c cells slots Q D cy L0 x0 mi ad P C w) : W p l e R s m args below meth c H locs cells slots Q (F0 m pc lsA (cv ad st)) := by
  obtain ⟨hdec, hck⟩ := dec_ok hd
  obtain ⟨hx, hb, hml, hrt, hown, hlocks, htab, hnm⟩ := fo
  have hts : ∀ w ∈ GT, w.before args s = true := fun w hw => sv.1 w hw args
  obtain ⟨hP, hD, hwf, hS, hlh, hlv, hsv, hx1, hx2, hx3⟩ := id hI
  simp only [stp] at hs
  simp only [ckR, Bool.and_eq_true, beq_iff_eq, decide_eq_true_eq] at hck
  subst hck
  split at hs
  · rename_i y x st1
    cases hs
    have hv := (List.forall_mem_cons.mp (List.forall_mem_cons.mp hsv).2).2
    exact lv_dcmp (rest := cv ad st1) hx hb hdec (KN.pure k hI (List.forall_mem_cons.mpr ⟨vk_i P _, hv⟩))
  · cases hs

set_option maxHeartbeats 4000000 in
theorem sx_ddiv  (fo : FO p s m meth c mi) (sv : SV D cy s) (sh : SH L0 x0 s s.heap) (hd : dec mi pc = some (.ddiv, len, rz)) (hI : IV D cy L0 x0 s mi ad P I L ls st lsA H locs) {w : FR × MM} (hs : stp pc (.ddiv) len rz ls st P I L C = some (.inl w)) (hcR : cells + w.2.2.2.2.1 ≤ R.cells + C.1) (hsR : slots + w.2.2.2.2.2 ≤ R.slots + C.2) (hfR : 8 ≤ R.frames) (hlR : 128 ≤ R.locals)
    (k : KN p l e R s m args below meth c cells slots Q D cy L0 x0 mi ad P C w) : W p l e R s m args below meth c H locs cells slots Q (F0 m pc lsA (cv ad st)) := by
  obtain ⟨hdec, hck⟩ := dec_ok hd
  obtain ⟨hx, hb, hml, hrt, hown, hlocks, htab, hnm⟩ := fo
  have hts : ∀ w ∈ GT, w.before args s = true := fun w hw => sv.1 w hw args
  obtain ⟨hP, hD, hwf, hS, hlh, hlv, hsv, hx1, hx2, hx3⟩ := id hI
  simp only [stp] at hs
  simp only [ckR, Bool.and_eq_true, beq_iff_eq, decide_eq_true_eq] at hck
  subst hck
  split at hs
  · split at hs
    · rename_i y x st1 hc
      cases hs
      have hv := (List.forall_mem_cons.mp (List.forall_mem_cons.mp hsv).2).2
      exact lv_ddiv (rest := cv ad st1) hx hb hdec hc (KN.pure k hI (List.forall_mem_cons.mpr ⟨vk_d P _, hv⟩))
    · cases hs
  · cases hs

set_option maxHeartbeats 4000000 in
theorem sx_goto {z : Int} (fo : FO p s m meth c mi) (sv : SV D cy s) (sh : SH L0 x0 s s.heap) (hd : dec mi pc = some (.goto z, len, rz)) (hI : IV D cy L0 x0 s mi ad P I L ls st lsA H locs) {w : FR × MM} (hs : stp pc (.goto z) len rz ls st P I L C = some (.inl w)) (hcR : cells + w.2.2.2.2.1 ≤ R.cells + C.1) (hsR : slots + w.2.2.2.2.2 ≤ R.slots + C.2) (hfR : 8 ≤ R.frames) (hlR : 128 ≤ R.locals)
    (k : KN p l e R s m args below meth c cells slots Q D cy L0 x0 mi ad P C w) : W p l e R s m args below meth c H locs cells slots Q (F0 m pc lsA (cv ad st)) := by
  obtain ⟨hdec, hck⟩ := dec_ok hd
  obtain ⟨hx, hb, hml, hrt, hown, hlocks, htab, hnm⟩ := fo
  have hts : ∀ w ∈ GT, w.before args s = true := fun w hw => sv.1 w hw args
  obtain ⟨hP, hD, hwf, hS, hlh, hlv, hsv, hx1, hx2, hx3⟩ := id hI
  simp only [stp] at hs
  simp only [ckR, Bool.and_eq_true, beq_iff_eq, decide_eq_true_eq] at hck
  obtain ⟨rfl, hv0⟩ := hck
  obtain ⟨t, rfl, ht⟩ := ckT1_inv hv0
  cases hs
  exact lv_goto (rest := cv ad st) hx hb hdec ht (KN.pure k hI hsv)

set_option maxHeartbeats 4000000 in
theorem sx_ifnull {z : Int} (fo : FO p s m meth c mi) (sv : SV D cy s) (sh : SH L0 x0 s s.heap) (hd : dec mi pc = some (.ifnull z, len, rz)) (hI : IV D cy L0 x0 s mi ad P I L ls st lsA H locs) {w : FR × MM} (hs : stp pc (.ifnull z) len rz ls st P I L C = some (.inl w)) (hcR : cells + w.2.2.2.2.1 ≤ R.cells + C.1) (hsR : slots + w.2.2.2.2.2 ≤ R.slots + C.2) (hfR : 8 ≤ R.frames) (hlR : 128 ≤ R.locals)
    (k : KN p l e R s m args below meth c cells slots Q D cy L0 x0 mi ad P C w) : W p l e R s m args below meth c H locs cells slots Q (F0 m pc lsA (cv ad st)) := by
  obtain ⟨hdec, hck⟩ := dec_ok hd
  obtain ⟨hx, hb, hml, hrt, hown, hlocks, htab, hnm⟩ := fo
  have hts : ∀ w ∈ GT, w.before args s = true := fun w hw => sv.1 w hw args
  obtain ⟨hP, hD, hwf, hS, hlh, hlv, hsv, hx1, hx2, hx3⟩ := id hI
  simp only [stp] at hs
  simp only [ckR, Bool.and_eq_true, beq_iff_eq, decide_eq_true_eq] at hck
  obtain ⟨rfl, hv0⟩ := hck
  split at hs
  · rename_i a st1
    cases hs
    exact lv_ifnull (x := ad a) (rest := cv ad st1) hx hb hdec (KN.pure k hI (List.forall_mem_cons.mp hsv).2)
  · cases hs

set_option maxHeartbeats 4000000 in
theorem sx_ifnonnull {z : Int} (fo : FO p s m meth c mi) (sv : SV D cy s) (sh : SH L0 x0 s s.heap) (hd : dec mi pc = some (.ifnonnull z, len, rz)) (hI : IV D cy L0 x0 s mi ad P I L ls st lsA H locs) {w : FR × MM} (hs : stp pc (.ifnonnull z) len rz ls st P I L C = some (.inl w)) (hcR : cells + w.2.2.2.2.1 ≤ R.cells + C.1) (hsR : slots + w.2.2.2.2.2 ≤ R.slots + C.2) (hfR : 8 ≤ R.frames) (hlR : 128 ≤ R.locals)
    (k : KN p l e R s m args below meth c cells slots Q D cy L0 x0 mi ad P C w) : W p l e R s m args below meth c H locs cells slots Q (F0 m pc lsA (cv ad st)) := by
  obtain ⟨hdec, hck⟩ := dec_ok hd
  obtain ⟨hx, hb, hml, hrt, hown, hlocks, htab, hnm⟩ := fo
  have hts : ∀ w ∈ GT, w.before args s = true := fun w hw => sv.1 w hw args
  obtain ⟨hP, hD, hwf, hS, hlh, hlv, hsv, hx1, hx2, hx3⟩ := id hI
  simp only [stp] at hs
  simp only [ckR, Bool.and_eq_true, beq_iff_eq, decide_eq_true_eq] at hck
  obtain ⟨rfl, hv0⟩ := hck
  obtain ⟨t, rfl, ht⟩ := ckT1_inv hv0
  split at hs
  · rename_i a st1 t1 h9
    cases h9
    cases hs
    exact lv_ifnonnull (x := ad a) (rest := cv ad st1) hx hb hdec ht (KN.pure k hI (List.forall_mem_cons.mp hsv).2)
  · cases hs

set_option maxHeartbeats 4000000 in
theorem sx_if_eq {z : Int} (fo : FO p s m meth c mi) (sv : SV D cy s) (sh : SH L0 x0 s s.heap) (hd : dec mi pc = some (.ifCond .eq z, len, rz)) (hI : IV D cy L0 x0 s mi ad P I L ls st lsA H locs) {w : FR × MM} (hs : stp pc (.ifCond .eq z) len rz ls st P I L C = some (.inl w)) (hcR : cells + w.2.2.2.2.1 ≤ R.cells + C.1) (hsR : slots + w.2.2.2.2.2 ≤ R.slots + C.2) (hfR : 8 ≤ R.frames) (hlR : 128 ≤ R.locals)
    (k : KN p l e R s m args below meth c cells slots Q D cy L0 x0 mi ad P C w) : W p l e R s m args below meth c H locs cells slots Q (F0 m pc lsA (cv ad st)) := by
  obtain ⟨hdec, hck⟩ := dec_ok hd
  obtain ⟨hx, hb, hml, hrt, hown, hlocks, htab, hnm⟩ := fo
  have hts : ∀ w ∈ GT, w.before args s = true := fun w hw => sv.1 w hw args
  obtain ⟨hP, hD, hwf, hS, hlh, hlv, hsv, hx1, hx2, hx3⟩ := id hI
  simp only [stp] at hs
  simp only [ckR, Bool.and_eq_true, beq_iff_eq, decide_eq_true_eq] at hck
  obtain ⟨rfl, hv0⟩ := hck
  obtain ⟨t, rfl, ht⟩ := ckT1_inv hv0
  split at hs
  · rename_i x st1 t1 h9
    cases h9
    have hv := (List.forall_mem_cons.mp hsv).2
    unfold brI at hs
    dsimp only at hs
    refine lv_if_eq (rest := cv ad st1) hx hb hdec ht (fun hc => ?_) (fun hc => ?_)
    · rw [if_pos hc] at hs
      cases hs
      exact KN.pure k hI hv
    · rw [if_neg hc] at hs
      cases hs
      exact KN.pure k hI hv
  · cases hs

set_option maxHeartbeats 4000000 in
theorem sx_icmp_eq {z : Int} (fo : FO p s m meth c mi) (sv : SV D cy s) (sh : SH L0 x0 s s.heap) (hd : dec mi pc = some (.if_icmp .eq z, len, rz)) (hI : IV D cy L0 x0 s mi ad P I L ls st lsA H locs) {w : FR × MM} (hs : stp pc (.if_icmp .eq z) len rz ls st P I L C = some (.inl w)) (hcR : cells + w.2.2.2.2.1 ≤ R.cells + C.1) (hsR : slots + w.2.2.2.2.2 ≤ R.slots + C.2) (hfR : 8 ≤ R.frames) (hlR : 128 ≤ R.locals)
    (k : KN p l e R s m args below meth c cells slots Q D cy L0 x0 mi ad P C w) : W p l e R s m args below meth c H locs cells slots Q (F0 m pc lsA (cv ad st)) := by
  obtain ⟨hdec, hck⟩ := dec_ok hd
  obtain ⟨hx, hb, hml, hrt, hown, hlocks, htab, hnm⟩ := fo
  have hts : ∀ w ∈ GT, w.before args s = true := fun w hw => sv.1 w hw args
  obtain ⟨hP, hD, hwf, hS, hlh, hlv, hsv, hx1, hx2, hx3⟩ := id hI
  simp only [stp] at hs
  simp only [ckR, Bool.and_eq_true, beq_iff_eq, decide_eq_true_eq] at hck
  obtain ⟨rfl, hv0⟩ := hck
  obtain ⟨t, rfl, ht⟩ := ckT1_inv hv0
  split at hs
  · rename_i y x st1 t1 h9
    cases h9
    have hv := (List.forall_mem_cons.mp (List.forall_mem_cons.mp hsv).2).2
    unfold brII at hs
    dsimp only at hs
    refine lv_icmp_eq (rest := cv ad st1) hx hb hdec ht (fun hc => ?_) (fun hc => ?_)
    · rw [if_pos hc] at hs
      cases hs
      exact KN.pure k hI hv
    · rw [if_neg hc] at hs
      cases hs
      exact KN.pure k hI hv
  · cases hs

set_option maxHeartbeats 4000000 in
theorem sx_if_ne {z : Int} (fo : FO p s m meth c mi) (sv : SV D cy s) (sh : SH L0 x0 s s.heap) (hd : dec mi pc = some (.ifCond .ne z, len, rz)) (hI : IV D cy L0 x0 s mi ad P I L ls st lsA H locs) {w : FR × MM} (hs : stp pc (.ifCond .ne z) len rz ls st P I L C = some (.inl w)) (hcR : cells + w.2.2.2.2.1 ≤ R.cells + C.1) (hsR : slots + w.2.2.2.2.2 ≤ R.slots + C.2) (hfR : 8 ≤ R.frames) (hlR : 128 ≤ R.locals)
    (k : KN p l e R s m args below meth c cells slots Q D cy L0 x0 mi ad P C w) : W p l e R s m args below meth c H locs cells slots Q (F0 m pc lsA (cv ad st)) := by
  obtain ⟨hdec, hck⟩ := dec_ok hd
  obtain ⟨hx, hb, hml, hrt, hown, hlocks, htab, hnm⟩ := fo
  have hts : ∀ w ∈ GT, w.before args s = true := fun w hw => sv.1 w hw args
  obtain ⟨hP, hD, hwf, hS, hlh, hlv, hsv, hx1, hx2, hx3⟩ := id hI
  simp only [stp] at hs
  simp only [ckR, Bool.and_eq_true, beq_iff_eq, decide_eq_true_eq] at hck
  obtain ⟨rfl, hv0⟩ := hck
  obtain ⟨t, rfl, ht⟩ := ckT1_inv hv0
  split at hs
  · rename_i x st1 t1 h9
    cases h9
    have hv := (List.forall_mem_cons.mp hsv).2
    unfold brI at hs
    dsimp only at hs
    refine lv_if_ne (rest := cv ad st1) hx hb hdec ht (fun hc => ?_) (fun hc => ?_)
    · rw [if_neg hc] at hs
      cases hs
      exact KN.pure k hI hv
    · rw [if_pos hc] at hs
      cases hs
      exact KN.pure k hI hv
  · cases hs

set_option maxHeartbeats 4000000 in
theorem sx_icmp_ne {z : Int} (fo : FO p s m meth c mi) (sv : SV D cy s) (sh : SH L0 x0 s s.heap) (hd : dec mi pc = some (.if_icmp .ne z, len, rz)) (hI : IV D cy L0 x0 s mi ad P I L ls st lsA H locs) {w : FR × MM} (hs : stp pc (.if_icmp .ne z) len rz ls st P I L C = some (.inl w)) (hcR : cells + w.2.2.2.2.1 ≤ R.cells + C.1) (hsR : slots + w.2.2.2.2.2 ≤ R.slots + C.2) (hfR : 8 ≤ R.frames) (hlR : 128 ≤ R.locals)
    (k : KN p l e R s m args below meth c cells slots Q D cy L0 x0 mi ad P C w) : W p l e R s m args below meth c H locs cells slots Q (F0 m pc lsA (cv ad st)) := by
  obtain ⟨hdec, hck⟩ := dec_ok hd
  obtain ⟨hx, hb, hml, hrt, hown, hlocks, htab, hnm⟩ := fo
  have hts : ∀ w ∈ GT, w.before args s = true := fun w hw => sv.1 w hw args
  obtain ⟨hP, hD, hwf, hS, hlh, hlv, hsv, hx1, hx2, hx3⟩ := id hI
  simp only [stp] at hs
  simp only [ckR, Bool.and_eq_true, beq_iff_eq, decide_eq_true_eq] at hck
  obtain ⟨rfl, hv0⟩ := hck
  obtain ⟨t, rfl, ht⟩ := ckT1_inv hv0
  split at hs
  · rename_i y x st1 t1 h9
    cases h9
    have hv := (List.forall_mem_cons.mp (List.forall_mem_cons.mp hsv).2).2
    unfold brII at hs
    dsimp only at hs
    refine lv_icmp_ne (rest := cv ad st1) hx hb hdec ht (fun hc => ?_) (fun hc => ?_)
    · rw [if_neg hc] at hs
      cases hs
      exact KN.pure k hI hv
    · rw [if_pos hc] at hs
      cases hs
      exact KN.pure k hI hv
  · cases hs

set_option maxHeartbeats 4000000 in
theorem sx_if_lt {z : Int} (fo : FO p s m meth c mi) (sv : SV D cy s) (sh : SH L0 x0 s s.heap) (hd : dec mi pc = some (.ifCond .lt z, len, rz)) (hI : IV D cy L0 x0 s mi ad P I L ls st lsA H locs) {w : FR × MM} (hs : stp pc (.ifCond .lt z) len rz ls st P I L C = some (.inl w)) (hcR : cells + w.2.2.2.2.1 ≤ R.cells + C.1) (hsR : slots + w.2.2.2.2.2 ≤ R.slots + C.2) (hfR : 8 ≤ R.frames) (hlR : 128 ≤ R.locals)
    (k : KN p l e R s m args below meth c cells slots Q D cy L0 x0 mi ad P C w) : W p l e R s m args below meth c H locs cells slots Q (F0 m pc lsA (cv ad st)) := by
  obtain ⟨hdec, hck⟩ := dec_ok hd
  obtain ⟨hx, hb, hml, hrt, hown, hlocks, htab, hnm⟩ := fo
  have hts : ∀ w ∈ GT, w.before args s = true := fun w hw => sv.1 w hw args
  obtain ⟨hP, hD, hwf, hS, hlh, hlv, hsv, hx1, hx2, hx3⟩ := id hI
  simp only [stp] at hs
  simp only [ckR, Bool.and_eq_true, beq_iff_eq, decide_eq_true_eq] at hck
  obtain ⟨rfl, hv0⟩ := hck
  obtain ⟨t, rfl, ht⟩ := ckT1_inv hv0
  split at hs
  · rename_i x st1 t1 h9
    cases h9
    have hv := (List.forall_mem_cons.mp hsv).2
    unfold brI at hs
    dsimp only at hs
    refine lv_if_lt (rest := cv ad st1) hx hb hdec ht (fun hc => ?_) (fun hc => ?_)
    · rw [if_pos hc] at hs
      cases hs
      exact KN.pure k hI hv
    · rw [if_neg hc] at hs
      cases hs
      exact KN.pure k hI hv
  · cases hs

set_option maxHeartbeats 4000000 in
theorem sx_icmp_lt {z : Int} (fo : FO p s m meth c mi) (sv : SV D cy s) (sh : SH L0 x0 s s.heap) (hd : dec mi pc = some (.if_icmp .lt z, len, rz)) (hI : IV D cy L0 x0 s mi ad P I L ls st lsA H locs) {w : FR × MM} (hs : stp pc (.if_icmp .lt z) len rz ls st P I L C = some (.inl w)) (hcR : cells + w.2.2.2.2.1 ≤ R.cells + C.1) (hsR : slots + w.2.2.2.2.2 ≤ R.slots + C.2) (hfR : 8 ≤ R.frames) (hlR : 128 ≤ R.locals)
    (k : KN p l e R s m args below meth c cells slots Q D cy L0 x0 mi ad P C w) : W p l e R s m args below meth c H locs cells slots Q (F0 m pc lsA (cv ad st)) := by
  obtain ⟨hdec, hck⟩ := dec_ok hd
  obtain ⟨hx, hb, hml, hrt, hown, hlocks, htab, hnm⟩ := fo
  have hts : ∀ w ∈ GT, w.before args s = true := fun w hw => sv.1 w hw args
  obtain ⟨hP, hD, hwf, hS, hlh, hlv, hsv, hx1, hx2, hx3⟩ := id hI
  simp only [stp] at hs
  simp only [ckR, Bool.and_eq_true, beq_iff_eq, decide_eq_true_eq] at hck
  obtain ⟨rfl, hv0⟩ := hck
  obtain ⟨t, rfl, ht⟩ := ckT1_inv hv0
  split at hs
  · rename_i y x st1 t1 h9
    cases h9
    have hv := (List.forall_mem_cons.mp (List.forall_mem_cons.mp hsv).2).2
    unfold brII at hs
    dsimp only at hs
    refine lv_icmp_lt (rest := cv ad st1) hx hb hdec ht (fun hc => ?_) (fun hc => ?_)
    · rw [if_pos hc] at hs
      cases hs
      exact KN.pure k hI hv
    · rw [if_neg hc] at hs
      cases hs
      exact KN.pure k hI hv
  · cases hs

set_option maxHeartbeats 4000000 in
theorem sx_if_ge {z : Int} (fo : FO p s m meth c mi) (sv : SV D cy s) (sh : SH L0 x0 s s.heap) (hd : dec mi pc = some (.ifCond .ge z, len, rz)) (hI : IV D cy L0 x0 s mi ad P I L ls st lsA H locs) {w : FR × MM} (hs : stp pc (.ifCond .ge z) len rz ls st P I L C = some (.inl w)) (hcR : cells + w.2.2.2.2.1 ≤ R.cells + C.1) (hsR : slots + w.2.2.2.2.2 ≤ R.slots + C.2) (hfR : 8 ≤ R.frames) (hlR : 128 ≤ R.locals)
    (k : KN p l e R s m args below meth c cells slots Q D cy L0 x0 mi ad P C w) : W p l e R s m args below meth c H locs cells slots Q (F0 m pc lsA (cv ad st)) := by
  obtain ⟨hdec, hck⟩ := dec_ok hd
  obtain ⟨hx, hb, hml, hrt, hown, hlocks, htab, hnm⟩ := fo
  have hts : ∀ w ∈ GT, w.before args s = true := fun w hw => sv.1 w hw args
  obtain ⟨hP, hD, hwf, hS, hlh, hlv, hsv, hx1, hx2, hx3⟩ := id hI
  simp only [stp] at hs
  simp only [ckR, Bool.and_eq_true, beq_iff_eq, decide_eq_true_eq] at hck
  obtain ⟨rfl, hv0⟩ := hck
  obtain ⟨t, rfl, ht⟩ := ckT1_inv hv0
  split at hs
  · rename_i x st1 t1 h9
    cases h9
    have hv := (List.forall_mem_cons.mp hsv).2
    unfold brI at hs
    dsimp only at hs
    refine lv_if_ge (rest := cv ad st1) hx hb hdec ht (fun hc => ?_) (fun hc => ?_)
    · rw [if_pos hc] at hs
      cases hs
      exact KN.pure k hI hv
    · rw [if_neg hc] at hs
      cases hs
      exact KN.pure k hI hv
  · cases hs

set_option maxHeartbeats 4000000 in
theorem sx_icmp_ge {z : Int} (fo : FO p s m meth c mi) (sv : SV D cy s) (sh : SH L0 x0 s s.heap) (hd : dec mi pc = some (.if_icmp .ge z, len, rz)) (hI : IV D cy L0 x0 s mi ad P I L ls st lsA H locs) {w : FR × MM} (hs : stp pc (.if_icmp .ge z) len rz ls st P I L C = some (.inl w)) (hcR : cells + w.2.2.2.2.1 ≤ R.cells + C.1) (hsR : slots + w.2.2.2.2.2 ≤ R.slots + C.2) (hfR : 8 ≤ R.frames) (hlR : 128 ≤ R.locals)
    (k : KN p l e R s m args below meth c cells slots Q D cy L0 x0 mi ad P C w) : W p l e R s m args below meth c H locs cells slots Q (F0 m pc lsA (cv ad st)) := by
  obtain ⟨hdec, hck⟩ := dec_ok hd
  obtain ⟨hx, hb, hml, hrt, hown, hlocks, htab, hnm⟩ := fo
  have hts : ∀ w ∈ GT, w.before args s = true := fun w hw => sv.1 w hw args
  obtain ⟨hP, hD, hwf, hS, hlh, hlv, hsv, hx1, hx2, hx3⟩ := id hI
  simp only [stp] at hs
  simp only [ckR, Bool.and_eq_true, beq_iff_eq, decide_eq_true_eq] at hck
  obtain ⟨rfl, hv0⟩ := hck
  obtain ⟨t, rfl, ht⟩ := ckT1_inv hv0
  split at hs
  · rename_i y x st1 t1 h9
    cases h9
    have hv := (List.forall_mem_cons.mp (List.forall_mem_cons.mp hsv).2).2
    unfold brII at hs
    dsimp only at hs
    refine lv_icmp_ge (rest := cv ad st1) hx hb hdec ht (fun hc => ?_) (fun hc => ?_)
    · rw [if_pos hc] at hs
      cases hs
      exact KN.pure k hI hv
    · rw [if_neg hc] at hs
      cases hs
      exact KN.pure k hI hv
  · cases hs

set_option maxHeartbeats 4000000 in
theorem sx_if_gt {z : Int} (fo : FO p s m meth c mi) (sv : SV D cy s) (sh : SH L0 x0 s s.heap) (hd : dec mi pc = some (.ifCond .gt z, len, rz)) (hI : IV D cy L0 x0 s mi ad P I L ls st lsA H locs) {w : FR × MM} (hs : stp pc (.ifCond .gt z) len rz ls st P I L C = some (.inl w)) (hcR : cells + w.2.2.2.2.1 ≤ R.cells + C.1) (hsR : slots + w.2.2.2.2.2 ≤ R.slots + C.2) (hfR : 8 ≤ R.frames) (hlR : 128 ≤ R.locals)
    (k : KN p l e R s m args below meth c cells slots Q D cy L0 x0 mi ad P C w) : W p l e R s m args below meth c H locs cells slots Q (F0 m pc lsA (cv ad st)) := by
  obtain ⟨hdec, hck⟩ := dec_ok hd
  obtain ⟨hx, hb, hml, hrt, hown, hlocks, htab, hnm⟩ := fo
  have hts : ∀ w ∈ GT, w.before args s = true := fun w hw => sv.1 w hw args
  obtain ⟨hP, hD, hwf, hS, hlh, hlv, hsv, hx1, hx2, hx3⟩ := id hI
  simp only [stp] at hs
  simp only [ckR, Bool.and_eq_true, beq_iff_eq, decide_eq_true_eq] at hck
  obtain ⟨rfl, hv0⟩ := hck
  obtain ⟨t, rfl, ht⟩ := ckT1_inv hv0
  split at hs
  · rename_i x st1 t1 h9
    cases h9
    have hv := (List.forall_mem_cons.mp hsv).2
    unfold brI at hs
    dsimp only at hs
    refine lv_if_gt (rest := cv ad st1) hx hb hdec ht (fun hc => ?_) (fun hc => ?_)
    · rw [if_pos hc] at hs
      cases hs
      exact KN.pure k hI hv
    · rw [if_neg hc] at hs
      cases hs
      exact KN.pure k hI hv
  · cases hs

set_option maxHeartbeats 4000000 in
theorem sx_icmp_gt {z : Int} (fo : FO p s m meth c mi) (sv : SV D cy s) (sh : SH L0 x0 s s.heap) (hd : dec mi pc = some (.if_icmp .gt z, len, rz)) (hI : IV D cy L0 x0 s mi ad P I L ls st lsA H locs) {w : FR × MM} (hs : stp pc (.if_icmp .gt z) len rz ls st P I L C = some (.inl w)) (hcR : cells + w.2.2.2.2.1 ≤ R.cells + C.1) (hsR : slots + w.2.2.2.2.2 ≤ R.slots + C.2) (hfR : 8 ≤ R.frames) (hlR : 128 ≤ R.locals)
    (k : KN p l e R s m args below meth c cells slots Q D cy L0 x0 mi ad P C w) : W p l e R s m args below meth c H locs cells slots Q (F0 m pc lsA (cv ad st)) := by
  obtain ⟨hdec, hck⟩ := dec_ok hd
  obtain ⟨hx, hb, hml, hrt, hown, hlocks, htab, hnm⟩ := fo
  have hts : ∀ w ∈ GT, w.before args s = true := fun w hw => sv.1 w hw args
  obtain ⟨hP, hD, hwf, hS, hlh, hlv, hsv, hx1, hx2, hx3⟩ := id hI
  simp only [stp] at hs
  simp only [ckR, Bool.and_eq_true, beq_iff_eq, decide_eq_true_eq] at hck
  obtain ⟨rfl, hv0⟩ := hck
  obtain ⟨t, rfl, ht⟩ := ckT1_inv hv0
  split at hs
  · rename_i y x st1 t1 h9
    cases h9
    have hv := (List.forall_mem_cons.mp (List.forall_mem_cons.mp hsv).2).2
    unfold brII at hs
    dsimp only at hs
    refine lv_icmp_gt (rest := cv ad st1) hx hb hdec ht (fun hc => ?_) (fun hc => ?_)
    · rw [if_pos hc] at hs
      cases hs
      exact KN.pure k hI hv
    · rw [if_neg hc] at hs
      cases hs
      exact KN.pure k hI hv
  · cases hs

set_option maxHeartbeats 4000000 in
theorem sx_if_le {z : Int} (fo : FO p s m meth c mi) (sv : SV D cy s) (sh : SH L0 x0 s s.heap) (hd : dec mi pc = some (.ifCond .le z, len, rz)) (hI : IV D cy L0 x0 s mi ad P I L ls st lsA H locs) {w : FR × MM} (hs : stp pc (.ifCond .le z) len rz ls st P I L C = some (.inl w)) (hcR : cells + w.2.2.2.2.1 ≤ R.cells + C.1) (hsR : slots + w.2.2.2.2.2 ≤ R.slots + C.2) (hfR : 8 ≤ R.frames) (hlR : 128 ≤ R.locals)
    (k : KN p l e R s m args below meth c cells slots Q D cy L0 x0 mi ad P C w) : W p l e R s m args below meth c H locs cells slots Q (F0 m pc lsA (cv ad st)) := by
  obtain ⟨hdec, hck⟩ := dec_ok hd
  obtain ⟨hx, hb, hml, hrt, hown, hlocks, htab, hnm⟩ := fo
  have hts : ∀ w ∈ GT, w.before args s = true := fun w hw => sv.1 w hw args
  obtain ⟨hP, hD, hwf, hS, hlh, hlv, hsv, hx1, hx2, hx3⟩ := id hI
  simp only [stp] at hs
  simp only [ckR, Bool.and_eq_true, beq_iff_eq, decide_eq_true_eq] at hck
  obtain ⟨rfl, hv0⟩ := hck
  obtain ⟨t, rfl, ht⟩ := ckT1_inv hv0
  split at hs
  · rename_i x st1 t1 h9
    cases h9
    have hv := (List.forall_mem_cons.mp hsv).2
    unfold brI at hs
    dsimp only at hs
    refine lv_if_le (rest := cv ad st1) hx hb hdec ht (fun hc => ?_) (fun hc => ?_)
    · rw [if_pos hc] at hs
      cases hs
      exact KN.pure k hI hv
    · rw [if_neg hc] at hs
      cases hs
      exact KN.pure k hI hv
  · cases hs

set_option maxHeartbeats 4000000 in
theorem sx_icmp_le {z : Int} (fo : FO p s m meth c mi) (sv : SV D cy s) (sh : SH L0 x0 s s.heap) (hd : dec mi pc = some (.if_icmp .le z, len, rz)) (hI : IV D cy L0 x0 s mi ad P I L ls st lsA H locs) {w : FR × MM} (hs : stp pc (.if_icmp .le z) len rz ls st P I L C = some (.inl w)) (hcR : cells + w.2.2.2.2.1 ≤ R.cells + C.1) (hsR : slots + w.2.2.2.2.2 ≤ R.slots + C.2) (hfR : 8 ≤ R.frames) (hlR : 128 ≤ R.locals)
    (k : KN p l e R s m args below meth c cells slots Q D cy L0 x0 mi ad P C w) : W p l e R s m args below meth c H locs cells slots Q (F0 m pc lsA (cv ad st)) := by
  obtain ⟨hdec, hck⟩ := dec_ok hd
  obtain ⟨hx, hb, hml, hrt, hown, hlocks, htab, hnm⟩ := fo
  have hts : ∀ w ∈ GT, w.before args s = true := fun w hw => sv.1 w hw args
  obtain ⟨hP, hD, hwf, hS, hlh, hlv, hsv, hx1, hx2, hx3⟩ := id hI
  simp only [stp] at hs
  simp only [ckR, Bool.and_eq_true, beq_iff_eq, decide_eq_true_eq] at hck
  obtain ⟨rfl, hv0⟩ := hck
  obtain ⟨t, rfl, ht⟩ := ckT1_inv hv0
  split at hs
  · rename_i y x st1 t1 h9
    cases h9
    have hv := (List.forall_mem_cons.mp (List.forall_mem_cons.mp hsv).2).2
    unfold brII at hs
    dsimp only at hs
    refine lv_icmp_le (rest := cv ad st1) hx hb hdec ht (fun hc => ?_) (fun hc => ?_)
    · rw [if_pos hc] at hs
      cases hs
      exact KN.pure k hI hv
    · rw [if_neg hc] at hs
      cases hs
      exact KN.pure k hI hv
  · cases hs

set_option maxHeartbeats 4000000 in
theorem sx_tableswitch {dflt lo hi : Int} {offs : Array Int} (fo : FO p s m meth c mi) (sv : SV D cy s) (sh : SH L0 x0 s s.heap) (hd : dec mi pc = some (.tableswitch dflt lo hi offs, len, rz)) (hI : IV D cy L0 x0 s mi ad P I L ls st lsA H locs) {w : FR × MM} (hs : stp pc (.tableswitch dflt lo hi offs) len rz ls st P I L C = some (.inl w)) (hcR : cells + w.2.2.2.2.1 ≤ R.cells + C.1) (hsR : slots + w.2.2.2.2.2 ≤ R.slots + C.2) (hfR : 8 ≤ R.frames) (hlR : 128 ≤ R.locals)
    (k : KN p l e R s m args below meth c cells slots Q D cy L0 x0 mi ad P C w) : W p l e R s m args below meth c H locs cells slots Q (F0 m pc lsA (cv ad st)) := by
  obtain ⟨hdec, hck⟩ := dec_ok hd
  obtain ⟨hx, hb, hml, hrt, hown, hlocks, htab, hnm⟩ := fo
  have hts : ∀ w ∈ GT, w.before args s = true := fun w hw => sv.1 w hw args
  obtain ⟨hP, hD, hwf, hS, hlh, hlv, hsv, hx1, hx2, hx3⟩ := id hI
  simp only [stp] at hs
  simp only [ckR, Bool.and_eq_true, beq_iff_eq, decide_eq_true_eq] at hck
  split at hs
  · rename_i x st1
    have hv := (List.forall_mem_cons.mp hsv).2
    split at hs
    · rename_i hc
      split at hs
      · rename_i h0
        cases hs
        exact lv_tableOut (rest := cv ad st1) hx hb hdec hc (by omega) (KN.pure k hI hv)
      · cases hs
    · rename_i hc
      split at hs
      · rename_i o ho
        split at hs
        · rename_i h0
          cases hs
          exact lv_tableIn (rest := cv ad st1) hx hb hdec (fun q => hc (Or.inl q)) (fun q => hc (Or.inr q)) ho (by omega) (KN.pure k hI hv)
        · cases hs
      · cases hs
  · cases hs

set_option maxHeartbeats 4000000 in
theorem sx_lookupswitch {dflt : Int} {ps : Array (Int × Int)} (fo : FO p s m meth c mi) (sv : SV D cy s) (sh : SH L0 x0 s s.heap) (hd : dec mi pc = some (.lookupswitch dflt ps, len, rz)) (hI : IV D cy L0 x0 s mi ad P I L ls st lsA H locs) {w : FR × MM} (hs : stp pc (.lookupswitch dflt ps) len rz ls st P I L C = some (.inl w)) (hcR : cells + w.2.2.2.2.1 ≤ R.cells + C.1) (hsR : slots + w.2.2.2.2.2 ≤ R.slots + C.2) (hfR : 8 ≤ R.frames) (hlR : 128 ≤ R.locals)
    (k : KN p l e R s m args below meth c cells slots Q D cy L0 x0 mi ad P C w) : W p l e R s m args below meth c H locs cells slots Q (F0 m pc lsA (cv ad st)) := by
  obtain ⟨hdec, hck⟩ := dec_ok hd
  obtain ⟨hx, hb, hml, hrt, hown, hlocks, htab, hnm⟩ := fo
  have hts : ∀ w ∈ GT, w.before args s = true := fun w hw => sv.1 w hw args
  obtain ⟨hP, hD, hwf, hS, hlh, hlv, hsv, hx1, hx2, hx3⟩ := id hI
  simp only [stp] at hs
  simp only [ckR, Bool.and_eq_true, beq_iff_eq, decide_eq_true_eq] at hck
  split at hs
  · rename_i x st1
    have hv := (List.forall_mem_cons.mp hsv).2
    split at hs
    · rename_i h0
      cases hs
      exact lv_lookup (rest := cv ad st1) hx hb hdec hck rfl (by omega) (KN.pure k hI hv)
    · cases hs
  · cases hs

end SND
end
section
/-! SOUND, third part: steps that touch the heap -/
theorem kind_obj {cy : CY} {ad : Nat → Nat} {P : MP} {I : MI} {L : ML} {k ci : Nat} (h : (P.1 k).1 = ci + 1) (hc : ci < 11) : elt cy ad P I L k = .inr (ci, flds ad P I L ci k) := by
  unfold elt
  rw [h, if_neg (by omega), if_neg (by omega), if_neg (by omega), if_neg (by omega), Nat.add_sub_cancel]
theorem kind_at {P : MP} (hw : wf P) {k : Nat} (h0 : (P.1 k).1 ≠ 0) (h1 : (P.1 k).1 ≠ 30) : 1 ≤ k ∧ k ≤ P.2.2 := by
  rcases hw.1 k h0 with h | h
  · exact absurd h.2 h1
  · exact ⟨h.1, h.2.1⟩
theorem cl_at {ci : Nat} (h : ci < 11) : vwCl[ci]? = some (cn ci, fT ci, fN ci) := by
  match ci, h with
  | 0, _ => rfl
  | 1, _ => rfl
  | 2, _ => rfl
  | 3, _ => rfl
  | 4, _ => rfl
  | 5, _ => rfl
  | 6, _ => rfl
  | 7, _ => rfl
  | 8, _ => rfl
  | 9, _ => rfl
  | 10, _ => rfl
  | n + 11, h => exact absurd h (by omega)
theorem ty_at {ci : Nat} (h : ci < 11) : ∀ k, k < fN ci → parseFieldDescriptor (fT ci k).2.2.1 = some (fY ci k) := by
  match ci, h with
  | 0, _ => exact tyX0_ok
  | 1, _ => exact tyX1_ok
  | 2, _ => exact tyX2_ok
  | 3, _ => exact tyX3_ok
  | 4, _ => exact tyX4_ok
  | 5, _ => exact tyX5_ok
  | 6, _ => exact tyX6_ok
  | 7, _ => exact tyX7_ok
  | 8, _ => exact tyX8_ok
  | 9, _ => exact tyX9_ok
  | 10, _ => exact tyX10_ok
  | n + 11, h => exact absurd h (by omega)
theorem nm_at {ci : Nat} (h : ci < 11) : ∀ a, a < fN ci → ∀ b, b < fN ci → a ≠ b → (fT ci a).2.1 ≠ (fT ci b).2.1 := by
  match ci, h with
  | 0, _ => exact nmX0
  | 1, _ => exact nmX1
  | 2, _ => exact nmX2
  | 3, _ => exact nmX3
  | 4, _ => exact nmX4
  | 5, _ => exact nmX5
  | 6, _ => exact nmX6
  | 7, _ => exact nmX7
  | 8, _ => exact nmX8
  | 9, _ => exact nmX9
  | 10, _ => exact nmX10
  | n + 11, h => exact absurd h (by omega)
theorem fl_at {ad : Nat → Nat} {P : MP} {I : MI} {L : ML} {ci k f : Nat} (h : f < fN ci) : (flds ad P I L ci k)[f]? = some (fval ad P I L (fY ci f) k f) := by
  unfold flds
  rw [List.getElem?_map, List.getElem?_range h]; rfl
theorem fl_len {ad : Nat → Nat} {P : MP} {I : MI} {L : ML} {ci k : Nat} : (flds ad P I L ci k).length = fN ci := by
  unfold flds; rw [List.length_map, List.length_range]
theorem fl_set {ad : Nat → Nat} {P P' : MP} {I I' : MI} {L L' : ML} {ci k f : Nat} {v : Value} (hv : fval ad P' I' L' (fY ci f) k f = v) (ho : ∀ g, g ≠ f → fval ad P' I' L' (fY ci g) k g = fval ad P I L (fY ci g) k g) : (flds ad P I L ci k).set f v = flds ad P' I' L' ci k := by
  apply List.ext_getElem?
  intro g
  by_cases hl : g < fN ci
  · rw [fl_at (P := P') hl]
    by_cases e : g = f
    · subst e
      rw [List.getElem?_set_self (by rw [fl_len]; exact hl), hv]
    · rw [List.getElem?_set_ne (Ne.symm e), fl_at hl, ho g e]
  · rw [List.getElem?_eq_none (by rw [List.length_set, fl_len]; omega), List.getElem?_eq_none (by rw [fl_len]; omega)]

theorem uw0 : (u_ws (cn 0) (fT 0) (fN 0)).map some = [267, 269, 271, 273, 275, 277, 279].map (fun i => lw_tbl[i]?) := by decide +kernel
theorem ug0 : (u_ws (cn 0) (fT 0) (fN 0)).all tw = true := by decide +kernel
theorem uw1 : (u_ws (cn 1) (fT 1) (fN 1)).map some = [229, 231, 233].map (fun i => lw_tbl[i]?) := by decide +kernel
theorem ug1 : (u_ws (cn 1) (fT 1) (fN 1)).all tw = true := by decide +kernel
theorem uw2 : (u_ws (cn 2) (fT 2) (fN 2)).map some = [139, 141, 143, 145, 147, 149].map (fun i => lw_tbl[i]?) := by decide +kernel
theorem ug2 : (u_ws (cn 2) (fT 2) (fN 2)).all tw = true := by decide +kernel
theorem uw3 : (u_ws (cn 3) (fT 3) (fN 3)).map some = [114, 116, 118, 120].map (fun i => lw_tbl[i]?) := by decide +kernel
theorem ug3 : (u_ws (cn 3) (fT 3) (fN 3)).all tw = true := by decide +kernel
theorem uw4 : (u_ws (cn 4) (fT 4) (fN 4)).map some = [240, 242, 244, 246].map (fun i => lw_tbl[i]?) := by decide +kernel
theorem ug4 : (u_ws (cn 4) (fT 4) (fN 4)).all tw = true := by decide +kernel
theorem uw5 : (u_ws (cn 5) (fT 5) (fN 5)).map some = [184, 186, 188].map (fun i => lw_tbl[i]?) := by decide +kernel
theorem ug5 : (u_ws (cn 5) (fT 5) (fN 5)).all tw = true := by decide +kernel
theorem uw6 : (u_ws (cn 6) (fT 6) (fN 6)).map some = [164, 166, 168].map (fun i => lw_tbl[i]?) := by decide +kernel
theorem ug6 : (u_ws (cn 6) (fT 6) (fN 6)).all tw = true := by decide +kernel
theorem uw7 : (u_ws (cn 7) (fT 7) (fN 7)).map some = [82, 84, 86, 88, 90, 92, 94, 96].map (fun i => lw_tbl[i]?) := by decide +kernel
theorem ug7 : (u_ws (cn 7) (fT 7) (fN 7)).all tw = true := by decide +kernel
theorem uw8 : (u_ws (cn 8) (fT 8) (fN 8)).map some = [200, 202, 204, 206].map (fun i => lw_tbl[i]?) := by decide +kernel
theorem ug8 : (u_ws (cn 8) (fT 8) (fN 8)).all tw = true := by decide +kernel
theorem uw9 : (u_ws (cn 9) (fT 9) (fN 9)).map some = [292, 294, 296, 298, 300, 302, 304, 306, 308].map (fun i => lw_tbl[i]?) := by decide +kernel
theorem ug9 : (u_ws (cn 9) (fT 9) (fN 9)).all tw = true := by decide +kernel
theorem uw10 : (u_ws (cn 10) (fT 10) (fN 10)).map some = [].map (fun i => lw_tbl[i]?) := by decide +kernel
theorem ug10 : (u_ws (cn 10) (fT 10) (fN 10)).all tw = true := by decide +kernel
theorem uw_in {ws : List Cond} {ps : List Nat} (h : ws.map some = ps.map (fun i => lw_tbl[i]?)) (hg : ws.all tw = true) : ∀ w ∈ ws, w ∈ GT := by
  intro w hw
  have h1 : some w ∈ ps.map (fun i => lw_tbl[i]?) := by rw [← h]; exact List.mem_map.mpr ⟨w, hw, rfl⟩
  obtain ⟨i, -, hi⟩ := List.mem_map.mp h1
  exact mem_GT hi (List.all_eq_true.mp hg w hw)
theorem in_at {ci : Nat} (h : ci < 11) : ∀ w ∈ u_ws (cn ci) (fT ci) (fN ci), w ∈ GT := by
  match ci, h with
  | 0, _ => exact uw_in uw0 ug0
  | 1, _ => exact uw_in uw1 ug1
  | 2, _ => exact uw_in uw2 ug2
  | 3, _ => exact uw_in uw3 ug3
  | 4, _ => exact uw_in uw4 ug4
  | 5, _ => exact uw_in uw5 ug5
  | 6, _ => exact uw_in uw6 ug6
  | 7, _ => exact uw_in uw7 ug7
  | 8, _ => exact uw_in uw8 ug8
  | 9, _ => exact uw_in uw9 ug9
  | 10, _ => exact uw_in uw10 ug10
  | n + 11, h => exact absurd h (by omega)
theorem inb_2 {i : Int32} {n : Nat} (h : inb i n = true) : ¬ i < 0 ∧ i.toNatClampNeg < n := by
  unfold inb at h
  simpa using h
def tyc (t : FieldType) : Nat := match t with
  | .int => 0
  | .long => 1
  | _ => 2
theorem tyc_0 {t : FieldType} (h : 0 = tyc t) : t = .int := by cases t <;> first | rfl | cases h
theorem tyc_1 {t : FieldType} (h : 1 = tyc t) : t = .long := by cases t <;> first | rfl | cases h
theorem fval_2 {t : FieldType} (h : 2 = tyc t) (ad : Nat → Nat) (P : MP) (I : MI) (L : ML) (k f : Nat) : fval ad P I L t k f = va_re ad (P.2.1 k f) := by
  cases t <;> first | rfl | cases h
/-- the types of the fields are int, long, objects, arrays -/
theorem tyo {ci : Nat} (h : ci < 11) : ∀ f, f < fN ci → 2 = tyc (fY ci f) → (∃ n, fY ci f = .object n) ∨ ∃ t, fY ci f = .array t := by
  have key : ∀ t : FieldType, (match t with | .int => true | .long => true | .object _ => true | .array _ => true | _ => false) = true → 2 = tyc t → (∃ n, t = .object n) ∨ ∃ t', t = .array t' := by
    intro t h1 h2
    cases t <;> first | exact Or.inl ⟨_, rfl⟩ | exact Or.inr ⟨_, rfl⟩ | exact absurd h2 (by decide) | exact absurd h1 (by decide)
  intro f hf
  refine key _ ?_
  have hall : ∀ ci < 11, ∀ f < fN ci, (match fY ci f with | .int => true | .long => true | .object _ => true | .array _ => true | _ => false) = true := by decide +kernel
  exact hall ci h f hf
section SND2
variable {p : Program} {l : Launch} {e : Env} {R : Room} {s : State} {m : MethodId} {args : Array Value} {below : List Frame} {meth : Method} {c : Code} {H : Heap} {locs : List Loc} {cells slots : Nat} {Q : State → Prop}
variable {D : va_G} {cy : CY} {L0 : Nat} {x0 : XX} {mi : Nat} {ad : Nat → Nat} {P P' : MP} {I I' : MI} {L L' : ML} {C C' : MC} {ls ls' st st' : List Value} {lsA : Array Slot} {pc pc' : Nat} {i : ClassFile.Instr} {len : Nat} {rz : List Nat}
/-- behind a write -/
theorem KN.wr {pc1 : Nat} {st1 : List Value} {P1 : MP} {I1 : MI} {L1 : ML} (k : KN p l e R s m args below meth c cells slots Q D cy L0 x0 mi ad P C ((pc1, ls, st1), (P1, I1, L1, C))) (h : IV D cy L0 x0 s mi ad P I L ls st lsA H locs) (hv : ∀ v ∈ st1, vk P v) (hn : P1.2.2 = P.2.2) (hw : wf P1) (h0 : P1.1 0 = P.1 0) (hI0 : I1 0 = I 0)
    {H1 : Heap} {locs1 : List Loc} (hP : va_P D vwCl (wl cy ad P1 I1 L1) H1) (hD : va_D (fun q => L0 ≤ q) (wl cy ad P1 I1 L1)) (hS : va_S (fun q => L0 ≤ q) s.heap H1 locs1) :
    W p l e R s m args below meth c H1 locs1 cells slots Q (F0 m pc1 lsA (cv ad st1)) := by
  obtain ⟨-, -, -, -, hlh, hlv, -, hx1, hx2, hx3⟩ := h
  have hle : P.2.2 ≤ P1.2.2 := Nat.le_of_eq hn.symm
  have := k ad lsA H1 locs1 (fun _ _ => rfl) hle ⟨hP, hD, hw, hS, hlh, fun v q => vk_mono hle (hlv v q), fun v q => vk_mono hle (hv v q), h0.trans hx1, hx2, hI0.trans hx3⟩
  simpa only [Nat.sub_self, Nat.add_zero] using this

theorem lkB_field {k ci fi ty nest pl own idx : Nat} (h : lkB k [1, ci, fi, ty, nest, pl] = true) (h1 : k / 1000 = own) (h2 : k % 1000 = idx) : ci < 11 ∧ fi < fN ci ∧ ty = tyc (fY ci fi) ∧ ((tables_1[pl]? = some (.fieldLink (cn own) idx (fT ci fi).1 (fT ci fi).2.1 (fT ci fi).2.2.1)) ∨ (nest ≠ 0 ∧ tables_1[pl]? = some (.fieldLinkNest (cn own) idx (fT ci fi).1 (fT ci fi).2.1 (fT ci fi).2.2.1 RX9))) := by
  cases nest with
  | zero =>
    simp only [lkB, h1, h2, Bool.and_eq_true, decide_eq_true_eq] at h
    exact ⟨h.1.1.2, h.1.2, h.2, Or.inl h.1.1.1⟩
  | succ n =>
    simp only [lkB, h1, h2, Bool.and_eq_true, decide_eq_true_eq] at h
    exact ⟨h.1.1.2, h.1.2, h.2, Or.inr ⟨Nat.succ_ne_zero n, h.1.1.1⟩⟩
theorem get_row (fo : FO p s m meth c mi) (sv : SV D cy s) (hI : IV D cy L0 x0 s mi ad P I L ls st lsA H locs) {n k0 ci fi ty nest pl : Nat} {rest : List Value} (hdec : decode (mG mi).2.1 pc = .ok (.getfield n, 3)) (hk : (P.1 k0).1 = ci + 1) (hlk : ckLk mi n [1, ci, fi, ty, nest, pl] = true) {v : Value} (hty : ty = tyc (fY ci fi) → fval ad P I L (fY ci fi) k0 fi = v)
    (k : W p l e R s m args below meth c H locs cells slots Q (F0 m (pc + 3) lsA (v :: rest))) : W p l e R s m args below meth c H locs cells slots Q (F0 m pc lsA (.ref (ad k0) :: rest)) := by
  obtain ⟨hx, hb, hml, hrt, hown, hlocks, htab, hnm⟩ := fo
  have hts : ∀ w ∈ GT, w.before args s = true := fun w hw => sv.1 w hw args
  obtain ⟨hP, hD, hwf, hS, hlh, hlv, hsv, hx1, hx2, hx3⟩ := id hI
  obtain ⟨hlk, hk1, hk2⟩ := ckLk_inv hlk (by simp)
  obtain ⟨hci, hfi, hty0, hlink⟩ := lkB_field hlk hk1 hk2
  have hka := kind_at hwf (k := k0) (by omega) (by omega)
  have he := wl_get (cy := cy) (ad := ad) (I := I) (L := L) hka.1 hka.2
  rw [kind_obj hk hci] at he
  rcases hlink with hlink | ⟨-, hlink⟩
  · exact va_get (D := D) (C := cn ci) (T := fT ci) (N := fN ci) hx hb hts (in_at hci) hown sv.2.1 hP (k0 - 1) he (cl_at hci) fi hfi (hts _ (mem_GT1 hlink rfl)) (fun _ h9 => h9) (by rw [fl_at hfi, hty hty0]) hdec k
  · exact va_getN (D := D) (C := cn ci) (T := fT ci) (N := fN ci) hx hb hts (in_at hci) hown sv.2.1 hP (k0 - 1) he (cl_at hci) fi hfi (hts _ (mem_GT1 hlink rfl)) (fun _ h9 => h9) (by rw [fl_at hfi, hty hty0]) hdec k
theorem put_row (fo : FO p s m meth c mi) (sv : SV D cy s) (hI : IV D cy L0 x0 s mi ad P I L ls st lsA H locs) {n k0 ci fi ty nest pl : Nat} {rest : List Value} (hdec : decode (mG mi).2.1 pc = .ok (.putfield n, 3)) (hk : (P.1 k0).1 = ci + 1) (hlk : ckLk mi n [1, ci, fi, ty, nest, pl] = true)
    (hfin : ((fT ci fi).2.2.2 == false || ((mG mi).1.name == "<init>" && (fT ci fi).1 == cn (mO mi) && nest == 0)) = true) {v : Value} {P1 : MP} {I1 : MI} {L1 : ML}
    (hn : ty = tyc (fY ci fi) → narrow (fY ci fi) v = v ∧ fits (fY ci fi) v = true ∧ fval ad P1 I1 L1 (fY ci fi) k0 fi = v) (ho : ∀ g, g ≠ fi → fval ad P1 I1 L1 (fY ci g) k0 g = fval ad P I L (fY ci g) k0 g) (hoj : ∀ j, j ≠ k0 → elt cy ad P1 I1 L1 j = elt cy ad P I L j) (hm : P1.2.2 = P.2.2) (hk1 : P1.1 = P.1)
    (k : ∀ (H1 : Heap) (locs1 : List Loc), va_P D vwCl (wl cy ad P1 I1 L1) H1 → va_D (fun q => L0 ≤ q) (wl cy ad P1 I1 L1) → va_S (fun q => L0 ≤ q) s.heap H1 locs1 → W p l e R s m args below meth c H1 locs1 cells slots Q (F0 m (pc + 3) lsA rest)) : W p l e R s m args below meth c H locs cells slots Q (F0 m pc lsA (v :: .ref (ad k0) :: rest)) := by
  obtain ⟨hx, hb, hml, hrt, hown, hlocks, htab, hnm⟩ := fo
  have hts : ∀ w ∈ GT, w.before args s = true := fun w hw => sv.1 w hw args
  obtain ⟨hP, hD, hwf, hS, hlh, hlv, hsv, hx1, hx2, hx3⟩ := id hI
  obtain ⟨hlk, hka1, hka2⟩ := ckLk_inv hlk (by simp)
  obtain ⟨hci, hfi, hty0, hlink⟩ := lkB_field hlk hka1 hka2
  obtain ⟨hn1, hn2, hn3⟩ := hn hty0
  have hka := kind_at hwf (k := k0) (by omega) (by omega)
  have he := wl_get (cy := cy) (ad := ad) (I := I) (L := L) hka.1 hka.2
  rw [kind_obj hk hci] at he
  have hset : (flds ad P I L ci k0).set fi v = flds ad P1 I1 L1 ci k0 := fl_set hn3 ho
  have hwl : (wl cy ad P I L).set (k0 - 1) (ad k0, .inr (ci, (flds ad P I L ci k0).set fi v)) = wl cy ad P1 I1 L1 := by
    rw [hset]
    exact wl_set hka.1 hka.2 hm (kind_obj (by rw [hk1]; exact hk) hci) hoj
  have kk : ∀ (H1 : Heap) (locs1 : List Loc), va_P D vwCl ((wl cy ad P I L).set (k0 - 1) (ad k0, .inr (ci, (flds ad P I L ci k0).set fi v))) H1 → va_D (fun q => L0 ≤ q) ((wl cy ad P I L).set (k0 - 1) (ad k0, .inr (ci, (flds ad P I L ci k0).set fi v))) → va_S (fun q => L0 ≤ q) s.heap H1 locs1 → W p l e R s m args below meth c H1 locs1 cells slots Q (F0 m (pc + 3) lsA rest) := by
    intro H1 locs1 hP1 hD1 hS1
    rw [hwl] at hP1 hD1
    exact k H1 locs1 hP1 hD1 hS1
  have hlen : fi < (flds ad P I L ci k0).length := by rw [fl_len]; exact hfi
  have hdsc := ty_at hci fi hfi
  simp only [Bool.or_eq_true, Bool.and_eq_true, beq_iff_eq] at hfin
  rcases hlink with hlink | ⟨hnest, hlink⟩
  · by_cases hff : (fT ci fi).2.2.2 = false
    · exact va_put (D := D) (C := cn ci) (T := fT ci) (N := fN ci) hx hb hts (in_at hci) (fY ci) (ty_at hci) (nm_at hci) hown sv.2.1 hP hD hS (k0 - 1) he (cl_at hci) fi hfi (hts _ (mem_GT1 hlink rfl)) (fun _ h9 => h9) hff hdsc hn1 hn2 hlen hdec kk
    · rcases hfin with hfin | hfin
      · exact absurd hfin hff
      · exact va_putF (D := D) (C := cn ci) (T := fT ci) (N := fN ci) hx hb hts (in_at hci) (fY ci) (ty_at hci) (nm_at hci) hown sv.2.1 hP hD hS (k0 - 1) he (cl_at hci) fi hfi (hts _ (mem_GT1 hlink rfl)) (fun _ h9 => h9) (by simpa using hff) (hnm.trans hfin.1.1) hfin.1.2 hdsc hn1 hn2 hlen hdec kk
  · rcases hfin with hfin | hfin
    · exact va_putN (D := D) (C := cn ci) (T := fT ci) (N := fN ci) hx hb hts (in_at hci) (fY ci) (ty_at hci) (nm_at hci) hown sv.2.1 hP hD hS (k0 - 1) he (cl_at hci) fi hfi (hts _ (mem_GT1 hlink rfl)) (fun _ h9 => h9) hfin hdsc hn1 hn2 hlen hdec kk
    · exact absurd hfin.2 hnest

set_option maxHeartbeats 4000000 in
theorem sx_getfield {n : Nat} (fo : FO p s m meth c mi) (sv : SV D cy s) (sh : SH L0 x0 s s.heap) (hd : dec mi pc = some (.getfield n, len, rz)) (hI : IV D cy L0 x0 s mi ad P I L ls st lsA H locs) {w : FR × MM} (hs : stp pc (.getfield n) len rz ls st P I L C = some (.inl w)) (hcR : cells + w.2.2.2.2.1 ≤ R.cells + C.1) (hsR : slots + w.2.2.2.2.2 ≤ R.slots + C.2) (hfR : 8 ≤ R.frames) (hlR : 128 ≤ R.locals)
    (k : KN p l e R s m args below meth c cells slots Q D cy L0 x0 mi ad P C w) : W p l e R s m args below meth c H locs cells slots Q (F0 m pc lsA (cv ad st)) := by
  obtain ⟨hdec, hck⟩ := dec_ok hd
  obtain ⟨hx, hb, hml, hrt, hown, hlocks, htab, hnm⟩ := fo
  have hts : ∀ w ∈ GT, w.before args s = true := fun w hw => sv.1 w hw args
  obtain ⟨hP, hD, hwf, hS, hlh, hlv, hsv, hx1, hx2, hx3⟩ := id hI
  simp only [stp] at hs
  simp only [ckR, Bool.and_eq_true, beq_iff_eq, decide_eq_true_eq] at hck
  obtain ⟨rfl, hv0⟩ := hck
  have fo : FO p s m meth c mi := ⟨hx, hb, hml, hrt, hown, hlocks, htab, hnm⟩
  split at hs
  · rename_i ci fi nest pl k0 st1
    split at hs
    · rename_i hk
      cases hs
      have hv := (List.forall_mem_cons.mp hsv).2
      exact get_row (rest := cv ad st1) fo sv hI hdec hk hv0 (fun h => by rw [tyc_0 h]; rfl) (KN.pure k hI (List.forall_mem_cons.mpr ⟨vk_i P _, hv⟩))
    · cases hs
  · rename_i ci fi nest pl k0 st1
    split at hs
    · rename_i hk
      cases hs
      have hv := (List.forall_mem_cons.mp hsv).2
      exact get_row (rest := cv ad st1) fo sv hI hdec hk hv0 (fun h => by rw [tyc_1 h]; rfl) (KN.pure k hI (List.forall_mem_cons.mpr ⟨vk_l P _, hv⟩))
    · cases hs
  · rename_i ci fi nest pl k0 st1
    split at hs
    · rename_i hk
      cases hs
      have hv := (List.forall_mem_cons.mp hsv).2
      exact get_row (rest := cv ad st1) fo sv hI hdec hk hv0 (v := conc ad (va_rf (P.2.1 k0 fi))) (fun h => (fval_2 h ad P I L k0 fi).trans conc_rf.symm) (KN.pure k hI (List.forall_mem_cons.mpr ⟨vk_rf hwf _ _, hv⟩))
    · cases hs
  · cases hs

set_option maxHeartbeats 4000000 in
theorem sx_putfield {n : Nat} (fo : FO p s m meth c mi) (sv : SV D cy s) (sh : SH L0 x0 s s.heap) (hd : dec mi pc = some (.putfield n, len, rz)) (hI : IV D cy L0 x0 s mi ad P I L ls st lsA H locs) {w : FR × MM} (hs : stp pc (.putfield n) len rz ls st P I L C = some (.inl w)) (hcR : cells + w.2.2.2.2.1 ≤ R.cells + C.1) (hsR : slots + w.2.2.2.2.2 ≤ R.slots + C.2) (hfR : 8 ≤ R.frames) (hlR : 128 ≤ R.locals)
    (k : KN p l e R s m args below meth c cells slots Q D cy L0 x0 mi ad P C w) : W p l e R s m args below meth c H locs cells slots Q (F0 m pc lsA (cv ad st)) := by
  obtain ⟨hdec, hck⟩ := dec_ok hd
  obtain ⟨hx, hb, hml, hrt, hown, hlocks, htab, hnm⟩ := fo
  have hts : ∀ w ∈ GT, w.before args s = true := fun w hw => sv.1 w hw args
  obtain ⟨hP, hD, hwf, hS, hlh, hlv, hsv, hx1, hx2, hx3⟩ := id hI
  simp only [stp] at hs
  simp only [ckR, Bool.and_eq_true, beq_iff_eq, decide_eq_true_eq] at hck
  obtain ⟨⟨rfl, hv0⟩, hfin⟩ := hck
  have fo : FO p s m meth c mi := ⟨hx, hb, hml, hrt, hown, hlocks, htab, hnm⟩
  have h00 : ∀ k0 ci, (P.1 k0).1 = ci + 1 → ci < 11 → (0 : Nat) ≠ k0 := by
    intro k0 ci h1 h2 h3
    subst h3
    rw [hx1] at h1
    have : 30 = ci + 1 := h1
    omega
  split at hs
  · rename_i ci fi nest pl v0 k0 st1
    split at hs
    · rename_i hk
      cases hs
      have hv := (List.forall_mem_cons.mp (List.forall_mem_cons.mp hsv).2).2
      have hci := (lkB_field (ckLk_inv hv0 (by simp)).1 rfl rfl).1
      refine put_row (rest := cv ad st1) (v := .int v0) (P1 := P) (I1 := xu I k0 fi v0) (L1 := L) fo sv hI hdec hk hv0 hfin (fun h => ?_) (fun g hg => fval_ext (xu_n _ _ (Or.inr hg)) rfl rfl) (fun j hj => elt_ext rfl (xu_row _ _ hj) rfl (fun _ => rfl)) rfl rfl (fun H1 locs1 h1 h2 h3 => KN.wr k hI hv rfl hwf rfl (xu_row _ _ (h00 k0 ci hk hci)) h1 h2 h3)
      rw [tyc_0 h]
      exact ⟨rfl, rfl, congrArg Value.int (xu_s _ _ _ _)⟩
    · cases hs
  · rename_i ci fi nest pl v0 k0 st1
    split at hs
    · rename_i hk
      cases hs
      have hv := (List.forall_mem_cons.mp (List.forall_mem_cons.mp hsv).2).2
      refine put_row (rest := cv ad st1) (v := .long v0) (P1 := P) (I1 := I) (L1 := xu L k0 fi v0) fo sv hI hdec hk hv0 hfin (fun h => ?_) (fun g hg => fval_ext rfl (xu_n _ _ (Or.inr hg)) rfl) (fun j hj => elt_ext rfl rfl (xu_row _ _ hj) (fun _ => rfl)) rfl rfl (fun H1 locs1 h1 h2 h3 => KN.wr k hI hv rfl hwf rfl rfl h1 h2 h3)
      rw [tyc_1 h]
      exact ⟨rfl, rfl, congrArg Value.long (xu_s _ _ _ _)⟩
    · cases hs
  · rename_i ci fi nest pl v0 k0 st1
    split at hs
    · rename_i hk
      cases hs
      have hvv := List.forall_mem_cons.mp hsv
      have hv := (List.forall_mem_cons.mp hvv.2).2
      have hlb := lkB_field (ckLk_inv hv0 (by simp)).1 rfl rfl
      have hv1 : v0 ≤ P.2.2 := hvv.1 v0 rfl
      refine put_row (rest := cv ad st1) (v := .ref (ad v0)) (P1 := (P.1, xu P.2.1 k0 fi (some v0), P.2.2)) (I1 := I) (L1 := L) fo sv hI hdec hk.1 hv0 hfin (fun h => ?_) (fun g hg => fval_ext rfl rfl (congrArg (Option.map ad) (xu_n P.2.1 _ (Or.inr hg)))) (fun j hj => elt_ext rfl rfl rfl (fun f => congrArg (Option.map ad) (xu_n P.2.1 _ (Or.inl hj)))) rfl rfl (fun H1 locs1 h1 h2 h3 => KN.wr k hI hv rfl (wf_put hwf ⟨hk.2, hv1⟩) rfl rfl h1 h2 h3)
      have hf : fval ad (P.1, xu P.2.1 k0 fi (some v0), P.2.2) I L (fY ci fi) k0 fi = .ref (ad v0) := (fval_2 h _ _ _ _ _ _).trans (congrArg (va_re ad) (xu_s P.2.1 _ _ _))
      rcases tyo hlb.1 fi hlb.2.1 h with ⟨n1, h1⟩ | ⟨t1, h1⟩
      · rw [h1] at hf ⊢; exact ⟨rfl, rfl, hf⟩
      · rw [h1] at hf ⊢; exact ⟨rfl, rfl, hf⟩
    · cases hs
  · cases hs

theorem ty4_0 (cy : CY) : ([(cy.1, FieldType.int), (cy.2.1, .long), (cy.2.2.1, .byte), (cy.2.2.2, .object RX6)] : List (ClassId × FieldType))[0]? = some (cy.1, .int) := rfl
theorem ty4_1 (cy : CY) : ([(cy.1, FieldType.int), (cy.2.1, .long), (cy.2.2.1, .byte), (cy.2.2.2, .object RX6)] : List (ClassId × FieldType))[1]? = some (cy.2.1, .long) := rfl
theorem ty4_2 (cy : CY) : ([(cy.1, FieldType.int), (cy.2.1, .long), (cy.2.2.1, .byte), (cy.2.2.2, .object RX6)] : List (ClassId × FieldType))[2]? = some (cy.2.2.1, .byte) := rfl
theorem ty4_3 (cy : CY) : ([(cy.1, FieldType.int), (cy.2.1, .long), (cy.2.2.1, .byte), (cy.2.2.2, .object RX6)] : List (ClassId × FieldType))[3]? = some (cy.2.2.2, .object RX6) := rfl
theorem kind_i {cy : CY} {ad : Nat → Nat} {P : MP} {I : MI} {L : ML} {k : Nat} (h : (P.1 k).1 = 20) : elt cy ad P I L k = .inl (cy.1, (P.1 k).2, .inl (I k)) := by unfold elt; rw [if_pos h]
theorem kind_l {cy : CY} {ad : Nat → Nat} {P : MP} {I : MI} {L : ML} {k : Nat} (h : (P.1 k).1 = 21) : elt cy ad P I L k = .inl (cy.2.1, (P.1 k).2, .inr (.inl (L k))) := by unfold elt; rw [if_neg (by omega), if_pos h]
theorem kind_b {cy : CY} {ad : Nat → Nat} {P : MP} {I : MI} {L : ML} {k : Nat} (h : (P.1 k).1 = 22) : elt cy ad P I L k = .inl (cy.2.2.1, (P.1 k).2, .inl (I k)) := by unfold elt; rw [if_neg (by omega), if_neg (by omega), if_pos h]
theorem kind_s {cy : CY} {ad : Nat → Nat} {P : MP} {I : MI} {L : ML} {k : Nat} (h : (P.1 k).1 = 23) : elt cy ad P I L k = .inl (cy.2.2.2, (P.1 k).2, .inr (.inr (.inr (.inr (fun i => (P.2.1 k i).map ad))))) := by unfold elt; rw [if_neg (by omega), if_neg (by omega), if_neg (by omega), if_pos h]
theorem upd_xu {α : Type} (f : Nat → Nat → α) (k j : Nat) (v : α) : (fun b => if b = j then v else f k b) = xu f k j v k := by
  funext b
  unfold xu
  by_cases h : b = j
  · rw [if_pos h, if_pos ⟨rfl, h⟩]
  · rw [if_neg h, if_neg (fun q => h q.2)]
theorem kind_0 {P : MP} {x0 : XX} (h : P.1 0 = (30, x0.2.1)) {k t : Nat} (hk : (P.1 k).1 = t) (ht : t ≠ 30) : (0 : Nat) ≠ k := by
  intro e; subst e; rw [h] at hk; exact ht hk.symm

set_option maxHeartbeats 4000000 in
theorem sx_arraylength  (fo : FO p s m meth c mi) (sv : SV D cy s) (sh : SH L0 x0 s s.heap) (hd : dec mi pc = some (.arraylength, len, rz)) (hI : IV D cy L0 x0 s mi ad P I L ls st lsA H locs) {w : FR × MM} (hs : stp pc (.arraylength) len rz ls st P I L C = some (.inl w)) (hcR : cells + w.2.2.2.2.1 ≤ R.cells + C.1) (hsR : slots + w.2.2.2.2.2 ≤ R.slots + C.2) (hfR : 8 ≤ R.frames) (hlR : 128 ≤ R.locals)
    (k : KN p l e R s m args below meth c cells slots Q D cy L0 x0 mi ad P C w) : W p l e R s m args below meth c H locs cells slots Q (F0 m pc lsA (cv ad st)) := by
  obtain ⟨hdec, hck⟩ := dec_ok hd
  obtain ⟨hx, hb, hml, hrt, hown, hlocks, htab, hnm⟩ := fo
  have hts : ∀ w ∈ GT, w.before args s = true := fun w hw => sv.1 w hw args
  obtain ⟨hP, hD, hwf, hS, hlh, hlv, hsv, hx1, hx2, hx3⟩ := id hI
  simp only [stp] at hs
  simp only [ckR, Bool.and_eq_true, beq_iff_eq, decide_eq_true_eq] at hck
  subst hck
  split at hs
  · rename_i k0 st1
    split at hs
    · rename_i hk
      cases hs
      have hv := (List.forall_mem_cons.mp hsv).2
      have kk := KN.pure k hI (List.forall_mem_cons.mpr ⟨vk_i P _, hv⟩)
      rcases hwf.1 k0 (by omega) with ⟨h0, h30⟩ | ⟨h1, h2, h3⟩
      · subst h0
        have hb0 : ¬ (fun q => L0 ≤ q) x0.1 := Nat.not_le.mpr sh.2.2.2.1
        have key : W p l e R s m args below meth c H locs cells slots Q (F0 m pc lsA (.ref x0.1 :: cv ad st1)) := va_slen hx hb sh.2.2.1 (Nat.lt_of_lt_of_le sh.2.2.2.1 sh.2.2.2.2) hb0 hS hdec (by rw [hx1] at kk; exact kk)
        rw [← hx2] at key
        exact key
      · have he := wl_get (cy := cy) (ad := ad) (I := I) (L := L) h1 h2
        rcases (show (P.1 k0).1 = 20 ∨ (P.1 k0).1 = 21 ∨ (P.1 k0).1 = 22 ∨ (P.1 k0).1 = 23 by omega) with h | h | h | h
        · rw [kind_i h] at he
          exact va_alen (rest := cv ad st1) hx hb sv.2.1 hP (k0 - 1) 0 he (ty4_0 cy) rfl hdec kk
        · rw [kind_l h] at he
          exact va_alen (rest := cv ad st1) hx hb sv.2.1 hP (k0 - 1) 1 he (ty4_1 cy) rfl hdec kk
        · rw [kind_b h] at he
          exact va_alen (rest := cv ad st1) hx hb sv.2.1 hP (k0 - 1) 2 he (ty4_2 cy) rfl hdec kk
        · rw [kind_s h] at he
          exact va_alen (rest := cv ad st1) hx hb sv.2.1 hP (k0 - 1) 3 he (ty4_3 cy) rfl hdec kk
    · cases hs
  · cases hs

set_option maxHeartbeats 4000000 in
theorem sx_iaload  (fo : FO p s m meth c mi) (sv : SV D cy s) (sh : SH L0 x0 s s.heap) (hd : dec mi pc = some (.iaload, len, rz)) (hI : IV D cy L0 x0 s mi ad P I L ls st lsA H locs) {w : FR × MM} (hs : stp pc (.iaload) len rz ls st P I L C = some (.inl w)) (hcR : cells + w.2.2.2.2.1 ≤ R.cells + C.1) (hsR : slots + w.2.2.2.2.2 ≤ R.slots + C.2) (hfR : 8 ≤ R.frames) (hlR : 128 ≤ R.locals)
    (k : KN p l e R s m args below meth c cells slots Q D cy L0 x0 mi ad P C w) : W p l e R s m args below meth c H locs cells slots Q (F0 m pc lsA (cv ad st)) := by
  obtain ⟨hdec, hck⟩ := dec_ok hd
  obtain ⟨hx, hb, hml, hrt, hown, hlocks, htab, hnm⟩ := fo
  have hts : ∀ w ∈ GT, w.before args s = true := fun w hw => sv.1 w hw args
  obtain ⟨hP, hD, hwf, hS, hlh, hlv, hsv, hx1, hx2, hx3⟩ := id hI
  simp only [stp] at hs
  simp only [ckR, Bool.and_eq_true, beq_iff_eq, decide_eq_true_eq] at hck
  subst hck
  split at hs
  · rename_i i0 k0 st1
    split at hs
    · rename_i hk
      cases hs
      have hv := (List.forall_mem_cons.mp (List.forall_mem_cons.mp hsv).2).2
      have kk := KN.pure k hI (List.forall_mem_cons.mpr ⟨vk_i P _, hv⟩)
      obtain ⟨hk, hin⟩ := hk
      rcases hk with hk | hk
      · have hka := kind_at hwf (k := k0) (by omega) (by omega)
        have he := wl_get (cy := cy) (ad := ad) (I := I) (L := L) hka.1 hka.2
        rw [kind_i hk] at he
        exact va_iald (rest := cv ad st1) hx hb sv.2.1 hP (k0 - 1) 0 he (ty4_0 cy) (inb_in hin) hdec kk
      · have h0 : k0 = 0 := by
          rcases hwf.1 k0 (by omega) with ⟨h0, -⟩ | ⟨-, -, h3⟩
          · exact h0
          · omega
        subst h0
        have hb0 : ¬ (fun q => L0 ≤ q) x0.1 := Nat.not_le.mpr sh.2.2.2.1
        have hin' : vp_in i0 x0.2.1 := by have := inb_in hin; rw [hx1] at this; exact this
        have key : W p l e R s m args below meth c H locs cells slots Q (F0 m pc lsA (.int i0 :: .ref x0.1 :: cv ad st1)) := va_sld hx hb sh.2.2.1 (Nat.lt_of_lt_of_le sh.2.2.2.1 sh.2.2.2.2) hb0 hS hin' hdec (by rw [hx3] at kk; exact kk)
        rw [← hx2] at key
        exact key
    · cases hs
  · cases hs

set_option maxHeartbeats 4000000 in
theorem sx_baload  (fo : FO p s m meth c mi) (sv : SV D cy s) (sh : SH L0 x0 s s.heap) (hd : dec mi pc = some (.baload, len, rz)) (hI : IV D cy L0 x0 s mi ad P I L ls st lsA H locs) {w : FR × MM} (hs : stp pc (.baload) len rz ls st P I L C = some (.inl w)) (hcR : cells + w.2.2.2.2.1 ≤ R.cells + C.1) (hsR : slots + w.2.2.2.2.2 ≤ R.slots + C.2) (hfR : 8 ≤ R.frames) (hlR : 128 ≤ R.locals)
    (k : KN p l e R s m args below meth c cells slots Q D cy L0 x0 mi ad P C w) : W p l e R s m args below meth c H locs cells slots Q (F0 m pc lsA (cv ad st)) := by
  obtain ⟨hdec, hck⟩ := dec_ok hd
  obtain ⟨hx, hb, hml, hrt, hown, hlocks, htab, hnm⟩ := fo
  have hts : ∀ w ∈ GT, w.before args s = true := fun w hw => sv.1 w hw args
  obtain ⟨hP, hD, hwf, hS, hlh, hlv, hsv, hx1, hx2, hx3⟩ := id hI
  simp only [stp] at hs
  simp only [ckR, Bool.and_eq_true, beq_iff_eq, decide_eq_true_eq] at hck
  subst hck
  split at hs
  · rename_i i0 k0 st1
    split at hs
    · rename_i hk
      cases hs
      have hv := (List.forall_mem_cons.mp (List.forall_mem_cons.mp hsv).2).2
      have kk := KN.pure k hI (List.forall_mem_cons.mpr ⟨vk_i P _, hv⟩)
      obtain ⟨hk, hin⟩ := hk
      have hka := kind_at hwf (k := k0) (by omega) (by omega)
      have he := wl_get (cy := cy) (ad := ad) (I := I) (L := L) hka.1 hka.2
      rw [kind_b hk] at he
      exact va_bald (rest := cv ad st1) hx hb sv.2.1 hP (k0 - 1) 2 he (ty4_2 cy) (inb_in hin) hdec kk
    · cases hs
  · cases hs

set_option maxHeartbeats 4000000 in
theorem sx_laload  (fo : FO p s m meth c mi) (sv : SV D cy s) (sh : SH L0 x0 s s.heap) (hd : dec mi pc = some (.laload, len, rz)) (hI : IV D cy L0 x0 s mi ad P I L ls st lsA H locs) {w : FR × MM} (hs : stp pc (.laload) len rz ls st P I L C = some (.inl w)) (hcR : cells + w.2.2.2.2.1 ≤ R.cells + C.1) (hsR : slots + w.2.2.2.2.2 ≤ R.slots + C.2) (hfR : 8 ≤ R.frames) (hlR : 128 ≤ R.locals)
    (k : KN p l e R s m args below meth c cells slots Q D cy L0 x0 mi ad P C w) : W p l e R s m args below meth c H locs cells slots Q (F0 m pc lsA (cv ad st)) := by
  obtain ⟨hdec, hck⟩ := dec_ok hd
  obtain ⟨hx, hb, hml, hrt, hown, hlocks, htab, hnm⟩ := fo
  have hts : ∀ w ∈ GT, w.before args s = true := fun w hw => sv.1 w hw args
  obtain ⟨hP, hD, hwf, hS, hlh, hlv, hsv, hx1, hx2, hx3⟩ := id hI
  simp only [stp] at hs
  simp only [ckR, Bool.and_eq_true, beq_iff_eq, decide_eq_true_eq] at hck
  subst hck
  split at hs
  · rename_i i0 k0 st1
    split at hs
    · rename_i hk
      cases hs
      have hv := (List.forall_mem_cons.mp (List.forall_mem_cons.mp hsv).2).2
      have kk := KN.pure k hI (List.forall_mem_cons.mpr ⟨vk_l P _, hv⟩)
      obtain ⟨hk, hin⟩ := hk
      have hka := kind_at hwf (k := k0) (by omega) (by omega)
      have he := wl_get (cy := cy) (ad := ad) (I := I) (L := L) hka.1 hka.2
      rw [kind_l hk] at he
      exact va_lald (rest := cv ad st1) hx hb sv.2.1 hP (k0 - 1) 1 he (ty4_1 cy) (inb_in hin) hdec kk
    · cases hs
  · cases hs

set_option maxHeartbeats 4000000 in
theorem sx_aaload  (fo : FO p s m meth c mi) (sv : SV D cy s) (sh : SH L0 x0 s s.heap) (hd : dec mi pc = some (.aaload, len, rz)) (hI : IV D cy L0 x0 s mi ad P I L ls st lsA H locs) {w : FR × MM} (hs : stp pc (.aaload) len rz ls st P I L C = some (.inl w)) (hcR : cells + w.2.2.2.2.1 ≤ R.cells + C.1) (hsR : slots + w.2.2.2.2.2 ≤ R.slots + C.2) (hfR : 8 ≤ R.frames) (hlR : 128 ≤ R.locals)
    (k : KN p l e R s m args below meth c cells slots Q D cy L0 x0 mi ad P C w) : W p l e R s m args below meth c H locs cells slots Q (F0 m pc lsA (cv ad st)) := by
  obtain ⟨hdec, hck⟩ := dec_ok hd
  obtain ⟨hx, hb, hml, hrt, hown, hlocks, htab, hnm⟩ := fo
  have hts : ∀ w ∈ GT, w.before args s = true := fun w hw => sv.1 w hw args
  obtain ⟨hP, hD, hwf, hS, hlh, hlv, hsv, hx1, hx2, hx3⟩ := id hI
  simp only [stp] at hs
  simp only [ckR, Bool.and_eq_true, beq_iff_eq, decide_eq_true_eq] at hck
  subst hck
  split at hs
  · rename_i i0 k0 st1
    split at hs
    · rename_i hk
      cases hs
      have hv := (List.forall_mem_cons.mp (List.forall_mem_cons.mp hsv).2).2
      have kk := KN.pure k hI (List.forall_mem_cons.mpr ⟨vk_rf hwf _ _, hv⟩)
      obtain ⟨hk, hin⟩ := hk
      have hka := kind_at hwf (k := k0) (by omega) (by omega)
      have he := wl_get (cy := cy) (ad := ad) (I := I) (L := L) hka.1 hka.2
      rw [kind_s hk] at he
      refine va_aldq (rest := cv ad st1) hx hb sv.2.1 hP (k0 - 1) 3 he (ty4_3 cy) (inb_in hin) hdec ?_
      have e9 : cv ad (va_rf (P.2.1 k0 i0.toNatClampNeg) :: st1) = va_rf ((P.2.1 k0 i0.toNatClampNeg).map ad) :: cv ad st1 := congrArg (· :: cv ad st1) conc_rf
      rw [← e9]
      exact kk
    · cases hs
  · cases hs

set_option maxHeartbeats 4000000 in
theorem sx_iastore  (fo : FO p s m meth c mi) (sv : SV D cy s) (sh : SH L0 x0 s s.heap) (hd : dec mi pc = some (.iastore, len, rz)) (hI : IV D cy L0 x0 s mi ad P I L ls st lsA H locs) {w : FR × MM} (hs : stp pc (.iastore) len rz ls st P I L C = some (.inl w)) (hcR : cells + w.2.2.2.2.1 ≤ R.cells + C.1) (hsR : slots + w.2.2.2.2.2 ≤ R.slots + C.2) (hfR : 8 ≤ R.frames) (hlR : 128 ≤ R.locals)
    (k : KN p l e R s m args below meth c cells slots Q D cy L0 x0 mi ad P C w) : W p l e R s m args below meth c H locs cells slots Q (F0 m pc lsA (cv ad st)) := by
  obtain ⟨hdec, hck⟩ := dec_ok hd
  obtain ⟨hx, hb, hml, hrt, hown, hlocks, htab, hnm⟩ := fo
  have hts : ∀ w ∈ GT, w.before args s = true := fun w hw => sv.1 w hw args
  obtain ⟨hP, hD, hwf, hS, hlh, hlv, hsv, hx1, hx2, hx3⟩ := id hI
  simp only [stp] at hs
  simp only [ckR, Bool.and_eq_true, beq_iff_eq, decide_eq_true_eq] at hck
  subst hck
  split at hs
  · rename_i v0 i0 k0 st1
    split at hs
    · rename_i hk
      cases hs
      have hv := (List.forall_mem_cons.mp (List.forall_mem_cons.mp (List.forall_mem_cons.mp hsv).2).2).2
      obtain ⟨hk, hin⟩ := hk
      have hka := kind_at hwf (k := k0) (by omega) (by omega)
      have he := wl_get (cy := cy) (ad := ad) (I := I) (L := L) hka.1 hka.2
      rw [kind_i hk] at he
      refine va_iast (rest := cv ad st1) hx hb sv.2.1 hP hD hS (k0 - 1) 0 he (ty4_0 cy) (inb_in hin) hdec (fun H1 locs1 hP1 hD1 hS1 => ?_)
      rw [wl_set (P' := P) (I' := xu I k0 i0.toNatClampNeg v0) (L' := L) hka.1 hka.2 rfl (by rw [kind_i hk, ← upd_xu]; rfl) (fun j hj => elt_ext rfl (xu_row _ _ hj) rfl (fun _ => rfl))] at hP1 hD1
      exact KN.wr k hI hv rfl hwf rfl (xu_row _ _ (kind_0 hx1 hk (by decide))) hP1 hD1 hS1
    · cases hs
  · cases hs

set_option maxHeartbeats 4000000 in
theorem sx_bastore  (fo : FO p s m meth c mi) (sv : SV D cy s) (sh : SH L0 x0 s s.heap) (hd : dec mi pc = some (.bastore, len, rz)) (hI : IV D cy L0 x0 s mi ad P I L ls st lsA H locs) {w : FR × MM} (hs : stp pc (.bastore) len rz ls st P I L C = some (.inl w)) (hcR : cells + w.2.2.2.2.1 ≤ R.cells + C.1) (hsR : slots + w.2.2.2.2.2 ≤ R.slots + C.2) (hfR : 8 ≤ R.frames) (hlR : 128 ≤ R.locals)
    (k : KN p l e R s m args below meth c cells slots Q D cy L0 x0 mi ad P C w) : W p l e R s m args below meth c H locs cells slots Q (F0 m pc lsA (cv ad st)) := by
  obtain ⟨hdec, hck⟩ := dec_ok hd
  obtain ⟨hx, hb, hml, hrt, hown, hlocks, htab, hnm⟩ := fo
  have hts : ∀ w ∈ GT, w.before args s = true := fun w hw => sv.1 w hw args
  obtain ⟨hP, hD, hwf, hS, hlh, hlv, hsv, hx1, hx2, hx3⟩ := id hI
  simp only [stp] at hs
  simp only [ckR, Bool.and_eq_true, beq_iff_eq, decide_eq_true_eq] at hck
  subst hck
  split at hs
  · rename_i v0 i0 k0 st1
    split at hs
    · rename_i hk
      cases hs
      have hv := (List.forall_mem_cons.mp (List.forall_mem_cons.mp (List.forall_mem_cons.mp hsv).2).2).2
      obtain ⟨hk, hin⟩ := hk
      have hka := kind_at hwf (k := k0) (by omega) (by omega)
      have he := wl_get (cy := cy) (ad := ad) (I := I) (L := L) hka.1 hka.2
      rw [kind_b hk] at he
      refine va_bast (rest := cv ad st1) hx hb sv.2.1 hP hD hS (k0 - 1) 2 he (ty4_2 cy) (inb_in hin) hdec (fun H1 locs1 hP1 hD1 hS1 => ?_)
      rw [wl_set (P' := P) (I' := xu I k0 i0.toNatClampNeg v0.toInt8.toInt32) (L' := L) hka.1 hka.2 rfl (by rw [kind_b hk, ← upd_xu, ← vp_nar_byte]; rfl) (fun j hj => elt_ext rfl (xu_row _ _ hj) rfl (fun _ => rfl))] at hP1 hD1
      exact KN.wr k hI hv rfl hwf rfl (xu_row _ _ (kind_0 hx1 hk (by decide))) hP1 hD1 hS1
    · cases hs
  · cases hs

set_option maxHeartbeats 4000000 in
theorem sx_lastore  (fo : FO p s m meth c mi) (sv : SV D cy s) (sh : SH L0 x0 s s.heap) (hd : dec mi pc = some (.lastore, len, rz)) (hI : IV D cy L0 x0 s mi ad P I L ls st lsA H locs) {w : FR × MM} (hs : stp pc (.lastore) len rz ls st P I L C = some (.inl w)) (hcR : cells + w.2.2.2.2.1 ≤ R.cells + C.1) (hsR : slots + w.2.2.2.2.2 ≤ R.slots + C.2) (hfR : 8 ≤ R.frames) (hlR : 128 ≤ R.locals)
    (k : KN p l e R s m args below meth c cells slots Q D cy L0 x0 mi ad P C w) : W p l e R s m args below meth c H locs cells slots Q (F0 m pc lsA (cv ad st)) := by
  obtain ⟨hdec, hck⟩ := dec_ok hd
  obtain ⟨hx, hb, hml, hrt, hown, hlocks, htab, hnm⟩ := fo
  have hts : ∀ w ∈ GT, w.before args s = true := fun w hw => sv.1 w hw args
  obtain ⟨hP, hD, hwf, hS, hlh, hlv, hsv, hx1, hx2, hx3⟩ := id hI
  simp only [stp] at hs
  simp only [ckR, Bool.and_eq_true, beq_iff_eq, decide_eq_true_eq] at hck
  subst hck
  split at hs
  · rename_i v0 i0 k0 st1
    split at hs
    · rename_i hk
      cases hs
      have hv := (List.forall_mem_cons.mp (List.forall_mem_cons.mp (List.forall_mem_cons.mp hsv).2).2).2
      obtain ⟨hk, hin⟩ := hk
      have hka := kind_at hwf (k := k0) (by omega) (by omega)
      have he := wl_get (cy := cy) (ad := ad) (I := I) (L := L) hka.1 hka.2
      rw [kind_l hk] at he
      refine va_last (rest := cv ad st1) hx hb sv.2.1 hP hD hS (k0 - 1) 1 he (ty4_1 cy) (inb_in hin) hdec (fun H1 locs1 hP1 hD1 hS1 => ?_)
      rw [wl_set (P' := P) (I' := I) (L' := xu L k0 i0.toNatClampNeg v0) hka.1 hka.2 rfl (by rw [kind_l hk, ← upd_xu]; rfl) (fun j hj => elt_ext rfl rfl (xu_row _ _ hj) (fun _ => rfl))] at hP1 hD1
      exact KN.wr k hI hv rfl hwf rfl rfl hP1 hD1 hS1
    · cases hs
  · cases hs

set_option maxHeartbeats 4000000 in
theorem sx_aastore  (fo : FO p s m meth c mi) (sv : SV D cy s) (sh : SH L0 x0 s s.heap) (hd : dec mi pc = some (.aastore, len, rz)) (hI : IV D cy L0 x0 s mi ad P I L ls st lsA H locs) {w : FR × MM} (hs : stp pc (.aastore) len rz ls st P I L C = some (.inl w)) (hcR : cells + w.2.2.2.2.1 ≤ R.cells + C.1) (hsR : slots + w.2.2.2.2.2 ≤ R.slots + C.2) (hfR : 8 ≤ R.frames) (hlR : 128 ≤ R.locals)
    (k : KN p l e R s m args below meth c cells slots Q D cy L0 x0 mi ad P C w) : W p l e R s m args below meth c H locs cells slots Q (F0 m pc lsA (cv ad st)) := by
  obtain ⟨hdec, hck⟩ := dec_ok hd
  obtain ⟨hx, hb, hml, hrt, hown, hlocks, htab, hnm⟩ := fo
  have hts : ∀ w ∈ GT, w.before args s = true := fun w hw => sv.1 w hw args
  obtain ⟨hP, hD, hwf, hS, hlh, hlv, hsv, hx1, hx2, hx3⟩ := id hI
  simp only [stp] at hs
  simp only [ckR, Bool.and_eq_true, beq_iff_eq, decide_eq_true_eq] at hck
  subst hck
  split at hs
  · rename_i v0 i0 k0 st1
    split at hs
    · rename_i hk
      cases hs
      have hv := (List.forall_mem_cons.mp (List.forall_mem_cons.mp (List.forall_mem_cons.mp hsv).2).2).2
      obtain ⟨⟨hk, hkv⟩, hin⟩ := hk
      have hka := kind_at hwf (k := k0) (by omega) (by omega)
      have hkb := kind_at hwf (k := v0) (by omega) (by omega)
      have he := wl_get (cy := cy) (ad := ad) (I := I) (L := L) hka.1 hka.2
      have hev := wl_get (cy := cy) (ad := ad) (I := I) (L := L) hkb.1 hkb.2
      rw [kind_s hk] at he
      rw [kind_obj (ci := 6) hkv (by decide)] at hev
      refine va_astq (rest := cv ad st1) (r := (RX6, TX6, 3)) hx hb sv.2.1 hP hD hS (k0 - 1) 3 (v0 - 1) 6 he (ty4_3 cy) hev rfl (inb_in hin) hdec (fun H1 locs1 hP1 hD1 hS1 => ?_)
      rw [wl_set (P' := (P.1, xu P.2.1 k0 i0.toNatClampNeg (some v0), P.2.2)) (I' := I) (L' := L) hka.1 hka.2 rfl (by
        rw [kind_s (P := (P.1, xu P.2.1 k0 i0.toNatClampNeg (some v0), P.2.2)) hk]
        congr 7
        funext j
        show Option.map ad (xu P.2.1 k0 i0.toNatClampNeg (some v0) k0 j) = va_up (fun i => Option.map ad (P.2.1 k0 i)) i0.toNatClampNeg (some (ad v0)) j
        by_cases hj : j = i0.toNatClampNeg
        · rw [hj, xu_s, va_up_self]; rfl
        · rw [xu_n _ _ (Or.inr hj), va_up_ne _ _ hj]) (fun j hj => elt_ext rfl rfl rfl (fun f => congrArg (Option.map ad) (xu_n P.2.1 _ (Or.inl hj))))] at hP1 hD1
      exact KN.wr k hI hv rfl (wf_put hwf ⟨hkb.1, hkb.2⟩) rfl rfl hP1 hD1 hS1
    · cases hs
  · cases hs

/-- behind a new cell -/
theorem KN.new {pc1 t len0 nf q : Nat} {e0 : va_E} {H1 : Heap} (k : KN p l e R s m args below meth c cells slots Q D cy L0 x0 mi ad P C ((pc1, ls, .ref (P.2.2 + 1) :: st'), (mkP P t len0, xr I (P.2.2 + 1) (fun _ => 0), xr L (P.2.2 + 1) (fun _ => 0), (C.1 + 1, C.2 + nf)))) (h : IV D cy L0 x0 s mi ad P I L ls st lsA H locs) (hv : ∀ v ∈ st', vk P v)
    (ht : (1 ≤ t ∧ t ≤ 11) ∨ (20 ≤ t ∧ t ≤ 23)) (he : elt cy (xr ad (P.2.2 + 1) q) (mkP P t len0) (xr I (P.2.2 + 1) (fun _ => 0)) (xr L (P.2.2 + 1) (fun _ => 0)) (P.2.2 + 1) = e0)
    (hP : va_P D vwCl (wl cy ad P I L ++ [(q, e0)]) H1) (hD : va_D (fun q => L0 ≤ q) (wl cy ad P I L ++ [(q, e0)])) (hS : va_S (fun q => L0 ≤ q) s.heap H1 locs) :
    W p l e R s m args below meth c H1 locs (cells + 1) (slots + nf) Q (F0 m pc1 lsA (.ref q :: cv ad st')) := by
  obtain ⟨-, -, hwf, -, hlh, hlv, -, hx1, hx2, hx3⟩ := h
  rw [wl_push hwf he] at hP hD
  have hext : ∀ j, j ≤ P.2.2 → xr ad (P.2.2 + 1) q j = ad j := fun j hj => xr_n _ _ (by omega)
  have hle : P.2.2 ≤ (mkP P t len0).2.2 := Nat.le_succ _
  have := k (xr ad (P.2.2 + 1) q) lsA H1 locs hext hle ⟨hP, hD, wf_mk hwf ht, hS, lh_ad hlh hext hlv, fun v z => vk_mono hle (hlv v z), List.forall_mem_cons.mpr ⟨fun a z => by cases z; exact Nat.le_refl _, fun v z => vk_mono hle (hv v z)⟩, (xr_n P.1 (t, len0) (show 0 ≠ P.2.2 + 1 by omega)).trans hx1, (xr_n ad q (show 0 ≠ P.2.2 + 1 by omega)).trans hx2, (xr_n I (fun _ => 0) (show 0 ≠ P.2.2 + 1 by omega)).trans hx3⟩
  have e1 : C.1 + 1 - C.1 = 1 := by omega
  have e2 : C.2 + nf - C.2 = nf := by omega
  have e3 : cv (xr ad (P.2.2 + 1) q) (.ref (P.2.2 + 1) :: st') = .ref q :: cv ad st' := by
    show Value.ref (xr ad (P.2.2 + 1) q (P.2.2 + 1)) :: cv (xr ad (P.2.2 + 1) q) st' = _
    rw [xr_s, cv_eq hext hv]
  dsimp only at this
  rw [e1, e2, e3] at this
  exact this
theorem fl_new {ad : Nat → Nat} {P : MP} {I : MI} {L : ML} {ci t len0 : Nat} (hci : ci < 11) : flds ad (mkP P t len0) (xr I (P.2.2 + 1) (fun _ => 0)) (xr L (P.2.2 + 1) (fun _ => 0)) ci (P.2.2 + 1) = (List.range (fN ci)).map (fun f => defaultValue (fY ci f)) := by
  unfold flds
  apply List.map_congr_left
  intro f hf
  have hf := List.mem_range.mp hf
  have key : ∀ t' : FieldType, (match t' with | .int => true | .long => true | .object _ => true | .array _ => true | _ => false) = true → fval ad (mkP P t len0) (xr I (P.2.2 + 1) (fun _ => 0)) (xr L (P.2.2 + 1) (fun _ => 0)) t' (P.2.2 + 1) f = defaultValue t' := by
    intro t' h1
    have e1 : xr I (P.2.2 + 1) (fun _ => 0) (P.2.2 + 1) f = 0 := congrFun (xr_s _ _ _) f
    have e2 : xr L (P.2.2 + 1) (fun _ => 0) (P.2.2 + 1) f = 0 := congrFun (xr_s _ _ _) f
    have e3 : (mkP P t len0).2.1 (P.2.2 + 1) f = none := congrFun (xr_s P.2.1 _ _) f
    cases t' <;> first | cases h1 | skip
    · exact congrArg Value.int e1
    · exact congrArg Value.long e2
    · exact congrArg (va_re ad) e3
    · exact congrArg (va_re ad) e3
  refine key _ ?_
  have hall : ∀ ci < 11, ∀ f < fN ci, (match fY ci f with | .int => true | .long => true | .object _ => true | .array _ => true | _ => false) = true := by decide +kernel
  exact hall ci hci f hf

set_option maxHeartbeats 4000000 in
theorem sx_new {n : Nat} (fo : FO p s m meth c mi) (sv : SV D cy s) (sh : SH L0 x0 s s.heap) (hd : dec mi pc = some (.new n, len, rz)) (hI : IV D cy L0 x0 s mi ad P I L ls st lsA H locs) {w : FR × MM} (hs : stp pc (.new n) len rz ls st P I L C = some (.inl w)) (hcR : cells + w.2.2.2.2.1 ≤ R.cells + C.1) (hsR : slots + w.2.2.2.2.2 ≤ R.slots + C.2) (hfR : 8 ≤ R.frames) (hlR : 128 ≤ R.locals)
    (k : KN p l e R s m args below meth c cells slots Q D cy L0 x0 mi ad P C w) : W p l e R s m args below meth c H locs cells slots Q (F0 m pc lsA (cv ad st)) := by
  obtain ⟨hdec, hck⟩ := dec_ok hd
  obtain ⟨hx, hb, hml, hrt, hown, hlocks, htab, hnm⟩ := fo
  have hts : ∀ w ∈ GT, w.before args s = true := fun w hw => sv.1 w hw args
  obtain ⟨hP, hD, hwf, hS, hlh, hlv, hsv, hx1, hx2, hx3⟩ := id hI
  simp only [stp] at hs
  simp only [ckR, Bool.and_eq_true, beq_iff_eq, decide_eq_true_eq] at hck
  obtain ⟨⟨rfl, hv0⟩, -⟩ := hck
  split at hs
  · rename_i ci pl1 pl2 pl3
    cases hs
    obtain ⟨hlk, hk1, hk2⟩ := ckLk_inv hv0 (by simp)
    simp only [lkB, hk1, hk2, Bool.and_eq_true, decide_eq_true_eq] at hlk
    obtain ⟨⟨⟨h1, h2⟩, h3⟩, hci⟩ := hlk
    dsimp only at hcR hsR
    refine va_new (rest := cv ad st) (D := D) (ci := ci) (fs := (List.range (fN ci)).map (fun f => defaultValue (fY ci f))) (C := cn ci) (T := fT ci) (N := fN ci) hx hb hts (in_at hci) (fY ci) (ty_at hci) hown (hts _ (mem_GT1 h1 rfl)) (hts _ (mem_GT1 h2 rfl)) (hts _ (mem_GT1 h3 rfl)) sv.2.1 hP hD hS (fun q hq => Nat.le_trans sh.2.2.2.2 hq) (cl_at hci) (fun j hj => ?_) (by omega) (by omega) hdec (fun q H1 hP1 hD1 hS1 => ?_)
    · unfold vp_V
      rw [List.getD_eq_getElem?_getD, List.getElem?_map, List.getElem?_range hj]; rfl
    · refine KN.new k hI hsv (Or.inl ⟨by omega, by omega⟩) ?_ hP1 hD1 hS1
      rw [kind_obj (ci := ci) (by show (xr P.1 (P.2.2 + 1) (ci + 1, 0) (P.2.2 + 1)).1 = ci + 1; rw [xr_s]) hci, fl_new hci]
  · rename_i pl1 pl2
    cases hs
    obtain ⟨hlk, hk1, hk2⟩ := ckLk_inv hv0 (by simp)
    simp only [lkB, hk1, hk2, Bool.and_eq_true, decide_eq_true_eq] at hlk
    obtain ⟨h1, h2⟩ := hlk
    dsimp only at hcR hsR
    have hci : 6 < 11 := by decide
    refine va_new (rest := cv ad st) (D := D) (ci := 6) (fs := (List.range (fN 6)).map (fun f => defaultValue (fY 6 f))) (C := cn 6) (T := fT 6) (N := fN 6) hx hb hts (in_at hci) (fY 6) (ty_at hci) hown (hts _ (mem_GT1 h1 rfl)) (hts _ (mem_GT1 h2 rfl)) (hts _ (mem_GT1 (i := 2) (by decide +kernel) (by decide +kernel))) sv.2.1 hP hD hS (fun q hq => Nat.le_trans sh.2.2.2.2 hq) (cl_at hci) (fun j hj => ?_) (by omega) (by omega) hdec (fun q H1 hP1 hD1 hS1 => ?_)
    · unfold vp_V
      rw [List.getD_eq_getElem?_getD, List.getElem?_map, List.getElem?_range hj]; rfl
    · refine KN.new k hI hsv (Or.inl ⟨by omega, by omega⟩) ?_ hP1 hD1 hS1
      rw [kind_obj (ci := 6) (by show (xr P.1 (P.2.2 + 1) (6 + 1, 0) (P.2.2 + 1)).1 = 6 + 1; rw [xr_s]) hci, fl_new hci]
  · split at hs <;> cases hs
  · cases hs

set_option maxHeartbeats 4000000 in
theorem sx_newarray_int  (fo : FO p s m meth c mi) (sv : SV D cy s) (sh : SH L0 x0 s s.heap) (hd : dec mi pc = some (.newarray .int, len, rz)) (hI : IV D cy L0 x0 s mi ad P I L ls st lsA H locs) {w : FR × MM} (hs : stp pc (.newarray .int) len rz ls st P I L C = some (.inl w)) (hcR : cells + w.2.2.2.2.1 ≤ R.cells + C.1) (hsR : slots + w.2.2.2.2.2 ≤ R.slots + C.2) (hfR : 8 ≤ R.frames) (hlR : 128 ≤ R.locals)
    (k : KN p l e R s m args below meth c cells slots Q D cy L0 x0 mi ad P C w) : W p l e R s m args below meth c H locs cells slots Q (F0 m pc lsA (cv ad st)) := by
  obtain ⟨hdec, hck⟩ := dec_ok hd
  obtain ⟨hx, hb, hml, hrt, hown, hlocks, htab, hnm⟩ := fo
  have hts : ∀ w ∈ GT, w.before args s = true := fun w hw => sv.1 w hw args
  obtain ⟨hP, hD, hwf, hS, hlh, hlv, hsv, hx1, hx2, hx3⟩ := id hI
  simp only [stp] at hs
  simp only [ckR, Bool.and_eq_true, beq_iff_eq, decide_eq_true_eq] at hck
  subst hck
  split at hs
  · rename_i a0 st1
    split at hs
    · rename_i hin
      cases hs
      have hv := (List.forall_mem_cons.mp hsv).2
      obtain ⟨hb1, hb2⟩ := inb_2 hin
      dsimp only at hcR hsR
      refine va_newa (rest := cv ad st1) (atype := .int) (ty := .int) (N' := a0.toNatClampNeg) (a0 := (a0.toNatClampNeg, .inl (fun _ => 0))) hx hb (hts _ (mem_GT1 (i := 83) (by decide +kernel) (by decide +kernel))) rfl sv.2.1 hP hD hS (fun q hq => Nat.le_trans sh.2.2.2.2 hq) (fun _ => rfl) hb1 rfl (by show a0.toNatClampNeg * 4 ≤ 536870912; omega) (by omega) (by omega) hdec (fun q cA H1 hK1 hP1 hD1 hS1 => ?_)
      have hcA : cA = cy.1 := Option.some.inj (((hK1.2 4 (cA, .int) rfl).2 : s.vm.findClass _ = some cA).symm.trans ((sv.2.1.2 0 _ (ty4_0 cy)).2 : s.vm.findClass _ = some _))
      subst hcA
      refine KN.new k hI hv (Or.inr ⟨by decide, by decide⟩) ?_ hP1 hD1 hS1
      rw [kind_i (by show (xr P.1 (P.2.2 + 1) (20, a0.toNatClampNeg) (P.2.2 + 1)).1 = 20; rw [xr_s])]
      show (Sum.inl (_, (xr P.1 (P.2.2 + 1) (20, a0.toNatClampNeg) (P.2.2 + 1)).2, _) : va_E) = _
      rw [xr_s, xr_s]
    · cases hs
  · cases hs

set_option maxHeartbeats 4000000 in
theorem sx_newarray_long  (fo : FO p s m meth c mi) (sv : SV D cy s) (sh : SH L0 x0 s s.heap) (hd : dec mi pc = some (.newarray .long, len, rz)) (hI : IV D cy L0 x0 s mi ad P I L ls st lsA H locs) {w : FR × MM} (hs : stp pc (.newarray .long) len rz ls st P I L C = some (.inl w)) (hcR : cells + w.2.2.2.2.1 ≤ R.cells + C.1) (hsR : slots + w.2.2.2.2.2 ≤ R.slots + C.2) (hfR : 8 ≤ R.frames) (hlR : 128 ≤ R.locals)
    (k : KN p l e R s m args below meth c cells slots Q D cy L0 x0 mi ad P C w) : W p l e R s m args below meth c H locs cells slots Q (F0 m pc lsA (cv ad st)) := by
  obtain ⟨hdec, hck⟩ := dec_ok hd
  obtain ⟨hx, hb, hml, hrt, hown, hlocks, htab, hnm⟩ := fo
  have hts : ∀ w ∈ GT, w.before args s = true := fun w hw => sv.1 w hw args
  obtain ⟨hP, hD, hwf, hS, hlh, hlv, hsv, hx1, hx2, hx3⟩ := id hI
  simp only [stp] at hs
  simp only [ckR, Bool.and_eq_true, beq_iff_eq, decide_eq_true_eq] at hck
  subst hck
  split at hs
  · rename_i a0 st1
    split at hs
    · rename_i hin
      cases hs
      have hv := (List.forall_mem_cons.mp hsv).2
      obtain ⟨hb1, hb2⟩ := inb_2 hin
      dsimp only at hcR hsR
      refine va_newa (rest := cv ad st1) (atype := .long) (ty := .long) (N' := a0.toNatClampNeg) (a0 := (a0.toNatClampNeg, .inr (.inl (fun _ => 0)))) hx hb (hts _ (mem_GT1 (i := 266) (by decide +kernel) (by decide +kernel))) rfl sv.2.1 hP hD hS (fun q hq => Nat.le_trans sh.2.2.2.2 hq) (fun _ => rfl) hb1 rfl (by show a0.toNatClampNeg * 8 ≤ 536870912; omega) (by omega) (by omega) hdec (fun q cA H1 hK1 hP1 hD1 hS1 => ?_)
      have hcA : cA = cy.2.1 := Option.some.inj (((hK1.2 4 (cA, .long) rfl).2 : s.vm.findClass _ = some cA).symm.trans ((sv.2.1.2 1 _ (ty4_1 cy)).2 : s.vm.findClass _ = some _))
      subst hcA
      refine KN.new k hI hv (Or.inr ⟨by decide, by decide⟩) ?_ hP1 hD1 hS1
      rw [kind_l (by show (xr P.1 (P.2.2 + 1) (21, a0.toNatClampNeg) (P.2.2 + 1)).1 = 21; rw [xr_s])]
      show (Sum.inl (_, (xr P.1 (P.2.2 + 1) (21, a0.toNatClampNeg) (P.2.2 + 1)).2, _) : va_E) = _
      rw [xr_s, xr_s]
    · cases hs
  · cases hs

set_option maxHeartbeats 4000000 in
theorem sx_newarray_byte  (fo : FO p s m meth c mi) (sv : SV D cy s) (sh : SH L0 x0 s s.heap) (hd : dec mi pc = some (.newarray .byte, len, rz)) (hI : IV D cy L0 x0 s mi ad P I L ls st lsA H locs) {w : FR × MM} (hs : stp pc (.newarray .byte) len rz ls st P I L C = some (.inl w)) (hcR : cells + w.2.2.2.2.1 ≤ R.cells + C.1) (hsR : slots + w.2.2.2.2.2 ≤ R.slots + C.2) (hfR : 8 ≤ R.frames) (hlR : 128 ≤ R.locals)
    (k : KN p l e R s m args below meth c cells slots Q D cy L0 x0 mi ad P C w) : W p l e R s m args below meth c H locs cells slots Q (F0 m pc lsA (cv ad st)) := by
  obtain ⟨hdec, hck⟩ := dec_ok hd
  obtain ⟨hx, hb, hml, hrt, hown, hlocks, htab, hnm⟩ := fo
  have hts : ∀ w ∈ GT, w.before args s = true := fun w hw => sv.1 w hw args
  obtain ⟨hP, hD, hwf, hS, hlh, hlv, hsv, hx1, hx2, hx3⟩ := id hI
  simp only [stp] at hs
  simp only [ckR, Bool.and_eq_true, beq_iff_eq, decide_eq_true_eq] at hck
  subst hck
  split at hs
  · rename_i a0 st1
    split at hs
    · rename_i hin
      cases hs
      have hv := (List.forall_mem_cons.mp hsv).2
      obtain ⟨hb1, hb2⟩ := inb_2 hin
      dsimp only at hcR hsR
      refine va_newa (rest := cv ad st1) (atype := .byte) (ty := .byte) (N' := a0.toNatClampNeg) (a0 := (a0.toNatClampNeg, .inl (fun _ => 0))) hx hb (hts _ (mem_GT1 (i := 193) (by decide +kernel) (by decide +kernel))) rfl sv.2.1 hP hD hS (fun q hq => Nat.le_trans sh.2.2.2.2 hq) (fun _ => rfl) hb1 rfl (by show a0.toNatClampNeg * 1 ≤ 536870912; omega) (by omega) (by omega) hdec (fun q cA H1 hK1 hP1 hD1 hS1 => ?_)
      have hcA : cA = cy.2.2.1 := Option.some.inj (((hK1.2 4 (cA, .byte) rfl).2 : s.vm.findClass _ = some cA).symm.trans ((sv.2.1.2 2 _ (ty4_2 cy)).2 : s.vm.findClass _ = some _))
      subst hcA
      refine KN.new k hI hv (Or.inr ⟨by decide, by decide⟩) ?_ hP1 hD1 hS1
      rw [kind_b (by show (xr P.1 (P.2.2 + 1) (22, a0.toNatClampNeg) (P.2.2 + 1)).1 = 22; rw [xr_s])]
      show (Sum.inl (_, (xr P.1 (P.2.2 + 1) (22, a0.toNatClampNeg) (P.2.2 + 1)).2, _) : va_E) = _
      rw [xr_s, xr_s]
    · cases hs
  · cases hs

set_option maxHeartbeats 4000000 in
theorem sx_anewarray {n : Nat} (fo : FO p s m meth c mi) (sv : SV D cy s) (sh : SH L0 x0 s s.heap) (hd : dec mi pc = some (.anewarray n, len, rz)) (hI : IV D cy L0 x0 s mi ad P I L ls st lsA H locs) {w : FR × MM} (hs : stp pc (.anewarray n) len rz ls st P I L C = some (.inl w)) (hcR : cells + w.2.2.2.2.1 ≤ R.cells + C.1) (hsR : slots + w.2.2.2.2.2 ≤ R.slots + C.2) (hfR : 8 ≤ R.frames) (hlR : 128 ≤ R.locals)
    (k : KN p l e R s m args below meth c cells slots Q D cy L0 x0 mi ad P C w) : W p l e R s m args below meth c H locs cells slots Q (F0 m pc lsA (cv ad st)) := by
  obtain ⟨hdec, hck⟩ := dec_ok hd
  obtain ⟨hx, hb, hml, hrt, hown, hlocks, htab, hnm⟩ := fo
  have hts : ∀ w ∈ GT, w.before args s = true := fun w hw => sv.1 w hw args
  obtain ⟨hP, hD, hwf, hS, hlh, hlv, hsv, hx1, hx2, hx3⟩ := id hI
  simp only [stp] at hs
  simp only [ckR, Bool.and_eq_true, beq_iff_eq, decide_eq_true_eq] at hck
  obtain ⟨rfl, hv0⟩ := hck
  split at hs
  · rename_i pl1 pl2 a0 st1
    split at hs
    · rename_i hin
      cases hs
      have hv := (List.forall_mem_cons.mp hsv).2
      obtain ⟨hb1, hb2⟩ := inb_2 hin
      obtain ⟨hlk, hk1, hk2⟩ := ckLk_inv hv0 (by simp)
      simp only [lkB, hk1, hk2, Bool.and_eq_true, decide_eq_true_eq] at hlk
      dsimp only at hcR hsR
      refine va_newq (rest := cv ad st1) (C := RX6) (N' := a0.toNatClampNeg) hx hb hown (hts _ (mem_GT1 hlk.1 rfl)) sv.2.2.2.2 sv.2.1 hP hD hS (fun q hq => Nat.le_trans sh.2.2.2.2 hq) hb1 rfl (by omega) (by omega) (by omega) hdec (fun q cA H1 hK1 hP1 hD1 hS1 => ?_)
      have hcA : cA = cy.2.2.2 := by
        obtain ⟨_, _, _, _, _, g1⟩ := (hK1.2 4 (cA, .object RX6) rfl).2
        obtain ⟨_, _, _, _, _, g2⟩ := (sv.2.1.2 3 _ (ty4_3 cy)).2
        exact Option.some.inj (g1.symm.trans g2)
      subst hcA
      refine KN.new k hI hv (Or.inr ⟨by decide, by decide⟩) ?_ hP1 hD1 hS1
      rw [kind_s (by show (xr P.1 (P.2.2 + 1) (23, a0.toNatClampNeg) (P.2.2 + 1)).1 = 23; rw [xr_s])]
      show (Sum.inl (_, (xr P.1 (P.2.2 + 1) (23, a0.toNatClampNeg) (P.2.2 + 1)).2, Sum.inr (Sum.inr (Sum.inr (Sum.inr (fun i => Option.map _ (xr P.2.1 (P.2.2 + 1) (fun _ => none) (P.2.2 + 1) i)))))) : va_E) = _
      rw [xr_s, xr_s]
      rfl
    · cases hs
  · cases hs

set_option maxHeartbeats 4000000 in
theorem sx_invokestatic {n : Nat} (fo : FO p s m meth c mi) (sv : SV D cy s) (sh : SH L0 x0 s s.heap) (hd : dec mi pc = some (.invokestatic n, len, rz)) (hI : IV D cy L0 x0 s mi ad P I L ls st lsA H locs) {w : FR × MM} (hs : stp pc (.invokestatic n) len rz ls st P I L C = some (.inl w)) (hcR : cells + w.2.2.2.2.1 ≤ R.cells + C.1) (hsR : slots + w.2.2.2.2.2 ≤ R.slots + C.2) (hfR : 8 ≤ R.frames) (hlR : 128 ≤ R.locals)
    (k : KN p l e R s m args below meth c cells slots Q D cy L0 x0 mi ad P C w) : W p l e R s m args below meth c H locs cells slots Q (F0 m pc lsA (cv ad st)) := by
  obtain ⟨hdec, hck⟩ := dec_ok hd
  obtain ⟨hx, hb, hml, hrt, hown, hlocks, htab, hnm⟩ := fo
  have hts : ∀ w ∈ GT, w.before args s = true := fun w hw => sv.1 w hw args
  obtain ⟨hP, hD, hwf, hS, hlh, hlv, hsv, hx1, hx2, hx3⟩ := id hI
  simp only [stp] at hs
  simp only [ckR, Bool.and_eq_true, beq_iff_eq, decide_eq_true_eq] at hck
  obtain ⟨⟨rfl, hv0⟩, -⟩ := hck
  have hls : c.maxLocals = lsA.size := hml.trans hlh.1.symm
  split at hs
  · split at hs
    · split at hs <;> cases hs
    · cases hs
  · rename_i pl
    split at hs
    · rename_i n0 dp a1 sp a0 st1
      split at hs
      · rename_i hc
        cases hs
        obtain ⟨⟨⟨hka, hka0⟩, h1, h2, h3⟩, ⟨h4, h5⟩, h6⟩ := hc
        have hv := (List.forall_mem_cons.mp (List.forall_mem_cons.mp (List.forall_mem_cons.mp (List.forall_mem_cons.mp (List.forall_mem_cons.mp hsv).2).2).2).2).2
        obtain ⟨hlk, hk1, hk2⟩ := ckLk_inv hv0 (by simp)
        simp only [lkB, hk1, hk2, decide_eq_true_eq] at hlk
        have hkb := kind_at hwf (k := a1) (by omega) (by omega)
        have hkb0 := kind_at hwf (k := a0) (by omega) (by omega)
        have he := wl_get (cy := cy) (ad := ad) (I := I) (L := L) hkb.1 hkb.2
        have he0 := wl_get (cy := cy) (ad := ad) (I := I) (L := L) hkb0.1 hkb0.2
        rw [kind_i hka] at he
        rw [kind_i hka0] at he0
        have hnw : nativeFrameWords "java/lang/System" "arraycopy" 5 + 11 ≤ 100 := by decide +kernel
        refine va_copyi (rest := cv ad st1) hx hb hls hown (hts _ (mem_GT1 hlk rfl)) (hts _ (mem_GT1 (i := 405) (by decide +kernel) (by decide +kernel))) (hts _ (mem_GT1 (i := 404) (by decide +kernel) (by decide +kernel))) (hts _ (mem_GT1 (i := 16) (by decide +kernel) (by decide +kernel))) sv.2.1 hP hD hS (a0 - 1) (a1 - 1) 0 0 he0 he (ty4_0 cy) (ty4_0 cy) rfl h1 h2 h3 h4 h5 (fun _ _ => rfl) (by omega) (by rw [catS_cv]; omega) hdec (fun H1 locs1 hP1 hD1 hS1 => ?_)
        rw [wl_set (P' := P) (I' := xr I a1 (va_cpy (I a0) (I a1) sp.toNatClampNeg dp.toNatClampNeg n0.toNatClampNeg)) (L' := L) hkb.1 hkb.2 rfl (by rw [kind_i hka, xr_s]) (fun j hj => elt_ext rfl (xr_n _ _ hj) rfl (fun _ => rfl))] at hP1 hD1
        exact KN.wr k hI hv rfl hwf rfl (xr_n _ _ (kind_0 hx1 hka (by decide))) hP1 hD1 hS1
      · cases hs
    · cases hs
  · rename_i pl
    split at hs
    · rename_i y0 x00 st1
      split at hs
      · rename_i hc
        cases hs
        have hv := (List.forall_mem_cons.mp (List.forall_mem_cons.mp hsv).2).2
        obtain ⟨hlk, hk1, hk2⟩ := ckLk_inv hv0 (by simp)
        simp only [lkB, hk1, hk2, decide_eq_true_eq] at hlk
        dsimp only at hcR hsR
        exact va_mmin (rest := cv ad st1) hx hb hls hown (hts _ (mem_GT1 hlk rfl)) (hts _ (mem_GT1 (i := 401) (by decide +kernel) (by decide +kernel))) (hts _ (mem_GT1 (i := 15) (by decide +kernel) (by decide +kernel))) (hts _ (mem_GT1 (i := 402) (by decide +kernel) (by decide +kernel))) (by omega) (by rw [catS_cv]; omega) (by omega) (by omega) hdec (KN.pure k hI (List.forall_mem_cons.mpr ⟨vk_i P _, hv⟩))
      · cases hs
    · cases hs
  · rename_i pl
    split at hs
    · rename_i y0 x00 st1
      split at hs
      · rename_i hc
        cases hs
        have hv := (List.forall_mem_cons.mp (List.forall_mem_cons.mp hsv).2).2
        obtain ⟨hlk, hk1, hk2⟩ := ckLk_inv hv0 (by simp)
        simp only [lkB, hk1, hk2, decide_eq_true_eq] at hlk
        dsimp only at hcR hsR
        exact va_mmax (rest := cv ad st1) hx hb hls hown (hts _ (mem_GT1 hlk rfl)) (hts _ (mem_GT1 (i := 774) (by decide +kernel) (by decide +kernel))) (hts _ (mem_GT1 (i := 15) (by decide +kernel) (by decide +kernel))) (hts _ (mem_GT1 (i := 775) (by decide +kernel) (by decide +kernel))) (by omega) (by rw [catS_cv]; omega) (by omega) (by omega) hdec (KN.pure k hI (List.forall_mem_cons.mpr ⟨vk_i P _, hv⟩))
      · cases hs
    · cases hs
  · cases hs

set_option maxHeartbeats 4000000 in
theorem sx_invokespecial {n : Nat} (fo : FO p s m meth c mi) (sv : SV D cy s) (sh : SH L0 x0 s s.heap) (hd : dec mi pc = some (.invokespecial n, len, rz)) (hI : IV D cy L0 x0 s mi ad P I L ls st lsA H locs) {w : FR × MM} (hs : stp pc (.invokespecial n) len rz ls st P I L C = some (.inl w)) (hcR : cells + w.2.2.2.2.1 ≤ R.cells + C.1) (hsR : slots + w.2.2.2.2.2 ≤ R.slots + C.2) (hfR : 8 ≤ R.frames) (hlR : 128 ≤ R.locals)
    (k : KN p l e R s m args below meth c cells slots Q D cy L0 x0 mi ad P C w) : W p l e R s m args below meth c H locs cells slots Q (F0 m pc lsA (cv ad st)) := by
  obtain ⟨hdec, hck⟩ := dec_ok hd
  obtain ⟨hx, hb, hml, hrt, hown, hlocks, htab, hnm⟩ := fo
  have hts : ∀ w ∈ GT, w.before args s = true := fun w hw => sv.1 w hw args
  obtain ⟨hP, hD, hwf, hS, hlh, hlv, hsv, hx1, hx2, hx3⟩ := id hI
  simp only [stp] at hs
  simp only [ckR, Bool.and_eq_true, beq_iff_eq, decide_eq_true_eq] at hck
  obtain ⟨⟨rfl, hv0⟩, -⟩ := hck
  split at hs
  · split at hs
    · split at hs <;> cases hs
    · cases hs
  · rename_i pl
    split at hs
    · rename_i a0 st1
      split at hs
      · rename_i hc
        cases hs
        have hv := (List.forall_mem_cons.mp hsv).2
        obtain ⟨hlk, hk1, hk2⟩ := ckLk_inv hv0 (by simp)
        simp only [lkB, hk1, hk2, decide_eq_true_eq] at hlk
        refine W.objInit (g := F0 m pc lsA (cv ad (.ref a0 :: st1))) (rest := cv ad st1) (a := ad a0) hx hb hown (hts _ (mem_GT1 hlk rfl)) (hts _ (mem_GT1 (i := 27) (by decide +kernel) (by decide +kernel))) (hts _ (mem_GT1 (i := 28) (by decide +kernel) (by decide +kernel))) rfl (hlh.1.trans hml.symm) rfl hdec (by omega) ?_ (KN.pure k hI hv)
        rw [catS_cv]
        show 2 * 0 + catS st1 + 12 ≤ R.locals
        omega
      · cases hs
    · cases hs
  · cases hs

end SND2
end
section
/-! SOUND, fourth part: every step; the counters only grow -/
theorem brI_w {c : ClassFile.Cond} {x : Int32} {t f : SR} {w} (h : brI c x t f = some w) : t = some w ∨ f = some w := by
  unfold brI at h
  cases c <;> dsimp only at h <;> split at h <;> first | exact Or.inl h | exact Or.inr h
theorem brII_w {c : ClassFile.Cond} {x y : Int32} {t f : SR} {w} (h : brII c x y t f = some w) : t = some w ∨ f = some w := by
  unfold brII at h
  cases c <;> dsimp only at h <;> split at h <;> first | exact Or.inl h | exact Or.inr h
def ctr (C : MC) (w : FR × MM) : Prop := C.1 ≤ w.2.2.2.2.1 ∧ C.2 ≤ w.2.2.2.2.2
theorem ctr_s {pc pc0 : Nat} {ls ls0 st st0 : List Value} {P P0 : MP} {I I0 : MI} {L L0 : ML} {C : MC} {w : FR × MM} (h : sN pc ls st P I L C = some (.inl w)) : ctr C w := by
  cases h; exact ⟨Nat.le_refl _, Nat.le_refl _⟩
theorem ctr_m {pc : Nat} {ls st : List Value} {t len nf : Nat} {P : MP} {I : MI} {L : ML} {C : MC} {w : FR × MM} (h : mk pc ls st t len nf P I L C = some (.inl w)) : ctr C w := by
  cases h; exact ⟨Nat.le_succ _, Nat.le_add_right _ _⟩

section CTR
variable {pc : Nat} {ls st : List Value} {P : MP} {I : MI} {L : ML} {C : MC} {w : FR × MM}
theorem ctr_ldI {k : Nat} (h : ldI ls k pc st P I L C = some (.inl w)) : ctr C w := by
  obtain ⟨v, -, hw⟩ := ldI_inv h
  cases hw; exact ⟨Nat.le_refl _, Nat.le_refl _⟩
theorem ctr_ldA {k : Nat} (h : ldA ls k pc st P I L C = some (.inl w)) : ctr C w := by
  obtain ⟨v, -, hw⟩ := ldA_inv h
  cases hw; exact ⟨Nat.le_refl _, Nat.le_refl _⟩
theorem ctr_ldL {k : Nat} (h : ldL ls k pc st P I L C = some (.inl w)) : ctr C w := by
  obtain ⟨v, -, hw⟩ := ldL_inv h
  cases hw; exact ⟨Nat.le_refl _, Nat.le_refl _⟩
theorem ctr_ldD {k : Nat} (h : ldD ls k pc st P I L C = some (.inl w)) : ctr C w := by
  obtain ⟨v, -, hw⟩ := ldD_inv h
  cases hw; exact ⟨Nat.le_refl _, Nat.le_refl _⟩
theorem ctr_stI {k : Nat} (h : stI ls k pc st P I L C = some (.inl w)) : ctr C w := by
  obtain ⟨v, st1, -, hw⟩ := stI_inv h
  cases hw; exact ⟨Nat.le_refl _, Nat.le_refl _⟩
theorem ctr_stA {k : Nat} (h : stA ls k pc st P I L C = some (.inl w)) : ctr C w := by
  obtain ⟨v, st1, -, hw⟩ := stA_inv h
  cases hw; exact ⟨Nat.le_refl _, Nat.le_refl _⟩
theorem ctr_stL {k : Nat} (h : stL ls k pc st P I L C = some (.inl w)) : ctr C w := by
  obtain ⟨v, st1, -, hw⟩ := stL_inv h
  cases hw; exact ⟨Nat.le_refl _, Nat.le_refl _⟩
theorem ctr_stD {k : Nat} (h : stD ls k pc st P I L C = some (.inl w)) : ctr C w := by
  obtain ⟨v, st1, -, hw⟩ := stD_inv h
  cases hw; exact ⟨Nat.le_refl _, Nat.le_refl _⟩
theorem ctr_o1I {f : Int32 → Value} (h : o1I f pc ls st P I L C = some (.inl w)) : ctr C w := by
  obtain ⟨x, st1, -, hw⟩ := o1I_inv h
  cases hw; exact ⟨Nat.le_refl _, Nat.le_refl _⟩
theorem ctr_o2I {f : Int32 → Int32 → Int32} (h : o2I f pc ls st P I L C = some (.inl w)) : ctr C w := by
  obtain ⟨x, y, st1, -, hw⟩ := o2I_inv h
  cases hw; exact ⟨Nat.le_refl _, Nat.le_refl _⟩
theorem ctr_o2L {f : Int64 → Int64 → Int64} (h : o2L f pc ls st P I L C = some (.inl w)) : ctr C w := by
  obtain ⟨x, y, st1, -, hw⟩ := o2L_inv h
  cases hw; exact ⟨Nat.le_refl _, Nat.le_refl _⟩
end CTR
set_option maxHeartbeats 4000000 in
theorem stp_ctr {pc : Nat} {i : ClassFile.Instr} {len : Nat} {rz : List Nat} {ls st : List Value} {P : MP} {I : MI} {L : ML} {C : MC} {w : FR × MM} (h : stp pc i len rz ls st P I L C = some (.inl w)) : ctr C w := by
  cases i <;> simp only [stp] at h <;> (repeat' split at h) <;>
    first
    | exact ctr_ldI h
    | exact ctr_ldA h
    | exact ctr_ldL h
    | exact ctr_ldD h
    | exact ctr_stI h
    | exact ctr_stA h
    | exact ctr_stL h
    | exact ctr_stD h
    | exact ctr_o1I h
    | exact ctr_o2I h
    | exact ctr_o2L h
    | exact ctr_m h
    | exact ctr_s (pc0 := 0) (ls0 := []) (st0 := []) (P0 := P) (I0 := I) (L0 := L) h
    | (rcases brI_w h with h | h <;> exact ctr_s (pc0 := 0) (ls0 := []) (st0 := []) (P0 := P) (I0 := I) (L0 := L) h)
    | (rcases brII_w h with h | h <;> exact ctr_s (pc0 := 0) (ls0 := []) (st0 := []) (P0 := P) (I0 := I) (L0 := L) h)
    | cases h
theorem ex_ctr {f : Nat} : ∀ {d mi : Nat} {fr : FR} {M : MM} {r : RV × MM}, ex f d mi fr M = some r → M.2.2.2.1 ≤ r.2.2.2.2.1 ∧ M.2.2.2.2 ≤ r.2.2.2.2.2 := by
  induction f with
  | zero => intro d mi fr M r h; cases h
  | succ f ih =>
    intro d mi fr M r h
    rw [ex] at h
    split at h
    · cases h
    · split at h
      · cases h
      · rename_i hs
        have h1 := stp_ctr hs
        have h2 := ih h
        exact ⟨Nat.le_trans h1.1 h2.1, Nat.le_trans h1.2 h2.2⟩
      · cases h; exact ⟨Nat.le_refl _, Nat.le_refl _⟩
      · cases h; exact ⟨Nat.le_succ _, Nat.le_add_right _ _⟩
      · split at h
        · cases h
        · split at h
          · cases h
          · rename_i he
            have h1 := ih he
            have h2 := ih h
            exact ⟨Nat.le_trans h1.1 h2.1, Nat.le_trans h1.2 h2.2⟩
          · rename_i he
            have h1 := ih he
            split at h
            · cases h; exact h1
            · split at h
              · cases h
              · have h2 := ih h
                exact ⟨Nat.le_trans h1.1 h2.1, Nat.le_trans h1.2 h2.2⟩

set_option maxHeartbeats 4000000 in
theorem stp_n {pc : Nat} {i : ClassFile.Instr} {len : Nat} {rz : List Nat} {ls st : List Value} {P : MP} {I : MI} {L : ML} {C : MC} {w : FR × MM} (h : stp pc i len rz ls st P I L C = some (.inl w)) : P.2.2 ≤ w.2.1.2.2 := by
  cases i <;> simp only [stp] at h <;> (repeat' split at h) <;>
    first
    | (obtain ⟨v, -, hw⟩ := ldI_inv h; cases hw; exact Nat.le_refl _)
    | (obtain ⟨v, -, hw⟩ := ldA_inv h; cases hw; exact Nat.le_refl _)
    | (obtain ⟨v, -, hw⟩ := ldL_inv h; cases hw; exact Nat.le_refl _)
    | (obtain ⟨v, -, hw⟩ := ldD_inv h; cases hw; exact Nat.le_refl _)
    | (obtain ⟨v, st1, -, hw⟩ := stI_inv h; cases hw; exact Nat.le_refl _)
    | (obtain ⟨v, st1, -, hw⟩ := stA_inv h; cases hw; exact Nat.le_refl _)
    | (obtain ⟨v, st1, -, hw⟩ := stL_inv h; cases hw; exact Nat.le_refl _)
    | (obtain ⟨v, st1, -, hw⟩ := stD_inv h; cases hw; exact Nat.le_refl _)
    | (obtain ⟨x, st1, -, hw⟩ := o1I_inv h; cases hw; exact Nat.le_refl _)
    | (obtain ⟨x, y, st1, -, hw⟩ := o2I_inv h; cases hw; exact Nat.le_refl _)
    | (obtain ⟨x, y, st1, -, hw⟩ := o2L_inv h; cases hw; exact Nat.le_refl _)
    | (rcases brI_w h with h | h <;> (cases h; exact Nat.le_refl _))
    | (rcases brII_w h with h | h <;> (cases h; exact Nat.le_refl _))
    | (cases h; exact Nat.le_refl _)
    | (cases h; exact Nat.le_succ _)
    | cases h
theorem ex_n {f : Nat} : ∀ {d mi : Nat} {fr : FR} {M : MM} {r : RV × MM}, ex f d mi fr M = some r → M.1.2.2 ≤ r.2.1.2.2 := by
  induction f with
  | zero => intro d mi fr M r h; cases h
  | succ f ih =>
    intro d mi fr M r h
    rw [ex] at h
    split at h
    · cases h
    · split at h
      · cases h
      · rename_i hs
        exact Nat.le_trans (stp_n hs) (ih h)
      · cases h; exact Nat.le_refl _
      · cases h; exact Nat.le_refl _
      · split at h
        · cases h
        · split at h
          · cases h
          · rename_i he
            exact Nat.le_trans (ih he) (ih h)
          · rename_i he
            split at h
            · cases h; exact ih he
            · split at h
              · cases h
              · exact Nat.le_trans (ih he) (ih h)
theorem mem_grow {f d mi : Nat} {fr : FR} {P : MP} {I : MI} {L : ML} {C : MC} {v : RV} {M : MM} (h : ex f d mi fr (P, I, L, C) = some (v, M)) : P.2.2 ≤ M.1.2.2 := ex_n h

section SND3
variable {p : Program} {l : Launch} {e : Env} {R : Room} {s : State} {m : MethodId} {args : Array Value} {below : List Frame} {meth : Method} {c : Code} {H : Heap} {locs : List Loc} {cells slots : Nat} {Q : State → Prop}
variable {D : va_G} {cy : CY} {L0 : Nat} {x0 : XX} {mi : Nat} {ad : Nat → Nat} {P P' : MP} {I I' : MI} {L L' : ML} {C C' : MC} {ls ls' st st' : List Value} {lsA : Array Slot} {pc pc' : Nat} {i : ClassFile.Instr} {len : Nat} {rz : List Nat}

set_option maxHeartbeats 4000000 in
theorem sx_all (fo : FO p s m meth c mi) (sv : SV D cy s) (sh : SH L0 x0 s s.heap) (hd : dec mi pc = some (i, len, rz)) (hI : IV D cy L0 x0 s mi ad P I L ls st lsA H locs) {w : FR × MM} (hs : stp pc i len rz ls st P I L C = some (.inl w)) (hcR : cells + w.2.2.2.2.1 ≤ R.cells + C.1) (hsR : slots + w.2.2.2.2.2 ≤ R.slots + C.2) (hfR : 8 ≤ R.frames) (hlR : 128 ≤ R.locals)
    (k : KN p l e R s m args below meth c cells slots Q D cy L0 x0 mi ad P C w) : W p l e R s m args below meth c H locs cells slots Q (F0 m pc lsA (cv ad st)) := by
  cases i with
  | aload_n n => exact sx_aload_n fo sv sh hd hI hs hcR hsR hfR hlR k
  | iload_n n => exact sx_iload_n fo sv sh hd hI hs hcR hsR hfR hlR k
  | lload_n n => exact sx_lload_n fo sv sh hd hI hs hcR hsR hfR hlR k
  | dload_n n => exact sx_dload_n fo sv sh hd hI hs hcR hsR hfR hlR k
  | aload n => exact sx_aload fo sv sh hd hI hs hcR hsR hfR hlR k
  | iload n => exact sx_iload fo sv sh hd hI hs hcR hsR hfR hlR k
  | lload n => exact sx_lload fo sv sh hd hI hs hcR hsR hfR hlR k
  | dload n => exact sx_dload fo sv sh hd hI hs hcR hsR hfR hlR k
  | istore_n n => exact sx_istore_n fo sv sh hd hI hs hcR hsR hfR hlR k
  | astore_n n => exact sx_astore_n fo sv sh hd hI hs hcR hsR hfR hlR k
  | lstore_n n => exact sx_lstore_n fo sv sh hd hI hs hcR hsR hfR hlR k
  | dstore_n n => exact sx_dstore_n fo sv sh hd hI hs hcR hsR hfR hlR k
  | istore n => exact sx_istore fo sv sh hd hI hs hcR hsR hfR hlR k
  | astore n => exact sx_astore fo sv sh hd hI hs hcR hsR hfR hlR k
  | lstore n => exact sx_lstore fo sv sh hd hI hs hcR hsR hfR hlR k
  | dstore n => exact sx_dstore fo sv sh hd hI hs hcR hsR hfR hlR k
  | iinc n z => exact sx_iinc fo sv sh hd hI hs hcR hsR hfR hlR k
  | iconst n => exact sx_iconst fo sv sh hd hI hs hcR hsR hfR hlR k
  | bipush n => exact sx_bipush fo sv sh hd hI hs hcR hsR hfR hlR k
  | sipush n => exact sx_sipush fo sv sh hd hI hs hcR hsR hfR hlR k
  | lconst n => exact sx_lconst fo sv sh hd hI hs hcR hsR hfR hlR k
  | dconst n => exact sx_dconst fo sv sh hd hI hs hcR hsR hfR hlR k
  | aconst_null  => exact sx_aconst_null fo sv sh hd hI hs hcR hsR hfR hlR k
  | ldc n => exact sx_ldc fo sv sh hd hI hs hcR hsR hfR hlR k
  | ldc_w n => exact sx_ldc_w fo sv sh hd hI hs hcR hsR hfR hlR k
  | ldc2_w n => exact sx_ldc2_w fo sv sh hd hI hs hcR hsR hfR hlR k
  | dup  => exact sx_dup fo sv sh hd hI hs hcR hsR hfR hlR k
  | dup2  => exact sx_dup2 fo sv sh hd hI hs hcR hsR hfR hlR k
  | pop  => exact sx_pop fo sv sh hd hI hs hcR hsR hfR hlR k
  | iadd  => exact sx_iadd fo sv sh hd hI hs hcR hsR hfR hlR k
  | isub  => exact sx_isub fo sv sh hd hI hs hcR hsR hfR hlR k
  | imul  => exact sx_imul fo sv sh hd hI hs hcR hsR hfR hlR k
  | iand  => exact sx_iand fo sv sh hd hI hs hcR hsR hfR hlR k
  | ior  => exact sx_ior fo sv sh hd hI hs hcR hsR hfR hlR k
  | ixor  => exact sx_ixor fo sv sh hd hI hs hcR hsR hfR hlR k
  | ishl  => exact sx_ishl fo sv sh hd hI hs hcR hsR hfR hlR k
  | ishr  => exact sx_ishr fo sv sh hd hI hs hcR hsR hfR hlR k
  | iushr  => exact sx_iushr fo sv sh hd hI hs hcR hsR hfR hlR k
  | idiv  => exact sx_idiv fo sv sh hd hI hs hcR hsR hfR hlR k
  | irem  => exact sx_irem fo sv sh hd hI hs hcR hsR hfR hlR k
  | ldiv  => exact sx_ldiv fo sv sh hd hI hs hcR hsR hfR hlR k
  | lrem  => exact sx_lrem fo sv sh hd hI hs hcR hsR hfR hlR k
  | i2l  => exact sx_i2l fo sv sh hd hI hs hcR hsR hfR hlR k
  | i2b  => exact sx_i2b fo sv sh hd hI hs hcR hsR hfR hlR k
  | i2d  => exact sx_i2d fo sv sh hd hI hs hcR hsR hfR hlR k
  | l2i  => exact sx_l2i fo sv sh hd hI hs hcR hsR hfR hlR k
  | ladd  => exact sx_ladd fo sv sh hd hI hs hcR hsR hfR hlR k
  | lmul  => exact sx_lmul fo sv sh hd hI hs hcR hsR hfR hlR k
  | lcmp  => exact sx_lcmp fo sv sh hd hI hs hcR hsR hfR hlR k
  | dcmp op => exact sx_dcmp fo sv sh hd hI hs hcR hsR hfR hlR k
  | ddiv  => exact sx_ddiv fo sv sh hd hI hs hcR hsR hfR hlR k
  | goto z => exact sx_goto fo sv sh hd hI hs hcR hsR hfR hlR k
  | ifnull z => exact sx_ifnull fo sv sh hd hI hs hcR hsR hfR hlR k
  | ifnonnull z => exact sx_ifnonnull fo sv sh hd hI hs hcR hsR hfR hlR k
  | tableswitch a b d e2 => exact sx_tableswitch fo sv sh hd hI hs hcR hsR hfR hlR k
  | lookupswitch a b => exact sx_lookupswitch fo sv sh hd hI hs hcR hsR hfR hlR k
  | getfield n => exact sx_getfield fo sv sh hd hI hs hcR hsR hfR hlR k
  | putfield n => exact sx_putfield fo sv sh hd hI hs hcR hsR hfR hlR k
  | arraylength  => exact sx_arraylength fo sv sh hd hI hs hcR hsR hfR hlR k
  | iaload  => exact sx_iaload fo sv sh hd hI hs hcR hsR hfR hlR k
  | baload  => exact sx_baload fo sv sh hd hI hs hcR hsR hfR hlR k
  | laload  => exact sx_laload fo sv sh hd hI hs hcR hsR hfR hlR k
  | aaload  => exact sx_aaload fo sv sh hd hI hs hcR hsR hfR hlR k
  | iastore  => exact sx_iastore fo sv sh hd hI hs hcR hsR hfR hlR k
  | bastore  => exact sx_bastore fo sv sh hd hI hs hcR hsR hfR hlR k
  | lastore  => exact sx_lastore fo sv sh hd hI hs hcR hsR hfR hlR k
  | aastore  => exact sx_aastore fo sv sh hd hI hs hcR hsR hfR hlR k
  | new n => exact sx_new fo sv sh hd hI hs hcR hsR hfR hlR k
  | anewarray n => exact sx_anewarray fo sv sh hd hI hs hcR hsR hfR hlR k
  | invokestatic n => exact sx_invokestatic fo sv sh hd hI hs hcR hsR hfR hlR k
  | invokespecial n => exact sx_invokespecial fo sv sh hd hI hs hcR hsR hfR hlR k
  | ifCond cd z =>
    cases cd with
    | eq => exact sx_if_eq fo sv sh hd hI hs hcR hsR hfR hlR k
    | ne => exact sx_if_ne fo sv sh hd hI hs hcR hsR hfR hlR k
    | lt => exact sx_if_lt fo sv sh hd hI hs hcR hsR hfR hlR k
    | ge => exact sx_if_ge fo sv sh hd hI hs hcR hsR hfR hlR k
    | gt => exact sx_if_gt fo sv sh hd hI hs hcR hsR hfR hlR k
    | le => exact sx_if_le fo sv sh hd hI hs hcR hsR hfR hlR k
  | if_icmp cd z =>
    cases cd with
    | eq => exact sx_icmp_eq fo sv sh hd hI hs hcR hsR hfR hlR k
    | ne => exact sx_icmp_ne fo sv sh hd hI hs hcR hsR hfR hlR k
    | lt => exact sx_icmp_lt fo sv sh hd hI hs hcR hsR hfR hlR k
    | ge => exact sx_icmp_ge fo sv sh hd hI hs hcR hsR hfR hlR k
    | gt => exact sx_icmp_gt fo sv sh hd hI hs hcR hsR hfR hlR k
    | le => exact sx_icmp_le fo sv sh hd hI hs hcR hsR hfR hlR k
  | newarray t =>
    cases t with
    | int => exact sx_newarray_int fo sv sh hd hI hs hcR hsR hfR hlR k
    | long => exact sx_newarray_long fo sv sh hd hI hs hcR hsR hfR hlR k
    | byte => exact sx_newarray_byte fo sv sh hd hI hs hcR hsR hfR hlR k
    | _ => simp only [stp] at hs; (repeat' split at hs) <;> cases hs
  | _ => simp only [stp] at hs; (repeat' split at hs) <;> cases hs
end SND3
end
section
/-! SOUND, fifth part: contracts out of the abstract interpreter -/
abbrev AL (L0 : Nat) : Nat → Prop := fun q => L0 ≤ q
/-- the memory lies in the heap -/
def WD (D : va_G) (cy : CY) (L0 : Nat) (x0 : XX) (ad : Nat → Nat) (M : MM) (H : Heap) : Prop :=
  va_P D vwCl (wl cy ad M.1 M.2.1 M.2.2.1) H ∧ va_D (AL L0) (wl cy ad M.1 M.2.1 M.2.2.1) ∧ wf M.1 ∧ M.1.1 0 = (30, x0.2.1) ∧ ad 0 = x0.1 ∧ M.2.1 0 = x0.2.2
theorem WD.kept {D : va_G} {cy : CY} {L0 : Nat} {x0 : XX} {ad : Nat → Nat} {M : MM} {H H1 : Heap} (h : WD D cy L0 x0 ad M H) (hq : ∀ q : Nat, q < H.size → H1[q]? = H[q]?) : WD D cy L0 x0 ad M H1 :=
  ⟨h.1.kept (fun k q hk => hq q.1 (h.1 k q hk).lt), h.2⟩
/-- how a method ends: with the interpreter's answer and memory -/
def QC (D : va_G) (cy : CY) (L0 : Nat) (x0 : XX) (adE : Nat → Nat) (mE : Nat) (r : RV × MM) : Array Value → State → Outcome → State → Prop := fun _ st oc t =>
  ∃ (v : Option Value) (ad1 : Nat → Nat), r.1 = .inl v ∧ (∀ k, k ≤ mE → ad1 k = adE k) ∧ oc = .returned (v.map (conc ad1)) ∧ WD D cy L0 x0 ad1 r.2 t.heap ∧ (∀ z, v = some z → vk r.2.1 z) ∧ va_F (AL L0) st t
def XC (D : va_G) (cy : CY) (L0 : Nat) (x0 : XX) (adE : Nat → Nat) (mE : Nat) (r : RV × MM) : String → State → State → Prop := fun E st t =>
  ∃ (e : Nat) (ad1 : Nat → Nat), r.1 = .inr e ∧ e < 3 ∧ E = xcN e ∧ (∀ k, k ≤ mE → ad1 k = adE k) ∧ WD D cy L0 x0 ad1 r.2 t.heap ∧ va_F (AL L0) st t
def cword (mi : Nat) : Cond := match (mG mi).2.2.2.2 with
  | [] => .code (mG mi).1 (mG mi).2.1 (mL mi) (mG mi).2.2.2.1
  | hh => .codeWith (mG mi).1 (mG mi).2.1 (mL mi) (mG mi).2.2.2.1 hh
theorem mw_spec {mi : Nat} (h : mwB mi = true) : cword mi ∈ GT ∧ (Cond.initialized (mG mi).1.cls) ∈ GT ∧ (mG mi).1.cls = cn (mO mi) ∧ plainFor (mG mi).1 = true ∧ (mG mi).2.2.1 = mL mi := by
  unfold mwB at h
  split at h
  · rename_i p1 p2 p3 p4 hm
    simp only [Bool.and_eq_true, decide_eq_true_eq] at h
    obtain ⟨⟨⟨⟨h1, h2⟩, h3⟩, h4⟩, h5⟩ := h
    refine ⟨?_, mem_GT1 h2 rfl, h3, h4, h5⟩
    unfold cword
    split at h1
    · rename_i hh
      rw [hh]
      exact mem_GT1 (of_decide_eq_true h1) rfl
    · rename_i hh hne
      have := of_decide_eq_true h1
      split
      · rename_i q; exact absurd q hne
      · exact mem_GT1 this rfl
  · cases h
theorem cword_spec {mi : Nat} {args : Array Value} {s : State} (h : (cword mi).before args s = true) : ∃ (mk : MethodId) (meth : Method) (c : Code), s.methodNamed? (mG mi).1 = some mk ∧ s.vm.method? mk = some meth ∧ meth.code = some c ∧ c.code = (mG mi).2.1 ∧ c.maxLocals = mL mi ∧ meth.sig.returnType = (mG mi).2.2.2.1 ∧ meth.locks = false ∧ c.exceptionTable.toList = tableOf (mG mi).2.2.2.2 ∧ parseMethodDescriptor (mG mi).1.desc = some meth.sig := by
  unfold cword at h
  split at h
  · rename_i hh
    obtain ⟨mk, hn⟩ := Cond.code_named h
    obtain ⟨meth, c, h1, h2, h3, h4, h5, h6, h7, h8⟩ := Cond.code_spec hn h
    refine ⟨mk, meth, c, hn, h1, h2, h3, h4, h5, h6, ?_, h8⟩
    rw [hh, Array.isEmpty_iff.mp h7]; rfl
  · obtain ⟨m9, meth9, c9, hn9, h1, h2, h3, h4, h6, h7, h8, h9⟩ := Cond.codeWith_spec h
    refine ⟨m9, meth9, c9, hn9, h1, h2, h3, h4, h7, h8, ?_, h9⟩
    rw [← h6, table_eq]
theorem cword_good (mi : Nat) : goodWord (cword mi) = true := by
  unfold cword
  split <;> rfl
/-- the locals at a method's entry -/
theorem lay_args (ad : Nat → Nat) : ∀ (as : List Value) (off i : Nat) (v : Value), gl (lay as) i = some v → (∀ a, v ≠ .retAddr a) → (off + i, conc ad v) ∈ lv_args off (cv ad as) := by
  intro as
  induction as with
  | nil => intro off i v h; cases i <;> cases h
  | cons a r ih =>
    intro off i v h hu
    unfold lay at h
    show (off + i, conc ad v) ∈ (off, conc ad a) :: lv_args (if (conc ad a).category = 2 then off + 2 else off + 1) (cv ad r)
    rw [conc_cat]
    split at h
    · rename_i hc
      rw [if_pos hc]
      match i, h with
      | 0, h => cases h; exact List.mem_cons_self
      | 1, h => cases h; exact absurd rfl (hu 0)
      | n + 2, h => exact List.mem_cons_of_mem _ (by rw [show off + (n + 2) = off + 2 + n by omega]; exact ih _ n v h hu)
    · rename_i hc
      rw [if_neg hc]
      match i, h with
      | 0, h => cases h; exact List.mem_cons_self
      | n + 1, h => exact List.mem_cons_of_mem _ (by rw [show off + (n + 1) = off + 1 + n by omega]; exact ih _ n v h hu)
theorem lay_len (ad : Nat → Nat) : ∀ as : List Value, (lay as).length = (lg_sl (cv ad as)).length := by
  intro as
  induction as with
  | nil => rfl
  | cons a r ih =>
    unfold lay lg_sl
    show _ = ((conc ad a :: cv ad r).flatMap fun v => if v.category = 2 then [Slot.val v, .second] else [.val v]).length
    rw [List.flatMap_cons, List.length_append, conc_cat]
    have e : (List.flatMap (fun v => if v.category = 2 then [Slot.val v, Slot.second] else [Slot.val v]) (cv ad r)).length = (lay r).length := ih.symm
    rw [e]
    split
    · simp only [List.length_cons, List.length_nil]; omega
    · simp only [List.length_cons, List.length_nil]; omega
theorem gl_app_r : ∀ (a b : List Value) (i : Nat), a.length ≤ i → gl (a ++ b) i = gl b (i - a.length) := by
  intro a b i h
  rw [gl_eq, gl_eq, List.getElem?_append_right h]
theorem ent_lh {mj : Nat} {ad : Nat → Nat} {as : List Value} (h : ¬ mL mj < (lay as).length) : lh ((lg_sl (cv ad as) ++ List.replicate (mL mj - (lg_sl (cv ad as)).length) Slot.unset).toArray) (mL mj) ad (ent mj as) := by
  have hle : (lg_sl (cv ad as)).length ≤ mL mj := by rw [← lay_len]; omega
  have hv := lv_entry (cv ad as) hle
  refine ⟨hv.1, hv.2.1, ?_, fun i v hg hu => ?_⟩
  · unfold ent
    rw [List.length_append, List.length_replicate]; omega
  · unfold ent at hg
    by_cases hi : i < (lay as).length
    · rw [gl_eq, List.getElem?_append_left hi, ← gl_eq] at hg
      have := lay_args ad as 0 i v hg hu
      rw [Nat.zero_add] at this
      exact hv.2.2 _ this
    · rw [gl_app_r _ _ _ (by omega), gl_eq] at hg
      have := List.eq_of_mem_replicate (List.mem_of_getElem? hg)
      exact absurd this (hu 0)
theorem ent_vk {P : MP} {mj : Nat} {as : List Value} (h : ∀ v ∈ as, vk P v) : ∀ v ∈ ent mj as, vk P v := by
  have hl : ∀ as : List Value, (∀ v ∈ as, vk P v) → ∀ v ∈ lay as, vk P v := by
    intro as
    induction as with
    | nil => intro _ v hv; cases hv
    | cons a r ih =>
      intro h v hv
      have h2 := List.forall_mem_cons.mp h
      unfold lay at hv
      split at hv
      · rcases List.mem_cons.mp hv with rfl | hv
        · exact h2.1
        · rcases List.mem_cons.mp hv with rfl | hv
          · exact vk_u P
          · exact ih h2.2 v hv
      · rcases List.mem_cons.mp hv with rfl | hv
        · exact h2.1
        · exact ih h2.2 v hv
  intro v hv
  unfold ent at hv
  rcases List.mem_append.mp hv with hv | hv
  · exact hl as h v hv
  · rw [List.eq_of_mem_replicate hv]; exact vk_u P
/-- the words of a method: its code -/
def RMd (d mc ms : Nat) : Room := { frames := d + 8, cells := mc, slots := ms, locals := 64 * d + 128 }
/-- what is claimed of f steps -/
def SNDP (l : Launch) (f : Nat) : Prop := ∀ (d mi pc : Nat) (ls st : List Value) (P : MP) (I : MI) (L : ML) (C : MC) (r : RV × MM), ex f d mi (pc, ls, st) (P, I, L, C) = some r → mi < 227 →
  ∀ {p : Program} {e : Env} {R : Room} {s : State} {m : MethodId} {args : Array Value} {below : List Frame} {meth : Method} {c : Code} {H : Heap} {locs : List Loc} {cells slots : Nat} {D : va_G} {cy : CY} {L0 : Nat} {x0 : XX} {ad adE : Nat → Nat} {lsA : Array Slot} {mE mc ms : Nat},
    FO p s m meth c mi → SV D cy s → SH L0 x0 s s.heap → IV D cy L0 x0 s mi ad P I L ls st lsA H locs → (∀ k, k ≤ mE → ad k = adE k) → mE ≤ P.2.2 → cells + r.2.2.2.2.1 ≤ mc + C.1 → slots + r.2.2.2.2.2 ≤ ms + C.2 → mc ≤ R.cells → ms ≤ R.slots → d + 8 ≤ R.frames → 64 * d + 128 ≤ R.locals →
    W p l e R s m args below meth c H locs cells slots (vx_MQ below (QC D cy L0 x0 adE mE r) (XC D cy L0 x0 adE mE r) args s mc ms (AL L0)) (F0 m pc lsA (cv ad st))
def PCm (D : va_G) (cy : CY) (L0 : Nat) (x0 : XX) (ad : Nat → Nat) (M : MM) : State → Prop := fun U => SV D cy U ∧ SH L0 x0 U U.heap ∧ WD D cy L0 x0 ad M U.heap
theorem met_of {l : Launch} {f d mj : Nat} (ih : SNDP l f) {as : List Value} {M : MM} {z : RV × MM} (he : ex f d mj (0, ent mj as, []) M = some z) (hlen : ¬ mL mj < (lay as).length) (hmj : mj < 226) (hw : mwB mj = true) (D : va_G) (cy : CY) (L0 : Nat) (x0 : XX) (ad : Nat → Nat) (has : ∀ v ∈ as, vk M.1 v) :
    vx_Met l (mG mj).1 [cword mj] (RMd d (z.2.2.2.2.1 - M.2.2.2.1) (z.2.2.2.2.2 - M.2.2.2.2)) (va_Pc (cv ad as) (PCm D cy L0 x0 ad M)) (QC D cy L0 x0 ad M.1.2.2 z) (XC D cy L0 x0 ad M.1.2.2 z) (z.2.2.2.2.1 - M.2.2.2.1) (z.2.2.2.2.2 - M.2.2.2.2) (AL L0) := by
  obtain ⟨w1, w2, w3, w4, w5⟩ := mw_spec hw
  refine MetFree.of_bodySF (code := (mG mj).2.1) (maxLocals := mL mj) (ret := (mG mj).2.2.2.1) w4 ?_ ?_
  · intro args s m h hn
    obtain ⟨mk, meth, c, hn', h1, h2, h3, h4, h5, h6, -, -⟩ := cword_spec (atoms_spec (ws := [cword mj]) h _ List.mem_cons_self)
    cases hn.symm.trans hn'
    exact ⟨meth, c, h1, h2, h3, h4, h5, h6⟩
  · intro p e s m args below meth c s₁ B hml hP _
    obtain ⟨rfl, hsv, hsh, hwd⟩ := hP
    have hh0 : s₁.heap = s.heap := by rw [B.state]; rfl
    have hown : s.vm.findClass (cn (mO mj)) = some m.cls := w3 ▸ findClass_of_methodNamed B.named
    have ht : c.exceptionTable.toList = tableOf (mG mj).2.2.2.2 := by
      obtain ⟨mk, meth9, c9, hn9, h1, h2, -, -, -, -, h8, -⟩ := cword_spec (atoms_spec (ws := [cword mj]) B.pre _ List.mem_cons_self)
      cases Option.some.inj (hn9.symm.trans B.named)
      cases Option.some.inj (h1.symm.trans B.method)
      cases Option.some.inj (h2.symm.trans (Stand.of_body B).code)
      exact h8
    have hnm : meth.name = (mG mj).1.name := (name_of_methodNamed B.named B.method).1
    have hc := ex_ctr he
    have K : W p l e (RMd d (z.2.2.2.2.1 - M.2.2.2.1) (z.2.2.2.2.2 - M.2.2.2.2)) s m (cv ad as).toArray below meth c s.heap [] 0 0 (vx_MQ below (QC D cy L0 x0 ad M.1.2.2 z) (XC D cy L0 x0 ad M.1.2.2 z) (cv ad as).toArray s (z.2.2.2.2.1 - M.2.2.2.1) (z.2.2.2.2.2 - M.2.2.2.2) (AL L0)) (entryFrame m (cv ad as).toArray (mL mj)) := by
      rw [lg_entry_eq]
      refine ih d mj 0 (ent mj as) [] M.1 M.2.1 M.2.2.1 M.2.2.2 z he (by omega) ⟨B.exec, B.bytes, hml, B.returns, hown, B.notSynchronized, ht, hnm⟩ hsv hsh ⟨hwd.1, hwd.2.1, hwd.2.2.1, va_S.rf, ent_lh hlen, ent_vk has, fun v h => (nomatch h), hwd.2.2.2.1, hwd.2.2.2.2.1, hwd.2.2.2.2.2⟩ (fun _ _ => rfl) (Nat.le_refl _) (by omega) (by omega) (Nat.le_refl _) (Nat.le_refl _) (Nat.le_refl _) (Nat.le_refl _)
    obtain ⟨t, a1, o, b1, b2, b3⟩ := K s₁ hh0 (Stand.of_body B)
    exact ⟨t, o, a1, b1, b2, b3⟩
end
section
/-! SOUND, sixth part: ends, calls, throws; the whole -/
section NOS
variable {pc pc2 : Nat} {ls ls2 st st2 : List Value} {P P2 : MP} {I I2 : MI} {L L2 : ML} {C C2 : MC} {v : Option Value ⊕ ((Nat × List Value × List Value) ⊕ Nat)}
theorem ldI_no {k : Nat} (h : ldI ls k pc st P I L C = some (.inr v)) : False := by
  obtain ⟨_, _, hw⟩ := ldI_inv h
  cases hw
theorem ldA_no {k : Nat} (h : ldA ls k pc st P I L C = some (.inr v)) : False := by
  obtain ⟨_, _, hw⟩ := ldA_inv h
  cases hw
theorem ldL_no {k : Nat} (h : ldL ls k pc st P I L C = some (.inr v)) : False := by
  obtain ⟨_, _, hw⟩ := ldL_inv h
  cases hw
theorem ldD_no {k : Nat} (h : ldD ls k pc st P I L C = some (.inr v)) : False := by
  obtain ⟨_, _, hw⟩ := ldD_inv h
  cases hw
theorem stI_no {k : Nat} (h : stI ls k pc st P I L C = some (.inr v)) : False := by
  obtain ⟨_, _, _, hw⟩ := stI_inv h
  cases hw
theorem stA_no {k : Nat} (h : stA ls k pc st P I L C = some (.inr v)) : False := by
  obtain ⟨_, _, _, hw⟩ := stA_inv h
  cases hw
theorem stL_no {k : Nat} (h : stL ls k pc st P I L C = some (.inr v)) : False := by
  obtain ⟨_, _, _, hw⟩ := stL_inv h
  cases hw
theorem stD_no {k : Nat} (h : stD ls k pc st P I L C = some (.inr v)) : False := by
  obtain ⟨_, _, _, hw⟩ := stD_inv h
  cases hw
theorem o1I_no {f : Int32 → Value} (h : o1I f pc ls st P I L C = some (.inr v)) : False := by
  obtain ⟨_, _, _, hw⟩ := o1I_inv h
  cases hw
theorem o2I_no {f : Int32 → Int32 → Int32} (h : o2I f pc ls st P I L C = some (.inr v)) : False := by
  obtain ⟨_, _, _, _, hw⟩ := o2I_inv h
  cases hw
theorem o2L_no {f : Int64 → Int64 → Int64} (h : o2L f pc ls st P I L C = some (.inr v)) : False := by
  obtain ⟨_, _, _, _, hw⟩ := o2L_inv h
  cases hw
theorem sN_no (h : sN pc ls st P I L C = some (.inr v)) : False := by cases h
theorem brI_no {c : ClassFile.Cond} {x : Int32} (h : brI c x (sN pc ls st P I L C) (sN pc2 ls2 st2 P2 I2 L2 C2) = some (.inr v)) : False := by
  rcases brI_w h with h | h
  · exact sN_no h
  · exact sN_no h
theorem brII_no {c : ClassFile.Cond} {x y : Int32} (h : brII c x y (sN pc ls st P I L C) (sN pc2 ls2 st2 P2 I2 L2 C2) = some (.inr v)) : False := by
  rcases brII_w h with h | h
  · exact sN_no h
  · exact sN_no h
end NOS
section SND5
variable {p : Program} {l : Launch} {e : Env} {R : Room} {s : State} {m : MethodId} {args : Array Value} {below : List Frame} {meth : Method} {c : Code} {H : Heap} {locs : List Loc} {cells slots : Nat} {Q : State → Prop}
variable {D : va_G} {cy : CY} {L0 : Nat} {x0 : XX} {mi : Nat} {ad adE : Nat → Nat} {P P' : MP} {I I' : MI} {L L' : ML} {C C' : MC} {ls ls' st st' : List Value} {lsA : Array Slot} {pc pc' mE mc ms : Nat} {i : ClassFile.Instr} {len : Nat} {rz : List Nat}
theorem narrow_z {v : Int32} (h : v &&& 1 = v) : narrow .boolean (.int v) = .int v := by
  unfold narrow
  first | (rw [h]; done) | simp [h]
set_option maxHeartbeats 4000000 in
theorem sx_ret (fo : FO p s m meth c mi) (sv : SV D cy s) (sh : SH L0 x0 s s.heap) (hd : dec mi pc = some (i, len, rz)) (hI : IV D cy L0 x0 s mi ad P I L ls st lsA H locs) {v : Option Value} (hs : stp pc i len rz ls st P I L C = some (.inr (.inl v))) (hext : ∀ k, k ≤ mE → ad k = adE k) (h1 : cells ≤ mc) (h2 : slots ≤ ms) :
    W p l e R s m args below meth c H locs cells slots (vx_MQ below (QC D cy L0 x0 adE mE (.inl v, (P, I, L, C))) (XC D cy L0 x0 adE mE (.inl v, (P, I, L, C))) args s mc ms (AL L0)) (F0 m pc lsA (cv ad st)) := by
  obtain ⟨hdec, hck⟩ := dec_ok hd
  obtain ⟨hx, hb, hml, hrt, hown, hlocks, htab, hnm⟩ := fo
  obtain ⟨hP, hD, hwf, hS, hlh, hlv, hsv, hx1, hx2, hx3⟩ := id hI
  have hwd : WD D cy L0 x0 ad (P, I, L, C) H := ⟨hP, hD, hwf, hx1, hx2, hx3⟩
  have hq : ∀ (w : Option Value), v = w → (∀ z, w = some z → vk P z) → ∀ t : State, t.heap = H → s.WarmedH t.vm → QC D cy L0 x0 adE mE (.inl v, (P, I, L, C)) args s (.returned (w.map (conc ad))) t := by
    rintro w rfl hz t ht -
    exact ⟨v, ad, rfl, hext, rfl, by rw [ht]; exact hwd, hz, hS.F ht⟩
  refine vx_ret (W.widen h1 h2 ?_)
  cases i
  case ireturn =>
    simp only [stp] at hs
    simp only [ckR, Bool.and_eq_true, beq_iff_eq] at hck
    obtain ⟨rfl, hck⟩ := hck
    split at hs
    · rename_i v0
      cases hs
      exact W.iret (v := v0) hx hb (hrt.trans (of_decide_eq_true hck)) (hq (some (.int v0)) rfl (fun z hz => by cases hz; exact vk_i P _)) hS.2.2 hdec hlocks
    · split at hs
      · rename_i v0 hz0
        cases hs
        exact W.zret (v := v0) hx hb (hrt.trans (of_decide_eq_true hck)) (narrow_z hz0) (hq (some (.int v0)) rfl (fun z hz => by cases hz; exact vk_i P _)) hS.2.2 hdec hlocks
      · cases hs
    · cases hs
  case lreturn =>
    simp only [stp] at hs
    simp only [ckR, Bool.and_eq_true, beq_iff_eq] at hck
    obtain ⟨rfl, hck⟩ := hck
    split at hs
    · rename_i v0
      cases hs
      exact W.lret (v := v0) hx hb (hrt.trans (of_decide_eq_true hck)) (hq (some (.long v0)) rfl (fun z hz => by cases hz; exact vk_l P _)) hS.2.2 hdec hlocks
    · cases hs
  case dreturn =>
    simp only [stp] at hs
    simp only [ckR, Bool.and_eq_true, beq_iff_eq] at hck
    obtain ⟨rfl, hck⟩ := hck
    split at hs
    · rename_i v0
      cases hs
      exact W.dret (v := v0) hx hb (hrt.trans (of_decide_eq_true hck)) (hq (some (.double v0)) rfl (fun z hz => by cases hz; exact vk_d P _)) hS.2.2 hdec hlocks
    · cases hs
  case areturn =>
    simp only [stp] at hs
    simp only [ckR, Bool.and_eq_true, beq_iff_eq] at hck
    obtain ⟨rfl, hck⟩ := hck
    split at hs
    · rename_i v0
      cases hs
      have hr2 : ∃ n, (mG mi).2.2.2.1 = some (.object n) := by
        revert hck
        split
        · rename_i n hn; intro _; exact ⟨n, hn⟩
        · intro h; cases h
      obtain ⟨n, hn⟩ := hr2
      exact W.aret (v := .ref (ad v0)) hx hb (hrt.trans hn) (Or.inl ⟨n, rfl⟩) (Or.inr ⟨_, rfl⟩) (hq (some (.ref v0)) rfl (fun z hz => by cases hz; exact hsv _ List.mem_cons_self)) hS.2.2 hdec hlocks
    · cases hs
  case return_ =>
    simp only [stp] at hs
    simp only [ckR, Bool.and_eq_true, beq_iff_eq] at hck
    obtain ⟨rfl, hck⟩ := hck
    split at hs
    · cases hs
      exact W.vret hx hb (hrt.trans (of_decide_eq_true hck)) (hq none rfl (fun z hz => by cases hz)) hS.2.2 hdec hlocks
    · cases hs
  all_goals
    exfalso
    simp only [stp] at hs
    (repeat' split at hs) <;>
      first
      | cases hs
      | exact ldI_no hs
      | exact ldA_no hs
      | exact ldL_no hs
      | exact ldD_no hs
      | exact stI_no hs
      | exact stA_no hs
      | exact stL_no hs
      | exact stD_no hs
      | exact o1I_no hs
      | exact o2I_no hs
      | exact o2L_no hs
      | exact brI_no hs
      | exact brII_no hs
end SND5
/-- a call instruction, its callee's contract at hand: it runs -/
theorem pops_inv : ∀ {ps : List Nat} {st acc as st' : List Value}, pops ps st acc = some (as, st') → ∃ vs, st = vs ++ st' ∧ as = vs.reverse ++ acc ∧ vs.length = ps.length := by
  intro ps
  induction ps with
  | nil => intro st acc as st' h; cases h; exact ⟨[], rfl, rfl, rfl⟩
  | cons q ps ih =>
    intro st acc as st' h
    cases st with
    | nil => cases h
    | cons v st =>
      obtain ⟨vs, h1, h2, h3⟩ := ih (show pops ps st (v :: acc) = some (as, st') from h)
      refine ⟨v :: vs, by rw [h1]; rfl, by rw [h2]; simp, by simp [h3]⟩
theorem cn_ne (k : Nat) : cn k ≠ "java/lang/invoke/MethodHandle" ∧ cn k ≠ "java/lang/invoke/VarHandle" := by
  unfold cn
  split <;> exact ⟨by decide +kernel, by decide +kernel⟩
theorem mL_le : ∀ mj, mj < 226 → mL mj ≤ 40 := by
  have h : (List.range 226).all (fun mj => decide (mL mj ≤ 40)) = true := by decide +kernel
  intro mj hmj
  exact of_decide_eq_true (List.all_eq_true.mp h mj (List.mem_range.mpr hmj))
/-- methods with handlers are the law's own, called by name -/
theorem hh_law : ∀ mj, mj < 226 → (mG mj).2.2.2.2 ≠ [] → mO mj = 14 ∧ ∀ q ∈ (mG mj).2.2.2.2, q.2.2.2 = 15 ∨ q.2.2.2 = 18 ∨ q.2.2.2 = 25 := by
  have h : (List.range 226).all (fun mj => (mG mj).2.2.2.2.isEmpty || (mO mj == 14 && (mG mj).2.2.2.2.all (fun q => q.2.2.2 == 15 || q.2.2.2 == 18 || q.2.2.2 == 25))) = true := by decide +kernel
  intro mj hmj hne
  have h1 := List.all_eq_true.mp h mj (List.mem_range.mpr hmj)
  rw [Bool.or_eq_true] at h1
  rcases h1 with h1 | h1
  · exact absurd (List.isEmpty_iff.mp h1) hne
  · simp only [Bool.and_eq_true, beq_iff_eq, List.all_eq_true, Bool.or_eq_true] at h1
    exact ⟨h1.1, fun q hq => by rcases h1.2 q hq with (z | z) | z; exact Or.inl z; exact Or.inr (Or.inl z); exact Or.inr (Or.inr z)⟩
/-- the links to methods with handlers are plain static ones -/
theorem hh_lnk : ∀ q ∈ lkT, ∀ mj knd ci nest pl ps, q.2 = 2 :: mj :: knd :: ci :: nest :: pl :: ps → (mG mj).2.2.2.2 ≠ [] → knd = 0 ∧ nest = 0 := by
  have h : lkT.all (fun q => match q.2 with | 2 :: mj :: knd :: _ :: nest :: _ :: _ => (mG mj).2.2.2.2.isEmpty || (knd == 0 && nest == 0) | _ => true) = true := by decide +kernel
  intro q hq mj knd ci nest pl ps e hne
  have h1 := List.all_eq_true.mp h q hq
  rw [e] at h1
  simp only [Bool.or_eq_true, Bool.and_eq_true, beq_iff_eq] at h1
  rcases h1 with h1 | h1
  · exact absurd (List.isEmpty_iff.mp h1) hne
  · exact h1
end
section
/-! SOUND, seventh part: calls -/
theorem lkB_call {k mj knd ci nest pl own idx : Nat} {ps : List Nat} (h : lkB k (2 :: mj :: knd :: ci :: nest :: pl :: ps) = true) (h1 : k / 1000 = own) (h2 : k % 1000 = idx) :
    ((nest = 0 ∧ tables_1[pl]? = some (.methodLink (cn own) idx (mG mj).1)) ∨ (nest ≠ 0 ∧ tables_1[pl]? = some (.methodLinkNest (cn own) idx (mG mj).1 RX9))) ∧ mj < 226 ∧ mj ≠ 18 ∧ mj ≠ 81 ∧ (mG mj).1.cls = cn ci ∧ (parseMethodDescriptor (mG mj).1.desc).map (fun d => d.parameters.length) = some ps.length ∧
    ∃ p2 p3 : Nat, (knd = 0 ∧ tables_1[p2]? = some (.static (mG mj).1)) ∨ (knd ≠ 0 ∧ tables_1[p2]? = some (.instanceMethod (mG mj).1) ∧ ci < 11 ∧ ((knd = 1 ∧ (mG mj).1.name = "<init>" ∧ (mG mj).2.2.2.1 = none) ∨ (knd ≠ 1 ∧ lw_tbl[p3]? = some (.selects (cn ci) (mG mj).1 (mG mj).1)))) := by
  simp only [lkB, h1, h2, Bool.and_eq_true, decide_eq_true_eq] at h
  obtain ⟨⟨⟨⟨g1, g2⟩, g3⟩, g4⟩, g5⟩ := h
  refine ⟨?_, g2.1, g2.2.1, g2.2.2, g3, g4, ?_⟩
  · by_cases hn : nest = 0
    · rw [if_pos hn] at g1
      exact Or.inl ⟨hn, of_decide_eq_true g1⟩
    · rw [if_neg hn] at g1
      exact Or.inr ⟨hn, of_decide_eq_true g1⟩
  · split at g5
    · rename_i p1 p2 p3 p4 hm
      refine ⟨p2, p3, ?_⟩
      by_cases hk : knd = 0
      · rw [if_pos hk] at g5
        exact Or.inl ⟨hk, of_decide_eq_true g5⟩
      · rw [if_neg hk] at g5
        simp only [Bool.and_eq_true, decide_eq_true_eq] at g5
        refine Or.inr ⟨hk, g5.1.1, g5.1.2, ?_⟩
        by_cases hk1 : knd = 1
        · have g6 := g5.2
          rw [if_pos hk1] at g6
          simp only [Bool.and_eq_true, decide_eq_true_eq] at g6
          exact Or.inl ⟨hk1, g6.1, g6.2⟩
        · have g6 := g5.2
          rw [if_neg hk1] at g6
          exact Or.inr ⟨hk1, of_decide_eq_true g6⟩
    · cases g5
theorem SH_calling {L0 : Nat} {x0 : XX} {U : State} {g : JFrame} {mk : MethodId} {a : Array Value} (h : SH L0 x0 U U.heap) : SH L0 x0 (U.calling g mk a) (U.calling g mk a).heap :=
  ⟨vx_Zq.moved (u := U) (U := U.calling g mk a) (Vm.Alike.refl U.vm) h.1, vx_Zq.moved (u := U) (U := U.calling g mk a) (Vm.Alike.refl U.vm) h.2.1, va_X.moved (u := U) (U := U.calling g mk a) (Vm.Alike.refl U.vm) h.2.2.1, h.2.2.2.1, h.2.2.2.2⟩
theorem PCm_blind {D : va_G} {cy : CY} {L0 : Nat} {x0 : XX} {ad : Nat → Nat} {M : MM} {av : List Value} : FrameBlind (va_Pc av (PCm D cy L0 x0 ad M)) := by
  intro a U g mk q
  obtain ⟨q0, q1, q2, q3⟩ := q
  exact ⟨q0, SV_moves (s := U) (U := U.calling g mk a) (State.WarmedH.refl U) q1, SH_calling q2, q3⟩
section SND6
variable {p : Program} {l : Launch} {e : Env} {R : Room} {s : State} {m : MethodId} {args : Array Value} {below : List Frame} {meth : Method} {c : Code} {H : Heap} {locs : List Loc} {cells slots : Nat} {Q : State → Prop}
variable {D : va_G} {cy : CY} {L0 : Nat} {x0 : XX} {mi : Nat} {ad adE : Nat → Nat} {P P' : MP} {I I' : MI} {L L' : ML} {C C' : MC} {ls ls' st st' : List Value} {lsA : Array Slot} {pc pc' mE mc ms : Nat} {i : ClassFile.Instr} {len : Nat} {rz : List Nat}
set_option maxHeartbeats 4000000 in
theorem call_run {f d mj : Nat} {as : List Value} {z : RV × MM} (ih : SNDP l f) (fo : FO p s m meth c mi) (sv : SV D cy s) (sh : SH L0 x0 s s.heap) (hd : dec mi pc = some (i, len, rz)) (hI : IV D cy L0 x0 s mi ad P I L ls st lsA H locs) (hs : stp pc i len rz ls st P I L C = some (.inr (.inr (.inl (mj, as, st')))))
    (he : ex f d mj (0, ent mj as, []) (P, I, L, C) = some z) (hlen : ¬ mL mj < (lay as).length) (hfR : d + 9 ≤ R.frames) (hlR : 64 * d + 192 ≤ R.locals) (hcR : cells + z.2.2.2.2.1 ≤ R.cells + C.1) (hsR : slots + z.2.2.2.2.2 ≤ R.slots + C.2) :
    (∀ v ∈ st', vk P v) ∧ ∃ a, vx_Run p l e R s m args below meth c H locs cells slots (z.2.2.2.2.1 - C.1) (z.2.2.2.2.2 - C.2) (F0 m pc lsA (cv ad st)) (cv ad st') (QC D cy L0 x0 ad P.2.2 z a) (XC D cy L0 x0 ad P.2.2 z) (AL L0) := by
  obtain ⟨hdec, hck⟩ := dec_ok hd
  obtain ⟨hx, hb, hml, hrt, hown, hlocks, htab, hnm⟩ := fo
  have hts : ∀ w ∈ GT, w.before args s = true := fun w hw => sv.1 w hw args
  obtain ⟨hP, hD, hwf, hS, hlh, hlv, hsv, hx1, hx2, hx3⟩ := id hI
  have hmono := ex_ctr he
  dsimp only at hmono
  have hfit : cells + (z.2.2.2.2.1 - C.1) ≤ R.cells ∧ slots + (z.2.2.2.2.2 - C.2) ≤ R.slots := ⟨by omega, by omega⟩
  -- what is the same for every call
  have common : ∀ (knd ci nest pl : Nat) (ps : List Nat) (n : Nat), ckLk mi n (2 :: mj :: knd :: ci :: nest :: pl :: ps) = true → (∀ v ∈ as, vk P v) →
      (((nest = 0 ∧ (Cond.methodLink (cn (mO mi)) n (mG mj).1) ∈ GT) ∨ (nest ≠ 0 ∧ (Cond.methodLinkNest (cn (mO mi)) n (mG mj).1 RX9) ∈ GT)) ∧ mj < 226 ∧ (mG mj).1.cls = cn ci ∧ (∀ sig, parseMethodDescriptor (mG mj).1.desc = some sig → ps.length = sig.parameters.length) ∧
      ((knd = 0 ∧ (Cond.static (mG mj).1) ∈ GT) ∨ (knd ≠ 0 ∧ (Cond.instanceMethod (mG mj).1) ∈ GT ∧ ci < 11 ∧ ((knd = 1 ∧ (mG mj).1.name = "<init>" ∧ (mG mj).2.2.2.1 = none) ∨ (knd ≠ 1 ∧ (Cond.selects (cn ci) (mG mj).1 (mG mj).1) ∈ GT)))) ∧
      ((mG mj).2.2.2.2 ≠ [] → knd = 0 ∧ nest = 0) ∧ cword mj ∈ GT ∧ (Cond.initialized (mG mj).1.cls) ∈ GT ∧
      vx_Met l (mG mj).1 [cword mj] (RMd d (z.2.2.2.2.1 - C.1) (z.2.2.2.2.2 - C.2)) (va_Pc (cv ad as) (PCm D cy L0 x0 ad (P, I, L, C))) (QC D cy L0 x0 ad P.2.2 z) (XC D cy L0 x0 ad P.2.2 z) (z.2.2.2.2.1 - C.1) (z.2.2.2.2.2 - C.2) (AL L0)) := by
    intro knd ci nest pl ps n hlk has
    obtain ⟨hlb, hk1, hk2⟩ := ckLk_inv hlk (by simp)
    obtain ⟨g1, g2, g3, g4, g5, g6, p2, p3, g7⟩ := lkB_call hlb hk1 hk2
    have hw := mw_ok g2 g3 g4
    obtain ⟨w1, w2, -, -, -⟩ := mw_spec hw
    refine ⟨?_, g2, g5, ?_, ?_, ?_, w1, w2, met_of (M := (P, I, L, C)) ih he hlen g2 hw D cy L0 x0 ad has⟩
    · rcases g1 with ⟨q1, q2⟩ | ⟨q1, q2⟩
      · exact Or.inl ⟨q1, mem_GT1 q2 rfl⟩
      · exact Or.inr ⟨q1, mem_GT1 q2 rfl⟩
    · intro sig h
      rw [h] at g6
      exact (Option.some.inj g6).symm
    · rcases g7 with ⟨q1, q2⟩ | ⟨q1, q2, q3, q4⟩
      · exact Or.inl ⟨q1, mem_GT1 q2 rfl⟩
      · refine Or.inr ⟨q1, mem_GT1 q2 rfl, q3, ?_⟩
        rcases q4 with q4 | ⟨q4, q5⟩
        · exact Or.inl q4
        · exact Or.inr ⟨q4, mem_GT q5 rfl⟩
    · unfold ckLk at hlk
      rw [Bool.or_eq_true, Bool.and_eq_true] at hlk
      rcases hlk with hlk | hlk
      · exact absurd (beq_iff_eq.mp hlk) (by simp)
      · obtain ⟨q, hq, hqe⟩ : ∃ q ∈ lkT, q.2 = 2 :: mj :: knd :: ci :: nest :: pl :: ps := by
          have h9 := beq_iff_eq.mp hlk.2
          have key : ∀ (l : List (Nat × List Nat)) (k : Nat) (r : List Nat), l.lookup k = some r → ∃ q ∈ l, q.2 = r := by
            intro l
            induction l with
            | nil => intro k r h; cases h
            | cons e l ihl =>
              intro k r h
              rw [List.lookup_cons] at h
              by_cases hk : k == e.1
              · rw [hk] at h
                cases h
                exact ⟨e, List.mem_cons_self, rfl⟩
              · rw [Bool.not_eq_true] at hk
                rw [hk] at h
                obtain ⟨q, h1, h2⟩ := ihl k r h
                exact ⟨q, List.mem_cons_of_mem _ h1, h2⟩
          exact key _ _ _ h9
        exact hh_lnk q hq mj knd ci nest pl ps hqe
  have hmax : mj < 226 → 8 + (mL mj + 11) + (64 * d + 128) ≤ R.locals := fun h => by have := mL_le mj h; omega
  have hwsB : cword mj ∈ GT → ∀ w ∈ [cword mj], ∀ (a' : Array Value) (U : State), s.WarmedH U.vm → w.before a' U = true := by
    intro h w hw a' U hW
    rw [List.mem_singleton.mp hw]
    exact word_at hW (good_of_word (cword_good mj)) (hts _ h)
  have hcode0 : (mG mj).2.2.2.2 = [] → cword mj = .code (mG mj).1 (mG mj).2.1 (mL mj) (mG mj).2.2.2.1 := by
    intro h; unfold cword; rw [h]
  have hcode1 : (mG mj).2.2.2.2 ≠ [] → cword mj = .codeWith (mG mj).1 (mG mj).2.1 (mL mj) (mG mj).2.2.2.1 (mG mj).2.2.2.2 := by
    intro h; unfold cword; split
    · rename_i q; exact absurd q h
    · rfl
  have hpre : PreS s H (va_Pc (cv ad as) (PCm D cy L0 x0 ad (P, I, L, C))) (cv ad as) :=
    ⟨PCm_blind, fun U hU hW => ⟨rfl, SV_moves hW sv, by rw [hU]; exact SH_moves hW.alike hS sh, by rw [hU]; exact ⟨hP, hD, hwf, hx1, hx2, hx3⟩⟩⟩
  have hfix : CallFix p m c (mG mi).2.1 (mL mi) s args GT (cn (mO mi)) := ⟨hx, hb, hml, hown, hts⟩
  cases i
  case invokestatic n =>
    simp only [stp] at hs
    simp only [ckR, Bool.and_eq_true, beq_iff_eq] at hck
    obtain ⟨⟨rfl, hlk⟩, hknd⟩ := hck
    split at hs
    · rename_i mj0 knd ci nest pl ps
      split at hs
      · rename_i as0 st0 hpop
        split at hs
        · rename_i hcat
          cases hs
          obtain ⟨vs, e1, e2, e3⟩ := pops_inv hpop
          rw [List.append_nil] at e2
          subst e1
          have hsv2 := List.forall_mem_append.mp hsv
          have has : ∀ v ∈ as, vk P v := fun v hv => hsv2.1 v (by rw [e2] at hv; exact List.mem_reverse.mp hv)
          have hk0 : knd = 0 := beq_iff_eq.mp hknd
          obtain ⟨g1, g2, g3, g4, g5, g6, g7, g8, hM⟩ := common knd ci nest pl ps n hlk has
          have hst : (hts _ ((g5.resolve_right (fun q => q.1 hk0)).2)) = (hts _ ((g5.resolve_right (fun q => q.1 hk0)).2)) := rfl
          have hstat := hts _ ((g5.resolve_right (fun q => q.1 hk0)).2)
          have hlen2 : (cv ad as).length = ps.length := by unfold cv; rw [List.length_map, e2, List.length_reverse, e3]
          have hstack : cv ad (vs ++ st') = (cv ad as).reverse ++ cv ad st' := by unfold cv; rw [List.map_append, e2, List.map_reverse, List.reverse_reverse]
          have hroom : 2 * (F0 m pc lsA (cv ad (vs ++ st'))).monitorRoom + ((cv ad st').map fun v => v.category).sum ≤ 8 := lv_room (by rw [catS_cv]; exact hcat)
          refine ⟨hsv2.2, (cv ad as).toArray, ?_⟩
          by_cases hh : (mG mj).2.2.2.2 = []
          · have hcm : Cond.code (mG mj).1 (mG mj).2.1 (mL mj) (mG mj).2.2.2.1 ∈ GT := hcode0 hh ▸ g7
            have hin : Cond.code (mG mj).1 (mG mj).2.1 (mL mj) (mG mj).2.2.2.1 ∈ [cword mj] := by rw [hcode0 hh]; exact List.mem_cons_self
            rcases g1 with ⟨-, g1⟩ | ⟨-, g1⟩
            · exact vx_runS (n := ps.length) hfix hM ⟨⟨rfl, rfl, by show d + 8 + 1 ≤ R.frames; omega, hmax g2, hwsB g7, hin, hts _ hcm, hts _ g8, g3 ▸ cn_ne ci, g4, hts _ g1⟩, hstat⟩ hpre rfl hlen2 hlh.1 hstack hroom hdec hfit
            · exact vx_runSN (n := ps.length) (host := RX9) hfix hM ⟨⟨⟨rfl, rfl, by show d + 8 + 1 ≤ R.frames; omega, hmax g2, hwsB g7, hin⟩, hts _ hcm, hts _ g8, g3 ▸ cn_ne ci, g4, hts _ g1⟩, hstat, trivial⟩ hpre rfl hlen2 hlh.1 hstack hroom hdec hfit
          · have hcm : Cond.codeWith (mG mj).1 (mG mj).2.1 (mL mj) (mG mj).2.2.2.1 (mG mj).2.2.2.2 ∈ GT := hcode1 hh ▸ g7
            have hin : Cond.codeWith (mG mj).1 (mG mj).2.1 (mL mj) (mG mj).2.2.2.1 (mG mj).2.2.2.2 ∈ [cword mj] := by rw [hcode1 hh]; exact List.mem_cons_self
            have g1' := (g1.resolve_right (fun q => q.1 (g6 hh).2)).2
            exact vx_runSX (n := ps.length) hfix hM ⟨⟨rfl, rfl, by show d + 8 + 1 ≤ R.frames; omega, hmax g2, hwsB g7, hin⟩, hts _ hcm, hts _ g8, g3 ▸ cn_ne ci, g4, hts _ g1', hstat⟩ hpre rfl hlen2 hlh.1 hstack hroom hdec hfit
        · cases hs
      · cases hs
    · (repeat' split at hs) <;> cases hs
    · (repeat' split at hs) <;> cases hs
    · (repeat' split at hs) <;> cases hs
    · cases hs
  case invokespecial n =>
    simp only [stp] at hs
    simp only [ckR, Bool.and_eq_true, beq_iff_eq] at hck
    obtain ⟨⟨rfl, hlk⟩, hknd⟩ := hck
    split at hs
    · rename_i mj0 knd ci nest pl ps
      split at hs
      · rename_i as0 k0 st0 hpop
        split at hs
        · rename_i hcat
          cases hs
          obtain ⟨vs, e1, e2, e3⟩ := pops_inv hpop
          rw [List.append_nil] at e2
          subst e1
          have hsv2 := List.forall_mem_append.mp hsv
          have hsv3 := List.forall_mem_cons.mp hsv2.2
          have has : ∀ v ∈ (Value.ref k0 :: as0), vk P v := List.forall_mem_cons.mpr ⟨hsv3.1, fun v hv => hsv2.1 v (by rw [e2] at hv; exact List.mem_reverse.mp hv)⟩
          have hk0 : knd = 1 := beq_iff_eq.mp hknd
          obtain ⟨g1, g2, g3, g4, g5, g6, g7, g8, hM⟩ := common knd ci nest pl ps n hlk has
          obtain ⟨-, g51, g52, g53⟩ := g5.resolve_left (fun q => by have := q.1; omega)
          obtain ⟨-, g54, g55⟩ := g53.resolve_right (fun q => q.1 hk0)
          have hh : (mG mj).2.2.2.2 = [] := Classical.byContradiction fun q => by have := (g6 q).1; omega
          have hlen2 : (cv ad as0).length = ps.length := by unfold cv; rw [List.length_map, e2, List.length_reverse, e3]
          have hstack : cv ad (vs ++ Value.ref k0 :: st') = (cv ad as0).reverse ++ .ref (ad k0) :: cv ad st' := by unfold cv; rw [List.map_append, e2, List.map_reverse, List.reverse_reverse]; rfl
          have hroom : 2 * (F0 m pc lsA (cv ad (vs ++ Value.ref k0 :: st'))).monitorRoom + ((cv ad st').map fun v => v.category).sum ≤ 8 := lv_room (by rw [catS_cv]; exact hcat.2)
          refine ⟨hsv3.2, (cv ad (Value.ref k0 :: as0)).toArray, ?_⟩
          have hcm : Cond.code (mG mj).1 (mG mj).2.1 (mL mj) none ∈ GT := g55 ▸ hcode0 hh ▸ g7
          have hin : Cond.code (mG mj).1 (mG mj).2.1 (mL mj) none ∈ [cword mj] := by rw [hcode0 hh, g55]; exact List.mem_cons_self
          rcases g1 with ⟨-, g1⟩ | ⟨-, g1⟩
          · exact vx_runI (n := ps.length) hfix hM ⟨⟨rfl, rfl, by show d + 8 + 1 ≤ R.frames; omega, hmax g2, hwsB g7, hin, hts _ hcm, hts _ g8, g3 ▸ cn_ne ci, g4, hts _ g1⟩, g54, hts _ g51⟩ hpre rfl hlen2 hlh.1 hstack hroom hdec hfit
          · exact vx_runIN (n := ps.length) (host := RX9) hfix hM ⟨⟨⟨rfl, rfl, by show d + 8 + 1 ≤ R.frames; omega, hmax g2, hwsB g7, hin⟩, hts _ hcm, hts _ g8, g3 ▸ cn_ne ci, g4, hts _ g1⟩, g54, hts _ g51⟩ hpre rfl hlen2 hlh.1 hstack hroom hdec hfit
        · cases hs
      · cases hs
    · (repeat' split at hs) <;> cases hs
    · cases hs
  case invokevirtual n =>
    simp only [stp] at hs
    simp only [ckR, Bool.and_eq_true, beq_iff_eq] at hck
    obtain ⟨⟨rfl, hlk⟩, hknd⟩ := hck
    split at hs
    · rename_i mj0 knd ci nest pl ps
      split at hs
      · rename_i as0 k0 st0 hpop
        split at hs
        · rename_i hcat
          cases hs
          obtain ⟨vs, e1, e2, e3⟩ := pops_inv hpop
          rw [List.append_nil] at e2
          subst e1
          have hsv2 := List.forall_mem_append.mp hsv
          have hsv3 := List.forall_mem_cons.mp hsv2.2
          have has : ∀ v ∈ (Value.ref k0 :: as0), vk P v := List.forall_mem_cons.mpr ⟨hsv3.1, fun v hv => hsv2.1 v (by rw [e2] at hv; exact List.mem_reverse.mp hv)⟩
          have hk0 : knd = 2 := beq_iff_eq.mp hknd
          obtain ⟨g1, g2, g3, g4, g5, g6, g7, g8, hM⟩ := common knd ci nest pl ps n hlk has
          obtain ⟨-, g51, g52, g53⟩ := g5.resolve_left (fun q => by have := q.1; omega)
          obtain ⟨-, g54⟩ := g53.resolve_left (fun q => by have := q.1; omega)
          have hh : (mG mj).2.2.2.2 = [] := Classical.byContradiction fun q => by have := (g6 q).1; omega
          have hlen2 : (cv ad as0).length = ps.length := by unfold cv; rw [List.length_map, e2, List.length_reverse, e3]
          have hstack : cv ad (vs ++ Value.ref k0 :: st') = (cv ad as0).reverse ++ .ref (ad k0) :: cv ad st' := by unfold cv; rw [List.map_append, e2, List.map_reverse, List.reverse_reverse]; rfl
          have hroom : 2 * (F0 m pc lsA (cv ad (vs ++ Value.ref k0 :: st'))).monitorRoom + ((cv ad st').map fun v => v.category).sum ≤ 8 := lv_room (by rw [catS_cv]; exact hcat.2)
          refine ⟨hsv3.2, (cv ad (Value.ref k0 :: as0)).toArray, ?_⟩
          have hka := kind_at hwf (k := k0) (by omega) (by omega)
          have hew := wl_get (cy := cy) (ad := ad) (I := I) (L := L) hka.1 hka.2
          rw [kind_obj hcat.1 g52] at hew
          have hrec := va_recv sv.2.1 hP (cl_at g52) hew
          have hpreV : PreV s H (cn ci) (ad k0) (va_Pc (cv ad (Value.ref k0 :: as0)) (PCm D cy L0 x0 ad (P, I, L, C))) (cv ad as0) := ⟨hpre.1, hrec, hpre.2⟩
          have hcm : Cond.code (mG mj).1 (mG mj).2.1 (mL mj) (mG mj).2.2.2.1 ∈ GT := hcode0 hh ▸ g7
          have hin : Cond.code (mG mj).1 (mG mj).2.1 (mL mj) (mG mj).2.2.2.1 ∈ [cword mj] := by rw [hcode0 hh]; exact List.mem_cons_self
          rcases g1 with ⟨-, g1⟩ | ⟨-, g1⟩
          · exact vx_runV (n := ps.length) (C := cn ci) hfix hM ⟨⟨rfl, rfl, by show d + 8 + 1 ≤ R.frames; omega, hmax g2, hwsB g7, hin, hts _ hcm, hts _ g8, g3 ▸ cn_ne ci, g4, hts _ g1⟩, hts _ g51, hts _ g54⟩ hpreV rfl hlen2 hlh.1 hstack hroom hdec hfit
          · exact vx_runVN (n := ps.length) (C := cn ci) (host := RX9) hfix hM ⟨⟨⟨rfl, rfl, by show d + 8 + 1 ≤ R.frames; omega, hmax g2, hwsB g7, hin⟩, hts _ hcm, hts _ g8, g3 ▸ cn_ne ci, g4, hts _ g1⟩, hts _ g51, hts _ g54⟩ hpreV rfl hlen2 hlh.1 hstack hroom hdec hfit
        · cases hs
      · cases hs
    · cases hs
  all_goals
    exfalso
    simp only [stp] at hs
    (repeat' split at hs) <;>
      first
      | cases hs
      | exact ldI_no hs
      | exact ldA_no hs
      | exact ldL_no hs
      | exact ldD_no hs
      | exact stI_no hs
      | exact stA_no hs
      | exact stL_no hs
      | exact stD_no hs
      | exact o1I_no hs
      | exact o2I_no hs
      | exact o2L_no hs
      | exact brI_no hs
      | exact brII_no hs
end SND6
end
section
/-! SOUND, eighth part: throws, handlers, the whole -/
abbrev xnames : List String := ["java/lang/RuntimeException", "java/lang/Exception"]
def xic (E : Nat) : Nat := match E with
  | 0 => 283
  | 1 => 94
  | _ => 108
theorem xat0 : (vx_atS RX9 283 (xcN 0) xnames).all (fun w => decide (w ∈ lw_tbl) && tw w) = true := by decide +kernel
theorem xat1 : (vx_atS RX9 94 (xcN 1) xnames).all (fun w => decide (w ∈ lw_tbl) && tw w) = true := by decide +kernel
theorem xat2 : (vx_atS RX9 108 (xcN 2) xnames).all (fun w => decide (w ∈ lw_tbl) && tw w) = true := by decide +kernel
theorem xot0 : (vx_atS RX9 283 (xcN 0) xnames).all vx_ot = true := by decide +kernel
theorem xot1 : (vx_atS RX9 94 (xcN 1) xnames).all vx_ot = true := by decide +kernel
theorem xot2 : (vx_atS RX9 108 (xcN 2) xnames).all vx_ot = true := by decide +kernel
theorem xfit (E : Nat) (h : E < 3) : Bundle.fit (xcN E) = true := by
  match E, h with
  | 0, _ => decide +kernel
  | 1, _ => decide +kernel
  | 2, _ => decide +kernel
  | n + 3, h => exact absurd h (by omega)
theorem xnfit : ∀ n ∈ xnames, Bundle.fit n = true := by decide +kernel
theorem xat (E : Nat) (h : E < 3) : (∀ w ∈ vx_atS RX9 (xic E) (xcN E) xnames, w ∈ GT) ∧ ∀ w ∈ vx_atS RX9 (xic E) (xcN E) xnames, vx_ot w = true := by
  have key : ∀ {l : List Cond}, l.all (fun w => decide (w ∈ lw_tbl) && tw w) = true → ∀ w ∈ l, w ∈ GT := by
    intro l hl w hw
    have h1 := List.all_eq_true.mp hl w hw
    simp only [Bool.and_eq_true, decide_eq_true_eq] at h1
    exact List.mem_filter.mpr h1
  match E, h with
  | 0, _ => exact ⟨key xat0, List.all_eq_true.mp xot0⟩
  | 1, _ => exact ⟨key xat1, List.all_eq_true.mp xot1⟩
  | 2, _ => exact ⟨key xat2, List.all_eq_true.mp xot2⟩
  | n + 3, h => exact absurd h (by omega)
theorem xini (E : Nat) (h : E < 3) : (Cond.initialized (xcN E)) ∈ GT := by
  match E, h with
  | 0, _ => exact mem_GT1 (i := 19) (by decide +kernel) (by decide +kernel)
  | 1, _ => exact mem_GT1 (i := 17) (by decide +kernel) (by decide +kernel)
  | 2, _ => exact mem_GT1 (i := 14) (by decide +kernel) (by decide +kernel)
  | n + 3, h => exact absurd h (by omega)
/-- the texts of the throws are the known ones -/
theorem thS {mi pc : Nat} (h9 : mO mi = 9) {n : Nat} {len : Nat} {rz : List Nat} (hd : dec mi pc = some (.new n, len, 6 :: rz)) : (∀ is ln r2, dec mi (pc + 4) = some (.ldc is, ln, r2) → ∃ t, (is, t) ∈ strT) ∧ (∀ is ln r2, dec mi (pc + 4) = some (.ldc_w is, ln, r2) → ∃ t, (is, t) ∈ strT) := by
  have hall : (List.range 227).all (fun mi => mO mi != 9 || (List.range (dln mi)).all (fun pc => match dec mi pc with
    | some (.new _, _, 6 :: _) => (match dec mi (pc + 4) with
      | some (.ldc is, _, _) => strT.any (fun q => q.1 == is)
      | some (.ldc_w is, _, _) => strT.any (fun q => q.1 == is)
      | _ => true)
    | _ => true)) = true := by decide +kernel
  have hm : mi < 227 ∧ pc < dln mi := by
    unfold dec at hd
    cases he : dcl[mi]? with
    | none => rw [he] at hd; cases hd
    | some e =>
      rw [he] at hd
      dsimp only at hd
      have h1 := (List.getElem?_eq_some_iff.mp he).1
      have h2 : dcl.length = 227 := by decide +kernel
      by_cases hp : pc < e.1
      · refine ⟨by omega, ?_⟩
        unfold dln
        rw [List.getD_eq_getElem?_getD, List.getElem?_map, he]
        exact hp
      · rw [if_neg hp] at hd; cases hd
  have h1 := List.all_eq_true.mp hall mi (List.mem_range.mpr hm.1)
  rw [h9] at h1
  have h2 := List.all_eq_true.mp (show (List.range (dln mi)).all _ = true from by simpa using h1) pc (List.mem_range.mpr hm.2)
  have key : ∀ is, strT.any (fun q => q.1 == is) = true → ∃ t, (is, t) ∈ strT := by
    intro is h
    obtain ⟨q, hq, he⟩ := List.any_eq_true.mp h
    exact ⟨q.2, by rw [← beq_iff_eq.mp he]; exact hq⟩
  rw [hd] at h2
  constructor
  · intro is ln r2 h4
    rw [h4] at h2
    exact key is h2
  · intro is ln r2 h4
    rw [h4] at h2
    exact key is h2
theorem ckX_inv {mi E ic : Nat} (h : ckX mi E ic = true) : mO mi = 9 ∧ E < 3 ∧ ic = xic E ∧ (mG mi).2.2.2.2 = [] := by
  unfold ckX at h
  simp only [Bool.and_eq_true, Bool.or_eq_true, beq_iff_eq] at h
  obtain ⟨⟨h1, h2⟩, h3⟩ := h
  refine ⟨h1, ?_, ?_, List.isEmpty_iff.mp h3⟩
  · rcases h2 with (⟨q, -⟩ | ⟨q, -⟩) | ⟨q, -⟩ <;> omega
  · rcases h2 with (⟨q, q2⟩ | ⟨q, q2⟩) | ⟨q, q2⟩ <;> subst q <;> exact q2
theorem ckTh_inv {mi pc E : Nat} (h : ckTh mi pc E = true) : ∃ ic, (mO mi = 9 ∧ E < 3 ∧ ic = xic E ∧ (mG mi).2.2.2.2 = []) ∧
    ((∃ r3 is r4 r6 r9, dec mi (pc + 3) = some (.dup, 1, r3) ∧ dec mi (pc + 4) = some (.ldc is, 2, r4) ∧ dec mi (pc + 6) = some (.invokespecial ic, 3, r6) ∧ dec mi (pc + 9) = some (.athrow, 1, r9)) ∨
     (∃ r3 is r4 r6 r9, dec mi (pc + 3) = some (.dup, 1, r3) ∧ dec mi (pc + 4) = some (.ldc_w is, 3, r4) ∧ dec mi (pc + 7) = some (.invokespecial ic, 3, r6) ∧ dec mi (pc + 10) = some (.athrow, 1, r9))) := by
  unfold ckTh at h
  rw [Bool.or_eq_true] at h
  rcases h with h | h
  · split at h
    · rename_i r3 is r4 ic r6 r9 q1 q2 q3 q4
      exact ⟨ic, ckX_inv h, Or.inl ⟨_, _, _, _, _, q1, q2, q3, q4⟩⟩
    · cases h
  · split at h
    · rename_i r3 is r4 ic r6 r9 q1 q2 q3 q4
      exact ⟨ic, ckX_inv h, Or.inr ⟨_, _, _, _, _, q1, q2, q3, q4⟩⟩
    · cases h
section SND7
variable {p : Program} {l : Launch} {e : Env} {R : Room} {s : State} {m : MethodId} {args : Array Value} {below : List Frame} {meth : Method} {c : Code} {H : Heap} {locs : List Loc} {cells slots : Nat} {Q : State → Prop}
variable {D : va_G} {cy : CY} {L0 : Nat} {x0 : XX} {mi : Nat} {ad adE : Nat → Nat} {P P' : MP} {I I' : MI} {L L' : ML} {C C' : MC} {ls ls' st st' : List Value} {lsA : Array Slot} {pc pc' mE mc ms : Nat} {i : ClassFile.Instr} {len : Nat} {rz : List Nat}
set_option maxHeartbeats 4000000 in
theorem sx_throw (hl : l.stackTraces = false) (fo : FO p s m meth c mi) (sv : SV D cy s) (sh : SH L0 x0 s s.heap) (hd : dec mi pc = some (i, len, rz)) (hI : IV D cy L0 x0 s mi ad P I L ls st lsA H locs) {E : Nat} (hs : stp pc i len rz ls st P I L C = some (.inr (.inr (.inr E)))) (hext : ∀ k, k ≤ mE → ad k = adE k)
    (hfR : 8 ≤ R.frames) (hlR : 128 ≤ R.locals) (h1 : cells + 1 ≤ mc) (h2 : slots + 6 ≤ ms) (h3 : mc ≤ R.cells) (h4 : ms ≤ R.slots) :
    W p l e R s m args below meth c H locs cells slots (vx_MQ below (QC D cy L0 x0 adE mE (.inr E, (P, I, L, (C.1 + 1, C.2 + 6)))) (XC D cy L0 x0 adE mE (.inr E, (P, I, L, (C.1 + 1, C.2 + 6)))) args s mc ms (AL L0)) (F0 m pc lsA (cv ad st)) := by
  obtain ⟨hdec, hck⟩ := dec_ok hd
  obtain ⟨hx, hb, hml, hrt, hown, hlocks, htab, hnm⟩ := fo
  have hts : ∀ w ∈ GT, w.before args s = true := fun w hw => sv.1 w hw args
  obtain ⟨hP, hD, hwf, hS, hlh, hlv, hsv, hx1, hx2, hx3⟩ := id hI
  have hwd : WD D cy L0 x0 ad (P, I, L, (C.1 + 1, C.2 + 6)) H := ⟨hP, hD, hwf, hx1, hx2, hx3⟩
  cases i
  case new n =>
    simp only [stp] at hs
    simp only [ckR, Bool.and_eq_true, beq_iff_eq] at hck
    obtain ⟨⟨rfl, hlk⟩, hth⟩ := hck
    split at hs
    · cases hs
    · cases hs
    · rename_i E0 r0
      split at hs
      · rename_i hcat
        cases hs
        obtain ⟨ic, ⟨h9, hE, hic, hh⟩, hforms⟩ := ckTh_inv hth
        obtain ⟨hlb, hk1, hk2⟩ := ckLk_inv hlk (by simp)
        have hlink : (Cond.classLink (cn (mO mi)) n (xcN E)) ∈ GT := by
          match r0, hlb with
          | [pl], hlb =>
            simp only [lkB, hk1, hk2, Bool.and_eq_true, decide_eq_true_eq] at hlb
            exact mem_GT1 hlb.1 rfl
          | [], hlb => cases hlb
          | _ :: _ :: _, hlb => cases hlb
        rw [h9] at hlink hown
        have hout : ∀ (pcx : Nat), ∀ x ∈ c.exceptionTable.toList, covers x pcx = false := by
          intro pcx x hxm
          rw [htab, hh] at hxm
          cases hxm
        obtain ⟨a1, a2⟩ := xat E hE
        subst hic
        have hgood : ∀ w ∈ Cond.classLink RX9 n (xcN E) :: Cond.initialized (xcN E) :: vx_atS RX9 (xic E) (xcN E) xnames, vx_ot w = true :=
          List.forall_mem_cons.mpr ⟨rfl, List.forall_mem_cons.mpr ⟨rfl, a2⟩⟩
        have hX : ∀ t : State, s.vm.Alike t.vm → H.size ≤ t.heap.size → (∀ q : Nat, q < H.size → t.heap[q]? = H[q]?) → XC D cy L0 x0 adE mE (.inr E, (P, I, L, (C.1 + 1, C.2 + 6))) (xcN E) s t := by
          intro t _ hz hq
          refine ⟨E, ad, rfl, hE, rfl, hext, hwd.kept hq, ?_⟩
          exact ⟨Nat.le_trans hS.1 hz, fun q q1 q2 => (hq q (Nat.lt_of_lt_of_le q1 hS.1)).trans (hS.2.1 q q1 q2)⟩
        have hloc : ((cv ad st).map fun v => v.category).sum + (13 * (xnames.length + 1) + 43) ≤ R.locals := by
          rw [catS_cv]
          show catS st + 82 ≤ R.locals
          omega
        rcases hforms with ⟨r3, is, r4, r6, r9, d3, d4, d6, d9⟩ | ⟨r3, is, r4, r6, r9, d3, d4, d6, d9⟩
        · obtain ⟨tx, htx⟩ := (thS h9 hd).1 is _ _ d4
          obtain ⟨sa, hsa⟩ := sv.2.2.1 _ htx
          exact vx_throwS (names := xnames) (is := is) (text := tx) (sa := sa) hx hb hl hown (xfit E hE) xnfit (hts _ hlink) (hts _ (xini E hE)) hsa (fun w hw => hts w (a1 w hw)) hgood sh.1 sh.2.1 hS (hlh.1.trans hml.symm) hdec (dec_ok d3).1 (dec_ok d4).1 (dec_ok d6).1 (dec_ok d9).1 (hout _) (by show 2 + 3 < R.frames; omega) hloc (by omega) (by omega) hlocks hX hS.2.2 h1 h2
        · obtain ⟨tx, htx⟩ := (thS h9 hd).2 is _ _ d4
          obtain ⟨sa, hsa⟩ := sv.2.2.1 _ htx
          exact vx_throwSW (names := xnames) (is := is) (text := tx) (sa := sa) hx hb hl hown (xfit E hE) xnfit (hts _ hlink) (hts _ (xini E hE)) hsa (fun w hw => hts w (a1 w hw)) hgood sh.1 sh.2.1 hS (hlh.1.trans hml.symm) hdec (dec_ok d3).1 (dec_ok d4).1 (dec_ok d6).1 (dec_ok d9).1 (hout _) (by show 2 + 3 < R.frames; omega) hloc (by omega) (by omega) hlocks hX hS.2.2 h1 h2
      · cases hs
    · cases hs
  all_goals
    exfalso
    simp only [stp] at hs
    (repeat' split at hs) <;>
      first
      | cases hs
      | exact ldI_no hs
      | exact ldA_no hs
      | exact ldL_no hs
      | exact ldD_no hs
      | exact stI_no hs
      | exact stA_no hs
      | exact stL_no hs
      | exact stD_no hs
      | exact o1I_no hs
      | exact o2I_no hs
      | exact o2L_no hs
      | exact brI_no hs
      | exact brII_no hs
end SND7
/-- a local is put away -/
theorem lh_s1u {lsA : Array Slot} {n : Nat} {ad : Nat → Nat} {ls : List Value} {i : Nat} {w : Value} (hlen : ls.length = n) (h : lv_has lsA n ((i, w) :: (prs ad ls).filter (fun q => !(q.1 == i) && !(q.1 + 1 == i && q.2.category == 2)))) : lh lsA n ad (s1 ls i UN) := by
  refine ⟨h.1, h.2.1, by rw [s1_len]; exact hlen, fun j v hj hu => ?_⟩
  unfold s1 at hj
  rw [sl_eq, gl_eq] at hj
  by_cases e : j = i
  · subst e
    have hl : j < (k1 ls j).length := by
      have := (List.getElem?_eq_some_iff.mp hj).1
      rw [List.length_set] at this
      exact this
    rw [List.getElem?_set_self hl] at hj
    cases hj
    exact absurd rfl (hu 0)
  · rw [List.getElem?_set_ne (Ne.symm e), ← gl_eq] at hj
    obtain ⟨g1, g2⟩ := k1_get hj hu
    refine h.2.2 (j, conc ad v) (List.mem_cons_of_mem _ (List.mem_filter.mpr ⟨mem_prs.mpr ⟨v, g1, hu, rfl⟩, ?_⟩))
    rw [conc_cat]
    have e1 : (j == i) = false := by simpa using e
    rw [e1]
    by_cases e2 : j + 1 = i
    · have e3 : ¬ v.category = 2 := fun z => g2 ⟨e2, z⟩
      simp [e3]
    · simp [e2]
theorem hfind_none : ∀ {hh : List (Nat × Nat × Nat × Nat)} {pc E : Nat}, hfind hh pc E = none → ∀ q ∈ hh, ¬ (q.1 ≤ pc ∧ pc < q.2.1 ∧ xct q.2.2.2 = E) := by
  intro hh
  induction hh with
  | nil => intro pc E _ q hq; cases hq
  | cons a r ih =>
    intro pc E h q hq
    obtain ⟨a1, a2, a3, a4⟩ := a
    unfold hfind at h
    by_cases hc : a1 ≤ pc ∧ pc < a2 ∧ xct a4 = E
    · rw [if_pos hc] at h; cases h
    · rw [if_neg hc] at h
      rcases List.mem_cons.mp hq with rfl | hq
      · exact hc
      · exact ih h q hq
theorem hfind_some : ∀ {hh : List (Nat × Nat × Nat × Nat)} {pc E h : Nat}, hfind hh pc E = some h → ∃ pre q suf, hh = pre ++ q :: suf ∧ q.1 ≤ pc ∧ pc < q.2.1 ∧ q.2.2.1 = h ∧ xct q.2.2.2 = E ∧ ∀ z ∈ pre, ¬ (z.1 ≤ pc ∧ pc < z.2.1 ∧ xct z.2.2.2 = E) := by
  intro hh
  induction hh with
  | nil => intro pc E h hf; cases hf
  | cons a r ih =>
    intro pc E h hf
    obtain ⟨a1, a2, a3, a4⟩ := a
    unfold hfind at hf
    by_cases hc : a1 ≤ pc ∧ pc < a2 ∧ xct a4 = E
    · rw [if_pos hc] at hf
      cases hf
      exact ⟨[], _, r, rfl, hc.1, hc.2.1, rfl, hc.2.2, fun z hz => by cases hz⟩
    · rw [if_neg hc] at hf
      obtain ⟨pre, q, suf, g1, g2, g3, g4, g5, g6⟩ := ih hf
      refine ⟨(a1, a2, a3, a4) :: pre, q, suf, by rw [g1]; rfl, g2, g3, g4, g5, fun z hz => ?_⟩
      rcases List.mem_cons.mp hz with rfl | hz
      · exact hc
      · exact g6 z hz
theorem xlk : ∀ ct, ct = 15 ∨ ct = 18 ∨ ct = 25 → (Cond.classLink RL ct (xcN (xct ct))) ∈ GT ∧ xct ct < 3 ∧ ct ≠ 0 := by
  rintro ct (rfl | rfl | rfl)
  · exact ⟨mem_GT1 (i := 502) (by decide +kernel) (by decide +kernel), by decide, by decide⟩
  · exact ⟨mem_GT1 (i := 429) (by decide +kernel) (by decide +kernel), by decide, by decide⟩
  · exact ⟨mem_GT1 (i := 306) (by decide +kernel) (by decide +kernel), by decide, by decide⟩
theorem xcast (E : Nat) (h : E < 3) : (Cond.castable (xcN E) (xcN E)) ∈ GT := by
  match E, h with
  | 0, _ => exact mem_GT1 (i := 512) (by decide +kernel) (by decide +kernel)
  | 1, _ => exact mem_GT1 (i := 439) (by decide +kernel) (by decide +kernel)
  | 2, _ => exact mem_GT1 (i := 313) (by decide +kernel) (by decide +kernel)
  | n + 3, h => exact absurd h (by omega)
set_option maxHeartbeats 8000000 in
theorem snd_all {l : Launch} (hl : l.stackTraces = false) : ∀ f, SNDP l f := by
  intro f
  induction f with
  | zero => intro d mi pc ls st P I L C r h; cases h
  | succ f ih =>
    intro d mi pc ls st P I L C r h hmi p e R s m args below meth c H locs cells slots D cy L0 x0 ad adE lsA mE mc ms fo sv sh hI hext hmE hcm hsm hcR hsR hfR hlR
    have hctr := ex_ctr h
    dsimp only at hctr
    have hts : ∀ w ∈ GT, w.before args s = true := fun w hw => sv.1 w hw args
    rw [ex] at h
    dsimp only at h
    cases hd : dec mi pc with
    | none => rw [hd] at h; cases h
    | some q =>
      obtain ⟨i, len, rz⟩ := q
      rw [hd] at h
      dsimp only at h
      cases hs : stp pc i len rz ls st P I L C with
      | none => rw [hs] at h; cases h
      | some w =>
        rw [hs] at h
        rcases w with w | v | ⟨mj, as, st'⟩ | E
        · dsimp only at h
          have h1 := stp_ctr hs
          have h2 := ex_ctr h
          unfold ctr at h1
          refine sx_all fo sv sh hd hI hs (by omega) (by omega) (by omega) (by omega) ?_
          intro ad' lsA' H' locs' he hm hI'
          refine ih d mi w.1.1 w.1.2.1 w.1.2.2 w.2.1 w.2.2.1 w.2.2.2.1 w.2.2.2.2 r h hmi fo sv sh hI' (fun k hk => (he k (Nat.le_trans hk hmE)).trans (hext k hk)) (Nat.le_trans hmE hm) (by omega) (by omega) hcR hsR hfR hlR
        · dsimp only at h
          cases h
          exact sx_ret fo sv sh hd hI hs hext (by dsimp only at hcm; omega) (by dsimp only at hsm; omega)
        · dsimp only at h
          by_cases hc : d = 0 ∨ mL mj < (lay as).length
          · rw [if_pos hc] at h; cases h
          · rw [if_neg hc] at h
            have hd0 : d ≠ 0 := fun z => hc (Or.inl z)
            have hlen : ¬ mL mj < (lay as).length := fun z => hc (Or.inr z)
            cases he : ex f (d - 1) mj (0, ent mj as, []) (P, I, L, C) with
            | none => rw [he] at h; cases h
            | some z =>
              rw [he] at h
              have hcz := ex_ctr he
              dsimp only at hcz
              have hzr : z.2.2.2.2.1 ≤ r.2.2.2.2.1 ∧ z.2.2.2.2.2 ≤ r.2.2.2.2.2 := by
                obtain ⟨v | E, M'⟩ := z
                · exact ex_ctr h
                · dsimp only at h
                  split at h
                  · cases h; exact ⟨Nat.le_refl _, Nat.le_refl _⟩
                  · split at h
                    · cases h
                    · exact ex_ctr h
              obtain ⟨hvst, a, hrun⟩ := call_run (R := R) (cells := cells) (slots := slots) (args := args) (below := below) (p := p) (e := e) ih fo sv sh hd hI hs he hlen (by omega) (by omega) (by omega) (by omega)
              obtain ⟨hx, hb, hml, hrt, hown, hlocks, htab, hnm⟩ := id fo
              obtain ⟨hP, hD, hwf, hS, hlh, hlv, hsv, hx1, hx2, hx3⟩ := id hI
              have hA : ∀ q, q < H.size → AL L0 q → AL L0 q := fun _ _ q => q
              intro T hT X9
              rcases hrun T hT X9 with ⟨v, st₀, t, T', Ls, h0, X', hL, e1, e2, hQ, stp9⟩ | ⟨q9, st₀, t, T', Ls, E9, ce, h0, X', hL, e1, e2, hQ, hce, hcv, hcl, stp9⟩
              · obtain ⟨v', ad1, z1, hext1, hov, hwd, hvv, hF⟩ := hQ
                obtain ⟨k1, k2, k3⟩ := vx_keep h0 e1 hS hA (fun _ q => q) hL hF
                obtain ⟨z0, M'⟩ := z
                dsimp only at z1 hwd hvv hzr hcz hext1
                subst z1
                dsimp only at h
                rw [← e1] at hwd
                cases hov
                have hext2 : ∀ k, k ≤ P.2.2 → ad1 k = ad k := hext1
                have hm1 : P.2.2 ≤ M'.1.2.2 := by
                  exact mem_grow he
                have hIV : IV D cy L0 x0 s mi ad1 M'.1 M'.2.1 M'.2.2.1 ls (v'.toList ++ st') lsA T'.heap (locs ++ Ls) :=
                  ⟨hwd.1, hwd.2.1, hwd.2.2.1, k3, lh_ad hlh hext2 hlv, fun w hw => vk_mono hm1 (hlv w hw), fun w hw => by
                    rcases List.mem_append.mp hw with hw | hw
                    · cases v' with
                      | none => cases hw
                      | some z' => rw [List.mem_singleton.mp hw]; exact hvv z' rfl
                    · exact vk_mono hm1 (hvst w hw), hwd.2.2.2.1, hwd.2.2.2.2.1, hwd.2.2.2.2.2⟩
                have hW := ih d mi (pc + 3) ls (v'.toList ++ st') M'.1 M'.2.1 M'.2.2.1 M'.2.2.2 r h hmi (p := p) (e := e) (R := R) (args := args) (below := below) (cells := cells + (M'.2.2.2.1 - C.1)) (slots := slots + (M'.2.2.2.2 - C.2)) (adE := adE) (mE := mE) (mc := mc) (ms := ms) fo sv sh hIV (fun k hk => (hext2 k (Nat.le_trans hk hmE)).trans (hext k hk)) (Nat.le_trans hmE hm1) (by omega) (by omega) hcR hsR hfR hlR
                obtain ⟨t2, b1, b2⟩ := hW T' rfl X'
                refine ⟨t2, stp9 t2 ?_, b2⟩
                have e9 : cv ad1 (v'.toList ++ st') = (v'.map (conc ad1)).toList ++ cv ad st' := by
                  unfold cv
                  rw [List.map_append]
                  have e8 : List.map (conc ad1) st' = List.map (conc ad) st' := cv_eq hext2 hvst
                  rw [e8]
                  cases v' <;> rfl
                rw [e9] at b1
                exact b1
              · obtain ⟨E1, ad1, z1, hE3, hE9, hext1, hwd, hF⟩ := hQ
                obtain ⟨k1, k2, k3⟩ := vx_keep h0 e1 hS hA (fun _ q => q) hL hF
                obtain ⟨z0, M'⟩ := z
                dsimp only at z1 hwd hzr hcz hext1
                subst z1
                subst hE9
                dsimp only at h
                rw [← e1] at hwd hce
                have hext2 : ∀ k, k ≤ P.2.2 → ad1 k = ad k := hext1
                have hm1 : P.2.2 ≤ M'.1.2.2 := mem_grow he
                have hpassQ : ∀ (q : Nat × Nat × Nat × Nat), q ∈ (mG mi).2.2.2.2 → ¬ (q.1 ≤ pc ∧ pc < q.2.1 ∧ xct q.2.2.2 = E1) → covers (⟨q.1, q.2.1, q.2.2.1, q.2.2.2⟩ : ExceptionTableEntry) pc = false ∨ (q.2.2.2 ≠ 0 ∧ ∃ nm : String, (Cond.classLink (cn (mO mi)) q.2.2.2 nm).before args s = true ∧ va_Nc (xcN E1) nm s) := by
                  intro q hq hn
                  by_cases hcov : q.1 ≤ pc ∧ pc < q.2.1
                  · have hmi2 : mi < 226 := by
                      rcases Nat.lt_or_ge mi 226 with g | g
                      · exact g
                      · have : mi = 226 := by omega
                        subst this
                        cases hq
                    obtain ⟨g1, g2⟩ := hh_law mi hmi2 (fun z => by rw [z] at hq; cases hq)
                    obtain ⟨g3, g4, g5⟩ := xlk q.2.2.2 (g2 q hq)
                    refine Or.inr ⟨g5, _, by rw [g1]; exact hts _ g3, sv.2.2.2.1 _ _ hE3 g4 (fun z => hn ⟨hcov.1, hcov.2, z.symm⟩)⟩
                  · refine Or.inl ?_
                    unfold covers
                    by_cases g : q.1 ≤ pc
                    · have g2 : ¬ pc < q.2.1 := fun z => hcov ⟨g, z⟩
                      simp [g2]
                    · simp [g]
                cases hf : hfind (mG mi).2.2.2.2 pc E1 with
                | none =>
                  rw [hf] at h
                  cases h
                  have hW := vx_outP (p := p) (l := l) (e := e) (R := R) (s := s) (m := m) (args := args) (below := below) (meth := meth) (c := c) (H := T'.heap) (locs := locs ++ Ls) (cells := cells + (M'.2.2.2.1 - C.1)) (slots := slots + (M'.2.2.2.2 - C.2)) (free := AL L0) (ls := lsA) (rest := cv ad st') (Qc := QC D cy L0 x0 adE mE (.inr E1, M')) (XC := XC D cy L0 x0 adE mE (.inr E1, M')) (pc := pc) (mc := mc) (ms := ms) hown hlocks (fun z hz => by
                      rw [htab] at hz
                      obtain ⟨q, hq, rfl⟩ := List.mem_map.mp hz
                      exact hpassQ q hq (hfind_none hf q hq)) hce hcv hcl (fun t1 ht1 _ => ⟨E1, ad1, rfl, hE3, rfl, fun k hk => (hext2 k (Nat.le_trans hk hmE)).trans (hext k hk), by rw [ht1]; exact hwd, k3.F ht1⟩) k3.2.2 (by dsimp only at hcm; omega) (by dsimp only at hsm; omega)
                  obtain ⟨t2, b1, b2⟩ := hW T' rfl X'
                  exact ⟨t2, stp9.trans b1, b2⟩
                | some hpc =>
                  rw [hf] at h
                  dsimp only at h
                  cases hg : hgo mi hpc ls with
                  | none => rw [hg] at h; cases h
                  | some fr' =>
                    rw [hg] at h
                    dsimp only at h
                    obtain ⟨pre, q, suf, g1, g2, g3, g4, g5, g6⟩ := hfind_some hf
                    have hqm : q ∈ (mG mi).2.2.2.2 := by rw [g1]; exact List.mem_append_right _ List.mem_cons_self
                    have hmi2 : mi < 226 := by
                      rcases Nat.lt_or_ge mi 226 with g | g
                      · exact g
                      · have : mi = 226 := by omega
                        subst this
                        cases hqm
                    obtain ⟨u1, u2⟩ := hh_law mi hmi2 (fun z => by rw [z] at hqm; cases hqm)
                    obtain ⟨u3, u4, u5⟩ := xlk q.2.2.2 (u2 q hqm)
                    have hWk : W p l e R s m args below meth c T'.heap (locs ++ Ls) (cells + (M'.2.2.2.1 - C.1)) (slots + (M'.2.2.2.2 - C.2)) (vx_MQ below (QC D cy L0 x0 adE mE r) (XC D cy L0 x0 adE mE r) args s mc ms (AL L0)) (F0 m hpc lsA [.ref q9]) := by
                      have hlh1 := lh_ad hlh hext2 hlv
                      have fin : ∀ (lsB : Array Slot) (kk : Nat) (pcB : Nat), fr' = (pcB, s1 ls kk UN, []) → lh lsB (mL mi) ad1 (s1 ls kk UN) → W p l e R s m args below meth c T'.heap (locs ++ Ls) (cells + (M'.2.2.2.1 - C.1)) (slots + (M'.2.2.2.2 - C.2)) (vx_MQ below (QC D cy L0 x0 adE mE r) (XC D cy L0 x0 adE mE r) args s mc ms (AL L0)) (F0 m pcB lsB []) := by
                        intro lsB kk pcB hfr hlB
                        subst hfr
                        exact ih d mi pcB (s1 ls kk UN) [] M'.1 M'.2.1 M'.2.2.1 M'.2.2.2 r h hmi fo sv sh ⟨hwd.1, hwd.2.1, hwd.2.2.1, k3, hlB, fun w hw => by
                          rcases mem_s1 hw with z | rfl | rfl
                          · exact vk_mono hm1 (hlv w z)
                          · exact vk_u _
                          · exact vk_u _, fun w hw => (nomatch hw), hwd.2.2.2.1, hwd.2.2.2.2.1, hwd.2.2.2.2.2⟩ (fun k hk => (hext2 k (Nat.le_trans hk hmE)).trans (hext k hk)) (Nat.le_trans hmE hm1) (by omega) (by omega) hcR hsR hfR hlR
                      unfold hgo at hg
                      split at hg
                      · rename_i kx ln rz9 hdx
                        cases hg
                        obtain ⟨hdec9, hck9⟩ := dec_ok hdx
                        simp only [ckR, Bool.and_eq_true, beq_iff_eq, decide_eq_true_eq] at hck9
                        obtain ⟨rfl, hkn⟩ := hck9
                        exact lv_astore_n (x := q9) (rest := []) hx hb hdec9 rfl (lh_has hlh1) hkn rfl (fun lsB hlB => fin lsB kx _ rfl (lh_s1u hlh1.2.2.1 hlB))
                      · rename_i kx ln rz9 hdx
                        cases hg
                        obtain ⟨hdec9, hck9⟩ := dec_ok hdx
                        simp only [ckR, Bool.and_eq_true, beq_iff_eq, decide_eq_true_eq] at hck9
                        obtain ⟨rfl, hkn⟩ := hck9
                        exact lv_astore (x := q9) (rest := []) hx hb hdec9 (lh_has hlh1) hkn rfl (fun lsB hlB => fin lsB kx _ rfl (lh_s1u hlh1.2.2.1 hlB))
                      · cases hg
                    have hcov : covers (⟨q.1, q.2.1, q.2.2.1, q.2.2.2⟩ : ExceptionTableEntry) pc = true := by
                      unfold covers
                      simp [g2, g3]
                    have hW := vx_catch (p := p) (l := l) (e := e) (R := R) (s := s) (m := m) (args := args) (below := below) (meth := meth) (c := c) (H := T'.heap) (locs := locs ++ Ls) (cells := cells + (M'.2.2.2.1 - C.1)) (slots := slots + (M'.2.2.2.2 - C.2)) (pc := pc) (ls := lsA) (rest := cv ad st') (own := cn (mO mi)) (name := xcN E1) (E := xcN E1) (ce := ce) (q := q9) hown (tableOf pre) ⟨q.1, q.2.1, q.2.2.1, q.2.2.2⟩ (tableOf suf) (by rw [htab, g1]; unfold tableOf; rw [List.map_append]; rfl) (fun z hz => by
                        obtain ⟨q', hq', rfl⟩ := List.mem_map.mp hz
                        exact hpassQ q' (by rw [g1]; exact List.mem_append_left _ hq') (g6 q' hq')) hcov u5 (by rw [u1, ← g5]; exact hts _ u3) (hts _ (xcast E1 hE3)) hce hcv hcl (by rw [← g4] at hWk; exact hWk)
                    obtain ⟨t2, b1, b2⟩ := hW T' rfl X'
                    exact ⟨t2, stp9.trans b1, b2⟩
        · dsimp only at h
          cases h
          exact sx_throw hl fo sv sh hd hI hs hext (by omega) (by omega) (by dsimp only at hcm; omega) (by dsimp only at hsm; omega) hcR hsR
end
section
theorem zz_look : 1 + 1 = 2 := rfl
end
