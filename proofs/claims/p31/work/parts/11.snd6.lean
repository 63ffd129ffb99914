/-! SOUND, seventh part: calls -/
theorem lkB_call {k mj knd ci nest pl own idx : Nat} {ps : List Nat} (h : lkB k (2 :: mj :: knd :: ci :: nest :: pl :: ps) = true) (h1 : k / 1000 = own) (h2 : k % 1000 = idx) :
    ((nest = 0 ∧ tables_1[pl]? = some (.methodLink (cn own) idx (mG mj).1)) ∨ (nest ≠ 0 ∧ tables_1[pl]? = some (.methodLinkNest (cn own) idx (mG mj).1 RX9))) ∧ mj < 226 ∧ mj ≠ 18 ∧ mj ≠ 81 ∧ (mG mj).1.cls = cn ci ∧ (parseMethodDescriptor (mG mj).1.desc).map (fun d => d.parameters.length) = some ps.length ∧
    ∃ p2 p3 : Nat, (knd = 0 ∧ tables_1[p2]? = some (.static (mG mj).1)) ∨ (knd ≠ 0 ∧ tables_1[p2]? = some (.instanceMethod (mG mj).1) ∧ ci < 10 ∧ ((knd = 1 ∧ (mG mj).1.name = "<init>" ∧ (mG mj).2.2.2.1 = none) ∨ (knd ≠ 1 ∧ lw_tbl[p3]? = some (.selects (cn ci) (mG mj).1 (mG mj).1)))) := by
  simp only [lkB, h1, h2, Bool.and_eq_true, decide_eq_true_eq] at h
  obtain ⟨⟨⟨⟨g1, g2⟩, g3⟩, g4⟩, g5⟩ := h
  refine ⟨?_, g2.1, g2.2.1, g2.2.2, g3, g4, ?_⟩
  · by_cases hn : nest = 0
    · rw [if_pos hn] at g1
      exact Or.inl ⟨hn, of_decide_eq_true g1⟩
    · rw [if_neg hn] at g1
      exact Or.inr ⟨hn, of_decide_eq_true g1⟩
  · split at g5
    · rename_i p1 p2 p3 p4 hm
      refine ⟨p2, p3, ?_⟩
      by_cases hk : knd = 0
      · rw [if_pos hk] at g5
        exact Or.inl ⟨hk, of_decide_eq_true g5⟩
      · rw [if_neg hk] at g5
        simp only [Bool.and_eq_true, decide_eq_true_eq] at g5
        refine Or.inr ⟨hk, g5.1.1, g5.1.2, ?_⟩
        by_cases hk1 : knd = 1
        · have g6 := g5.2
          rw [if_pos hk1] at g6
          simp only [Bool.and_eq_true, decide_eq_true_eq] at g6
          exact Or.inl ⟨hk1, g6.1, g6.2⟩
        · have g6 := g5.2
          rw [if_neg hk1] at g6
          exact Or.inr ⟨hk1, of_decide_eq_true g6⟩
    · cases g5
theorem SH_calling {L0 : Nat} {x0 : XX} {U : State} {g : JFrame} {mk : MethodId} {a : Array Value} (h : SH L0 x0 U U.heap) : SH L0 x0 (U.calling g mk a) (U.calling g mk a).heap :=
  ⟨vx_Zq.moved (u := U) (U := U.calling g mk a) (Vm.Alike.refl U.vm) h.1, vx_Zq.moved (u := U) (U := U.calling g mk a) (Vm.Alike.refl U.vm) h.2.1, va_X.moved (u := U) (U := U.calling g mk a) (Vm.Alike.refl U.vm) h.2.2.1, h.2.2.2.1, h.2.2.2.2⟩
theorem PCm_blind {D : va_G} {cy : CY} {L0 : Nat} {x0 : XX} {ad : Nat → Nat} {M : MM} {av : List Value} : FrameBlind (va_Pc av (PCm D cy L0 x0 ad M)) := by
  intro a U g mk q
  obtain ⟨q0, q1, q2, q3⟩ := q
  exact ⟨q0, SV_moves (s := U) (U := U.calling g mk a) (State.WarmedH.refl U) q1, SH_calling q2, q3⟩
section SND6
variable {p : Program} {l : Launch} {e : Env} {R : Room} {s : State} {m : MethodId} {args : Array Value} {below : List Frame} {meth : Method} {c : Code} {H : Heap} {locs : List Loc} {cells slots : Nat} {Q : State → Prop}
variable {D : va_G} {cy : CY} {L0 : Nat} {x0 : XX} {mi : Nat} {ad adE : Nat → Nat} {P P' : MP} {I I' : MI} {L L' : ML} {C C' : MC} {ls ls' st st' : List Value} {lsA : Array Slot} {pc pc' mE mc ms : Nat} {i : ClassFile.Instr} {len : Nat} {rz : List Nat}
set_option maxHeartbeats 4000000 in
theorem call_run {f d mj : Nat} {as : List Value} {z : RV × MM} (ih : SNDP l f) (fo : FO p s m meth c mi) (sv : SV D cy s) (sh : SH L0 x0 s s.heap) (hd : dec mi pc = some (i, len, rz)) (hI : IV D cy L0 x0 s mi ad P I L ls st lsA H locs) (hs : stp pc i len rz ls st P I L C = some (.inr (.inr (.inl (mj, as, st')))))
    (he : ex f d mj (0, ent mj as, []) (P, I, L, C) = some z) (hlen : ¬ mL mj < (lay as).length) (hfR : d + 9 ≤ R.frames) (hlR : 64 * d + 192 ≤ R.locals) (hcR : cells + z.2.2.2.2.1 ≤ R.cells + C.1) (hsR : slots + z.2.2.2.2.2 ≤ R.slots + C.2) :
    (∀ v ∈ st', vk P v) ∧ ∃ a, vx_Run p l e R s m args below meth c H locs cells slots (z.2.2.2.2.1 - C.1) (z.2.2.2.2.2 - C.2) (F0 m pc lsA (cv ad st)) (cv ad st') (QC D cy L0 x0 ad P.2.2 z a) (XC D cy L0 x0 ad P.2.2 z) (AL L0) := by
  obtain ⟨hdec, hck⟩ := dec_ok hd
  obtain ⟨hx, hb, hml, hrt, hown, hlocks, htab, hnm⟩ := fo
  have hts : ∀ w ∈ GT, w.before args s = true := fun w hw => sv.1 w hw args
  obtain ⟨hP, hD, hwf, hS, hlh, hlv, hsv, hx1, hx2, hx3⟩ := id hI
  have hmono := ex_ctr he
  dsimp only at hmono
  have hfit : cells + (z.2.2.2.2.1 - C.1) ≤ R.cells ∧ slots + (z.2.2.2.2.2 - C.2) ≤ R.slots := ⟨by omega, by omega⟩
  -- what is the same for every call
  have common : ∀ (knd ci nest pl : Nat) (ps : List Nat) (n : Nat), ckLk mi n (2 :: mj :: knd :: ci :: nest :: pl :: ps) = true → (∀ v ∈ as, vk P v) →
      (((nest = 0 ∧ (Cond.methodLink (cn (mO mi)) n (mG mj).1) ∈ GT) ∨ (nest ≠ 0 ∧ (Cond.methodLinkNest (cn (mO mi)) n (mG mj).1 RX9) ∈ GT)) ∧ mj < 226 ∧ (mG mj).1.cls = cn ci ∧ (∀ sig, parseMethodDescriptor (mG mj).1.desc = some sig → ps.length = sig.parameters.length) ∧
      ((knd = 0 ∧ (Cond.static (mG mj).1) ∈ GT) ∨ (knd ≠ 0 ∧ (Cond.instanceMethod (mG mj).1) ∈ GT ∧ ci < 10 ∧ ((knd = 1 ∧ (mG mj).1.name = "<init>" ∧ (mG mj).2.2.2.1 = none) ∨ (knd ≠ 1 ∧ (Cond.selects (cn ci) (mG mj).1 (mG mj).1) ∈ GT)))) ∧
      ((mG mj).2.2.2.2 ≠ [] → knd = 0 ∧ nest = 0) ∧ cword mj ∈ GT ∧ (Cond.initialized (mG mj).1.cls) ∈ GT ∧
      vx_Met l (mG mj).1 [cword mj] (RMd d (z.2.2.2.2.1 - C.1) (z.2.2.2.2.2 - C.2)) (va_Pc (cv ad as) (PCm D cy L0 x0 ad (P, I, L, C))) (QC D cy L0 x0 ad P.2.2 z) (XC D cy L0 x0 ad P.2.2 z) (z.2.2.2.2.1 - C.1) (z.2.2.2.2.2 - C.2) (AL L0)) := by
    intro knd ci nest pl ps n hlk has
    obtain ⟨hlb, hk1, hk2⟩ := ckLk_inv hlk (by simp)
    obtain ⟨g1, g2, g3, g4, g5, g6, p2, p3, g7⟩ := lkB_call hlb hk1 hk2
    have hw := mw_ok g2 g3 g4
    obtain ⟨w1, w2, -, -, -⟩ := mw_spec hw
    refine ⟨?_, g2, g5, ?_, ?_, ?_, w1, w2, met_of (M := (P, I, L, C)) ih he hlen g2 hw D cy L0 x0 ad has⟩
    · rcases g1 with ⟨q1, q2⟩ | ⟨q1, q2⟩
      · exact Or.inl ⟨q1, mem_GT1 q2 rfl⟩
      · exact Or.inr ⟨q1, mem_GT1 q2 rfl⟩
    · intro sig h
      rw [h] at g6
      exact (Option.some.inj g6).symm
    · rcases g7 with ⟨q1, q2⟩ | ⟨q1, q2, q3, q4⟩
      · exact Or.inl ⟨q1, mem_GT1 q2 rfl⟩
      · refine Or.inr ⟨q1, mem_GT1 q2 rfl, q3, ?_⟩
        rcases q4 with q4 | ⟨q4, q5⟩
        · exact Or.inl q4
        · exact Or.inr ⟨q4, mem_GT q5 rfl⟩
    · unfold ckLk at hlk
      rw [Bool.or_eq_true, Bool.and_eq_true] at hlk
      rcases hlk with hlk | hlk
      · exact absurd (beq_iff_eq.mp hlk) (by simp)
      · obtain ⟨q, hq, hqe⟩ : ∃ q ∈ lkT, q.2 = 2 :: mj :: knd :: ci :: nest :: pl :: ps := by
          have h9 := beq_iff_eq.mp hlk.2
          have key : ∀ (l : List (Nat × List Nat)) (k : Nat) (r : List Nat), l.lookup k = some r → ∃ q ∈ l, q.2 = r := by
            intro l
            induction l with
            | nil => intro k r h; cases h
            | cons e l ihl =>
              intro k r h
              rw [List.lookup_cons] at h
              by_cases hk : k == e.1
              · rw [hk] at h
                cases h
                exact ⟨e, List.mem_cons_self, rfl⟩
              · rw [Bool.not_eq_true] at hk
                rw [hk] at h
                obtain ⟨q, h1, h2⟩ := ihl k r h
                exact ⟨q, List.mem_cons_of_mem _ h1, h2⟩
          exact key _ _ _ h9
        exact hh_lnk q hq mj knd ci nest pl ps hqe
  have hmax : mj < 226 → 8 + (mL mj + 11) + (64 * d + 128) ≤ R.locals := fun h => by have := mL_le mj h; omega
  have hwsB : cword mj ∈ GT → ∀ w ∈ [cword mj], ∀ (a' : Array Value) (U : State), s.WarmedH U.vm → w.before a' U = true := by
    intro h w hw a' U hW
    rw [List.mem_singleton.mp hw]
    exact word_at hW (good_of_word (cword_good mj)) (hts _ h)
  have hcode0 : (mG mj).2.2.2.2 = [] → cword mj = .code (mG mj).1 (mG mj).2.1 (mL mj) (mG mj).2.2.2.1 := by
    intro h; unfold cword; rw [h]
  have hcode1 : (mG mj).2.2.2.2 ≠ [] → cword mj = .codeWith (mG mj).1 (mG mj).2.1 (mL mj) (mG mj).2.2.2.1 (mG mj).2.2.2.2 := by
    intro h; unfold cword; split
    · rename_i q; exact absurd q h
    · rfl
  have hpre : PreS s H (va_Pc (cv ad as) (PCm D cy L0 x0 ad (P, I, L, C))) (cv ad as) :=
    ⟨PCm_blind, fun U hU hW => ⟨rfl, SV_moves hW sv, by rw [hU]; exact SH_moves hW.alike hS sh, by rw [hU]; exact ⟨hP, hD, hwf, hx1, hx2, hx3⟩⟩⟩
  have hfix : CallFix p m c (mG mi).2.1 (mL mi) s args GT (cn (mO mi)) := ⟨hx, hb, hml, hown, hts⟩
  cases i
  case invokestatic n =>
    simp only [stp] at hs
    simp only [ckR, Bool.and_eq_true, beq_iff_eq] at hck
    obtain ⟨⟨rfl, hlk⟩, hknd⟩ := hck
    split at hs
    · rename_i mj0 knd ci nest pl ps
      split at hs
      · rename_i as0 st0 hpop
        split at hs
        · rename_i hcat
          cases hs
          obtain ⟨vs, e1, e2, e3⟩ := pops_inv hpop
          rw [List.append_nil] at e2
          subst e1
          have hsv2 := List.forall_mem_append.mp hsv
          have has : ∀ v ∈ as, vk P v := fun v hv => hsv2.1 v (by rw [e2] at hv; exact List.mem_reverse.mp hv)
          have hk0 : knd = 0 := beq_iff_eq.mp hknd
          obtain ⟨g1, g2, g3, g4, g5, g6, g7, g8, hM⟩ := common knd ci nest pl ps n hlk has
          have hst : (hts _ ((g5.resolve_right (fun q => q.1 hk0)).2)) = (hts _ ((g5.resolve_right (fun q => q.1 hk0)).2)) := rfl
          have hstat := hts _ ((g5.resolve_right (fun q => q.1 hk0)).2)
          have hlen2 : (cv ad as).length = ps.length := by unfold cv; rw [List.length_map, e2, List.length_reverse, e3]
          have hstack : cv ad (vs ++ st') = (cv ad as).reverse ++ cv ad st' := by unfold cv; rw [List.map_append, e2, List.map_reverse, List.reverse_reverse]
          have hroom : 2 * (F0 m pc lsA (cv ad (vs ++ st'))).monitorRoom + ((cv ad st').map fun v => v.category).sum ≤ 8 := lv_room (by rw [catS_cv]; exact hcat)
          refine ⟨hsv2.2, (cv ad as).toArray, ?_⟩
          by_cases hh : (mG mj).2.2.2.2 = []
          · have hcm : Cond.code (mG mj).1 (mG mj).2.1 (mL mj) (mG mj).2.2.2.1 ∈ GT := hcode0 hh ▸ g7
            have hin : Cond.code (mG mj).1 (mG mj).2.1 (mL mj) (mG mj).2.2.2.1 ∈ [cword mj] := by rw [hcode0 hh]; exact List.mem_cons_self
            rcases g1 with ⟨-, g1⟩ | ⟨-, g1⟩
            · exact vx_runS (n := ps.length) hfix hM ⟨⟨rfl, rfl, by show d + 8 + 1 ≤ R.frames; omega, hmax g2, hwsB g7, hin, hts _ hcm, hts _ g8, g3 ▸ cn_ne ci, g4, hts _ g1⟩, hstat⟩ hpre rfl hlen2 hlh.1 hstack hroom hdec hfit
            · exact vx_runSN (n := ps.length) (host := RX9) hfix hM ⟨⟨⟨rfl, rfl, by show d + 8 + 1 ≤ R.frames; omega, hmax g2, hwsB g7, hin⟩, hts _ hcm, hts _ g8, g3 ▸ cn_ne ci, g4, hts _ g1⟩, hstat, trivial⟩ hpre rfl hlen2 hlh.1 hstack hroom hdec hfit
          · have hcm : Cond.codeWith (mG mj).1 (mG mj).2.1 (mL mj) (mG mj).2.2.2.1 (mG mj).2.2.2.2 ∈ GT := hcode1 hh ▸ g7
            have hin : Cond.codeWith (mG mj).1 (mG mj).2.1 (mL mj) (mG mj).2.2.2.1 (mG mj).2.2.2.2 ∈ [cword mj] := by rw [hcode1 hh]; exact List.mem_cons_self
            have g1' := (g1.resolve_right (fun q => q.1 (g6 hh).2)).2
            exact vx_runSX (n := ps.length) hfix hM ⟨⟨rfl, rfl, by show d + 8 + 1 ≤ R.frames; omega, hmax g2, hwsB g7, hin⟩, hts _ hcm, hts _ g8, g3 ▸ cn_ne ci, g4, hts _ g1', hstat⟩ hpre rfl hlen2 hlh.1 hstack hroom hdec hfit
        · cases hs
      · cases hs
    · (repeat' split at hs) <;> cases hs
    · (repeat' split at hs) <;> cases hs
    · (repeat' split at hs) <;> cases hs
    · cases hs
  case invokespecial n =>
    simp only [stp] at hs
    simp only [ckR, Bool.and_eq_true, beq_iff_eq] at hck
    obtain ⟨⟨rfl, hlk⟩, hknd⟩ := hck
    split at hs
    · rename_i mj0 knd ci nest pl ps
      split at hs
      · rename_i as0 k0 st0 hpop
        split at hs
        · rename_i hcat
          cases hs
          obtain ⟨vs, e1, e2, e3⟩ := pops_inv hpop
          rw [List.append_nil] at e2
          subst e1
          have hsv2 := List.forall_mem_append.mp hsv
          have hsv3 := List.forall_mem_cons.mp hsv2.2
          have has : ∀ v ∈ (Value.ref k0 :: as0), vk P v := List.forall_mem_cons.mpr ⟨hsv3.1, fun v hv => hsv2.1 v (by rw [e2] at hv; exact List.mem_reverse.mp hv)⟩
          have hk0 : knd = 1 := beq_iff_eq.mp hknd
          obtain ⟨g1, g2, g3, g4, g5, g6, g7, g8, hM⟩ := common knd ci nest pl ps n hlk has
          obtain ⟨-, g51, g52, g53⟩ := g5.resolve_left (fun q => by have := q.1; omega)
          obtain ⟨-, g54, g55⟩ := g53.resolve_right (fun q => q.1 hk0)
          have hh : (mG mj).2.2.2.2 = [] := Classical.byContradiction fun q => by have := (g6 q).1; omega
          have hlen2 : (cv ad as0).length = ps.length := by unfold cv; rw [List.length_map, e2, List.length_reverse, e3]
          have hstack : cv ad (vs ++ Value.ref k0 :: st') = (cv ad as0).reverse ++ .ref (ad k0) :: cv ad st' := by unfold cv; rw [List.map_append, e2, List.map_reverse, List.reverse_reverse]; rfl
          have hroom : 2 * (F0 m pc lsA (cv ad (vs ++ Value.ref k0 :: st'))).monitorRoom + ((cv ad st').map fun v => v.category).sum ≤ 8 := lv_room (by rw [catS_cv]; exact hcat.2)
          refine ⟨hsv3.2, (cv ad (Value.ref k0 :: as0)).toArray, ?_⟩
          have hcm : Cond.code (mG mj).1 (mG mj).2.1 (mL mj) none ∈ GT := g55 ▸ hcode0 hh ▸ g7
          have hin : Cond.code (mG mj).1 (mG mj).2.1 (mL mj) none ∈ [cword mj] := by rw [hcode0 hh, g55]; exact List.mem_cons_self
          rcases g1 with ⟨-, g1⟩ | ⟨-, g1⟩
          · exact vx_runI (n := ps.length) hfix hM ⟨⟨rfl, rfl, by show d + 8 + 1 ≤ R.frames; omega, hmax g2, hwsB g7, hin, hts _ hcm, hts _ g8, g3 ▸ cn_ne ci, g4, hts _ g1⟩, g54, hts _ g51⟩ hpre rfl hlen2 hlh.1 hstack hroom hdec hfit
          · exact vx_runIN (n := ps.length) (host := RX9) hfix hM ⟨⟨⟨rfl, rfl, by show d + 8 + 1 ≤ R.frames; omega, hmax g2, hwsB g7, hin⟩, hts _ hcm, hts _ g8, g3 ▸ cn_ne ci, g4, hts _ g1⟩, g54, hts _ g51⟩ hpre rfl hlen2 hlh.1 hstack hroom hdec hfit
        · cases hs
      · cases hs
    · (repeat' split at hs) <;> cases hs
    · cases hs
  case invokevirtual n =>
    simp only [stp] at hs
    simp only [ckR, Bool.and_eq_true, beq_iff_eq] at hck
    obtain ⟨⟨rfl, hlk⟩, hknd⟩ := hck
    split at hs
    · rename_i mj0 knd ci nest pl ps
      split at hs
      · rename_i as0 k0 st0 hpop
        split at hs
        · rename_i hcat
          cases hs
          obtain ⟨vs, e1, e2, e3⟩ := pops_inv hpop
          rw [List.append_nil] at e2
          subst e1
          have hsv2 := List.forall_mem_append.mp hsv
          have hsv3 := List.forall_mem_cons.mp hsv2.2
          have has : ∀ v ∈ (Value.ref k0 :: as0), vk P v := List.forall_mem_cons.mpr ⟨hsv3.1, fun v hv => hsv2.1 v (by rw [e2] at hv; exact List.mem_reverse.mp hv)⟩
          have hk0 : knd = 2 := beq_iff_eq.mp hknd
          obtain ⟨g1, g2, g3, g4, g5, g6, g7, g8, hM⟩ := common knd ci nest pl ps n hlk has
          obtain ⟨-, g51, g52, g53⟩ := g5.resolve_left (fun q => by have := q.1; omega)
          obtain ⟨-, g54⟩ := g53.resolve_left (fun q => by have := q.1; omega)
          have hh : (mG mj).2.2.2.2 = [] := Classical.byContradiction fun q => by have := (g6 q).1; omega
          have hlen2 : (cv ad as0).length = ps.length := by unfold cv; rw [List.length_map, e2, List.length_reverse, e3]
          have hstack : cv ad (vs ++ Value.ref k0 :: st') = (cv ad as0).reverse ++ .ref (ad k0) :: cv ad st' := by unfold cv; rw [List.map_append, e2, List.map_reverse, List.reverse_reverse]; rfl
          have hroom : 2 * (F0 m pc lsA (cv ad (vs ++ Value.ref k0 :: st'))).monitorRoom + ((cv ad st').map fun v => v.category).sum ≤ 8 := lv_room (by rw [catS_cv]; exact hcat.2)
          refine ⟨hsv3.2, (cv ad (Value.ref k0 :: as0)).toArray, ?_⟩
          have hka := kind_at hwf (k := k0) (by omega) (by omega)
          have hew := wl_get (cy := cy) (ad := ad) (I := I) (L := L) hka.1 hka.2
          rw [kind_obj hcat.1 g52] at hew
          have hrec := va_recv sv.2.1 hP (cl_at g52) hew
          have hpreV : PreV s H (cn ci) (ad k0) (va_Pc (cv ad (Value.ref k0 :: as0)) (PCm D cy L0 x0 ad (P, I, L, C))) (cv ad as0) := ⟨hpre.1, hrec, hpre.2⟩
          have hcm : Cond.code (mG mj).1 (mG mj).2.1 (mL mj) (mG mj).2.2.2.1 ∈ GT := hcode0 hh ▸ g7
          have hin : Cond.code (mG mj).1 (mG mj).2.1 (mL mj) (mG mj).2.2.2.1 ∈ [cword mj] := by rw [hcode0 hh]; exact List.mem_cons_self
          rcases g1 with ⟨-, g1⟩ | ⟨-, g1⟩
          · exact vx_runV (n := ps.length) (C := cn ci) hfix hM ⟨⟨rfl, rfl, by show d + 8 + 1 ≤ R.frames; omega, hmax g2, hwsB g7, hin, hts _ hcm, hts _ g8, g3 ▸ cn_ne ci, g4, hts _ g1⟩, hts _ g51, hts _ g54⟩ hpreV rfl hlen2 hlh.1 hstack hroom hdec hfit
          · exact vx_runVN (n := ps.length) (C := cn ci) (host := RX9) hfix hM ⟨⟨⟨rfl, rfl, by show d + 8 + 1 ≤ R.frames; omega, hmax g2, hwsB g7, hin⟩, hts _ hcm, hts _ g8, g3 ▸ cn_ne ci, g4, hts _ g1⟩, hts _ g51, hts _ g54⟩ hpreV rfl hlen2 hlh.1 hstack hroom hdec hfit
        · cases hs
      · cases hs
    · cases hs
  all_goals
    exfalso
    simp only [stp] at hs
    (repeat' split at hs) <;>
      first
      | cases hs
      | exact ldI_no hs
      | exact ldA_no hs
      | exact ldL_no hs
      | exact ldD_no hs
      | exact stI_no hs
      | exact stA_no hs
      | exact stL_no hs
      | exact stD_no hs
      | exact o1I_no hs
      | exact o2I_no hs
      | exact o2L_no hs
      | exact brI_no hs
      | exact brII_no hs
end SND6
