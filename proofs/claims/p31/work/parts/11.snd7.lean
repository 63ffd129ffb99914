/-! SOUND, eighth part: throws, handlers, the whole -/
abbrev xnames : List String := ["java/lang/RuntimeException", "java/lang/Exception"]
def xic (E : Nat) : Nat := match E with
  | 0 => 283
  | 1 => 94
  | _ => 108
theorem xat0 : (vx_atS RX9 283 (xcN 0) xnames).all (fun w => decide (w ∈ lw_tbl) && tw w) = true := by decide +kernel
theorem xat1 : (vx_atS RX9 94 (xcN 1) xnames).all (fun w => decide (w ∈ lw_tbl) && tw w) = true := by decide +kernel
theorem xat2 : (vx_atS RX9 108 (xcN 2) xnames).all (fun w => decide (w ∈ lw_tbl) && tw w) = true := by decide +kernel
theorem xot0 : (vx_atS RX9 283 (xcN 0) xnames).all vx_ot = true := by decide +kernel
theorem xot1 : (vx_atS RX9 94 (xcN 1) xnames).all vx_ot = true := by decide +kernel
theorem xot2 : (vx_atS RX9 108 (xcN 2) xnames).all vx_ot = true := by decide +kernel
theorem xfit (E : Nat) (h : E < 3) : Bundle.fit (xcN E) = true := by
  match E, h with
  | 0, _ => decide +kernel
  | 1, _ => decide +kernel
  | 2, _ => decide +kernel
  | n + 3, h => exact absurd h (by omega)
theorem xnfit : ∀ n ∈ xnames, Bundle.fit n = true := by decide +kernel
theorem xat (E : Nat) (h : E < 3) : (∀ w ∈ vx_atS RX9 (xic E) (xcN E) xnames, w ∈ GT) ∧ ∀ w ∈ vx_atS RX9 (xic E) (xcN E) xnames, vx_ot w = true := by
  have key : ∀ {l : List Cond}, l.all (fun w => decide (w ∈ lw_tbl) && tw w) = true → ∀ w ∈ l, w ∈ GT := by
    intro l hl w hw
    have h1 := List.all_eq_true.mp hl w hw
    simp only [Bool.and_eq_true, decide_eq_true_eq] at h1
    exact List.mem_filter.mpr h1
  match E, h with
  | 0, _ => exact ⟨key xat0, List.all_eq_true.mp xot0⟩
  | 1, _ => exact ⟨key xat1, List.all_eq_true.mp xot1⟩
  | 2, _ => exact ⟨key xat2, List.all_eq_true.mp xot2⟩
  | n + 3, h => exact absurd h (by omega)
theorem xini (E : Nat) (h : E < 3) : (Cond.initialized (xcN E)) ∈ GT := by
  match E, h with
  | 0, _ => exact mem_GT1 (i := 19) (by decide +kernel) (by decide +kernel)
  | 1, _ => exact mem_GT1 (i := 17) (by decide +kernel) (by decide +kernel)
  | 2, _ => exact mem_GT1 (i := 14) (by decide +kernel) (by decide +kernel)
  | n + 3, h => exact absurd h (by omega)
/-- the texts of the throws are the known ones -/
theorem thS {mi pc : Nat} (h9 : mO mi = 9) {n : Nat} {len : Nat} {rz : List Nat} (hd : dec mi pc = some (.new n, len, 6 :: rz)) : (∀ is ln r2, dec mi (pc + 4) = some (.ldc is, ln, r2) → ∃ t, (is, t) ∈ strT) ∧ (∀ is ln r2, dec mi (pc + 4) = some (.ldc_w is, ln, r2) → ∃ t, (is, t) ∈ strT) := by
  have hall : (List.range 227).all (fun mi => mO mi != 9 || (List.range (dln mi)).all (fun pc => match dec mi pc with
    | some (.new _, _, 6 :: _) => (match dec mi (pc + 4) with
      | some (.ldc is, _, _) => strT.any (fun q => q.1 == is)
      | some (.ldc_w is, _, _) => strT.any (fun q => q.1 == is)
      | _ => true)
    | _ => true)) = true := by decide +kernel
  have hm : mi < 227 ∧ pc < dln mi := by
    unfold dec at hd
    cases he : dcl[mi]? with
    | none => rw [he] at hd; cases hd
    | some e =>
      rw [he] at hd
      dsimp only at hd
      have h1 := (List.getElem?_eq_some_iff.mp he).1
      have h2 : dcl.length = 227 := by decide +kernel
      by_cases hp : pc < e.1
      · refine ⟨by omega, ?_⟩
        unfold dln
        rw [List.getD_eq_getElem?_getD, List.getElem?_map, he]
        exact hp
      · rw [if_neg hp] at hd; cases hd
  have h1 := List.all_eq_true.mp hall mi (List.mem_range.mpr hm.1)
  rw [h9] at h1
  have h2 := List.all_eq_true.mp (show (List.range (dln mi)).all _ = true from by simpa using h1) pc (List.mem_range.mpr hm.2)
  have key : ∀ is, strT.any (fun q => q.1 == is) = true → ∃ t, (is, t) ∈ strT := by
    intro is h
    obtain ⟨q, hq, he⟩ := List.any_eq_true.mp h
    exact ⟨q.2, by rw [← beq_iff_eq.mp he]; exact hq⟩
  rw [hd] at h2
  constructor
  · intro is ln r2 h4
    rw [h4] at h2
    exact key is h2
  · intro is ln r2 h4
    rw [h4] at h2
    exact key is h2
theorem ckX_inv {mi E ic : Nat} (h : ckX mi E ic = true) : mO mi = 9 ∧ E < 3 ∧ ic = xic E ∧ (mG mi).2.2.2.2 = [] := by
  unfold ckX at h
  simp only [Bool.and_eq_true, Bool.or_eq_true, beq_iff_eq] at h
  obtain ⟨⟨h1, h2⟩, h3⟩ := h
  refine ⟨h1, ?_, ?_, List.isEmpty_iff.mp h3⟩
  · rcases h2 with (⟨q, -⟩ | ⟨q, -⟩) | ⟨q, -⟩ <;> omega
  · rcases h2 with (⟨q, q2⟩ | ⟨q, q2⟩) | ⟨q, q2⟩ <;> subst q <;> exact q2
theorem ckTh_inv {mi pc E : Nat} (h : ckTh mi pc E = true) : ∃ ic, (mO mi = 9 ∧ E < 3 ∧ ic = xic E ∧ (mG mi).2.2.2.2 = []) ∧
    ((∃ r3 is r4 r6 r9, dec mi (pc + 3) = some (.dup, 1, r3) ∧ dec mi (pc + 4) = some (.ldc is, 2, r4) ∧ dec mi (pc + 6) = some (.invokespecial ic, 3, r6) ∧ dec mi (pc + 9) = some (.athrow, 1, r9)) ∨
     (∃ r3 is r4 r6 r9, dec mi (pc + 3) = some (.dup, 1, r3) ∧ dec mi (pc + 4) = some (.ldc_w is, 3, r4) ∧ dec mi (pc + 7) = some (.invokespecial ic, 3, r6) ∧ dec mi (pc + 10) = some (.athrow, 1, r9))) := by
  unfold ckTh at h
  rw [Bool.or_eq_true] at h
  rcases h with h | h
  · split at h
    · rename_i r3 is r4 ic r6 r9 q1 q2 q3 q4
      exact ⟨ic, ckX_inv h, Or.inl ⟨_, _, _, _, _, q1, q2, q3, q4⟩⟩
    · cases h
  · split at h
    · rename_i r3 is r4 ic r6 r9 q1 q2 q3 q4
      exact ⟨ic, ckX_inv h, Or.inr ⟨_, _, _, _, _, q1, q2, q3, q4⟩⟩
    · cases h
section SND7
variable {p : Program} {l : Launch} {e : Env} {R : Room} {s : State} {m : MethodId} {args : Array Value} {below : List Frame} {meth : Method} {c : Code} {H : Heap} {locs : List Loc} {cells slots : Nat} {Q : State → Prop}
variable {D : va_G} {cy : CY} {L0 : Nat} {x0 : XX} {mi : Nat} {ad adE : Nat → Nat} {P P' : MP} {I I' : MI} {L L' : ML} {C C' : MC} {ls ls' st st' : List Value} {lsA : Array Slot} {pc pc' mE mc ms : Nat} {i : ClassFile.Instr} {len : Nat} {rz : List Nat}
set_option maxHeartbeats 4000000 in
theorem sx_throw (hl : l.stackTraces = false) (fo : FO p s m meth c mi) (sv : SV D cy s) (sh : SH L0 x0 s s.heap) (hd : dec mi pc = some (i, len, rz)) (hI : IV D cy L0 x0 s mi ad P I L ls st lsA H locs) {E : Nat} (hs : stp pc i len rz ls st P I L C = some (.inr (.inr (.inr E)))) (hext : ∀ k, k ≤ mE → ad k = adE k)
    (hfR : 8 ≤ R.frames) (hlR : 128 ≤ R.locals) (h1 : cells + 1 ≤ mc) (h2 : slots + 6 ≤ ms) (h3 : mc ≤ R.cells) (h4 : ms ≤ R.slots) :
    W p l e R s m args below meth c H locs cells slots (vx_MQ below (QC D cy L0 x0 adE mE (.inr E, (P, I, L, (C.1 + 1, C.2 + 6)))) (XC D cy L0 x0 adE mE (.inr E, (P, I, L, (C.1 + 1, C.2 + 6)))) args s mc ms (AL L0)) (F0 m pc lsA (cv ad st)) := by
  obtain ⟨hdec, hck⟩ := dec_ok hd
  obtain ⟨hx, hb, hml, hrt, hown, hlocks, htab, hnm⟩ := fo
  have hts : ∀ w ∈ GT, w.before args s = true := fun w hw => sv.1 w hw args
  obtain ⟨hP, hD, hwf, hS, hlh, hlv, hsv, hx1, hx2, hx3⟩ := id hI
  have hwd : WD D cy L0 x0 ad (P, I, L, (C.1 + 1, C.2 + 6)) H := ⟨hP, hD, hwf, hx1, hx2, hx3⟩
  cases i
  case new n =>
    simp only [stp] at hs
    simp only [ckR, Bool.and_eq_true, beq_iff_eq] at hck
    obtain ⟨⟨rfl, hlk⟩, hth⟩ := hck
    split at hs
    · cases hs
    · cases hs
    · rename_i E0 r0
      split at hs
      · rename_i hcat
        cases hs
        obtain ⟨ic, ⟨h9, hE, hic, hh⟩, hforms⟩ := ckTh_inv hth
        obtain ⟨hlb, hk1, hk2⟩ := ckLk_inv hlk (by simp)
        have hlink : (Cond.classLink (cn (mO mi)) n (xcN E)) ∈ GT := by
          match r0, hlb with
          | [pl], hlb =>
            simp only [lkB, hk1, hk2, Bool.and_eq_true, decide_eq_true_eq] at hlb
            exact mem_GT1 hlb.1 rfl
          | [], hlb => cases hlb
          | _ :: _ :: _, hlb => cases hlb
        rw [h9] at hlink hown
        have hout : ∀ (pcx : Nat), ∀ x ∈ c.exceptionTable.toList, covers x pcx = false := by
          intro pcx x hxm
          rw [htab, hh] at hxm
          cases hxm
        obtain ⟨a1, a2⟩ := xat E hE
        subst hic
        have hgood : ∀ w ∈ Cond.classLink RX9 n (xcN E) :: Cond.initialized (xcN E) :: vx_atS RX9 (xic E) (xcN E) xnames, vx_ot w = true :=
          List.forall_mem_cons.mpr ⟨rfl, List.forall_mem_cons.mpr ⟨rfl, a2⟩⟩
        have hX : ∀ t : State, s.vm.Alike t.vm → H.size ≤ t.heap.size → (∀ q : Nat, q < H.size → t.heap[q]? = H[q]?) → XC D cy L0 x0 adE mE (.inr E, (P, I, L, (C.1 + 1, C.2 + 6))) (xcN E) s t := by
          intro t _ hz hq
          refine ⟨E, ad, rfl, hE, rfl, hext, hwd.kept hq, ?_⟩
          exact ⟨Nat.le_trans hS.1 hz, fun q q1 q2 => (hq q (Nat.lt_of_lt_of_le q1 hS.1)).trans (hS.2.1 q q1 q2)⟩
        have hloc : ((cv ad st).map fun v => v.category).sum + (13 * (xnames.length + 1) + 43) ≤ R.locals := by
          rw [catS_cv]
          show catS st + 82 ≤ R.locals
          omega
        rcases hforms with ⟨r3, is, r4, r6, r9, d3, d4, d6, d9⟩ | ⟨r3, is, r4, r6, r9, d3, d4, d6, d9⟩
        · obtain ⟨tx, htx⟩ := (thS h9 hd).1 is _ _ d4
          obtain ⟨sa, hsa⟩ := sv.2.2.1 _ htx
          exact vx_throwS (names := xnames) (is := is) (text := tx) (sa := sa) hx hb hl hown (xfit E hE) xnfit (hts _ hlink) (hts _ (xini E hE)) hsa (fun w hw => hts w (a1 w hw)) hgood sh.1 sh.2.1 hS (hlh.1.trans hml.symm) hdec (dec_ok d3).1 (dec_ok d4).1 (dec_ok d6).1 (dec_ok d9).1 (hout _) (by show 2 + 3 < R.frames; omega) hloc (by omega) (by omega) hlocks hX hS.2.2 h1 h2
        · obtain ⟨tx, htx⟩ := (thS h9 hd).2 is _ _ d4
          obtain ⟨sa, hsa⟩ := sv.2.2.1 _ htx
          exact vx_throwSW (names := xnames) (is := is) (text := tx) (sa := sa) hx hb hl hown (xfit E hE) xnfit (hts _ hlink) (hts _ (xini E hE)) hsa (fun w hw => hts w (a1 w hw)) hgood sh.1 sh.2.1 hS (hlh.1.trans hml.symm) hdec (dec_ok d3).1 (dec_ok d4).1 (dec_ok d6).1 (dec_ok d9).1 (hout _) (by show 2 + 3 < R.frames; omega) hloc (by omega) (by omega) hlocks hX hS.2.2 h1 h2
      · cases hs
    · cases hs
  all_goals
    exfalso
    simp only [stp] at hs
    (repeat' split at hs) <;>
      first
      | cases hs
      | exact ldI_no hs
      | exact ldA_no hs
      | exact ldL_no hs
      | exact ldD_no hs
      | exact stI_no hs
      | exact stA_no hs
      | exact stL_no hs
      | exact stD_no hs
      | exact o1I_no hs
      | exact o2I_no hs
      | exact o2L_no hs
      | exact brI_no hs
      | exact brII_no hs
end SND7
/-- a local is put away -/
theorem lh_s1u {lsA : Array Slot} {n : Nat} {ad : Nat → Nat} {ls : List Value} {i : Nat} {w : Value} (hlen : ls.length = n) (h : lv_has lsA n ((i, w) :: (prs ad ls).filter (fun q => !(q.1 == i) && !(q.1 + 1 == i && q.2.category == 2)))) : lh lsA n ad (s1 ls i UN) := by
  refine ⟨h.1, h.2.1, by rw [s1_len]; exact hlen, fun j v hj hu => ?_⟩
  unfold s1 at hj
  rw [sl_eq, gl_eq] at hj
  by_cases e : j = i
  · subst e
    have hl : j < (k1 ls j).length := by
      have := (List.getElem?_eq_some_iff.mp hj).1
      rw [List.length_set] at this
      exact this
    rw [List.getElem?_set_self hl] at hj
    cases hj
    exact absurd rfl (hu 0)
  · rw [List.getElem?_set_ne (Ne.symm e), ← gl_eq] at hj
    obtain ⟨g1, g2⟩ := k1_get hj hu
    refine h.2.2 (j, conc ad v) (List.mem_cons_of_mem _ (List.mem_filter.mpr ⟨mem_prs.mpr ⟨v, g1, hu, rfl⟩, ?_⟩))
    rw [conc_cat]
    have e1 : (j == i) = false := by simpa using e
    rw [e1]
    by_cases e2 : j + 1 = i
    · have e3 : ¬ v.category = 2 := fun z => g2 ⟨e2, z⟩
      simp [e3]
    · simp [e2]
theorem hfind_none : ∀ {hh : List (Nat × Nat × Nat × Nat)} {pc E : Nat}, hfind hh pc E = none → ∀ q ∈ hh, ¬ (q.1 ≤ pc ∧ pc < q.2.1 ∧ xct q.2.2.2 = E) := by
  intro hh
  induction hh with
  | nil => intro pc E _ q hq; cases hq
  | cons a r ih =>
    intro pc E h q hq
    obtain ⟨a1, a2, a3, a4⟩ := a
    unfold hfind at h
    by_cases hc : a1 ≤ pc ∧ pc < a2 ∧ xct a4 = E
    · rw [if_pos hc] at h; cases h
    · rw [if_neg hc] at h
      rcases List.mem_cons.mp hq with rfl | hq
      · exact hc
      · exact ih h q hq
theorem hfind_some : ∀ {hh : List (Nat × Nat × Nat × Nat)} {pc E h : Nat}, hfind hh pc E = some h → ∃ pre q suf, hh = pre ++ q :: suf ∧ q.1 ≤ pc ∧ pc < q.2.1 ∧ q.2.2.1 = h ∧ xct q.2.2.2 = E ∧ ∀ z ∈ pre, ¬ (z.1 ≤ pc ∧ pc < z.2.1 ∧ xct z.2.2.2 = E) := by
  intro hh
  induction hh with
  | nil => intro pc E h hf; cases hf
  | cons a r ih =>
    intro pc E h hf
    obtain ⟨a1, a2, a3, a4⟩ := a
    unfold hfind at hf
    by_cases hc : a1 ≤ pc ∧ pc < a2 ∧ xct a4 = E
    · rw [if_pos hc] at hf
      cases hf
      exact ⟨[], _, r, rfl, hc.1, hc.2.1, rfl, hc.2.2, fun z hz => by cases hz⟩
    · rw [if_neg hc] at hf
      obtain ⟨pre, q, suf, g1, g2, g3, g4, g5, g6⟩ := ih hf
      refine ⟨(a1, a2, a3, a4) :: pre, q, suf, by rw [g1]; rfl, g2, g3, g4, g5, fun z hz => ?_⟩
      rcases List.mem_cons.mp hz with rfl | hz
      · exact hc
      · exact g6 z hz
theorem xlk : ∀ ct, ct = 15 ∨ ct = 18 ∨ ct = 25 → (Cond.classLink RL ct (xcN (xct ct))) ∈ GT ∧ xct ct < 3 ∧ ct ≠ 0 := by
  rintro ct (rfl | rfl | rfl)
  · exact ⟨mem_GT1 (i := 502) (by decide +kernel) (by decide +kernel), by decide, by decide⟩
  · exact ⟨mem_GT1 (i := 429) (by decide +kernel) (by decide +kernel), by decide, by decide⟩
  · exact ⟨mem_GT1 (i := 306) (by decide +kernel) (by decide +kernel), by decide, by decide⟩
theorem xcast (E : Nat) (h : E < 3) : (Cond.castable (xcN E) (xcN E)) ∈ GT := by
  match E, h with
  | 0, _ => exact mem_GT1 (i := 512) (by decide +kernel) (by decide +kernel)
  | 1, _ => exact mem_GT1 (i := 439) (by decide +kernel) (by decide +kernel)
  | 2, _ => exact mem_GT1 (i := 313) (by decide +kernel) (by decide +kernel)
  | n + 3, h => exact absurd h (by omega)
set_option maxHeartbeats 8000000 in
theorem snd_all {l : Launch} (hl : l.stackTraces = false) : ∀ f, SNDP l f := by
  intro f
  induction f with
  | zero => intro d mi pc ls st P I L C r h; cases h
  | succ f ih =>
    intro d mi pc ls st P I L C r h hmi p e R s m args below meth c H locs cells slots D cy L0 x0 ad adE lsA mE mc ms fo sv sh hI hext hmE hcm hsm hcR hsR hfR hlR
    have hctr := ex_ctr h
    dsimp only at hctr
    have hts : ∀ w ∈ GT, w.before args s = true := fun w hw => sv.1 w hw args
    rw [ex] at h
    dsimp only at h
    cases hd : dec mi pc with
    | none => rw [hd] at h; cases h
    | some q =>
      obtain ⟨i, len, rz⟩ := q
      rw [hd] at h
      dsimp only at h
      cases hs : stp pc i len rz ls st P I L C with
      | none => rw [hs] at h; cases h
      | some w =>
        rw [hs] at h
        rcases w with w | v | ⟨mj, as, st'⟩ | E
        · dsimp only at h
          have h1 := stp_ctr hs
          have h2 := ex_ctr h
          unfold ctr at h1
          refine sx_all fo sv sh hd hI hs (by omega) (by omega) (by omega) (by omega) ?_
          intro ad' lsA' H' locs' he hm hI'
          refine ih d mi w.1.1 w.1.2.1 w.1.2.2 w.2.1 w.2.2.1 w.2.2.2.1 w.2.2.2.2 r h hmi fo sv sh hI' (fun k hk => (he k (Nat.le_trans hk hmE)).trans (hext k hk)) (Nat.le_trans hmE hm) (by omega) (by omega) hcR hsR hfR hlR
        · dsimp only at h
          cases h
          exact sx_ret fo sv sh hd hI hs hext (by dsimp only at hcm; omega) (by dsimp only at hsm; omega)
        · dsimp only at h
          by_cases hc : d = 0 ∨ mL mj < (lay as).length
          · rw [if_pos hc] at h; cases h
          · rw [if_neg hc] at h
            have hd0 : d ≠ 0 := fun z => hc (Or.inl z)
            have hlen : ¬ mL mj < (lay as).length := fun z => hc (Or.inr z)
            cases he : ex f (d - 1) mj (0, ent mj as, []) (P, I, L, C) with
            | none => rw [he] at h; cases h
            | some z =>
              rw [he] at h
              have hcz := ex_ctr he
              dsimp only at hcz
              have hzr : z.2.2.2.2.1 ≤ r.2.2.2.2.1 ∧ z.2.2.2.2.2 ≤ r.2.2.2.2.2 := by
                obtain ⟨v | E, M'⟩ := z
                · exact ex_ctr h
                · dsimp only at h
                  split at h
                  · cases h; exact ⟨Nat.le_refl _, Nat.le_refl _⟩
                  · split at h
                    · cases h
                    · exact ex_ctr h
              obtain ⟨hvst, a, hrun⟩ := call_run (R := R) (cells := cells) (slots := slots) (args := args) (below := below) (p := p) (e := e) ih fo sv sh hd hI hs he hlen (by omega) (by omega) (by omega) (by omega)
              obtain ⟨hx, hb, hml, hrt, hown, hlocks, htab, hnm⟩ := id fo
              obtain ⟨hP, hD, hwf, hS, hlh, hlv, hsv, hx1, hx2, hx3⟩ := id hI
              have hA : ∀ q, q < H.size → AL L0 q → AL L0 q := fun _ _ q => q
              intro T hT X9
              rcases hrun T hT X9 with ⟨v, st₀, t, T', Ls, h0, X', hL, e1, e2, hQ, stp9⟩ | ⟨q9, st₀, t, T', Ls, E9, ce, h0, X', hL, e1, e2, hQ, hce, hcv, hcl, stp9⟩
              · obtain ⟨v', ad1, z1, hext1, hov, hwd, hvv, hF⟩ := hQ
                obtain ⟨k1, k2, k3⟩ := vx_keep h0 e1 hS hA (fun _ q => q) hL hF
                obtain ⟨z0, M'⟩ := z
                dsimp only at z1 hwd hvv hzr hcz hext1
                subst z1
                dsimp only at h
                rw [← e1] at hwd
                cases hov
                have hext2 : ∀ k, k ≤ P.2.2 → ad1 k = ad k := hext1
                have hm1 : P.2.2 ≤ M'.1.2.2 := by
                  exact mem_grow he
                have hIV : IV D cy L0 x0 s mi ad1 M'.1 M'.2.1 M'.2.2.1 ls (v'.toList ++ st') lsA T'.heap (locs ++ Ls) :=
                  ⟨hwd.1, hwd.2.1, hwd.2.2.1, k3, lh_ad hlh hext2 hlv, fun w hw => vk_mono hm1 (hlv w hw), fun w hw => by
                    rcases List.mem_append.mp hw with hw | hw
                    · cases v' with
                      | none => cases hw
                      | some z' => rw [List.mem_singleton.mp hw]; exact hvv z' rfl
                    · exact vk_mono hm1 (hvst w hw), hwd.2.2.2.1, hwd.2.2.2.2.1, hwd.2.2.2.2.2⟩
                have hW := ih d mi (pc + 3) ls (v'.toList ++ st') M'.1 M'.2.1 M'.2.2.1 M'.2.2.2 r h hmi (p := p) (e := e) (R := R) (args := args) (below := below) (cells := cells + (M'.2.2.2.1 - C.1)) (slots := slots + (M'.2.2.2.2 - C.2)) (adE := adE) (mE := mE) (mc := mc) (ms := ms) fo sv sh hIV (fun k hk => (hext2 k (Nat.le_trans hk hmE)).trans (hext k hk)) (Nat.le_trans hmE hm1) (by omega) (by omega) hcR hsR hfR hlR
                obtain ⟨t2, b1, b2⟩ := hW T' rfl X'
                refine ⟨t2, stp9 t2 ?_, b2⟩
                have e9 : cv ad1 (v'.toList ++ st') = (v'.map (conc ad1)).toList ++ cv ad st' := by
                  unfold cv
                  rw [List.map_append]
                  have e8 : List.map (conc ad1) st' = List.map (conc ad) st' := cv_eq hext2 hvst
                  rw [e8]
                  cases v' <;> rfl
                rw [e9] at b1
                exact b1
              · obtain ⟨E1, ad1, z1, hE3, hE9, hext1, hwd, hF⟩ := hQ
                obtain ⟨k1, k2, k3⟩ := vx_keep h0 e1 hS hA (fun _ q => q) hL hF
                obtain ⟨z0, M'⟩ := z
                dsimp only at z1 hwd hzr hcz hext1
                subst z1
                subst hE9
                dsimp only at h
                rw [← e1] at hwd hce
                have hext2 : ∀ k, k ≤ P.2.2 → ad1 k = ad k := hext1
                have hm1 : P.2.2 ≤ M'.1.2.2 := mem_grow he
                have hpassQ : ∀ (q : Nat × Nat × Nat × Nat), q ∈ (mG mi).2.2.2.2 → ¬ (q.1 ≤ pc ∧ pc < q.2.1 ∧ xct q.2.2.2 = E1) → covers (⟨q.1, q.2.1, q.2.2.1, q.2.2.2⟩ : ExceptionTableEntry) pc = false ∨ (q.2.2.2 ≠ 0 ∧ ∃ nm : String, (Cond.classLink (cn (mO mi)) q.2.2.2 nm).before args s = true ∧ va_Nc (xcN E1) nm s) := by
                  intro q hq hn
                  by_cases hcov : q.1 ≤ pc ∧ pc < q.2.1
                  · have hmi2 : mi < 226 := by
                      rcases Nat.lt_or_ge mi 226 with g | g
                      · exact g
                      · have : mi = 226 := by omega
                        subst this
                        cases hq
                    obtain ⟨g1, g2⟩ := hh_law mi hmi2 (fun z => by rw [z] at hq; cases hq)
                    obtain ⟨g3, g4, g5⟩ := xlk q.2.2.2 (g2 q hq)
                    refine Or.inr ⟨g5, _, by rw [g1]; exact hts _ g3, sv.2.2.2.1 _ _ hE3 g4 (fun z => hn ⟨hcov.1, hcov.2, z.symm⟩)⟩
                  · refine Or.inl ?_
                    unfold covers
                    by_cases g : q.1 ≤ pc
                    · have g2 : ¬ pc < q.2.1 := fun z => hcov ⟨g, z⟩
                      simp [g2]
                    · simp [g]
                cases hf : hfind (mG mi).2.2.2.2 pc E1 with
                | none =>
                  rw [hf] at h
                  cases h
                  have hW := vx_outP (p := p) (l := l) (e := e) (R := R) (s := s) (m := m) (args := args) (below := below) (meth := meth) (c := c) (H := T'.heap) (locs := locs ++ Ls) (cells := cells + (M'.2.2.2.1 - C.1)) (slots := slots + (M'.2.2.2.2 - C.2)) (free := AL L0) (ls := lsA) (rest := cv ad st') (Qc := QC D cy L0 x0 adE mE (.inr E1, M')) (XC := XC D cy L0 x0 adE mE (.inr E1, M')) (pc := pc) (mc := mc) (ms := ms) hown hlocks (fun z hz => by
                      rw [htab] at hz
                      obtain ⟨q, hq, rfl⟩ := List.mem_map.mp hz
                      exact hpassQ q hq (hfind_none hf q hq)) hce hcv hcl (fun t1 ht1 _ => ⟨E1, ad1, rfl, hE3, rfl, fun k hk => (hext2 k (Nat.le_trans hk hmE)).trans (hext k hk), by rw [ht1]; exact hwd, k3.F ht1⟩) k3.2.2 (by dsimp only at hcm; omega) (by dsimp only at hsm; omega)
                  obtain ⟨t2, b1, b2⟩ := hW T' rfl X'
                  exact ⟨t2, stp9.trans b1, b2⟩
                | some hpc =>
                  rw [hf] at h
                  dsimp only at h
                  cases hg : hgo mi hpc ls with
                  | none => rw [hg] at h; cases h
                  | some fr' =>
                    rw [hg] at h
                    dsimp only at h
                    obtain ⟨pre, q, suf, g1, g2, g3, g4, g5, g6⟩ := hfind_some hf
                    have hqm : q ∈ (mG mi).2.2.2.2 := by rw [g1]; exact List.mem_append_right _ List.mem_cons_self
                    have hmi2 : mi < 226 := by
                      rcases Nat.lt_or_ge mi 226 with g | g
                      · exact g
                      · have : mi = 226 := by omega
                        subst this
                        cases hqm
                    obtain ⟨u1, u2⟩ := hh_law mi hmi2 (fun z => by rw [z] at hqm; cases hqm)
                    obtain ⟨u3, u4, u5⟩ := xlk q.2.2.2 (u2 q hqm)
                    have hWk : W p l e R s m args below meth c T'.heap (locs ++ Ls) (cells + (M'.2.2.2.1 - C.1)) (slots + (M'.2.2.2.2 - C.2)) (vx_MQ below (QC D cy L0 x0 adE mE r) (XC D cy L0 x0 adE mE r) args s mc ms (AL L0)) (F0 m hpc lsA [.ref q9]) := by
                      have hlh1 := lh_ad hlh hext2 hlv
                      have fin : ∀ (lsB : Array Slot) (kk : Nat) (pcB : Nat), fr' = (pcB, s1 ls kk UN, []) → lh lsB (mL mi) ad1 (s1 ls kk UN) → W p l e R s m args below meth c T'.heap (locs ++ Ls) (cells + (M'.2.2.2.1 - C.1)) (slots + (M'.2.2.2.2 - C.2)) (vx_MQ below (QC D cy L0 x0 adE mE r) (XC D cy L0 x0 adE mE r) args s mc ms (AL L0)) (F0 m pcB lsB []) := by
                        intro lsB kk pcB hfr hlB
                        subst hfr
                        exact ih d mi pcB (s1 ls kk UN) [] M'.1 M'.2.1 M'.2.2.1 M'.2.2.2 r h hmi fo sv sh ⟨hwd.1, hwd.2.1, hwd.2.2.1, k3, hlB, fun w hw => by
                          rcases mem_s1 hw with z | rfl | rfl
                          · exact vk_mono hm1 (hlv w z)
                          · exact vk_u _
                          · exact vk_u _, fun w hw => (nomatch hw), hwd.2.2.2.1, hwd.2.2.2.2.1, hwd.2.2.2.2.2⟩ (fun k hk => (hext2 k (Nat.le_trans hk hmE)).trans (hext k hk)) (Nat.le_trans hmE hm1) (by omega) (by omega) hcR hsR hfR hlR
                      unfold hgo at hg
                      split at hg
                      · rename_i kx ln rz9 hdx
                        cases hg
                        obtain ⟨hdec9, hck9⟩ := dec_ok hdx
                        simp only [ckR, Bool.and_eq_true, beq_iff_eq, decide_eq_true_eq] at hck9
                        obtain ⟨rfl, hkn⟩ := hck9
                        exact lv_astore_n (x := q9) (rest := []) hx hb hdec9 rfl (lh_has hlh1) hkn rfl (fun lsB hlB => fin lsB kx _ rfl (lh_s1u hlh1.2.2.1 hlB))
                      · rename_i kx ln rz9 hdx
                        cases hg
                        obtain ⟨hdec9, hck9⟩ := dec_ok hdx
                        simp only [ckR, Bool.and_eq_true, beq_iff_eq, decide_eq_true_eq] at hck9
                        obtain ⟨rfl, hkn⟩ := hck9
                        exact lv_astore (x := q9) (rest := []) hx hb hdec9 (lh_has hlh1) hkn rfl (fun lsB hlB => fin lsB kx _ rfl (lh_s1u hlh1.2.2.1 hlB))
                      · cases hg
                    have hcov : covers (⟨q.1, q.2.1, q.2.2.1, q.2.2.2⟩ : ExceptionTableEntry) pc = true := by
                      unfold covers
                      simp [g2, g3]
                    have hW := vx_catch (p := p) (l := l) (e := e) (R := R) (s := s) (m := m) (args := args) (below := below) (meth := meth) (c := c) (H := T'.heap) (locs := locs ++ Ls) (cells := cells + (M'.2.2.2.1 - C.1)) (slots := slots + (M'.2.2.2.2 - C.2)) (pc := pc) (ls := lsA) (rest := cv ad st') (own := cn (mO mi)) (name := xcN E1) (E := xcN E1) (ce := ce) (q := q9) hown (tableOf pre) ⟨q.1, q.2.1, q.2.2.1, q.2.2.2⟩ (tableOf suf) (by rw [htab, g1]; unfold tableOf; rw [List.map_append]; rfl) (fun z hz => by
                        obtain ⟨q', hq', rfl⟩ := List.mem_map.mp hz
                        exact hpassQ q' (by rw [g1]; exact List.mem_append_left _ hq') (g6 q' hq')) hcov u5 (by rw [u1, ← g5]; exact hts _ u3) (hts _ (xcast E1 hE3)) hce hcv hcl (by rw [← g4] at hWk; exact hWk)
                    obtain ⟨t2, b1, b2⟩ := hW T' rfl X'
                    exact ⟨t2, stp9.trans b1, b2⟩
        · dsimp only at h
          cases h
          exact sx_throw hl fo sv sh hd hI hs hext (by omega) (by omega) (by dsimp only at hcm; omega) (by dsimp only at hsm; omega) hcR hsR
