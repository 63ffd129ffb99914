/-! SOUND, sixth part: ends, calls, throws; the whole -/
section NOS
variable {pc pc2 : Nat} {ls ls2 st st2 : List Value} {P P2 : MP} {I I2 : MI} {L L2 : ML} {C C2 : MC} {v : Option Value ⊕ ((Nat × List Value × List Value) ⊕ Nat)}
theorem ldI_no {k : Nat} (h : ldI ls k pc st P I L C = some (.inr v)) : False := by
  obtain ⟨_, _, hw⟩ := ldI_inv h
  cases hw
theorem ldA_no {k : Nat} (h : ldA ls k pc st P I L C = some (.inr v)) : False := by
  obtain ⟨_, _, hw⟩ := ldA_inv h
  cases hw
theorem ldL_no {k : Nat} (h : ldL ls k pc st P I L C = some (.inr v)) : False := by
  obtain ⟨_, _, hw⟩ := ldL_inv h
  cases hw
theorem ldD_no {k : Nat} (h : ldD ls k pc st P I L C = some (.inr v)) : False := by
  obtain ⟨_, _, hw⟩ := ldD_inv h
  cases hw
theorem stI_no {k : Nat} (h : stI ls k pc st P I L C = some (.inr v)) : False := by
  obtain ⟨_, _, _, hw⟩ := stI_inv h
  cases hw
theorem stA_no {k : Nat} (h : stA ls k pc st P I L C = some (.inr v)) : False := by
  obtain ⟨_, _, _, hw⟩ := stA_inv h
  cases hw
theorem stL_no {k : Nat} (h : stL ls k pc st P I L C = some (.inr v)) : False := by
  obtain ⟨_, _, _, hw⟩ := stL_inv h
  cases hw
theorem stD_no {k : Nat} (h : stD ls k pc st P I L C = some (.inr v)) : False := by
  obtain ⟨_, _, _, hw⟩ := stD_inv h
  cases hw
theorem o1I_no {f : Int32 → Value} (h : o1I f pc ls st P I L C = some (.inr v)) : False := by
  obtain ⟨_, _, _, hw⟩ := o1I_inv h
  cases hw
theorem o2I_no {f : Int32 → Int32 → Int32} (h : o2I f pc ls st P I L C = some (.inr v)) : False := by
  obtain ⟨_, _, _, _, hw⟩ := o2I_inv h
  cases hw
theorem o2L_no {f : Int64 → Int64 → Int64} (h : o2L f pc ls st P I L C = some (.inr v)) : False := by
  obtain ⟨_, _, _, _, hw⟩ := o2L_inv h
  cases hw
theorem sN_no (h : sN pc ls st P I L C = some (.inr v)) : False := by cases h
theorem brI_no {c : ClassFile.Cond} {x : Int32} (h : brI c x (sN pc ls st P I L C) (sN pc2 ls2 st2 P2 I2 L2 C2) = some (.inr v)) : False := by
  rcases brI_w h with h | h
  · exact sN_no h
  · exact sN_no h
theorem brII_no {c : ClassFile.Cond} {x y : Int32} (h : brII c x y (sN pc ls st P I L C) (sN pc2 ls2 st2 P2 I2 L2 C2) = some (.inr v)) : False := by
  rcases brII_w h with h | h
  · exact sN_no h
  · exact sN_no h
end NOS
section SND5
variable {p : Program} {l : Launch} {e : Env} {R : Room} {s : State} {m : MethodId} {args : Array Value} {below : List Frame} {meth : Method} {c : Code} {H : Heap} {locs : List Loc} {cells slots : Nat} {Q : State → Prop}
variable {D : va_G} {cy : CY} {L0 : Nat} {x0 : XX} {mi : Nat} {ad adE : Nat → Nat} {P P' : MP} {I I' : MI} {L L' : ML} {C C' : MC} {ls ls' st st' : List Value} {lsA : Array Slot} {pc pc' mE mc ms : Nat} {i : ClassFile.Instr} {len : Nat} {rz : List Nat}
theorem narrow_z {v : Int32} (h : v &&& 1 = v) : narrow .boolean (.int v) = .int v := by
  unfold narrow
  first | (rw [h]; done) | simp [h]
set_option maxHeartbeats 4000000 in
theorem sx_ret (fo : FO p s m meth c mi) (sv : SV D cy s) (sh : SH L0 x0 s s.heap) (hd : dec mi pc = some (i, len, rz)) (hI : IV D cy L0 x0 s mi ad P I L ls st lsA H locs) {v : Option Value} (hs : stp pc i len rz ls st P I L C = some (.inr (.inl v))) (hext : ∀ k, k ≤ mE → ad k = adE k) (h1 : cells ≤ mc) (h2 : slots ≤ ms) :
    W p l e R s m args below meth c H locs cells slots (vx_MQ below (QC D cy L0 x0 adE mE (.inl v, (P, I, L, C))) (XC D cy L0 x0 adE mE (.inl v, (P, I, L, C))) args s mc ms (AL L0)) (F0 m pc lsA (cv ad st)) := by
  obtain ⟨hdec, hck⟩ := dec_ok hd
  obtain ⟨hx, hb, hml, hrt, hown, hlocks, htab, hnm⟩ := fo
  obtain ⟨hP, hD, hwf, hS, hlh, hlv, hsv, hx1, hx2, hx3⟩ := id hI
  have hwd : WD D cy L0 x0 ad (P, I, L, C) H := ⟨hP, hD, hwf, hx1, hx2, hx3⟩
  have hq : ∀ (w : Option Value), v = w → (∀ z, w = some z → vk P z) → ∀ t : State, t.heap = H → s.WarmedH t.vm → QC D cy L0 x0 adE mE (.inl v, (P, I, L, C)) args s (.returned (w.map (conc ad))) t := by
    rintro w rfl hz t ht -
    exact ⟨v, ad, rfl, hext, rfl, by rw [ht]; exact hwd, hz, hS.F ht⟩
  refine vx_ret (W.widen h1 h2 ?_)
  cases i
  case ireturn =>
    simp only [stp] at hs
    simp only [ckR, Bool.and_eq_true, beq_iff_eq] at hck
    obtain ⟨rfl, hck⟩ := hck
    split at hs
    · rename_i v0
      cases hs
      exact W.iret (v := v0) hx hb (hrt.trans (of_decide_eq_true hck)) (hq (some (.int v0)) rfl (fun z hz => by cases hz; exact vk_i P _)) hS.2.2 hdec hlocks
    · split at hs
      · rename_i v0 hz0
        cases hs
        exact W.zret (v := v0) hx hb (hrt.trans (of_decide_eq_true hck)) (narrow_z hz0) (hq (some (.int v0)) rfl (fun z hz => by cases hz; exact vk_i P _)) hS.2.2 hdec hlocks
      · cases hs
    · cases hs
  case lreturn =>
    simp only [stp] at hs
    simp only [ckR, Bool.and_eq_true, beq_iff_eq] at hck
    obtain ⟨rfl, hck⟩ := hck
    split at hs
    · rename_i v0
      cases hs
      exact W.lret (v := v0) hx hb (hrt.trans (of_decide_eq_true hck)) (hq (some (.long v0)) rfl (fun z hz => by cases hz; exact vk_l P _)) hS.2.2 hdec hlocks
    · cases hs
  case dreturn =>
    simp only [stp] at hs
    simp only [ckR, Bool.and_eq_true, beq_iff_eq] at hck
    obtain ⟨rfl, hck⟩ := hck
    split at hs
    · rename_i v0
      cases hs
      exact W.dret (v := v0) hx hb (hrt.trans (of_decide_eq_true hck)) (hq (some (.double v0)) rfl (fun z hz => by cases hz; exact vk_d P _)) hS.2.2 hdec hlocks
    · cases hs
  case areturn =>
    simp only [stp] at hs
    simp only [ckR, Bool.and_eq_true, beq_iff_eq] at hck
    obtain ⟨rfl, hck⟩ := hck
    split at hs
    · rename_i v0
      cases hs
      have hr2 : ∃ n, (mG mi).2.2.2.1 = some (.object n) := by
        revert hck
        split
        · rename_i n hn; intro _; exact ⟨n, hn⟩
        · intro h; cases h
      obtain ⟨n, hn⟩ := hr2
      exact W.aret (v := .ref (ad v0)) hx hb (hrt.trans hn) (Or.inl ⟨n, rfl⟩) (Or.inr ⟨_, rfl⟩) (hq (some (.ref v0)) rfl (fun z hz => by cases hz; exact hsv _ List.mem_cons_self)) hS.2.2 hdec hlocks
    · cases hs
  case return_ =>
    simp only [stp] at hs
    simp only [ckR, Bool.and_eq_true, beq_iff_eq] at hck
    obtain ⟨rfl, hck⟩ := hck
    split at hs
    · cases hs
      exact W.vret hx hb (hrt.trans (of_decide_eq_true hck)) (hq none rfl (fun z hz => by cases hz)) hS.2.2 hdec hlocks
    · cases hs
  all_goals
    exfalso
    simp only [stp] at hs
    (repeat' split at hs) <;>
      first
      | cases hs
      | exact ldI_no hs
      | exact ldA_no hs
      | exact ldL_no hs
      | exact ldD_no hs
      | exact stI_no hs
      | exact stA_no hs
      | exact stL_no hs
      | exact stD_no hs
      | exact o1I_no hs
      | exact o2I_no hs
      | exact o2L_no hs
      | exact brI_no hs
      | exact brII_no hs
end SND5
/-- a call instruction, its callee's contract at hand: it runs -/
theorem pops_inv : ∀ {ps : List Nat} {st acc as st' : List Value}, pops ps st acc = some (as, st') → ∃ vs, st = vs ++ st' ∧ as = vs.reverse ++ acc ∧ vs.length = ps.length := by
  intro ps
  induction ps with
  | nil => intro st acc as st' h; cases h; exact ⟨[], rfl, rfl, rfl⟩
  | cons q ps ih =>
    intro st acc as st' h
    cases st with
    | nil => cases h
    | cons v st =>
      obtain ⟨vs, h1, h2, h3⟩ := ih (show pops ps st (v :: acc) = some (as, st') from h)
      refine ⟨v :: vs, by rw [h1]; rfl, by rw [h2]; simp, by simp [h3]⟩
theorem cn_ne (k : Nat) : cn k ≠ "java/lang/invoke/MethodHandle" ∧ cn k ≠ "java/lang/invoke/VarHandle" := by
  unfold cn
  split <;> exact ⟨by decide +kernel, by decide +kernel⟩
theorem mL_le : ∀ mj, mj < 226 → mL mj ≤ 40 := by
  have h : (List.range 226).all (fun mj => decide (mL mj ≤ 40)) = true := by decide +kernel
  intro mj hmj
  exact of_decide_eq_true (List.all_eq_true.mp h mj (List.mem_range.mpr hmj))
/-- methods with handlers are the law's own, called by name -/
theorem hh_law : ∀ mj, mj < 226 → (mG mj).2.2.2.2 ≠ [] → mO mj = 14 ∧ ∀ q ∈ (mG mj).2.2.2.2, q.2.2.2 = 15 ∨ q.2.2.2 = 18 ∨ q.2.2.2 = 25 := by
  have h : (List.range 226).all (fun mj => (mG mj).2.2.2.2.isEmpty || (mO mj == 14 && (mG mj).2.2.2.2.all (fun q => q.2.2.2 == 15 || q.2.2.2 == 18 || q.2.2.2 == 25))) = true := by decide +kernel
  intro mj hmj hne
  have h1 := List.all_eq_true.mp h mj (List.mem_range.mpr hmj)
  rw [Bool.or_eq_true] at h1
  rcases h1 with h1 | h1
  · exact absurd (List.isEmpty_iff.mp h1) hne
  · simp only [Bool.and_eq_true, beq_iff_eq, List.all_eq_true, Bool.or_eq_true] at h1
    exact ⟨h1.1, fun q hq => by rcases h1.2 q hq with (z | z) | z; exact Or.inl z; exact Or.inr (Or.inl z); exact Or.inr (Or.inr z)⟩
/-- the links to methods with handlers are plain static ones -/
theorem hh_lnk : ∀ q ∈ lkT, ∀ mj knd ci nest pl ps, q.2 = 2 :: mj :: knd :: ci :: nest :: pl :: ps → (mG mj).2.2.2.2 ≠ [] → knd = 0 ∧ nest = 0 := by
  have h : lkT.all (fun q => match q.2 with | 2 :: mj :: knd :: _ :: nest :: _ :: _ => (mG mj).2.2.2.2.isEmpty || (knd == 0 && nest == 0) | _ => true) = true := by decide +kernel
  intro q hq mj knd ci nest pl ps e hne
  have h1 := List.all_eq_true.mp h q hq
  rw [e] at h1
  simp only [Bool.or_eq_true, Bool.and_eq_true, beq_iff_eq] at h1
  rcases h1 with h1 | h1
  · exact absurd (List.isEmpty_iff.mp h1) hne
  · exact h1
