/-! TWO: what touches no cell goes the same way over every memory -/
/-- the same step over another memory -/
def rep (P : MP) (I : MI) (L : ML) (C : MC) (s : (FR × MM) ⊕ (Option Value ⊕ ((Nat × List Value × List Value) ⊕ Nat))) : (FR × MM) ⊕ (Option Value ⊕ ((Nat × List Value × List Value) ⊕ Nat)) := match s with
  | .inl (fr, _) => .inl (fr, (P, I, L, C))
  | .inr x => .inr x
theorem rp_N {pc : Nat} {ls st : List Value} {P P' : MP} {I I' : MI} {L L' : ML} {C C' : MC} : (sN pc ls st P' I' L' C').map (rep P I L C) = sN pc ls st P I L C := rfl
theorem rp_R {v : Option Value} {P : MP} {I : MI} {L : ML} {C : MC} : (sR v).map (rep P I L C) = sR v := rfl
theorem rp_C {mj : Nat} {as st : List Value} {P : MP} {I : MI} {L : ML} {C : MC} : (sC mj as st).map (rep P I L C) = sC mj as st := rfl
theorem rp_0 {P : MP} {I : MI} {L : ML} {C : MC} : (none : SR).map (rep P I L C) = none := rfl
section RPS
variable {P P0 : MP} {I I0 : MI} {L L0 : ML} {C C0 : MC} {ls st : List Value} {k pc : Nat}
theorem rp_ldI : (ldI ls k pc st P0 I0 L0 C0).map (rep P I L C) = ldI ls k pc st P I L C := by
  unfold ldI; split <;> rfl
theorem rp_ldA : (ldA ls k pc st P0 I0 L0 C0).map (rep P I L C) = ldA ls k pc st P I L C := by
  unfold ldA; split <;> rfl
theorem rp_ldL : (ldL ls k pc st P0 I0 L0 C0).map (rep P I L C) = ldL ls k pc st P I L C := by
  unfold ldL; split <;> rfl
theorem rp_stI : (stI ls k pc st P0 I0 L0 C0).map (rep P I L C) = stI ls k pc st P I L C := by
  unfold stI; split <;> rfl
theorem rp_stA : (stA ls k pc st P0 I0 L0 C0).map (rep P I L C) = stA ls k pc st P I L C := by
  unfold stA; split <;> rfl
theorem rp_stL : (stL ls k pc st P0 I0 L0 C0).map (rep P I L C) = stL ls k pc st P I L C := by
  unfold stL; split <;> rfl
theorem rp_o1I {f : Int32 → Value} : (o1I f pc ls st P0 I0 L0 C0).map (rep P I L C) = o1I f pc ls st P I L C := by
  unfold o1I; split <;> rfl
theorem rp_o2I {f : Int32 → Int32 → Int32} : (o2I f pc ls st P0 I0 L0 C0).map (rep P I L C) = o2I f pc ls st P I L C := by
  unfold o2I; split <;> rfl
theorem rp_o2L {f : Int64 → Int64 → Int64} : (o2L f pc ls st P0 I0 L0 C0).map (rep P I L C) = o2L f pc ls st P I L C := by
  unfold o2L; split <;> rfl
theorem rp_brI {c : ClassFile.Cond} {x : Int32} {a b a' b' : SR} (ha : a.map (rep P I L C) = a') (hb : b.map (rep P I L C) = b') : (brI c x a b).map (rep P I L C) = brI c x a' b' := by
  subst ha; subst hb
  unfold brI
  cases c <;> dsimp only <;> split <;> rfl
theorem rp_brII {c : ClassFile.Cond} {x y : Int32} {a b a' b' : SR} (ha : a.map (rep P I L C) = a') (hb : b.map (rep P I L C) = b') : (brII c x y a b).map (rep P I L C) = brII c x y a' b' := by
  subst ha; subst hb
  unfold brII
  cases c <;> dsimp only <;> split <;> rfl
theorem rp_if {c : Prop} [Decidable c] {a b a' b' : SR} (ha : a.map (rep P I L C) = a') (hb : b.map (rep P I L C) = b') : (if c then a else b).map (rep P I L C) = if c then a' else b' := by
  subst ha; subst hb
  split <;> rfl
end RPS
/-- the memory holds the script and the object -/
def HM (z : SX) (P : MP) (I : MI) : Prop := P.1 0 = (30, z.1) ∧ (∀ j, I 0 j = z.2 j) ∧ P.1 1 = (10, 0)
theorem mP_0 {z : SX} : (mP z).1 0 = (30, z.1) := rfl
theorem mP_1 {z : SX} : (mP z).1 1 = (10, 0) := rfl
theorem mP_n {z : SX} {k : Nat} (h0 : k ≠ 0) (h1 : k ≠ 1) : (mP z).1 k = (0, 0) := by
  unfold mP; dsimp only; rw [if_neg h0, if_neg h1]
theorem st_rep {z : SX} {P : MP} {I : MI} {L : ML} {C : MC} (hm : HM z P I) {pc : Nat} {i : ClassFile.Instr} {len : Nat} {rz : List Nat} {ls st : List Value} {s : (FR × MM) ⊕ (Option Value ⊕ ((Nat × List Value × List Value) ⊕ Nat))} (hp : pu i rz = true) (h : stp pc i len rz ls st (mP z) (mI z) mL0 (0, 0) = some s) : stp pc i len rz ls st P I L C = some (rep P I L C s) := by
  have key : ∀ {a b : SR}, a.map (rep P I L C) = b → a = some s → b = some (rep P I L C s) := by
    intro a b hab ha
    rw [← hab, ha]; rfl
  cases i
  case aload_n n => exact key rp_ldA h
  case aload n => exact key rp_ldA h
  case iload_n n => exact key rp_ldI h
  case iload n => exact key rp_ldI h
  case lload_n n => exact key rp_ldL h
  case lload n => exact key rp_ldL h
  case istore_n n => exact key rp_stI h
  case istore n => exact key rp_stI h
  case astore_n n => exact key rp_stA h
  case astore n => exact key rp_stA h
  case lstore_n n => exact key rp_stL h
  case lstore n => exact key rp_stL h
  case iconst n =>
    refine key ?_ h
    unfold stp; dsimp only; split <;> rfl
  case bipush n =>
    refine key ?_ h
    unfold stp; dsimp only; split <;> rfl
  case sipush n =>
    refine key ?_ h
    unfold stp; dsimp only; split <;> rfl
  case ldc n =>
    refine key ?_ h
    unfold stp; dsimp only; split <;> rfl
  case ldc_w n =>
    refine key ?_ h
    unfold stp; dsimp only; split <;> rfl
  case ldc2_w n =>
    refine key ?_ h
    unfold stp; dsimp only; split <;> rfl
  case lconst n =>
    refine key ?_ h
    unfold stp; dsimp only; split <;> rfl
  case dconst n => exact key rp_N h
  case iinc n v =>
    refine key ?_ h
    unfold stp; dsimp only; split <;> rfl
  case iadd => exact key rp_o2I h
  case isub => exact key rp_o2I h
  case imul => exact key rp_o2I h
  case iand => exact key rp_o2I h
  case ixor => exact key rp_o2I h
  case ishr => exact key rp_o2I h
  case iushr => exact key rp_o2I h
  case idiv =>
    refine key ?_ h
    unfold stp; dsimp only; split
    · exact rp_if rfl rfl
    · rfl
  case irem =>
    refine key ?_ h
    unfold stp; dsimp only; split
    · exact rp_if rfl rfl
    · rfl
  case i2l => exact key rp_o1I h
  case i2d => exact key rp_o1I h
  case ladd => exact key rp_o2L h
  case lmul => exact key rp_o2L h
  case lcmp =>
    refine key ?_ h
    unfold stp; dsimp only; split <;> rfl
  case dcmp op =>
    refine key ?_ h
    unfold stp; dsimp only; split <;> rfl
  case ddiv =>
    refine key ?_ h
    unfold stp; dsimp only; split
    · exact rp_if rfl rfl
    · rfl
  case goto n =>
    refine key ?_ h
    unfold stp; dsimp only; split <;> rfl
  case ifCond c n =>
    refine key ?_ h
    unfold stp; dsimp only; split
    · exact rp_brI rfl rfl
    · rfl
  case if_icmp c n =>
    refine key ?_ h
    unfold stp; dsimp only; split
    · exact rp_brII rfl rfl
    · rfl
  case tableswitch a b c e =>
    refine key ?_ h
    unfold stp; dsimp only; split
    · refine rp_if (rp_if rfl rfl) ?_
      split
      · exact rp_if rfl rfl
      · rfl
    · rfl
  case ireturn =>
    refine key ?_ h
    unfold stp; dsimp only; split
    · rfl
    · exact rp_if rfl rfl
    · rfl
  case lreturn =>
    refine key ?_ h
    unfold stp; dsimp only; split <;> rfl
  case arraylength =>
    unfold stp at h ⊢
    dsimp only at h ⊢
    split at h
    · rename_i k st'
      by_cases h0 : k = 0
      · subst h0
        rw [mP_0] at h
        rw [hm.1]
        exact key (rp_if rfl rfl) h
      · by_cases h1 : k = 1
        · subst h1
          rw [mP_1, if_neg (by decide)] at h; cases h
        · rw [mP_n h0 h1, if_neg (by decide)] at h; cases h
    · cases h
  case iaload =>
    unfold stp at h ⊢
    dsimp only at h ⊢
    split at h
    · rename_i j k st'
      by_cases h0 : k = 0
      · subst h0
        rw [mP_0] at h
        rw [hm.1, hm.2.1]
        exact key (rp_if rfl rfl) h
      · by_cases h1 : k = 1
        · subst h1
          rw [mP_1, if_neg (fun q => absurd q.1 (by decide))] at h; cases h
        · rw [mP_n h0 h1, if_neg (fun q => absurd q.1 (by decide))] at h; cases h
    · cases h
  case invokestatic n =>
    refine key ?_ h
    unfold stp; dsimp only
    split
    · split
      · exact rp_if rfl rfl
      · rfl
    · exact absurd (show false = true from hp) (by decide)
    · exact absurd (show false = true from hp) (by decide)
    · exact absurd (show false = true from hp) (by decide)
    · rfl
  case invokevirtual n =>
    unfold stp at h ⊢
    dsimp only at h ⊢
    split at h
    · split at h
      · rename_i k st' heq
        by_cases h1 : k = 1
        · subst h1
          rw [mP_1] at h
          rw [hm.2.2]
          exact key (rp_if rfl rfl) h
        · by_cases h0 : k = 0
          · subst h0
            rw [mP_0] at h
            rw [hm.1]
            exact key (rp_if rfl rfl) h
          · rw [mP_n h0 h1, if_neg (fun q => absurd q.1 (by omega))] at h; cases h
      · cases h
    · cases h
  all_goals exact absurd (show false = true from hp) (by decide)
