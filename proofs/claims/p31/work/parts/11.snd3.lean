/-! SOUND, fourth part: every step; the counters only grow -/
theorem brI_w {c : ClassFile.Cond} {x : Int32} {t f : SR} {w} (h : brI c x t f = some w) : t = some w ∨ f = some w := by
  unfold brI at h
  cases c <;> dsimp only at h <;> split at h <;> first | exact Or.inl h | exact Or.inr h
theorem brII_w {c : ClassFile.Cond} {x y : Int32} {t f : SR} {w} (h : brII c x y t f = some w) : t = some w ∨ f = some w := by
  unfold brII at h
  cases c <;> dsimp only at h <;> split at h <;> first | exact Or.inl h | exact Or.inr h
def ctr (C : MC) (w : FR × MM) : Prop := C.1 ≤ w.2.2.2.2.1 ∧ C.2 ≤ w.2.2.2.2.2
theorem ctr_s {pc pc0 : Nat} {ls ls0 st st0 : List Value} {P P0 : MP} {I I0 : MI} {L L0 : ML} {C : MC} {w : FR × MM} (h : sN pc ls st P I L C = some (.inl w)) : ctr C w := by
  cases h; exact ⟨Nat.le_refl _, Nat.le_refl _⟩
theorem ctr_m {pc : Nat} {ls st : List Value} {t len nf : Nat} {P : MP} {I : MI} {L : ML} {C : MC} {w : FR × MM} (h : mk pc ls st t len nf P I L C = some (.inl w)) : ctr C w := by
  cases h; exact ⟨Nat.le_succ _, Nat.le_add_right _ _⟩

section CTR
variable {pc : Nat} {ls st : List Value} {P : MP} {I : MI} {L : ML} {C : MC} {w : FR × MM}
theorem ctr_ldI {k : Nat} (h : ldI ls k pc st P I L C = some (.inl w)) : ctr C w := by
  obtain ⟨v, -, hw⟩ := ldI_inv h
  cases hw; exact ⟨Nat.le_refl _, Nat.le_refl _⟩
theorem ctr_ldA {k : Nat} (h : ldA ls k pc st P I L C = some (.inl w)) : ctr C w := by
  obtain ⟨v, -, hw⟩ := ldA_inv h
  cases hw; exact ⟨Nat.le_refl _, Nat.le_refl _⟩
theorem ctr_ldL {k : Nat} (h : ldL ls k pc st P I L C = some (.inl w)) : ctr C w := by
  obtain ⟨v, -, hw⟩ := ldL_inv h
  cases hw; exact ⟨Nat.le_refl _, Nat.le_refl _⟩
theorem ctr_ldD {k : Nat} (h : ldD ls k pc st P I L C = some (.inl w)) : ctr C w := by
  obtain ⟨v, -, hw⟩ := ldD_inv h
  cases hw; exact ⟨Nat.le_refl _, Nat.le_refl _⟩
theorem ctr_stI {k : Nat} (h : stI ls k pc st P I L C = some (.inl w)) : ctr C w := by
  obtain ⟨v, st1, -, hw⟩ := stI_inv h
  cases hw; exact ⟨Nat.le_refl _, Nat.le_refl _⟩
theorem ctr_stA {k : Nat} (h : stA ls k pc st P I L C = some (.inl w)) : ctr C w := by
  obtain ⟨v, st1, -, hw⟩ := stA_inv h
  cases hw; exact ⟨Nat.le_refl _, Nat.le_refl _⟩
theorem ctr_stL {k : Nat} (h : stL ls k pc st P I L C = some (.inl w)) : ctr C w := by
  obtain ⟨v, st1, -, hw⟩ := stL_inv h
  cases hw; exact ⟨Nat.le_refl _, Nat.le_refl _⟩
theorem ctr_stD {k : Nat} (h : stD ls k pc st P I L C = some (.inl w)) : ctr C w := by
  obtain ⟨v, st1, -, hw⟩ := stD_inv h
  cases hw; exact ⟨Nat.le_refl _, Nat.le_refl _⟩
theorem ctr_o1I {f : Int32 → Value} (h : o1I f pc ls st P I L C = some (.inl w)) : ctr C w := by
  obtain ⟨x, st1, -, hw⟩ := o1I_inv h
  cases hw; exact ⟨Nat.le_refl _, Nat.le_refl _⟩
theorem ctr_o2I {f : Int32 → Int32 → Int32} (h : o2I f pc ls st P I L C = some (.inl w)) : ctr C w := by
  obtain ⟨x, y, st1, -, hw⟩ := o2I_inv h
  cases hw; exact ⟨Nat.le_refl _, Nat.le_refl _⟩
theorem ctr_o2L {f : Int64 → Int64 → Int64} (h : o2L f pc ls st P I L C = some (.inl w)) : ctr C w := by
  obtain ⟨x, y, st1, -, hw⟩ := o2L_inv h
  cases hw; exact ⟨Nat.le_refl _, Nat.le_refl _⟩
end CTR
set_option maxHeartbeats 4000000 in
theorem stp_ctr {pc : Nat} {i : ClassFile.Instr} {len : Nat} {rz : List Nat} {ls st : List Value} {P : MP} {I : MI} {L : ML} {C : MC} {w : FR × MM} (h : stp pc i len rz ls st P I L C = some (.inl w)) : ctr C w := by
  cases i <;> simp only [stp] at h <;> (repeat' split at h) <;>
    first
    | exact ctr_ldI h
    | exact ctr_ldA h
    | exact ctr_ldL h
    | exact ctr_ldD h
    | exact ctr_stI h
    | exact ctr_stA h
    | exact ctr_stL h
    | exact ctr_stD h
    | exact ctr_o1I h
    | exact ctr_o2I h
    | exact ctr_o2L h
    | exact ctr_m h
    | exact ctr_s (pc0 := 0) (ls0 := []) (st0 := []) (P0 := P) (I0 := I) (L0 := L) h
    | (rcases brI_w h with h | h <;> exact ctr_s (pc0 := 0) (ls0 := []) (st0 := []) (P0 := P) (I0 := I) (L0 := L) h)
    | (rcases brII_w h with h | h <;> exact ctr_s (pc0 := 0) (ls0 := []) (st0 := []) (P0 := P) (I0 := I) (L0 := L) h)
    | cases h
theorem ex_ctr {f : Nat} : ∀ {d mi : Nat} {fr : FR} {M : MM} {r : RV × MM}, ex f d mi fr M = some r → M.2.2.2.1 ≤ r.2.2.2.2.1 ∧ M.2.2.2.2 ≤ r.2.2.2.2.2 := by
  induction f with
  | zero => intro d mi fr M r h; cases h
  | succ f ih =>
    intro d mi fr M r h
    rw [ex] at h
    split at h
    · cases h
    · split at h
      · cases h
      · rename_i hs
        have h1 := stp_ctr hs
        have h2 := ih h
        exact ⟨Nat.le_trans h1.1 h2.1, Nat.le_trans h1.2 h2.2⟩
      · cases h; exact ⟨Nat.le_refl _, Nat.le_refl _⟩
      · cases h; exact ⟨Nat.le_succ _, Nat.le_add_right _ _⟩
      · split at h
        · cases h
        · split at h
          · cases h
          · rename_i he
            have h1 := ih he
            have h2 := ih h
            exact ⟨Nat.le_trans h1.1 h2.1, Nat.le_trans h1.2 h2.2⟩
          · rename_i he
            have h1 := ih he
            split at h
            · cases h; exact h1
            · split at h
              · cases h
              · have h2 := ih h
                exact ⟨Nat.le_trans h1.1 h2.1, Nat.le_trans h1.2 h2.2⟩

set_option maxHeartbeats 4000000 in
theorem stp_n {pc : Nat} {i : ClassFile.Instr} {len : Nat} {rz : List Nat} {ls st : List Value} {P : MP} {I : MI} {L : ML} {C : MC} {w : FR × MM} (h : stp pc i len rz ls st P I L C = some (.inl w)) : P.2.2 ≤ w.2.1.2.2 := by
  cases i <;> simp only [stp] at h <;> (repeat' split at h) <;>
    first
    | (obtain ⟨v, -, hw⟩ := ldI_inv h; cases hw; exact Nat.le_refl _)
    | (obtain ⟨v, -, hw⟩ := ldA_inv h; cases hw; exact Nat.le_refl _)
    | (obtain ⟨v, -, hw⟩ := ldL_inv h; cases hw; exact Nat.le_refl _)
    | (obtain ⟨v, -, hw⟩ := ldD_inv h; cases hw; exact Nat.le_refl _)
    | (obtain ⟨v, st1, -, hw⟩ := stI_inv h; cases hw; exact Nat.le_refl _)
    | (obtain ⟨v, st1, -, hw⟩ := stA_inv h; cases hw; exact Nat.le_refl _)
    | (obtain ⟨v, st1, -, hw⟩ := stL_inv h; cases hw; exact Nat.le_refl _)
    | (obtain ⟨v, st1, -, hw⟩ := stD_inv h; cases hw; exact Nat.le_refl _)
    | (obtain ⟨x, st1, -, hw⟩ := o1I_inv h; cases hw; exact Nat.le_refl _)
    | (obtain ⟨x, y, st1, -, hw⟩ := o2I_inv h; cases hw; exact Nat.le_refl _)
    | (obtain ⟨x, y, st1, -, hw⟩ := o2L_inv h; cases hw; exact Nat.le_refl _)
    | (rcases brI_w h with h | h <;> (cases h; exact Nat.le_refl _))
    | (rcases brII_w h with h | h <;> (cases h; exact Nat.le_refl _))
    | (cases h; exact Nat.le_refl _)
    | (cases h; exact Nat.le_succ _)
    | cases h
theorem ex_n {f : Nat} : ∀ {d mi : Nat} {fr : FR} {M : MM} {r : RV × MM}, ex f d mi fr M = some r → M.1.2.2 ≤ r.2.1.2.2 := by
  induction f with
  | zero => intro d mi fr M r h; cases h
  | succ f ih =>
    intro d mi fr M r h
    rw [ex] at h
    split at h
    · cases h
    · split at h
      · cases h
      · rename_i hs
        exact Nat.le_trans (stp_n hs) (ih h)
      · cases h; exact Nat.le_refl _
      · cases h; exact Nat.le_refl _
      · split at h
        · cases h
        · split at h
          · cases h
          · rename_i he
            exact Nat.le_trans (ih he) (ih h)
          · rename_i he
            split at h
            · cases h; exact ih he
            · split at h
              · cases h
              · exact Nat.le_trans (ih he) (ih h)
theorem mem_grow {f d mi : Nat} {fr : FR} {P : MP} {I : MI} {L : ML} {C : MC} {v : RV} {M : MM} (h : ex f d mi fr (P, I, L, C) = some (v, M)) : P.2.2 ≤ M.1.2.2 := ex_n h

section SND3
variable {p : Program} {l : Launch} {e : Env} {R : Room} {s : State} {m : MethodId} {args : Array Value} {below : List Frame} {meth : Method} {c : Code} {H : Heap} {locs : List Loc} {cells slots : Nat} {Q : State → Prop}
variable {D : va_G} {cy : CY} {L0 : Nat} {x0 : XX} {mi : Nat} {ad : Nat → Nat} {P P' : MP} {I I' : MI} {L L' : ML} {C C' : MC} {ls ls' st st' : List Value} {lsA : Array Slot} {pc pc' : Nat} {i : ClassFile.Instr} {len : Nat} {rz : List Nat}

set_option maxHeartbeats 4000000 in
theorem sx_all (fo : FO p s m meth c mi) (sv : SV D cy s) (sh : SH L0 x0 s s.heap) (hd : dec mi pc = some (i, len, rz)) (hI : IV D cy L0 x0 s mi ad P I L ls st lsA H locs) {w : FR × MM} (hs : stp pc i len rz ls st P I L C = some (.inl w)) (hcR : cells + w.2.2.2.2.1 ≤ R.cells + C.1) (hsR : slots + w.2.2.2.2.2 ≤ R.slots + C.2) (hfR : 8 ≤ R.frames) (hlR : 128 ≤ R.locals)
    (k : KN p l e R s m args below meth c cells slots Q D cy L0 x0 mi ad P C w) : W p l e R s m args below meth c H locs cells slots Q (F0 m pc lsA (cv ad st)) := by
  cases i with
  | aload_n n => exact sx_aload_n fo sv sh hd hI hs hcR hsR hfR hlR k
  | iload_n n => exact sx_iload_n fo sv sh hd hI hs hcR hsR hfR hlR k
  | lload_n n => exact sx_lload_n fo sv sh hd hI hs hcR hsR hfR hlR k
  | dload_n n => exact sx_dload_n fo sv sh hd hI hs hcR hsR hfR hlR k
  | aload n => exact sx_aload fo sv sh hd hI hs hcR hsR hfR hlR k
  | iload n => exact sx_iload fo sv sh hd hI hs hcR hsR hfR hlR k
  | lload n => exact sx_lload fo sv sh hd hI hs hcR hsR hfR hlR k
  | dload n => exact sx_dload fo sv sh hd hI hs hcR hsR hfR hlR k
  | istore_n n => exact sx_istore_n fo sv sh hd hI hs hcR hsR hfR hlR k
  | astore_n n => exact sx_astore_n fo sv sh hd hI hs hcR hsR hfR hlR k
  | lstore_n n => exact sx_lstore_n fo sv sh hd hI hs hcR hsR hfR hlR k
  | dstore_n n => exact sx_dstore_n fo sv sh hd hI hs hcR hsR hfR hlR k
  | istore n => exact sx_istore fo sv sh hd hI hs hcR hsR hfR hlR k
  | astore n => exact sx_astore fo sv sh hd hI hs hcR hsR hfR hlR k
  | lstore n => exact sx_lstore fo sv sh hd hI hs hcR hsR hfR hlR k
  | dstore n => exact sx_dstore fo sv sh hd hI hs hcR hsR hfR hlR k
  | iinc n z => exact sx_iinc fo sv sh hd hI hs hcR hsR hfR hlR k
  | iconst n => exact sx_iconst fo sv sh hd hI hs hcR hsR hfR hlR k
  | bipush n => exact sx_bipush fo sv sh hd hI hs hcR hsR hfR hlR k
  | sipush n => exact sx_sipush fo sv sh hd hI hs hcR hsR hfR hlR k
  | lconst n => exact sx_lconst fo sv sh hd hI hs hcR hsR hfR hlR k
  | dconst n => exact sx_dconst fo sv sh hd hI hs hcR hsR hfR hlR k
  | aconst_null  => exact sx_aconst_null fo sv sh hd hI hs hcR hsR hfR hlR k
  | ldc n => exact sx_ldc fo sv sh hd hI hs hcR hsR hfR hlR k
  | ldc_w n => exact sx_ldc_w fo sv sh hd hI hs hcR hsR hfR hlR k
  | ldc2_w n => exact sx_ldc2_w fo sv sh hd hI hs hcR hsR hfR hlR k
  | dup  => exact sx_dup fo sv sh hd hI hs hcR hsR hfR hlR k
  | dup2  => exact sx_dup2 fo sv sh hd hI hs hcR hsR hfR hlR k
  | pop  => exact sx_pop fo sv sh hd hI hs hcR hsR hfR hlR k
  | iadd  => exact sx_iadd fo sv sh hd hI hs hcR hsR hfR hlR k
  | isub  => exact sx_isub fo sv sh hd hI hs hcR hsR hfR hlR k
  | imul  => exact sx_imul fo sv sh hd hI hs hcR hsR hfR hlR k
  | iand  => exact sx_iand fo sv sh hd hI hs hcR hsR hfR hlR k
  | ior  => exact sx_ior fo sv sh hd hI hs hcR hsR hfR hlR k
  | ixor  => exact sx_ixor fo sv sh hd hI hs hcR hsR hfR hlR k
  | ishl  => exact sx_ishl fo sv sh hd hI hs hcR hsR hfR hlR k
  | ishr  => exact sx_ishr fo sv sh hd hI hs hcR hsR hfR hlR k
  | iushr  => exact sx_iushr fo sv sh hd hI hs hcR hsR hfR hlR k
  | idiv  => exact sx_idiv fo sv sh hd hI hs hcR hsR hfR hlR k
  | irem  => exact sx_irem fo sv sh hd hI hs hcR hsR hfR hlR k
  | ldiv  => exact sx_ldiv fo sv sh hd hI hs hcR hsR hfR hlR k
  | lrem  => exact sx_lrem fo sv sh hd hI hs hcR hsR hfR hlR k
  | i2l  => exact sx_i2l fo sv sh hd hI hs hcR hsR hfR hlR k
  | i2b  => exact sx_i2b fo sv sh hd hI hs hcR hsR hfR hlR k
  | i2d  => exact sx_i2d fo sv sh hd hI hs hcR hsR hfR hlR k
  | l2i  => exact sx_l2i fo sv sh hd hI hs hcR hsR hfR hlR k
  | ladd  => exact sx_ladd fo sv sh hd hI hs hcR hsR hfR hlR k
  | lmul  => exact sx_lmul fo sv sh hd hI hs hcR hsR hfR hlR k
  | lcmp  => exact sx_lcmp fo sv sh hd hI hs hcR hsR hfR hlR k
  | dcmp op => exact sx_dcmp fo sv sh hd hI hs hcR hsR hfR hlR k
  | ddiv  => exact sx_ddiv fo sv sh hd hI hs hcR hsR hfR hlR k
  | goto z => exact sx_goto fo sv sh hd hI hs hcR hsR hfR hlR k
  | ifnull z => exact sx_ifnull fo sv sh hd hI hs hcR hsR hfR hlR k
  | ifnonnull z => exact sx_ifnonnull fo sv sh hd hI hs hcR hsR hfR hlR k
  | tableswitch a b d e2 => exact sx_tableswitch fo sv sh hd hI hs hcR hsR hfR hlR k
  | lookupswitch a b => exact sx_lookupswitch fo sv sh hd hI hs hcR hsR hfR hlR k
  | getfield n => exact sx_getfield fo sv sh hd hI hs hcR hsR hfR hlR k
  | putfield n => exact sx_putfield fo sv sh hd hI hs hcR hsR hfR hlR k
  | arraylength  => exact sx_arraylength fo sv sh hd hI hs hcR hsR hfR hlR k
  | iaload  => exact sx_iaload fo sv sh hd hI hs hcR hsR hfR hlR k
  | baload  => exact sx_baload fo sv sh hd hI hs hcR hsR hfR hlR k
  | laload  => exact sx_laload fo sv sh hd hI hs hcR hsR hfR hlR k
  | aaload  => exact sx_aaload fo sv sh hd hI hs hcR hsR hfR hlR k
  | iastore  => exact sx_iastore fo sv sh hd hI hs hcR hsR hfR hlR k
  | bastore  => exact sx_bastore fo sv sh hd hI hs hcR hsR hfR hlR k
  | lastore  => exact sx_lastore fo sv sh hd hI hs hcR hsR hfR hlR k
  | aastore  => exact sx_aastore fo sv sh hd hI hs hcR hsR hfR hlR k
  | new n => exact sx_new fo sv sh hd hI hs hcR hsR hfR hlR k
  | anewarray n => exact sx_anewarray fo sv sh hd hI hs hcR hsR hfR hlR k
  | invokestatic n => exact sx_invokestatic fo sv sh hd hI hs hcR hsR hfR hlR k
  | invokespecial n => exact sx_invokespecial fo sv sh hd hI hs hcR hsR hfR hlR k
  | ifCond cd z =>
    cases cd with
    | eq => exact sx_if_eq fo sv sh hd hI hs hcR hsR hfR hlR k
    | ne => exact sx_if_ne fo sv sh hd hI hs hcR hsR hfR hlR k
    | lt => exact sx_if_lt fo sv sh hd hI hs hcR hsR hfR hlR k
    | ge => exact sx_if_ge fo sv sh hd hI hs hcR hsR hfR hlR k
    | gt => exact sx_if_gt fo sv sh hd hI hs hcR hsR hfR hlR k
    | le => exact sx_if_le fo sv sh hd hI hs hcR hsR hfR hlR k
  | if_icmp cd z =>
    cases cd with
    | eq => exact sx_icmp_eq fo sv sh hd hI hs hcR hsR hfR hlR k
    | ne => exact sx_icmp_ne fo sv sh hd hI hs hcR hsR hfR hlR k
    | lt => exact sx_icmp_lt fo sv sh hd hI hs hcR hsR hfR hlR k
    | ge => exact sx_icmp_ge fo sv sh hd hI hs hcR hsR hfR hlR k
    | gt => exact sx_icmp_gt fo sv sh hd hI hs hcR hsR hfR hlR k
    | le => exact sx_icmp_le fo sv sh hd hI hs hcR hsR hfR hlR k
  | newarray t =>
    cases t with
    | int => exact sx_newarray_int fo sv sh hd hI hs hcR hsR hfR hlR k
    | long => exact sx_newarray_long fo sv sh hd hI hs hcR hsR hfR hlR k
    | byte => exact sx_newarray_byte fo sv sh hd hI hs hcR hsR hfR hlR k
    | _ => simp only [stp] at hs; (repeat' split at hs) <;> cases hs
  | _ => simp only [stp] at hs; (repeat' split at hs) <;> cases hs
end SND3
