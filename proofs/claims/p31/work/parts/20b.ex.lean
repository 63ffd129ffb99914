/-! TWO: the machine of the law's own methods -/
/-- instructions that touch no cell of the class -/
def pu (i : ClassFile.Instr) (rz : List Nat) : Bool := match i with
  | .aload_n _ => true
  | .aload _ => true
  | .iload_n _ => true
  | .iload _ => true
  | .lload_n _ => true
  | .lload _ => true
  | .istore_n _ => true
  | .istore _ => true
  | .astore_n _ => true
  | .astore _ => true
  | .lstore_n _ => true
  | .lstore _ => true
  | .iconst _ => true
  | .bipush _ => true
  | .sipush _ => true
  | .ldc _ => true
  | .ldc_w _ => true
  | .ldc2_w _ => true
  | .lconst _ => true
  | .dconst _ => true
  | .iinc _ _ => true
  | .iadd => true
  | .isub => true
  | .imul => true
  | .iand => true
  | .ixor => true
  | .ishr => true
  | .iushr => true
  | .idiv => true
  | .irem => true
  | .i2l => true
  | .i2d => true
  | .ladd => true
  | .lmul => true
  | .lcmp => true
  | .dcmp _ => true
  | .ddiv => true
  | .goto _ => true
  | .ifCond _ _ => true
  | .if_icmp _ _ => true
  | .tableswitch _ _ _ _ => true
  | .ireturn => true
  | .lreturn => true
  | .arraylength => true
  | .iaload => true
  | .invokestatic _ => (match rz with | 2 :: _ => true | _ => false)
  | .invokevirtual _ => true
  | _ => false
/-- the memory as the law's own methods see it: the script and the object -/
def mP (z : SX) : MP := (fun k => if k = 0 then (30, z.1) else if k = 1 then (10, 0) else (0, 0), fun _ _ => none, 1)
def mI (z : SX) : MI := fun k j => if k = 0 then z.2 j else 0
def mL0 : ML := fun _ _ => 0
def dek (mi pc : Nat) : Option (ClassFile.Instr × Nat × List Nat) := match dec mi pc with
  | some (i, len, rz) => if pu i rz = true then some (i, len, rz) else none
  | none => none
/-- the machine: f steps at most, d calls deep at most -/
def ex2 (z : SX) : Nat → Nat → Nat → FR → LW → Option (RV × LW)
  | 0, _, _, _, _ => none
  | f + 1, d, mi, fr, S => match dek mi fr.1 with
    | none => none
    | some (i, len, rz) => match stp fr.1 i len rz fr.2.1 fr.2.2 (mP z) (mI z) mL0 (0, 0) with
      | none => none
      | some (.inl (fr', _)) => ex2 z f d mi fr' S
      | some (.inr (.inl v)) => some (.inl v, S)
      | some (.inr (.inr (.inr _))) => none
      | some (.inr (.inr (.inl (mj, as, st)))) => if d = 0 ∨ mL mj < (lay as).length then none else match (if mO mj = 14 then ex2 z f (d - 1) mj (0, ent mj as, []) S else if d < 30 then none else sp2 mj as S) with
        | none => none
        | some (.inl v, S') => ex2 z f d mi (fr.1 + 3, fr.2.1, v.toList ++ st) S'
        | some (.inr E, S') => match hfind (mG mi).2.2.2.2 fr.1 E with
          | none => some (.inr E, S')
          | some h => match hgo mi h fr.2.1 with
            | none => none
            | some fr' => ex2 z f d mi fr' S'
theorem ex2_mono {z : SX} {f : Nat} : ∀ {d mi : Nat} {fr : FR} {S : LW} {r : RV × LW}, ex2 z f d mi fr S = some r → ex2 z (f + 1) d mi fr S = some r := by
  induction f with
  | zero => intro d mi fr S r h; cases h
  | succ f ih =>
    intro d mi fr S r h
    rw [ex2] at h ⊢
    cases hd : dek mi fr.1 with
    | none => rw [hd] at h; cases h
    | some q =>
      obtain ⟨i, len, rz⟩ := q
      rw [hd] at h
      dsimp only at h ⊢
      cases hs : stp fr.1 i len rz fr.2.1 fr.2.2 (mP z) (mI z) mL0 (0, 0) with
      | none => rw [hs] at h; cases h
      | some w =>
        rw [hs] at h
        rcases w with ⟨fr', M'⟩ | v | ⟨mj, as, st⟩ | E
        · exact ih h
        · exact h
        · dsimp only at h ⊢
          by_cases hc : d = 0 ∨ mL mj < (lay as).length
          · rw [if_pos hc] at h; cases h
          · rw [if_neg hc] at h ⊢
            have key : ∀ c, (if mO mj = 14 then ex2 z f (d - 1) mj (0, ent mj as, []) S else if d < 30 then none else sp2 mj as S) = some c → (if mO mj = 14 then ex2 z (f + 1) (d - 1) mj (0, ent mj as, []) S else if d < 30 then none else sp2 mj as S) = some c := by
              intro c hc'
              by_cases h14 : mO mj = 14
              · rw [if_pos h14] at hc' ⊢; exact ih hc'
              · rw [if_neg h14] at hc' ⊢; exact hc'
            cases he : (if mO mj = 14 then ex2 z f (d - 1) mj (0, ent mj as, []) S else if d < 30 then none else sp2 mj as S) with
            | none => rw [he] at h; cases h
            | some y =>
              rw [he] at h
              rw [key y he]
              obtain ⟨v | E, M'⟩ := y
              · exact ih h
              · dsimp only at h ⊢
                cases hh : hfind (mG mi).2.2.2.2 fr.1 E with
                | none => rw [hh] at h; exact h
                | some hd2 =>
                  rw [hh] at h
                  dsimp only at h ⊢
                  cases hg : hgo mi hd2 fr.2.1 with
                  | none => rw [hg] at h; cases h
                  | some fr' => rw [hg] at h; exact ih h
        · cases h
theorem ex2_more {z : SX} {f : Nat} (k : Nat) {d mi : Nat} {fr : FR} {S : LW} {r : RV × LW} (h : ex2 z f d mi fr S = some r) : ex2 z (f + k) d mi fr S = some r := by
  induction k with
  | zero => exact h
  | succ k ih => exact ex2_mono ih
theorem ex2_det {z : SX} {f g d mi : Nat} {fr : FR} {S : LW} {r r' : RV × LW} (h : ex2 z f d mi fr S = some r) (h' : ex2 z g d mi fr S = some r') : r = r' := by
  have h1 := ex2_more g h
  have h2 := ex2_more f h'
  rw [Nat.add_comm] at h2
  exact Option.some.inj (h1.symm.trans h2)
abbrev ZT : Type := RV → LW → Prop
/-- from here the method comes to an end with Z -/
def X2 (z : SX) (d mi pc : Nat) (ls st : List Value) (S : LW) (Z : ZT) : Prop := ∃ (f : Nat) (r : RV × LW), ex2 z f d mi (pc, ls, st) S = some r ∧ Z r.1 r.2
/-- a call -/
def CO (z : SX) (d mj : Nat) (as : List Value) (S : LW) (Z : ZT) : Prop := if mO mj = 14 then X2 z (d - 1) mj 0 (ent mj as) [] S Z else if d < 30 then False else ∃ r, sp2 mj as S = some r ∧ Z r.1 r.2
def C2 (z : SX) (d mj : Nat) (as : List Value) (S : LW) (Z : ZT) : Prop := ¬ (d = 0 ∨ mL mj < (lay as).length) ∧ CO z d mj as S Z
def bk2 (z : SX) (d mi pc : Nat) (ls st : List Value) (Z : ZT) : ZT := fun r S => match r with
  | .inl v => X2 z d mi (pc + 3) ls (v.toList ++ st) S Z
  | .inr E => match hfind (mG mi).2.2.2.2 pc E with
    | none => Z (.inr E) S
    | some h => match hgo mi h ls with
      | none => False
      | some fr => X2 z d mi fr.1 fr.2.1 fr.2.2 S Z
def go3 (z : SX) (d mi pc : Nat) (ls : List Value) (S : LW) (Z : ZT) (s : SR) : Prop := match s with
  | none => False
  | some (.inl (fr, _)) => X2 z d mi fr.1 fr.2.1 fr.2.2 S Z
  | some (.inr (.inl v)) => Z (.inl v) S
  | some (.inr (.inr (.inl (mj, as, st)))) => C2 z d mj as S (bk2 z d mi pc ls st Z)
  | some (.inr (.inr (.inr _))) => False
def go4 (z : SX) (d mi pc : Nat) (ls st : List Value) (S : LW) (Z : ZT) (o : Option (ClassFile.Instr × Nat × List Nat)) : Prop := match o with
  | none => False
  | some (i, len, rz) => go3 z d mi pc ls S Z (stp pc i len rz ls st (mP z) (mI z) mL0 (0, 0))
theorem CO_ex {z : SX} {d mj : Nat} {as : List Value} {S : LW} {Z : ZT} : CO z d mj as S Z ↔ ∃ f c, (if mO mj = 14 then ex2 z f (d - 1) mj (0, ent mj as, []) S else if d < 30 then none else sp2 mj as S) = some c ∧ Z c.1 c.2 := by
  unfold CO
  by_cases h14 : mO mj = 14
  · simp only [if_pos h14]
    exact ⟨fun ⟨f, r, h, hz⟩ => ⟨f, r, h, hz⟩, fun ⟨f, r, h, hz⟩ => ⟨f, r, h, hz⟩⟩
  · simp only [if_neg h14]
    by_cases h30 : d < 30
    · simp only [if_pos h30]
      exact ⟨fun h => h.elim, fun ⟨_, _, h, _⟩ => (nomatch h)⟩
    · simp only [if_neg h30]
      exact ⟨fun ⟨r, h, hz⟩ => ⟨0, r, h, hz⟩, fun ⟨_, r, h, hz⟩ => ⟨r, h, hz⟩⟩
theorem cal_more {z : SX} {f d mj : Nat} {as : List Value} {S : LW} {c : RV × LW} (g : Nat) (h : (if mO mj = 14 then ex2 z f (d - 1) mj (0, ent mj as, []) S else if d < 30 then none else sp2 mj as S) = some c) : (if mO mj = 14 then ex2 z (f + g) (d - 1) mj (0, ent mj as, []) S else if d < 30 then none else sp2 mj as S) = some c := by
  by_cases h14 : mO mj = 14
  · rw [if_pos h14] at h ⊢; exact ex2_more g h
  · rw [if_neg h14] at h ⊢; exact h
theorem X2_go {z : SX} {d mi pc : Nat} {ls st : List Value} {S : LW} {Z : ZT} : X2 z d mi pc ls st S Z = go4 z d mi pc ls st S Z (dek mi pc) := by
  apply propext
  constructor
  · rintro ⟨f, r, h, hq⟩
    cases f with
    | zero => cases h
    | succ f =>
      rw [ex2] at h
      dsimp only at h
      unfold go4
      cases hd : dek mi pc with
      | none => rw [hd] at h; cases h
      | some q =>
        obtain ⟨i, len, rz⟩ := q
        rw [hd] at h
        dsimp only at h ⊢
        unfold go3
        cases hs : stp pc i len rz ls st (mP z) (mI z) mL0 (0, 0) with
        | none => rw [hs] at h; cases h
        | some w =>
          rw [hs] at h
          rcases w with ⟨fr', M'⟩ | v | ⟨mj, as, st'⟩ | E
          · exact ⟨f, r, h, hq⟩
          · cases h; exact hq
          · dsimp only at h ⊢
            by_cases hc : d = 0 ∨ mL mj < (lay as).length
            · rw [if_pos hc] at h; cases h
            · rw [if_neg hc] at h
              refine ⟨hc, ?_⟩
              rw [CO_ex]
              refine ⟨f, ?_⟩
              cases he : (if mO mj = 14 then ex2 z f (d - 1) mj (0, ent mj as, []) S else if d < 30 then none else sp2 mj as S) with
              | none => rw [he] at h; cases h
              | some y =>
                rw [he] at h
                refine ⟨y, rfl, ?_⟩
                obtain ⟨v | E, M'⟩ := y
                · exact ⟨f, r, h, hq⟩
                · dsimp only at h
                  unfold bk2
                  dsimp only
                  cases hh : hfind (mG mi).2.2.2.2 pc E with
                  | none => rw [hh] at h; cases h; exact hq
                  | some hd2 =>
                    rw [hh] at h
                    dsimp only at h ⊢
                    cases hg : hgo mi hd2 ls with
                    | none => rw [hg] at h; cases h
                    | some fr' => rw [hg] at h; exact ⟨f, r, h, hq⟩
          · cases h
  · intro h
    unfold go4 at h
    cases hd : dek mi pc with
    | none => rw [hd] at h; exact h.elim
    | some q =>
      obtain ⟨i, len, rz⟩ := q
      rw [hd] at h
      dsimp only at h
      unfold go3 at h
      cases hs : stp pc i len rz ls st (mP z) (mI z) mL0 (0, 0) with
      | none => rw [hs] at h; exact h.elim
      | some w =>
        rw [hs] at h
        have step : ∀ f r, (match some w with
            | none => none
            | some (.inl (fr', _)) => ex2 z f d mi fr' S
            | some (.inr (.inl v)) => some (.inl v, S)
            | some (.inr (.inr (.inr _))) => none
            | some (.inr (.inr (.inl (mj, as, st)))) => if d = 0 ∨ mL mj < (lay as).length then none else match (if mO mj = 14 then ex2 z f (d - 1) mj (0, ent mj as, []) S else if d < 30 then none else sp2 mj as S) with
              | none => none
              | some (.inl v, S') => ex2 z f d mi (pc + 3, ls, v.toList ++ st) S'
              | some (.inr E, S') => match hfind (mG mi).2.2.2.2 pc E with
                | none => some (.inr E, S')
                | some h => match hgo mi h ls with
                  | none => none
                  | some fr' => ex2 z f d mi fr' S') = some r → ex2 z (f + 1) d mi (pc, ls, st) S = some r := by
          intro f r hh
          rw [ex2]
          dsimp only
          rw [hd]
          dsimp only
          rw [hs]
          exact hh
        rcases w with ⟨fr', M'⟩ | v | ⟨mj, as, st'⟩ | E
        · obtain ⟨f, r, h1, hq⟩ := h
          exact ⟨f + 1, r, step f r h1, hq⟩
        · exact ⟨1, _, step 0 _ rfl, h⟩
        · obtain ⟨hc, hb⟩ := h
          rw [CO_ex] at hb
          obtain ⟨f, y, he, hb⟩ := hb
          dsimp only at step
          simp only [if_neg hc] at step
          obtain ⟨v | E, M'⟩ := y
          · obtain ⟨g, r, h1, hq⟩ := hb
            refine ⟨f + g + 1, r, step (f + g) r ?_, hq⟩
            rw [cal_more g he]
            dsimp only
            have := ex2_more f h1
            rw [Nat.add_comm] at this
            exact this
          · unfold bk2 at hb
            dsimp only at hb
            cases hh : hfind (mG mi).2.2.2.2 pc E with
            | none =>
              rw [hh] at hb
              refine ⟨f + 1, (.inr E, M'), step f (.inr E, M') ?_, hb⟩
              rw [he]
              dsimp only
              rw [hh]
            | some hd2 =>
              rw [hh] at hb
              dsimp only at hb
              cases hg : hgo mi hd2 ls with
              | none => rw [hg] at hb; exact hb.elim
              | some fr' =>
                rw [hg] at hb
                obtain ⟨g, r, h1, hq⟩ := hb
                refine ⟨f + g + 1, r, step (f + g) r ?_, hq⟩
                rw [cal_more g he]
                dsimp only
                rw [hh]
                dsimp only
                rw [hg]
                dsimp only
                have := ex2_more f h1
                rw [Nat.add_comm] at this
                exact this
        · exact h.elim
theorem g3_sN {z : SX} {d mi pc : Nat} {ls : List Value} {S : LW} {Z : ZT} {pc' : Nat} {ls' st' : List Value} {P' : MP} {I' : MI} {L' : ML} {C' : MC} : go3 z d mi pc ls S Z (sN pc' ls' st' P' I' L' C') = X2 z d mi pc' ls' st' S Z := rfl
theorem g3_sR {z : SX} {d mi pc : Nat} {ls : List Value} {S : LW} {Z : ZT} {v : Option Value} : go3 z d mi pc ls S Z (sR v) = Z (.inl v) S := rfl
theorem g3_sC {z : SX} {d mi pc : Nat} {ls : List Value} {S : LW} {Z : ZT} {mj : Nat} {as st : List Value} : go3 z d mi pc ls S Z (sC mj as st) = C2 z d mj as S (bk2 z d mi pc ls st Z) := rfl
theorem g3_no {z : SX} {d mi pc : Nat} {ls : List Value} {S : LW} {Z : ZT} : go3 z d mi pc ls S Z none = False := rfl
theorem g3_if {z : SX} {d mi pc : Nat} {ls : List Value} {S : LW} {Z : ZT} {c : Prop} [Decidable c] {a b : SR} : go3 z d mi pc ls S Z (if c then a else b) = if c then go3 z d mi pc ls S Z a else go3 z d mi pc ls S Z b := by
  split <;> rfl
theorem g4_some {z : SX} {d mi pc : Nat} {ls st : List Value} {S : LW} {Z : ZT} {i : ClassFile.Instr} {len : Nat} {rz : List Nat} : go4 z d mi pc ls st S Z (some (i, len, rz)) = go3 z d mi pc ls S Z (stp pc i len rz ls st (mP z) (mI z) mL0 (0, 0)) := rfl
theorem b2_v {z : SX} {d mi pc : Nat} {ls st : List Value} {S : LW} {Z : ZT} {v : Value} : bk2 z d mi pc ls st Z (.inl (some v)) S = X2 z d mi (pc + 3) ls (v :: st) S Z := rfl
/-- a call of a method of the law's -/
theorem C2_in {z : SX} {d mj : Nat} {as : List Value} {S : LW} {Z : ZT} (h14 : mO mj = 14) (hd : 1 ≤ d) (hl : (lay as).length ≤ mL mj) : C2 z d mj as S Z = X2 z (d - 1) mj 0 (ent mj as) [] S Z := by
  unfold C2 CO
  rw [if_pos h14]
  exact propext ⟨fun h => h.2, fun h => ⟨by omega, h⟩⟩
theorem C2_e {z : SX} {d mj : Nat} {as e : List Value} {S : LW} {Z : ZT} (h14 : mO mj = 14) (hd : 1 ≤ d) (he : ent mj as = e) (hl : (lay as).length ≤ mL mj) : C2 z d mj as S Z = X2 z (d - 1) mj 0 e [] S Z := by
  rw [← he]; exact C2_in h14 hd hl
/-- a call of the class -/
def run2 (r : R2) (Z : ZT) : Prop := match r with
  | none => False
  | some r => Z r.1 r.2
theorem run2_v {v : Value} {S : LW} {Z : ZT} : run2 (vok v S) Z = Z (.inl (some v)) S := rfl
theorem run2_x {E : Nat} {g : GS} {n k : Nat} {ps : Nat → GS} {Z : ZT} : run2 (xer E (g, n, ps, k)) Z = Z (.inr E) (g, n, ps, k + 1) := rfl
theorem run2_if {c : Prop} [Decidable c] {a b : R2} {Z : ZT} : run2 (if c then a else b) Z = if c then run2 a Z else run2 b Z := by
  split <;> rfl
theorem C2_sp {z : SX} {d mj : Nat} {as : List Value} {S : LW} {Z : ZT} (h14 : mO mj ≠ 14) (hd : 30 ≤ d) (hl : (lay as).length ≤ mL mj) : C2 z d mj as S Z = run2 (sp2 mj as S) Z := by
  unfold C2 CO
  rw [if_neg h14, if_neg (by omega)]
  refine propext ⟨fun hh => ?_, fun hh => ⟨by omega, ?_⟩⟩
  · obtain ⟨_, r', h1, h2⟩ := hh
    rw [h1]
    exact h2
  · cases hr : sp2 mj as S with
    | none => rw [hr] at hh; exact hh.elim
    | some r => rw [hr] at hh; exact ⟨r, rfl, hh⟩
theorem X2_mono {z : SX} {d mi pc : Nat} {ls st : List Value} {S : LW} {Z Z' : ZT} (h : X2 z d mi pc ls st S Z) (hz : ∀ r S, Z r S → Z' r S) : X2 z d mi pc ls st S Z' := by
  obtain ⟨f, r, h1, h2⟩ := h
  exact ⟨f, r, h1, hz _ _ h2⟩
