/-! TWO: what the second interpreter says holds of the machine -/
theorem sp2_ok {z : SX} {c : MC} {d mj : Nat} {as : List Value} {S S' : LW} {r : RV} (h : sp2 mj as S = some (r, S')) (hk : S'.2.2.2 ≤ 999000) (hd : 30 ≤ d) : SO z c d mj as S r S' := by
  unfold sp2 at h
  split at h
  · split at h
    · exact k85 h hd
    · cases h
  · split at h
    · exact k90 h hd
    · cases h
  · split at h
    · exact k92 h hd
    · cases h
  · split at h
    · exact k97 h hd
    · cases h
  · split at h
    · exact k10 h hd
    · cases h
  · split at h
    · exact k99 h hd
    · cases h
  · split at h
    · exact k101 h hd
    · cases h
  · split at h
    · exact k103 h hd
    · cases h
  · split at h
    · exact k106 h hd
    · cases h
  · split at h
    · exact k108 h hd
    · cases h
  · split at h
    · exact k110 h hd
    · cases h
  · split at h
    · exact k112 h hk hd
    · cases h
  · split at h
    · exact k114 h hk hd
    · cases h
  · split at h
    · exact k124 h hk hd
    · cases h
  · split at h
    · exact k126 h hk hd
    · cases h
  · split at h
    · exact k128 h hd
    · cases h
  · split at h
    · exact k131 h hd
    · cases h
  · split at h
    · exact k134 h hd
    · cases h
  · split at h
    · exact k137 h hd
    · cases h
  · split at h
    · exact k139 h hd
    · cases h
  · split at h
    · exact k31 h hk hd
    · cases h
  · split at h
    · exact k141 h hk hd
    · cases h
  · split at h
    · exact k143 h hd
    · cases h
  · split at h
    · exact k145 h hd
    · cases h
  · split at h
    · exact k148 h hd
    · cases h
  · cases h
theorem sp2_k {mj : Nat} {as : List Value} {S S' : LW} {r : RV} (h : sp2 mj as S = some (r, S')) : S.2.2.2 ≤ S'.2.2.2 := by
  unfold sp2 at h
  split at h
  · split at h
    · unfold q85 at h
      simp only [vok, xer, sav] at h
      repeat' split at h
      all_goals first
        | (cases h; done)
        | (cases h; exact Nat.le_refl _)
        | (cases h; exact Nat.le_add_right _ _)
    · cases h
  · split at h
    · unfold q90 at h
      simp only [vok, xer, sav] at h
      repeat' split at h
      all_goals first
        | (cases h; done)
        | (cases h; exact Nat.le_refl _)
        | (cases h; exact Nat.le_add_right _ _)
    · cases h
  · split at h
    · unfold q92 at h
      simp only [vok, xer, sav] at h
      repeat' split at h
      all_goals first
        | (cases h; done)
        | (cases h; exact Nat.le_refl _)
        | (cases h; exact Nat.le_add_right _ _)
    · cases h
  · split at h
    · unfold q97 at h
      simp only [vok, xer, sav] at h
      repeat' split at h
      all_goals first
        | (cases h; done)
        | (cases h; exact Nat.le_refl _)
        | (cases h; exact Nat.le_add_right _ _)
    · cases h
  · split at h
    · unfold q10 at h
      simp only [vok, xer, sav] at h
      repeat' split at h
      all_goals first
        | (cases h; done)
        | (cases h; exact Nat.le_refl _)
        | (cases h; exact Nat.le_add_right _ _)
    · cases h
  · split at h
    · unfold q99 at h
      simp only [vok, xer, sav] at h
      repeat' split at h
      all_goals first
        | (cases h; done)
        | (cases h; exact Nat.le_refl _)
        | (cases h; exact Nat.le_add_right _ _)
    · cases h
  · split at h
    · unfold q101 at h
      simp only [vok, xer, sav] at h
      repeat' split at h
      all_goals first
        | (cases h; done)
        | (cases h; exact Nat.le_refl _)
        | (cases h; exact Nat.le_add_right _ _)
    · cases h
  · split at h
    · unfold q103 at h
      simp only [vok, xer, sav] at h
      repeat' split at h
      all_goals first
        | (cases h; done)
        | (cases h; exact Nat.le_refl _)
        | (cases h; exact Nat.le_add_right _ _)
    · cases h
  · split at h
    · unfold q106 at h
      simp only [vok, xer, sav] at h
      repeat' split at h
      all_goals first
        | (cases h; done)
        | (cases h; exact Nat.le_refl _)
        | (cases h; exact Nat.le_add_right _ _)
    · cases h
  · split at h
    · unfold q108 at h
      simp only [vok, xer, sav] at h
      repeat' split at h
      all_goals first
        | (cases h; done)
        | (cases h; exact Nat.le_refl _)
        | (cases h; exact Nat.le_add_right _ _)
    · cases h
  · split at h
    · unfold q110 at h
      simp only [vok, xer, sav] at h
      repeat' split at h
      all_goals first
        | (cases h; done)
        | (cases h; exact Nat.le_refl _)
        | (cases h; exact Nat.le_add_right _ _)
    · cases h
  · split at h
    · unfold q112 at h
      simp only [vok, xer, sav] at h
      repeat' split at h
      all_goals first
        | (cases h; done)
        | (cases h; exact Nat.le_refl _)
        | (cases h; exact Nat.le_add_right _ _)
    · cases h
  · split at h
    · unfold q114 at h
      simp only [vok, xer, sav] at h
      repeat' split at h
      all_goals first
        | (cases h; done)
        | (cases h; exact Nat.le_refl _)
        | (cases h; exact Nat.le_add_right _ _)
    · cases h
  · split at h
    · unfold q124 at h
      simp only [vok, xer, sav] at h
      repeat' split at h
      all_goals first
        | (cases h; done)
        | (cases h; exact Nat.le_refl _)
        | (cases h; exact Nat.le_add_right _ _)
    · cases h
  · split at h
    · unfold q126 at h
      simp only [vok, xer, sav] at h
      repeat' split at h
      all_goals first
        | (cases h; done)
        | (cases h; exact Nat.le_refl _)
        | (cases h; exact Nat.le_add_right _ _)
    · cases h
  · split at h
    · unfold q128 at h
      simp only [vok, xer, sav] at h
      repeat' split at h
      all_goals first
        | (cases h; done)
        | (cases h; exact Nat.le_refl _)
        | (cases h; exact Nat.le_add_right _ _)
    · cases h
  · split at h
    · unfold q131 at h
      simp only [vok, xer, sav] at h
      repeat' split at h
      all_goals first
        | (cases h; done)
        | (cases h; exact Nat.le_refl _)
        | (cases h; exact Nat.le_add_right _ _)
    · cases h
  · split at h
    · unfold q134 at h
      simp only [vok, xer, sav] at h
      repeat' split at h
      all_goals first
        | (cases h; done)
        | (cases h; exact Nat.le_refl _)
        | (cases h; exact Nat.le_add_right _ _)
    · cases h
  · split at h
    · unfold q137 at h
      simp only [vok, xer, sav] at h
      repeat' split at h
      all_goals first
        | (cases h; done)
        | (cases h; exact Nat.le_refl _)
        | (cases h; exact Nat.le_add_right _ _)
    · cases h
  · split at h
    · unfold q139 at h
      simp only [vok, xer, sav] at h
      repeat' split at h
      all_goals first
        | (cases h; done)
        | (cases h; exact Nat.le_refl _)
        | (cases h; exact Nat.le_add_right _ _)
    · cases h
  · split at h
    · unfold q31 at h
      simp only [vok, xer, sav] at h
      repeat' split at h
      all_goals first
        | (cases h; done)
        | (cases h; exact Nat.le_refl _)
        | (cases h; exact Nat.le_add_right _ _)
    · cases h
  · split at h
    · unfold q141 at h
      simp only [vok, xer, sav] at h
      repeat' split at h
      all_goals first
        | (cases h; done)
        | (cases h; exact Nat.le_refl _)
        | (cases h; exact Nat.le_add_right _ _)
    · cases h
  · split at h
    · unfold q143 at h
      simp only [vok, xer, sav] at h
      repeat' split at h
      all_goals first
        | (cases h; done)
        | (cases h; exact Nat.le_refl _)
        | (cases h; exact Nat.le_add_right _ _)
    · cases h
  · split at h
    · unfold q145 at h
      simp only [vok, xer, sav] at h
      repeat' split at h
      all_goals first
        | (cases h; done)
        | (cases h; exact Nat.le_refl _)
        | (cases h; exact Nat.le_add_right _ _)
    · cases h
  · split at h
    · unfold q148 at h
      simp only [vok, xer, sav] at h
      repeat' split at h
      all_goals first
        | (cases h; done)
        | (cases h; exact Nat.le_refl _)
        | (cases h; exact Nat.le_add_right _ _)
    · cases h
  · cases h
theorem dek_i {mi pc : Nat} {i : ClassFile.Instr} {len : Nat} {rz : List Nat} (h : dek mi pc = some (i, len, rz)) : dec mi pc = some (i, len, rz) ∧ pu i rz = true := by
  unfold dek at h
  cases hd : dec mi pc with
  | none => rw [hd] at h; cases h
  | some q =>
    obtain ⟨a, b, e⟩ := q
    rw [hd] at h
    dsimp only at h
    split at h
    · rename_i hp
      cases h
      exact ⟨rfl, hp⟩
    · cases h
theorem ex2_k {z : SX} : ∀ f d mi (fr : FR) (S : LW) (r : RV) (S' : LW), ex2 z f d mi fr S = some (r, S') → S.2.2.2 ≤ S'.2.2.2 := by
  intro f
  induction f with
  | zero => intro d mi fr S r S' h; cases h
  | succ f ih =>
    intro d mi fr S r S' h
    rw [ex2] at h
    cases hd : dek mi fr.1 with
    | none => rw [hd] at h; cases h
    | some q =>
      obtain ⟨i, len, rz⟩ := q
      rw [hd] at h
      dsimp only at h
      cases hs : stp fr.1 i len rz fr.2.1 fr.2.2 (mP z) (mI z) mL0 (0, 0) with
      | none => rw [hs] at h; cases h
      | some w =>
        rw [hs] at h
        rcases w with ⟨fr', M'⟩ | v | ⟨mj, as, st⟩ | E
        · exact ih _ _ _ _ _ _ h
        · cases h; exact Nat.le_refl _
        · dsimp only at h
          by_cases hc : d = 0 ∨ mL mj < (lay as).length
          · rw [if_pos hc] at h; cases h
          · rw [if_neg hc] at h
            cases he : (if mO mj = 14 then ex2 z f (d - 1) mj (0, ent mj as, []) S else if d < 30 then none else sp2 mj as S) with
            | none => rw [he] at h; cases h
            | some y =>
              rw [he] at h
              have h1 : S.2.2.2 ≤ y.2.2.2.2 := by
                by_cases h14 : mO mj = 14
                · rw [if_pos h14] at he; exact ih _ _ _ _ y.1 y.2 he
                · rw [if_neg h14] at he
                  split at he
                  · cases he
                  · exact sp2_k (r := y.1) (S' := y.2) he
              refine Nat.le_trans h1 ?_
              obtain ⟨v | E, M'⟩ := y
              · exact ih _ _ _ _ _ _ h
              · dsimp only at h
                cases hh : hfind (mG mi).2.2.2.2 fr.1 E with
                | none => rw [hh] at h; cases h; exact Nat.le_refl _
                | some hd2 =>
                  rw [hh] at h
                  dsimp only at h
                  cases hg : hgo mi hd2 fr.2.1 with
                  | none => rw [hg] at h; cases h
                  | some fr' => rw [hg] at h; exact ih _ _ _ _ _ _ h
        · cases h
theorem snd2 {z : SX} {c : MC} : ∀ f d mi (fr : FR) (S : LW) (r : RV) (S' : LW), ex2 z f d mi fr S = some (r, S') → S'.2.2.2 ≤ 999000 → ∀ (P : MP) (I : MI) (L : ML) (C : MC), OKM z c P I L C S → ∃ (I' : MI) (L' : ML) (C' : MC), OKM z c P I' L' C' S' ∧ ∀ Q, Q r P I' L' C' → X d mi fr.1 fr.2.1 fr.2.2 P I L C Q := by
  intro f
  induction f with
  | zero => intro d mi fr S r S' h; cases h
  | succ f ih =>
    intro d mi fr S r S' h hk P I L C hO
    have hm : HM z P I := ⟨hO.2.1.1, hO.2.1.2, hO.1.1⟩
    rw [ex2] at h
    cases hd : dek mi fr.1 with
    | none => rw [hd] at h; cases h
    | some q =>
      obtain ⟨i, len, rz⟩ := q
      obtain ⟨hdec, hpu⟩ := dek_i hd
      rw [hd] at h
      dsimp only at h
      cases hs : stp fr.1 i len rz fr.2.1 fr.2.2 (mP z) (mI z) mL0 (0, 0) with
      | none => rw [hs] at h; cases h
      | some w =>
        have hs' := st_rep (L := L) (C := C) hm hpu hs
        have hX : ∀ Q, X d mi fr.1 fr.2.1 fr.2.2 P I L C Q = go d mi fr.1 fr.2.1 P I L C Q (some (rep P I L C w)) := fun Q => by
          rw [X_go, hdec, go2_some, hs']
        rw [hs] at h
        rcases w with ⟨fr', M'⟩ | v | ⟨mj, as, st⟩ | E
        · obtain ⟨I', L', C', h1, h2⟩ := ih _ _ _ _ _ _ h hk P I L C hO
          refine ⟨I', L', C', h1, fun Q hq => ?_⟩
          rw [hX]
          exact h2 Q hq
        · cases h
          refine ⟨I, L, C, hO, fun Q hq => ?_⟩
          rw [hX]
          exact hq
        · dsimp only at h
          by_cases hc : d = 0 ∨ mL mj < (lay as).length
          · rw [if_pos hc] at h; cases h
          · rw [if_neg hc] at h
            cases he : (if mO mj = 14 then ex2 z f (d - 1) mj (0, ent mj as, []) S else if d < 30 then none else sp2 mj as S) with
            | none => rw [he] at h; cases h
            | some y =>
              rw [he] at h
              have hy : y.2.2.2.2 ≤ 999000 := by
                refine Nat.le_trans ?_ hk
                obtain ⟨v | E, M'⟩ := y
                · exact ex2_k _ _ _ _ _ _ _ h
                · dsimp only at h
                  cases hh : hfind (mG mi).2.2.2.2 fr.1 E with
                  | none => rw [hh] at h; cases h; exact Nat.le_refl _
                  | some hd2 =>
                    rw [hh] at h
                    dsimp only at h
                    cases hg : hgo mi hd2 fr.2.1 with
                    | none => rw [hg] at h; cases h
                    | some fr' => rw [hg] at h; exact ex2_k _ _ _ _ _ _ _ h
              obtain ⟨I1, L1, C1, hO1, hcall⟩ : ∃ (I1 : MI) (L1 : ML) (C1 : MC), OKM z c P I1 L1 C1 y.2 ∧ ∀ Q : QT, Q y.1 P I1 L1 C1 → Ct (d - 1) mj as P I L C Q := by
                by_cases h14 : mO mj = 14
                · rw [if_pos h14] at he
                  obtain ⟨I', L', C', h1, h2⟩ := ih _ _ _ _ y.1 y.2 he hy P I L C hO
                  exact ⟨I', L', C', h1, h2⟩
                · rw [if_neg h14] at he
                  split at he
                  · cases he
                  · obtain ⟨I', L', C', h1, h2⟩ := sp2_ok (z := z) (c := c) (r := y.1) (S' := y.2) he hy (show 30 ≤ d by omega) P I L C hO
                    refine ⟨I', L', C', h1, fun Q hq => ?_⟩
                    have h3 : CT d mj as P I L C Q := by rw [h2]; exact hq
                    exact h3.2
              obtain ⟨v | E, S1⟩ := y
              · obtain ⟨I', L', C', h1, h2⟩ := ih _ _ _ _ _ _ h hk P I1 L1 C1 hO1
                refine ⟨I', L', C', h1, fun Q hq => ?_⟩
                rw [hX]
                exact ⟨hc, hcall _ (h2 Q hq)⟩
              · dsimp only at h
                cases hh : hfind (mG mi).2.2.2.2 fr.1 E with
                | none =>
                  rw [hh] at h
                  cases h
                  refine ⟨I1, L1, C1, hO1, fun Q hq => ?_⟩
                  rw [hX]
                  refine ⟨hc, hcall _ ?_⟩
                  unfold bk
                  dsimp only
                  rw [hh]
                  exact hq
                | some hd2 =>
                  rw [hh] at h
                  dsimp only at h
                  cases hg : hgo mi hd2 fr.2.1 with
                  | none => rw [hg] at h; cases h
                  | some fr' =>
                    rw [hg] at h
                    obtain ⟨I', L', C', h1, h2⟩ := ih _ _ _ _ _ _ h hk P I1 L1 C1 hO1
                    refine ⟨I', L', C', h1, fun Q hq => ?_⟩
                    rw [hX]
                    refine ⟨hc, hcall _ ?_⟩
                    unfold bk
                    dsimp only
                    rw [hh]
                    dsimp only
                    rw [hg]
                    exact h2 Q hq
        · cases h
/-- what a method comes to there, it comes to on the machine -/
theorem X2_X {z : SX} {c : MC} {d mi pc : Nat} {ls st : List Value} {S : LW} {Z : ZT} (h : X2 z d mi pc ls st S Z) (hz : ∀ r S', Z r S' → S'.2.2.2 ≤ 999000) {P : MP} {I : MI} {L : ML} {C : MC} (hO : OKM z c P I L C S) : X d mi pc ls st P I L C (fun r P' I' L' C' => P' = P ∧ ∃ S', Z r S' ∧ OKM z c P I' L' C' S') := by
  obtain ⟨f, r, h1, h2⟩ := h
  obtain ⟨I', L', C', h3, h4⟩ := snd2 f d mi (pc, ls, st) S r.1 r.2 h1 (hz _ _ h2) P I L C hO
  exact h4 _ ⟨rfl, r.2, h2, h3⟩
