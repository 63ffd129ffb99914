theorem cka0 : ∀ a, a < 32 → ckM a := sorry
theorem cka1 : ∀ a, a < 64 → ckM a := sorry
theorem cka2 : ∀ a, a < 96 → ckM a := sorry
theorem cka3 : ∀ a, a < 128 → ckM a := sorry
theorem cka4 : ∀ a, a < 160 → ckM a := sorry
theorem cka5 : ∀ a, a < 192 → ckM a := sorry
theorem cka6 : ∀ a, a < 224 → ckM a := sorry
theorem cka7 : ∀ a, a < 227 → ckM a := sorry
theorem dec_ck {mi pc : Nat} {r : ClassFile.Instr × Nat × List Nat} (h : dec mi pc = some r) : ckI mi pc = true := by
  have h0 := h
  unfold dec at h
  cases he : dcl[mi]? with
  | none => rw [he] at h; cases h
  | some e =>
    rw [he] at h
    dsimp only at h
    by_cases hp : pc < e.1
    · have hm : mi < 227 := by
        have := (List.getElem?_eq_some_iff.mp he).1
        have h2 : dcl.length = 227 := by decide +kernel
        omega
      have hc := cka7 mi hm
      unfold ckM at hc
      have hd : dln mi = e.1 := by
        unfold dln
        rw [List.getD_eq_getElem?_getD, List.getElem?_map, he]; rfl
      rw [hd] at hc
      exact List.all_eq_true.mp hc pc (List.mem_range.mpr hp)
    · rw [if_neg hp] at h; cases h
theorem dec_ok {mi pc : Nat} {i : ClassFile.Instr} {len : Nat} {rz : List Nat} (h : dec mi pc = some (i, len, rz)) : decode (mG mi).2.1 pc = .ok (i, len) ∧ ckR mi pc i len rz = true := by
  have hc := dec_ck h
  unfold ckI at hc
  rw [h] at hc
  simpa using hc
/-- the three exceptions -/
def xcN (E : Nat) : String := match E with
  | 0 => "java/lang/IndexOutOfBoundsException"
  | 1 => "java/lang/IllegalArgumentException"
  | _ => "java/lang/IllegalStateException"
/-- a link entry, held against the printed words -/
def lkB (k : Nat) (rz : List Nat) : Bool := match rz with
  | [1, ci, fi, ty, 0, pl] => decide (tables_1[pl]? = some (.fieldLink (cn (k / 1000)) (k % 1000) (fT ci fi).1 (fT ci fi).2.1 (fT ci fi).2.2.1)) && decide (ci < 11) && decide (fi < fN ci) && decide (ty = match fY ci fi with | .int => 0 | .long => 1 | _ => 2)
  | [1, ci, fi, ty, _, pl] => decide (tables_1[pl]? = some (.fieldLinkNest (cn (k / 1000)) (k % 1000) (fT ci fi).1 (fT ci fi).2.1 (fT ci fi).2.2.1 RX9)) && decide (ci < 11) && decide (fi < fN ci) && decide (ty = match fY ci fi with | .int => 0 | .long => 1 | _ => 2)
  | 2 :: mj :: knd :: ci :: nest :: pl :: ps => (if nest = 0 then decide (tables_1[pl]? = some (.methodLink (cn (k / 1000)) (k % 1000) (mG mj).1)) else decide (tables_1[pl]? = some (.methodLinkNest (cn (k / 1000)) (k % 1000) (mG mj).1 RX9))) && decide (mj < 226 ∧ mj ≠ 18 ∧ mj ≠ 81) && decide ((mG mj).1.cls = cn ci) && decide ((parseMethodDescriptor (mG mj).1.desc).map (fun d => d.parameters.length) = some ps.length) && (match mpl[mj]? with
      | some (_, p2, p3, _) => if knd = 0 then decide (tables_1[p2]? = some (.static (mG mj).1)) else decide (tables_1[p2]? = some (.instanceMethod (mG mj).1)) && decide (ci < 11) && (if knd = 1 then decide ((mG mj).1.name = "<init>") && decide ((mG mj).2.2.2.1 = none) else decide (lw_tbl[p3]? = some (.selects (cn ci) (mG mj).1 (mG mj).1)))
      | none => false)
  | [3, pl] => decide (tables_1[pl]? = some (.methodLink (cn (k / 1000)) (k % 1000) arraycopyName))
  | [10, pl] => decide (tables_1[pl]? = some (.methodLink (cn (k / 1000)) (k % 1000) Lib.Math.min.name))
  | [11, pl] => decide (tables_1[pl]? = some (.methodLink (cn (k / 1000)) (k % 1000) Lib.Math.max.name))
  | [4, pl] => decide (tables_1[pl]? = some (.methodLink (cn (k / 1000)) (k % 1000) objectInit))
  | [5, ci, pl, pi, pj] => decide (tables_1[pl]? = some (.classLink (cn (k / 1000)) (k % 1000) (cn ci))) && decide (tables_1[pi]? = some (.instantiable (cn ci) (fN ci))) && decide (tables_1[pj]? = some (.initialized (cn ci))) && decide (ci < 11)
  | [6, E, pl] => decide (tables_1[pl]? = some (.classLink (cn (k / 1000)) (k % 1000) (xcN E))) && decide (E < 3)
  | [7, pl, pi] => decide (tables_1[pl]? = some (.classLink (cn (k / 1000)) (k % 1000) RX6)) && decide (tables_1[pi]? = some (.instantiable RX6 3))
  | [8, v, pl] => decide (tables_1[pl]? = some (.constant (cn (k / 1000)) (k % 1000) (nI v)))
  | [9, v, pl] => decide (tables_1[pl]? = some (.constantLong (cn (k / 1000)) (k % 1000) (lN v)))
  | _ => false
theorem lkc0 : lkT_0.all (fun e => lkB e.1 e.2) = true := sorry
theorem lkc1 : lkT_1.all (fun e => lkB e.1 e.2) = true := sorry
theorem lkc2 : lkT_2.all (fun e => lkB e.1 e.2) = true := sorry
theorem lkc3 : lkT_3.all (fun e => lkB e.1 e.2) = true := sorry
theorem lkc4 : lkT_4.all (fun e => lkB e.1 e.2) = true := sorry
theorem lkc5 : lkT_5.all (fun e => lkB e.1 e.2) = true := sorry
theorem lkc6 : lkT_6.all (fun e => lkB e.1 e.2) = true := sorry
theorem lkc7 : lkT_7.all (fun e => lkB e.1 e.2) = true := sorry
theorem lkc8 : lkT_8.all (fun e => lkB e.1 e.2) = true := sorry
theorem lkc9 : lkT_9.all (fun e => lkB e.1 e.2) = true := sorry
theorem lkc10 : lkT_10.all (fun e => lkB e.1 e.2) = true := sorry
theorem lkc11 : lkT_11.all (fun e => lkB e.1 e.2) = true := sorry
theorem lk_ok {k : Nat} {rz : List Nat} (h : lkT.lookup k = some rz) : lkB k rz = true := by
  have hall : lkT.all (fun e => lkB e.1 e.2) = true := by
    unfold lkT
    simp only [List.all_append, Bool.and_eq_true]
    exact ⟨lkc0, ⟨lkc1, ⟨lkc2, ⟨lkc3, ⟨lkc4, ⟨lkc5, ⟨lkc6, ⟨lkc7, ⟨lkc8, ⟨lkc9, ⟨lkc10, lkc11⟩⟩⟩⟩⟩⟩⟩⟩⟩⟩⟩
  have key : ∀ (l : List (Nat × List Nat)), l.all (fun e => lkB e.1 e.2) = true → l.lookup k = some rz → lkB k rz = true := by
    intro l
    induction l with
    | nil => intro _ h; cases h
    | cons e l ih =>
      intro h1 h2
      simp only [List.all_cons, Bool.and_eq_true] at h1
      rw [List.lookup_cons] at h2
      by_cases hk : k == e.1
      · rw [hk] at h2
        cases h2
        rw [beq_iff_eq.mp hk]; exact h1.1
      · rw [Bool.not_eq_true] at hk
        rw [hk] at h2
        exact ih h1.2 h2
  exact key lkT hall h
/-- a method's words -/
def mwB (mi : Nat) : Bool := match mpl[mi]? with
  | some (p1, _, _, p4) => (match (mG mi).2.2.2.2 with
      | [] => decide (tables_1[p1]? = some (.code (mG mi).1 (mG mi).2.1 (mL mi) (mG mi).2.2.2.1))
      | hh => decide (tables_1[p1]? = some (.codeWith (mG mi).1 (mG mi).2.1 (mL mi) (mG mi).2.2.2.1 hh))) &&
      decide (tables_1[p4]? = some (.initialized (mG mi).1.cls)) && decide ((mG mi).1.cls = cn (mO mi)) && plainFor (mG mi).1 && decide ((mG mi).2.2.1 = mL mi)
  | none => false
theorem mwc0 : (List.range' 0 8).all mwB = true := sorry
theorem mwc8 : (List.range' 8 8).all mwB = true := sorry
theorem mwc16 : (List.range' 16 2).all mwB = true := sorry
theorem mwc19 : (List.range' 19 8).all mwB = true := sorry
theorem mwc27 : (List.range' 27 8).all mwB = true := sorry
theorem mwc35 : (List.range' 35 8).all mwB = true := sorry
theorem mwc43 : (List.range' 43 8).all mwB = true := sorry
theorem mwc51 : (List.range' 51 8).all mwB = true := sorry
theorem mwc59 : (List.range' 59 8).all mwB = true := sorry
theorem mwc67 : (List.range' 67 8).all mwB = true := sorry
theorem mwc75 : (List.range' 75 6).all mwB = true := sorry
theorem mwc82 : (List.range' 82 8).all mwB = true := sorry
theorem mwc90 : (List.range' 90 8).all mwB = true := sorry
theorem mwc98 : (List.range' 98 8).all mwB = true := sorry
theorem mwc106 : (List.range' 106 8).all mwB = true := sorry
theorem mwc114 : (List.range' 114 8).all mwB = true := sorry
theorem mwc122 : (List.range' 122 8).all mwB = true := sorry
theorem mwc130 : (List.range' 130 8).all mwB = true := sorry
theorem mwc138 : (List.range' 138 8).all mwB = true := sorry
theorem mwc146 : (List.range' 146 8).all mwB = true := sorry
theorem mwc154 : (List.range' 154 8).all mwB = true := sorry
theorem mwc162 : (List.range' 162 8).all mwB = true := sorry
theorem mwc170 : (List.range' 170 8).all mwB = true := sorry
theorem mwc178 : (List.range' 178 8).all mwB = true := sorry
theorem mwc186 : (List.range' 186 8).all mwB = true := sorry
theorem mwc194 : (List.range' 194 8).all mwB = true := sorry
theorem mwc202 : (List.range' 202 8).all mwB = true := sorry
theorem mwc210 : (List.range' 210 8).all mwB = true := sorry
theorem mwc218 : (List.range' 218 8).all mwB = true := sorry
theorem mw_ok {mi : Nat} (h : mi < 226) (h1 : mi ≠ 18) (h2 : mi ≠ 81) : mwB mi = true := by
  by_cases h0 : 0 ≤ mi ∧ mi < 8
  · exact List.all_eq_true.mp mwc0 mi (List.mem_range'_1.mpr (by omega))
  by_cases h8 : 8 ≤ mi ∧ mi < 16
  · exact List.all_eq_true.mp mwc8 mi (List.mem_range'_1.mpr (by omega))
  by_cases h16 : 16 ≤ mi ∧ mi < 18
  · exact List.all_eq_true.mp mwc16 mi (List.mem_range'_1.mpr (by omega))
  by_cases h19 : 19 ≤ mi ∧ mi < 27
  · exact List.all_eq_true.mp mwc19 mi (List.mem_range'_1.mpr (by omega))
  by_cases h27 : 27 ≤ mi ∧ mi < 35
  · exact List.all_eq_true.mp mwc27 mi (List.mem_range'_1.mpr (by omega))
  by_cases h35 : 35 ≤ mi ∧ mi < 43
  · exact List.all_eq_true.mp mwc35 mi (List.mem_range'_1.mpr (by omega))
  by_cases h43 : 43 ≤ mi ∧ mi < 51
  · exact List.all_eq_true.mp mwc43 mi (List.mem_range'_1.mpr (by omega))
  by_cases h51 : 51 ≤ mi ∧ mi < 59
  · exact List.all_eq_true.mp mwc51 mi (List.mem_range'_1.mpr (by omega))
  by_cases h59 : 59 ≤ mi ∧ mi < 67
  · exact List.all_eq_true.mp mwc59 mi (List.mem_range'_1.mpr (by omega))
  by_cases h67 : 67 ≤ mi ∧ mi < 75
  · exact List.all_eq_true.mp mwc67 mi (List.mem_range'_1.mpr (by omega))
  by_cases h75 : 75 ≤ mi ∧ mi < 81
  · exact List.all_eq_true.mp mwc75 mi (List.mem_range'_1.mpr (by omega))
  by_cases h82 : 82 ≤ mi ∧ mi < 90
  · exact List.all_eq_true.mp mwc82 mi (List.mem_range'_1.mpr (by omega))
  by_cases h90 : 90 ≤ mi ∧ mi < 98
  · exact List.all_eq_true.mp mwc90 mi (List.mem_range'_1.mpr (by omega))
  by_cases h98 : 98 ≤ mi ∧ mi < 106
  · exact List.all_eq_true.mp mwc98 mi (List.mem_range'_1.mpr (by omega))
  by_cases h106 : 106 ≤ mi ∧ mi < 114
  · exact List.all_eq_true.mp mwc106 mi (List.mem_range'_1.mpr (by omega))
  by_cases h114 : 114 ≤ mi ∧ mi < 122
  · exact List.all_eq_true.mp mwc114 mi (List.mem_range'_1.mpr (by omega))
  by_cases h122 : 122 ≤ mi ∧ mi < 130
  · exact List.all_eq_true.mp mwc122 mi (List.mem_range'_1.mpr (by omega))
  by_cases h130 : 130 ≤ mi ∧ mi < 138
  · exact List.all_eq_true.mp mwc130 mi (List.mem_range'_1.mpr (by omega))
  by_cases h138 : 138 ≤ mi ∧ mi < 146
  · exact List.all_eq_true.mp mwc138 mi (List.mem_range'_1.mpr (by omega))
  by_cases h146 : 146 ≤ mi ∧ mi < 154
  · exact List.all_eq_true.mp mwc146 mi (List.mem_range'_1.mpr (by omega))
  by_cases h154 : 154 ≤ mi ∧ mi < 162
  · exact List.all_eq_true.mp mwc154 mi (List.mem_range'_1.mpr (by omega))
  by_cases h162 : 162 ≤ mi ∧ mi < 170
  · exact List.all_eq_true.mp mwc162 mi (List.mem_range'_1.mpr (by omega))
  by_cases h170 : 170 ≤ mi ∧ mi < 178
  · exact List.all_eq_true.mp mwc170 mi (List.mem_range'_1.mpr (by omega))
  by_cases h178 : 178 ≤ mi ∧ mi < 186
  · exact List.all_eq_true.mp mwc178 mi (List.mem_range'_1.mpr (by omega))
  by_cases h186 : 186 ≤ mi ∧ mi < 194
  · exact List.all_eq_true.mp mwc186 mi (List.mem_range'_1.mpr (by omega))
  by_cases h194 : 194 ≤ mi ∧ mi < 202
  · exact List.all_eq_true.mp mwc194 mi (List.mem_range'_1.mpr (by omega))
  by_cases h202 : 202 ≤ mi ∧ mi < 210
  · exact List.all_eq_true.mp mwc202 mi (List.mem_range'_1.mpr (by omega))
  by_cases h210 : 210 ≤ mi ∧ mi < 218
  · exact List.all_eq_true.mp mwc210 mi (List.mem_range'_1.mpr (by omega))
  by_cases h218 : 218 ≤ mi ∧ mi < 226
  · exact List.all_eq_true.mp mwc218 mi (List.mem_range'_1.mpr (by omega))
  omega
