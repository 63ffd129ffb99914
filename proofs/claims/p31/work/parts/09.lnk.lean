theorem cka0 : ∀ a, a < 32 → ckM a := (lt_s (lt_s (lt_s (lt_s (lt_s (lt_s (lt_s (lt_s (lt_s (lt_s (lt_s (lt_s (lt_s (lt_s (lt_s (lt_s (lt_s (lt_s (lt_s (lt_s (lt_s (lt_s (lt_s (lt_s (lt_s (lt_s (lt_s (lt_s (lt_s (lt_s (lt_s (lt_s lt_0 ckm0) ckm1) ckm2) ckm3) ckm4) ckm5) ckm6) ckm7) ckm8) ckm9) ckm10) ckm11) ckm12) ckm13) ckm14) ckm15) ckm16) ckm17) ckm18) ckm19) ckm20) ckm21) ckm22) ckm23) ckm24) ckm25) ckm26) ckm27) ckm28) ckm29) ckm30) ckm31)
theorem cka1 : ∀ a, a < 64 → ckM a := (lt_s (lt_s (lt_s (lt_s (lt_s (lt_s (lt_s (lt_s (lt_s (lt_s (lt_s (lt_s (lt_s (lt_s (lt_s (lt_s (lt_s (lt_s (lt_s (lt_s (lt_s (lt_s (lt_s (lt_s (lt_s (lt_s (lt_s (lt_s (lt_s (lt_s (lt_s (lt_s cka0 ckm32) ckm33) ckm34) ckm35) ckm36) ckm37) ckm38) ckm39) ckm40) ckm41) ckm42) ckm43) ckm44) ckm45) ckm46) ckm47) ckm48) ckm49) ckm50) ckm51) ckm52) ckm53) ckm54) ckm55) ckm56) ckm57) ckm58) ckm59) ckm60) ckm61) ckm62) ckm63)
theorem cka2 : ∀ a, a < 96 → ckM a := (lt_s (lt_s (lt_s (lt_s (lt_s (lt_s (lt_s (lt_s (lt_s (lt_s (lt_s (lt_s (lt_s (lt_s (lt_s (lt_s (lt_s (lt_s (lt_s (lt_s (lt_s (lt_s (lt_s (lt_s (lt_s (lt_s (lt_s (lt_s (lt_s (lt_s (lt_s (lt_s cka1 ckm64) ckm65) ckm66) ckm67) ckm68) ckm69) ckm70) ckm71) ckm72) ckm73) ckm74) ckm75) ckm76) ckm77) ckm78) ckm79) ckm80) ckm81) ckm82) ckm83) ckm84) ckm85) ckm86) ckm87) ckm88) ckm89) ckm90) ckm91) ckm92) ckm93) ckm94) ckm95)
theorem cka3 : ∀ a, a < 128 → ckM a := (lt_s (lt_s (lt_s (lt_s (lt_s (lt_s (lt_s (lt_s (lt_s (lt_s (lt_s (lt_s (lt_s (lt_s (lt_s (lt_s (lt_s (lt_s (lt_s (lt_s (lt_s (lt_s (lt_s (lt_s (lt_s (lt_s (lt_s (lt_s (lt_s (lt_s (lt_s (lt_s cka2 ckm96) ckm97) ckm98) ckm99) ckm100) ckm101) ckm102) ckm103) ckm104) ckm105) ckm106) ckm107) ckm108) ckm109) ckm110) ckm111) ckm112) ckm113) ckm114) ckm115) ckm116) ckm117) ckm118) ckm119) ckm120) ckm121) ckm122) ckm123) ckm124) ckm125) ckm126) ckm127)
theorem cka4 : ∀ a, a < 160 → ckM a := (lt_s (lt_s (lt_s (lt_s (lt_s (lt_s (lt_s (lt_s (lt_s (lt_s (lt_s (lt_s (lt_s (lt_s (lt_s (lt_s (lt_s (lt_s (lt_s (lt_s (lt_s (lt_s (lt_s (lt_s (lt_s (lt_s (lt_s (lt_s (lt_s (lt_s (lt_s (lt_s cka3 ckm128) ckm129) ckm130) ckm131) ckm132) ckm133) ckm134) ckm135) ckm136) ckm137) ckm138) ckm139) ckm140) ckm141) ckm142) ckm143) ckm144) ckm145) ckm146) ckm147) ckm148) ckm149) ckm150) ckm151) ckm152) ckm153) ckm154) ckm155) ckm156) ckm157) ckm158) ckm159)
theorem cka5 : ∀ a, a < 192 → ckM a := (lt_s (lt_s (lt_s (lt_s (lt_s (lt_s (lt_s (lt_s (lt_s (lt_s (lt_s (lt_s (lt_s (lt_s (lt_s (lt_s (lt_s (lt_s (lt_s (lt_s (lt_s (lt_s (lt_s (lt_s (lt_s (lt_s (lt_s (lt_s (lt_s (lt_s (lt_s (lt_s cka4 ckm160) ckm161) ckm162) ckm163) ckm164) ckm165) ckm166) ckm167) ckm168) ckm169) ckm170) ckm171) ckm172) ckm173) ckm174) ckm175) ckm176) ckm177) ckm178) ckm179) ckm180) ckm181) ckm182) ckm183) ckm184) ckm185) ckm186) ckm187) ckm188) ckm189) ckm190) ckm191)
theorem cka6 : ∀ a, a < 224 → ckM a := (lt_s (lt_s (lt_s (lt_s (lt_s (lt_s (lt_s (lt_s (lt_s (lt_s (lt_s (lt_s (lt_s (lt_s (lt_s (lt_s (lt_s (lt_s (lt_s (lt_s (lt_s (lt_s (lt_s (lt_s (lt_s (lt_s (lt_s (lt_s (lt_s (lt_s (lt_s (lt_s cka5 ckm192) ckm193) ckm194) ckm195) ckm196) ckm197) ckm198) ckm199) ckm200) ckm201) ckm202) ckm203) ckm204) ckm205) ckm206) ckm207) ckm208) ckm209) ckm210) ckm211) ckm212) ckm213) ckm214) ckm215) ckm216) ckm217) ckm218) ckm219) ckm220) ckm221) ckm222) ckm223)
theorem cka7 : ∀ a, a < 227 → ckM a := (lt_s (lt_s (lt_s cka6 ckm224) ckm225) ckm226)
theorem dec_ck {mi pc : Nat} {r : ClassFile.Instr × Nat × List Nat} (h : dec mi pc = some r) : ckI mi pc = true := by
  have h0 := h
  unfold dec at h
  cases he : dcl[mi]? with
  | none => rw [he] at h; cases h
  | some e =>
    rw [he] at h
    dsimp only at h
    by_cases hp : pc < e.1
    · have hm : mi < 227 := by
        have := (List.getElem?_eq_some_iff.mp he).1
        have h2 : dcl.length = 227 := by decide +kernel
        omega
      have hc := cka7 mi hm
      unfold ckM at hc
      have hd : dln mi = e.1 := by
        unfold dln
        rw [List.getD_eq_getElem?_getD, List.getElem?_map, he]; rfl
      rw [hd] at hc
      exact List.all_eq_true.mp hc pc (List.mem_range.mpr hp)
    · rw [if_neg hp] at h; cases h
theorem dec_ok {mi pc : Nat} {i : ClassFile.Instr} {len : Nat} {rz : List Nat} (h : dec mi pc = some (i, len, rz)) : decode (mG mi).2.1 pc = .ok (i, len) ∧ ckR mi pc i len rz = true := by
  have hc := dec_ck h
  unfold ckI at hc
  rw [h] at hc
  simpa using hc
/-- the three exceptions -/
def xcN (E : Nat) : String := match E with
  | 0 => "java/lang/IndexOutOfBoundsException"
  | 1 => "java/lang/IllegalArgumentException"
  | _ => "java/lang/IllegalStateException"
/-- a link entry, held against the printed words -/
def lkB (k : Nat) (rz : List Nat) : Bool := match rz with
  | [1, ci, fi, ty, 0, pl] => decide (tables_1[pl]? = some (.fieldLink (cn (k / 1000)) (k % 1000) (fT ci fi).1 (fT ci fi).2.1 (fT ci fi).2.2.1)) && decide (ci < 10) && decide (fi < fN ci) && decide (ty = match fY ci fi with | .int => 0 | .long => 1 | _ => 2)
  | [1, ci, fi, ty, _, pl] => decide (tables_1[pl]? = some (.fieldLinkNest (cn (k / 1000)) (k % 1000) (fT ci fi).1 (fT ci fi).2.1 (fT ci fi).2.2.1 RX9)) && decide (ci < 10) && decide (fi < fN ci) && decide (ty = match fY ci fi with | .int => 0 | .long => 1 | _ => 2)
  | 2 :: mj :: knd :: ci :: nest :: pl :: ps => (if nest = 0 then decide (tables_1[pl]? = some (.methodLink (cn (k / 1000)) (k % 1000) (mG mj).1)) else decide (tables_1[pl]? = some (.methodLinkNest (cn (k / 1000)) (k % 1000) (mG mj).1 RX9))) && decide (mj < 226 ∧ mj ≠ 18 ∧ mj ≠ 81) && decide ((mG mj).1.cls = cn ci) && decide ((parseMethodDescriptor (mG mj).1.desc).map (fun d => d.parameters.length) = some ps.length) && (match mpl[mj]? with
      | some (_, p2, p3, _) => if knd = 0 then decide (tables_1[p2]? = some (.static (mG mj).1)) else decide (tables_1[p2]? = some (.instanceMethod (mG mj).1)) && decide (ci < 10) && (if knd = 1 then decide ((mG mj).1.name = "<init>") && decide ((mG mj).2.2.2.1 = none) else decide (lw_tbl[p3]? = some (.selects (cn ci) (mG mj).1 (mG mj).1)))
      | none => false)
  | [3, pl] => decide (tables_1[pl]? = some (.methodLink (cn (k / 1000)) (k % 1000) arraycopyName))
  | [10, pl] => decide (tables_1[pl]? = some (.methodLink (cn (k / 1000)) (k % 1000) Lib.Math.min.name))
  | [11, pl] => decide (tables_1[pl]? = some (.methodLink (cn (k / 1000)) (k % 1000) Lib.Math.max.name))
  | [4, pl] => decide (tables_1[pl]? = some (.methodLink (cn (k / 1000)) (k % 1000) objectInit))
  | [5, ci, pl, pi, pj] => decide (tables_1[pl]? = some (.classLink (cn (k / 1000)) (k % 1000) (cn ci))) && decide (tables_1[pi]? = some (.instantiable (cn ci) (fN ci))) && decide (tables_1[pj]? = some (.initialized (cn ci))) && decide (ci < 10)
  | [6, E, pl] => decide (tables_1[pl]? = some (.classLink (cn (k / 1000)) (k % 1000) (xcN E))) && decide (E < 3)
  | [7, pl, pi] => decide (tables_1[pl]? = some (.classLink (cn (k / 1000)) (k % 1000) RX6)) && decide (tables_1[pi]? = some (.instantiable RX6 3))
  | [8, v, pl] => decide (tables_1[pl]? = some (.constant (cn (k / 1000)) (k % 1000) (nI v)))
  | [9, v, pl] => decide (tables_1[pl]? = some (.constantLong (cn (k / 1000)) (k % 1000) (lN v)))
  | _ => false
theorem lkc0 : lkT_0.all (fun e => lkB e.1 e.2) = true := by decide +kernel
theorem lkc1 : lkT_1.all (fun e => lkB e.1 e.2) = true := by decide +kernel
theorem lkc2 : lkT_2.all (fun e => lkB e.1 e.2) = true := by decide +kernel
theorem lkc3 : lkT_3.all (fun e => lkB e.1 e.2) = true := by decide +kernel
theorem lkc4 : lkT_4.all (fun e => lkB e.1 e.2) = true := by decide +kernel
theorem lkc5 : lkT_5.all (fun e => lkB e.1 e.2) = true := by decide +kernel
theorem lkc6 : lkT_6.all (fun e => lkB e.1 e.2) = true := by decide +kernel
theorem lkc7 : lkT_7.all (fun e => lkB e.1 e.2) = true := by decide +kernel
theorem lkc8 : lkT_8.all (fun e => lkB e.1 e.2) = true := by decide +kernel
theorem lk_ok {k : Nat} {rz : List Nat} (h : lkT.lookup k = some rz) : lkB k rz = true := by
  have hall : lkT.all (fun e => lkB e.1 e.2) = true := by
    unfold lkT
    simp only [List.all_append, Bool.and_eq_true]
    exact ⟨lkc0, ⟨lkc1, ⟨lkc2, ⟨lkc3, ⟨lkc4, ⟨lkc5, ⟨lkc6, ⟨lkc7, lkc8⟩⟩⟩⟩⟩⟩⟩⟩
  have key : ∀ (l : List (Nat × List Nat)), l.all (fun e => lkB e.1 e.2) = true → l.lookup k = some rz → lkB k rz = true := by
    intro l
    induction l with
    | nil => intro _ h; cases h
    | cons e l ih =>
      intro h1 h2
      simp only [List.all_cons, Bool.and_eq_true] at h1
      rw [List.lookup_cons] at h2
      by_cases hk : k == e.1
      · rw [hk] at h2
        cases h2
        rw [beq_iff_eq.mp hk]; exact h1.1
      · rw [Bool.not_eq_true] at hk
        rw [hk] at h2
        exact ih h1.2 h2
  exact key lkT hall h
/-- a method's words -/
def mwB (mi : Nat) : Bool := match mpl[mi]? with
  | some (p1, _, _, p4) => (match (mG mi).2.2.2.2 with
      | [] => decide (tables_1[p1]? = some (.code (mG mi).1 (mG mi).2.1 (mL mi) (mG mi).2.2.2.1))
      | hh => decide (tables_1[p1]? = some (.codeWith (mG mi).1 (mG mi).2.1 (mL mi) (mG mi).2.2.2.1 hh))) &&
      decide (tables_1[p4]? = some (.initialized (mG mi).1.cls)) && decide ((mG mi).1.cls = cn (mO mi)) && plainFor (mG mi).1 && decide ((mG mi).2.2.1 = mL mi)
  | none => false
theorem mwc152 : mwB 152 = true := by decide +kernel
theorem mwc153 : mwB 153 = true := by decide +kernel
theorem mwc154 : mwB 154 = true := by decide +kernel
theorem mwc155 : mwB 155 = true := by decide +kernel
theorem mwc156 : mwB 156 = true := by decide +kernel
theorem mwc157 : mwB 157 = true := by decide +kernel
theorem mwc158 : mwB 158 = true := by decide +kernel
theorem mwc159 : mwB 159 = true := by decide +kernel
theorem mwc0 : (List.range' 0 8).all mwB = true := by decide +kernel
theorem mwc8 : (List.range' 8 8).all mwB = true := by decide +kernel
theorem mwc16 : (List.range' 16 2).all mwB = true := by decide +kernel
theorem mwc19 : (List.range' 19 8).all mwB = true := by decide +kernel
theorem mwc27 : (List.range' 27 8).all mwB = true := by decide +kernel
theorem mwc35 : (List.range' 35 8).all mwB = true := by decide +kernel
theorem mwc43 : (List.range' 43 8).all mwB = true := by decide +kernel
theorem mwc51 : (List.range' 51 8).all mwB = true := by decide +kernel
theorem mwc59 : (List.range' 59 8).all mwB = true := by decide +kernel
theorem mwc67 : (List.range' 67 8).all mwB = true := by decide +kernel
theorem mwc75 : (List.range' 75 6).all mwB = true := by decide +kernel
theorem mwc82 : (List.range' 82 8).all mwB = true := by decide +kernel
theorem mwc90 : (List.range' 90 8).all mwB = true := by decide +kernel
theorem mwc98 : (List.range' 98 8).all mwB = true := by decide +kernel
theorem mwc106 : (List.range' 106 8).all mwB = true := by decide +kernel
theorem mwc114 : (List.range' 114 8).all mwB = true := by decide +kernel
theorem mwc122 : (List.range' 122 8).all mwB = true := by decide +kernel
theorem mwc130 : (List.range' 130 8).all mwB = true := by decide +kernel
theorem mwc138 : (List.range' 138 8).all mwB = true := by decide +kernel
theorem mwc146 : (List.range' 146 6).all mwB = true := by decide +kernel
theorem mwc160 : (List.range' 160 8).all mwB = true := by decide +kernel
theorem mwc168 : (List.range' 168 8).all mwB = true := by decide +kernel
theorem mwc176 : (List.range' 176 8).all mwB = true := by decide +kernel
theorem mwc184 : (List.range' 184 8).all mwB = true := by decide +kernel
theorem mwc192 : (List.range' 192 8).all mwB = true := by decide +kernel
theorem mwc200 : (List.range' 200 8).all mwB = true := by decide +kernel
theorem mwc208 : (List.range' 208 8).all mwB = true := by decide +kernel
theorem mwc216 : (List.range' 216 8).all mwB = true := by decide +kernel
theorem mwc224 : (List.range' 224 2).all mwB = true := by decide +kernel
theorem mw_ok {mi : Nat} (h : mi < 226) (h1 : mi ≠ 18) (h2 : mi ≠ 81) : mwB mi = true := by
  by_cases h0 : 0 ≤ mi ∧ mi < 8
  · exact List.all_eq_true.mp mwc0 mi (List.mem_range'_1.mpr (by omega))
  by_cases h8 : 8 ≤ mi ∧ mi < 16
  · exact List.all_eq_true.mp mwc8 mi (List.mem_range'_1.mpr (by omega))
  by_cases h16 : 16 ≤ mi ∧ mi < 18
  · exact List.all_eq_true.mp mwc16 mi (List.mem_range'_1.mpr (by omega))
  by_cases h19 : 19 ≤ mi ∧ mi < 27
  · exact List.all_eq_true.mp mwc19 mi (List.mem_range'_1.mpr (by omega))
  by_cases h27 : 27 ≤ mi ∧ mi < 35
  · exact List.all_eq_true.mp mwc27 mi (List.mem_range'_1.mpr (by omega))
  by_cases h35 : 35 ≤ mi ∧ mi < 43
  · exact List.all_eq_true.mp mwc35 mi (List.mem_range'_1.mpr (by omega))
  by_cases h43 : 43 ≤ mi ∧ mi < 51
  · exact List.all_eq_true.mp mwc43 mi (List.mem_range'_1.mpr (by omega))
  by_cases h51 : 51 ≤ mi ∧ mi < 59
  · exact List.all_eq_true.mp mwc51 mi (List.mem_range'_1.mpr (by omega))
  by_cases h59 : 59 ≤ mi ∧ mi < 67
  · exact List.all_eq_true.mp mwc59 mi (List.mem_range'_1.mpr (by omega))
  by_cases h67 : 67 ≤ mi ∧ mi < 75
  · exact List.all_eq_true.mp mwc67 mi (List.mem_range'_1.mpr (by omega))
  by_cases h75 : 75 ≤ mi ∧ mi < 81
  · exact List.all_eq_true.mp mwc75 mi (List.mem_range'_1.mpr (by omega))
  by_cases h82 : 82 ≤ mi ∧ mi < 90
  · exact List.all_eq_true.mp mwc82 mi (List.mem_range'_1.mpr (by omega))
  by_cases h90 : 90 ≤ mi ∧ mi < 98
  · exact List.all_eq_true.mp mwc90 mi (List.mem_range'_1.mpr (by omega))
  by_cases h98 : 98 ≤ mi ∧ mi < 106
  · exact List.all_eq_true.mp mwc98 mi (List.mem_range'_1.mpr (by omega))
  by_cases h106 : 106 ≤ mi ∧ mi < 114
  · exact List.all_eq_true.mp mwc106 mi (List.mem_range'_1.mpr (by omega))
  by_cases h114 : 114 ≤ mi ∧ mi < 122
  · exact List.all_eq_true.mp mwc114 mi (List.mem_range'_1.mpr (by omega))
  by_cases h122 : 122 ≤ mi ∧ mi < 130
  · exact List.all_eq_true.mp mwc122 mi (List.mem_range'_1.mpr (by omega))
  by_cases h130 : 130 ≤ mi ∧ mi < 138
  · exact List.all_eq_true.mp mwc130 mi (List.mem_range'_1.mpr (by omega))
  by_cases h138 : 138 ≤ mi ∧ mi < 146
  · exact List.all_eq_true.mp mwc138 mi (List.mem_range'_1.mpr (by omega))
  by_cases h146 : 146 ≤ mi ∧ mi < 152
  · exact List.all_eq_true.mp mwc146 mi (List.mem_range'_1.mpr (by omega))
  by_cases h160 : 160 ≤ mi ∧ mi < 168
  · exact List.all_eq_true.mp mwc160 mi (List.mem_range'_1.mpr (by omega))
  by_cases h168 : 168 ≤ mi ∧ mi < 176
  · exact List.all_eq_true.mp mwc168 mi (List.mem_range'_1.mpr (by omega))
  by_cases h176 : 176 ≤ mi ∧ mi < 184
  · exact List.all_eq_true.mp mwc176 mi (List.mem_range'_1.mpr (by omega))
  by_cases h184 : 184 ≤ mi ∧ mi < 192
  · exact List.all_eq_true.mp mwc184 mi (List.mem_range'_1.mpr (by omega))
  by_cases h192 : 192 ≤ mi ∧ mi < 200
  · exact List.all_eq_true.mp mwc192 mi (List.mem_range'_1.mpr (by omega))
  by_cases h200 : 200 ≤ mi ∧ mi < 208
  · exact List.all_eq_true.mp mwc200 mi (List.mem_range'_1.mpr (by omega))
  by_cases h208 : 208 ≤ mi ∧ mi < 216
  · exact List.all_eq_true.mp mwc208 mi (List.mem_range'_1.mpr (by omega))
  by_cases h216 : 216 ≤ mi ∧ mi < 224
  · exact List.all_eq_true.mp mwc216 mi (List.mem_range'_1.mpr (by omega))
  by_cases h224 : 224 ≤ mi ∧ mi < 226
  · exact List.all_eq_true.mp mwc224 mi (List.mem_range'_1.mpr (by omega))
  by_cases h152 : mi = 152
  · rw [h152]; exact mwc152
  by_cases h153 : mi = 153
  · rw [h153]; exact mwc153
  by_cases h154 : mi = 154
  · rw [h154]; exact mwc154
  by_cases h155 : mi = 155
  · rw [h155]; exact mwc155
  by_cases h156 : mi = 156
  · rw [h156]; exact mwc156
  by_cases h157 : mi = 157
  · rw [h157]; exact mwc157
  by_cases h158 : mi = 158
  · rw [h158]; exact mwc158
  by_cases h159 : mi = 159
  · rw [h159]; exact mwc159
  omega
