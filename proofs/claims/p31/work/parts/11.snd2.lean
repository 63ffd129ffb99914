/-! SOUND, third part: steps that touch the heap -/
theorem kind_obj {cy : CY} {ad : Nat → Nat} {P : MP} {I : MI} {L : ML} {k ci : Nat} (h : (P.1 k).1 = ci + 1) (hc : ci < 10) : elt cy ad P I L k = .inr (ci, flds ad P I L ci k) := by
  unfold elt
  rw [h, if_neg (by omega), if_neg (by omega), if_neg (by omega), if_neg (by omega), Nat.add_sub_cancel]
theorem kind_at {P : MP} (hw : wf P) {k : Nat} (h0 : (P.1 k).1 ≠ 0) (h1 : (P.1 k).1 ≠ 30) : 1 ≤ k ∧ k ≤ P.2.2 := by
  rcases hw.1 k h0 with h | h
  · exact absurd h.2 h1
  · exact ⟨h.1, h.2.1⟩
theorem cl_at {ci : Nat} (h : ci < 10) : vwCl[ci]? = some (cn ci, fT ci, fN ci) := by
  match ci, h with
  | 0, _ => rfl
  | 1, _ => rfl
  | 2, _ => rfl
  | 3, _ => rfl
  | 4, _ => rfl
  | 5, _ => rfl
  | 6, _ => rfl
  | 7, _ => rfl
  | 8, _ => rfl
  | 9, _ => rfl
  | n + 10, h => exact absurd h (by omega)
theorem ty_at {ci : Nat} (h : ci < 10) : ∀ k, k < fN ci → parseFieldDescriptor (fT ci k).2.2.1 = some (fY ci k) := by
  match ci, h with
  | 0, _ => exact tyX0_ok
  | 1, _ => exact tyX1_ok
  | 2, _ => exact tyX2_ok
  | 3, _ => exact tyX3_ok
  | 4, _ => exact tyX4_ok
  | 5, _ => exact tyX5_ok
  | 6, _ => exact tyX6_ok
  | 7, _ => exact tyX7_ok
  | 8, _ => exact tyX8_ok
  | 9, _ => exact tyX9_ok
  | n + 10, h => exact absurd h (by omega)
theorem nm_at {ci : Nat} (h : ci < 10) : ∀ a, a < fN ci → ∀ b, b < fN ci → a ≠ b → (fT ci a).2.1 ≠ (fT ci b).2.1 := by
  match ci, h with
  | 0, _ => exact nmX0
  | 1, _ => exact nmX1
  | 2, _ => exact nmX2
  | 3, _ => exact nmX3
  | 4, _ => exact nmX4
  | 5, _ => exact nmX5
  | 6, _ => exact nmX6
  | 7, _ => exact nmX7
  | 8, _ => exact nmX8
  | 9, _ => exact nmX9
  | n + 10, h => exact absurd h (by omega)
theorem fl_at {ad : Nat → Nat} {P : MP} {I : MI} {L : ML} {ci k f : Nat} (h : f < fN ci) : (flds ad P I L ci k)[f]? = some (fval ad P I L (fY ci f) k f) := by
  unfold flds
  rw [List.getElem?_map, List.getElem?_range h]; rfl
theorem fl_len {ad : Nat → Nat} {P : MP} {I : MI} {L : ML} {ci k : Nat} : (flds ad P I L ci k).length = fN ci := by
  unfold flds; rw [List.length_map, List.length_range]
theorem fl_set {ad : Nat → Nat} {P P' : MP} {I I' : MI} {L L' : ML} {ci k f : Nat} {v : Value} (hv : fval ad P' I' L' (fY ci f) k f = v) (ho : ∀ g, g ≠ f → fval ad P' I' L' (fY ci g) k g = fval ad P I L (fY ci g) k g) : (flds ad P I L ci k).set f v = flds ad P' I' L' ci k := by
  apply List.ext_getElem?
  intro g
  by_cases hl : g < fN ci
  · rw [fl_at (P := P') hl]
    by_cases e : g = f
    · subst e
      rw [List.getElem?_set_self (by rw [fl_len]; exact hl), hv]
    · rw [List.getElem?_set_ne (Ne.symm e), fl_at hl, ho g e]
  · rw [List.getElem?_eq_none (by rw [List.length_set, fl_len]; omega), List.getElem?_eq_none (by rw [fl_len]; omega)]

theorem uw0 : (u_ws (cn 0) (fT 0) (fN 0)).map some = [267, 269, 271, 273, 275, 277, 279].map (fun i => lw_tbl[i]?) := by decide +kernel
theorem ug0 : (u_ws (cn 0) (fT 0) (fN 0)).all tw = true := by decide +kernel
theorem uw1 : (u_ws (cn 1) (fT 1) (fN 1)).map some = [229, 231, 233].map (fun i => lw_tbl[i]?) := by decide +kernel
theorem ug1 : (u_ws (cn 1) (fT 1) (fN 1)).all tw = true := by decide +kernel
theorem uw2 : (u_ws (cn 2) (fT 2) (fN 2)).map some = [139, 141, 143, 145, 147, 149].map (fun i => lw_tbl[i]?) := by decide +kernel
theorem ug2 : (u_ws (cn 2) (fT 2) (fN 2)).all tw = true := by decide +kernel
theorem uw3 : (u_ws (cn 3) (fT 3) (fN 3)).map some = [114, 116, 118, 120].map (fun i => lw_tbl[i]?) := by decide +kernel
theorem ug3 : (u_ws (cn 3) (fT 3) (fN 3)).all tw = true := by decide +kernel
theorem uw4 : (u_ws (cn 4) (fT 4) (fN 4)).map some = [240, 242, 244, 246].map (fun i => lw_tbl[i]?) := by decide +kernel
theorem ug4 : (u_ws (cn 4) (fT 4) (fN 4)).all tw = true := by decide +kernel
theorem uw5 : (u_ws (cn 5) (fT 5) (fN 5)).map some = [184, 186, 188].map (fun i => lw_tbl[i]?) := by decide +kernel
theorem ug5 : (u_ws (cn 5) (fT 5) (fN 5)).all tw = true := by decide +kernel
theorem uw6 : (u_ws (cn 6) (fT 6) (fN 6)).map some = [164, 166, 168].map (fun i => lw_tbl[i]?) := by decide +kernel
theorem ug6 : (u_ws (cn 6) (fT 6) (fN 6)).all tw = true := by decide +kernel
theorem uw7 : (u_ws (cn 7) (fT 7) (fN 7)).map some = [82, 84, 86, 88, 90, 92, 94, 96].map (fun i => lw_tbl[i]?) := by decide +kernel
theorem ug7 : (u_ws (cn 7) (fT 7) (fN 7)).all tw = true := by decide +kernel
theorem uw8 : (u_ws (cn 8) (fT 8) (fN 8)).map some = [200, 202, 204, 206].map (fun i => lw_tbl[i]?) := by decide +kernel
theorem ug8 : (u_ws (cn 8) (fT 8) (fN 8)).all tw = true := by decide +kernel
theorem uw9 : (u_ws (cn 9) (fT 9) (fN 9)).map some = [292, 294, 296, 298, 300, 302, 304, 306, 308].map (fun i => lw_tbl[i]?) := by decide +kernel
theorem ug9 : (u_ws (cn 9) (fT 9) (fN 9)).all tw = true := by decide +kernel
theorem uw_in {ws : List Cond} {ps : List Nat} (h : ws.map some = ps.map (fun i => lw_tbl[i]?)) (hg : ws.all tw = true) : ∀ w ∈ ws, w ∈ GT := by
  intro w hw
  have h1 : some w ∈ ps.map (fun i => lw_tbl[i]?) := by rw [← h]; exact List.mem_map.mpr ⟨w, hw, rfl⟩
  obtain ⟨i, -, hi⟩ := List.mem_map.mp h1
  exact mem_GT hi (List.all_eq_true.mp hg w hw)
theorem in_at {ci : Nat} (h : ci < 10) : ∀ w ∈ u_ws (cn ci) (fT ci) (fN ci), w ∈ GT := by
  match ci, h with
  | 0, _ => exact uw_in uw0 ug0
  | 1, _ => exact uw_in uw1 ug1
  | 2, _ => exact uw_in uw2 ug2
  | 3, _ => exact uw_in uw3 ug3
  | 4, _ => exact uw_in uw4 ug4
  | 5, _ => exact uw_in uw5 ug5
  | 6, _ => exact uw_in uw6 ug6
  | 7, _ => exact uw_in uw7 ug7
  | 8, _ => exact uw_in uw8 ug8
  | 9, _ => exact uw_in uw9 ug9
  | n + 10, h => exact absurd h (by omega)
theorem inb_2 {i : Int32} {n : Nat} (h : inb i n = true) : ¬ i < 0 ∧ i.toNatClampNeg < n := by
  unfold inb at h
  simpa using h
def tyc (t : FieldType) : Nat := match t with
  | .int => 0
  | .long => 1
  | _ => 2
theorem tyc_0 {t : FieldType} (h : 0 = tyc t) : t = .int := by cases t <;> first | rfl | cases h
theorem tyc_1 {t : FieldType} (h : 1 = tyc t) : t = .long := by cases t <;> first | rfl | cases h
theorem fval_2 {t : FieldType} (h : 2 = tyc t) (ad : Nat → Nat) (P : MP) (I : MI) (L : ML) (k f : Nat) : fval ad P I L t k f = va_re ad (P.2.1 k f) := by
  cases t <;> first | rfl | cases h
/-- the types of the fields are int, long, objects, arrays -/
theorem tyo {ci : Nat} (h : ci < 10) : ∀ f, f < fN ci → 2 = tyc (fY ci f) → (∃ n, fY ci f = .object n) ∨ ∃ t, fY ci f = .array t := by
  have key : ∀ t : FieldType, (match t with | .int => true | .long => true | .object _ => true | .array _ => true | _ => false) = true → 2 = tyc t → (∃ n, t = .object n) ∨ ∃ t', t = .array t' := by
    intro t h1 h2
    cases t <;> first | exact Or.inl ⟨_, rfl⟩ | exact Or.inr ⟨_, rfl⟩ | exact absurd h2 (by decide) | exact absurd h1 (by decide)
  intro f hf
  refine key _ ?_
  have hall : ∀ ci < 10, ∀ f < fN ci, (match fY ci f with | .int => true | .long => true | .object _ => true | .array _ => true | _ => false) = true := by decide +kernel
  exact hall ci h f hf
section SND2
variable {p : Program} {l : Launch} {e : Env} {R : Room} {s : State} {m : MethodId} {args : Array Value} {below : List Frame} {meth : Method} {c : Code} {H : Heap} {locs : List Loc} {cells slots : Nat} {Q : State → Prop}
variable {D : va_G} {cy : CY} {L0 : Nat} {x0 : XX} {mi : Nat} {ad : Nat → Nat} {P P' : MP} {I I' : MI} {L L' : ML} {C C' : MC} {ls ls' st st' : List Value} {lsA : Array Slot} {pc pc' : Nat} {i : ClassFile.Instr} {len : Nat} {rz : List Nat}
/-- behind a write -/
theorem KN.wr {pc1 : Nat} {st1 : List Value} {P1 : MP} {I1 : MI} {L1 : ML} (k : KN p l e R s m args below meth c cells slots Q D cy L0 x0 mi ad P C ((pc1, ls, st1), (P1, I1, L1, C))) (h : IV D cy L0 x0 s mi ad P I L ls st lsA H locs) (hv : ∀ v ∈ st1, vk P v) (hn : P1.2.2 = P.2.2) (hw : wf P1) (h0 : P1.1 0 = P.1 0) (hI0 : I1 0 = I 0)
    {H1 : Heap} {locs1 : List Loc} (hP : va_P D vwCl (wl cy ad P1 I1 L1) H1) (hD : va_D (fun q => L0 ≤ q) (wl cy ad P1 I1 L1)) (hS : va_S (fun q => L0 ≤ q) s.heap H1 locs1) :
    W p l e R s m args below meth c H1 locs1 cells slots Q (F0 m pc1 lsA (cv ad st1)) := by
  obtain ⟨-, -, -, -, hlh, hlv, -, hx1, hx2, hx3⟩ := h
  have hle : P.2.2 ≤ P1.2.2 := Nat.le_of_eq hn.symm
  have := k ad lsA H1 locs1 (fun _ _ => rfl) hle ⟨hP, hD, hw, hS, hlh, fun v q => vk_mono hle (hlv v q), fun v q => vk_mono hle (hv v q), h0.trans hx1, hx2, hI0.trans hx3⟩
  simpa only [Nat.sub_self, Nat.add_zero] using this

theorem lkB_field {k ci fi ty nest pl own idx : Nat} (h : lkB k [1, ci, fi, ty, nest, pl] = true) (h1 : k / 1000 = own) (h2 : k % 1000 = idx) : ci < 10 ∧ fi < fN ci ∧ ty = tyc (fY ci fi) ∧ ((tables_1[pl]? = some (.fieldLink (cn own) idx (fT ci fi).1 (fT ci fi).2.1 (fT ci fi).2.2.1)) ∨ (nest ≠ 0 ∧ tables_1[pl]? = some (.fieldLinkNest (cn own) idx (fT ci fi).1 (fT ci fi).2.1 (fT ci fi).2.2.1 RX9))) := by
  cases nest with
  | zero =>
    simp only [lkB, h1, h2, Bool.and_eq_true, decide_eq_true_eq] at h
    exact ⟨h.1.1.2, h.1.2, h.2, Or.inl h.1.1.1⟩
  | succ n =>
    simp only [lkB, h1, h2, Bool.and_eq_true, decide_eq_true_eq] at h
    exact ⟨h.1.1.2, h.1.2, h.2, Or.inr ⟨Nat.succ_ne_zero n, h.1.1.1⟩⟩
theorem get_row (fo : FO p s m meth c mi) (sv : SV D cy s) (hI : IV D cy L0 x0 s mi ad P I L ls st lsA H locs) {n k0 ci fi ty nest pl : Nat} {rest : List Value} (hdec : decode (mG mi).2.1 pc = .ok (.getfield n, 3)) (hk : (P.1 k0).1 = ci + 1) (hlk : ckLk mi n [1, ci, fi, ty, nest, pl] = true) {v : Value} (hty : ty = tyc (fY ci fi) → fval ad P I L (fY ci fi) k0 fi = v)
    (k : W p l e R s m args below meth c H locs cells slots Q (F0 m (pc + 3) lsA (v :: rest))) : W p l e R s m args below meth c H locs cells slots Q (F0 m pc lsA (.ref (ad k0) :: rest)) := by
  obtain ⟨hx, hb, hml, hrt, hown, hlocks, htab, hnm⟩ := fo
  have hts : ∀ w ∈ GT, w.before args s = true := fun w hw => sv.1 w hw args
  obtain ⟨hP, hD, hwf, hS, hlh, hlv, hsv, hx1, hx2, hx3⟩ := id hI
  obtain ⟨hlk, hk1, hk2⟩ := ckLk_inv hlk (by simp)
  obtain ⟨hci, hfi, hty0, hlink⟩ := lkB_field hlk hk1 hk2
  have hka := kind_at hwf (k := k0) (by omega) (by omega)
  have he := wl_get (cy := cy) (ad := ad) (I := I) (L := L) hka.1 hka.2
  rw [kind_obj hk hci] at he
  rcases hlink with hlink | ⟨-, hlink⟩
  · exact va_get (D := D) (C := cn ci) (T := fT ci) (N := fN ci) hx hb hts (in_at hci) hown sv.2.1 hP (k0 - 1) he (cl_at hci) fi hfi (hts _ (mem_GT1 hlink rfl)) (fun _ h9 => h9) (by rw [fl_at hfi, hty hty0]) hdec k
  · exact va_getN (D := D) (C := cn ci) (T := fT ci) (N := fN ci) hx hb hts (in_at hci) hown sv.2.1 hP (k0 - 1) he (cl_at hci) fi hfi (hts _ (mem_GT1 hlink rfl)) (fun _ h9 => h9) (by rw [fl_at hfi, hty hty0]) hdec k
theorem put_row (fo : FO p s m meth c mi) (sv : SV D cy s) (hI : IV D cy L0 x0 s mi ad P I L ls st lsA H locs) {n k0 ci fi ty nest pl : Nat} {rest : List Value} (hdec : decode (mG mi).2.1 pc = .ok (.putfield n, 3)) (hk : (P.1 k0).1 = ci + 1) (hlk : ckLk mi n [1, ci, fi, ty, nest, pl] = true)
    (hfin : ((fT ci fi).2.2.2 == false || ((mG mi).1.name == "<init>" && (fT ci fi).1 == cn (mO mi) && nest == 0)) = true) {v : Value} {P1 : MP} {I1 : MI} {L1 : ML}
    (hn : ty = tyc (fY ci fi) → narrow (fY ci fi) v = v ∧ fits (fY ci fi) v = true ∧ fval ad P1 I1 L1 (fY ci fi) k0 fi = v) (ho : ∀ g, g ≠ fi → fval ad P1 I1 L1 (fY ci g) k0 g = fval ad P I L (fY ci g) k0 g) (hoj : ∀ j, j ≠ k0 → elt cy ad P1 I1 L1 j = elt cy ad P I L j) (hm : P1.2.2 = P.2.2) (hk1 : P1.1 = P.1)
    (k : ∀ (H1 : Heap) (locs1 : List Loc), va_P D vwCl (wl cy ad P1 I1 L1) H1 → va_D (fun q => L0 ≤ q) (wl cy ad P1 I1 L1) → va_S (fun q => L0 ≤ q) s.heap H1 locs1 → W p l e R s m args below meth c H1 locs1 cells slots Q (F0 m (pc + 3) lsA rest)) : W p l e R s m args below meth c H locs cells slots Q (F0 m pc lsA (v :: .ref (ad k0) :: rest)) := by
  obtain ⟨hx, hb, hml, hrt, hown, hlocks, htab, hnm⟩ := fo
  have hts : ∀ w ∈ GT, w.before args s = true := fun w hw => sv.1 w hw args
  obtain ⟨hP, hD, hwf, hS, hlh, hlv, hsv, hx1, hx2, hx3⟩ := id hI
  obtain ⟨hlk, hka1, hka2⟩ := ckLk_inv hlk (by simp)
  obtain ⟨hci, hfi, hty0, hlink⟩ := lkB_field hlk hka1 hka2
  obtain ⟨hn1, hn2, hn3⟩ := hn hty0
  have hka := kind_at hwf (k := k0) (by omega) (by omega)
  have he := wl_get (cy := cy) (ad := ad) (I := I) (L := L) hka.1 hka.2
  rw [kind_obj hk hci] at he
  have hset : (flds ad P I L ci k0).set fi v = flds ad P1 I1 L1 ci k0 := fl_set hn3 ho
  have hwl : (wl cy ad P I L).set (k0 - 1) (ad k0, .inr (ci, (flds ad P I L ci k0).set fi v)) = wl cy ad P1 I1 L1 := by
    rw [hset]
    exact wl_set hka.1 hka.2 hm (kind_obj (by rw [hk1]; exact hk) hci) hoj
  have kk : ∀ (H1 : Heap) (locs1 : List Loc), va_P D vwCl ((wl cy ad P I L).set (k0 - 1) (ad k0, .inr (ci, (flds ad P I L ci k0).set fi v))) H1 → va_D (fun q => L0 ≤ q) ((wl cy ad P I L).set (k0 - 1) (ad k0, .inr (ci, (flds ad P I L ci k0).set fi v))) → va_S (fun q => L0 ≤ q) s.heap H1 locs1 → W p l e R s m args below meth c H1 locs1 cells slots Q (F0 m (pc + 3) lsA rest) := by
    intro H1 locs1 hP1 hD1 hS1
    rw [hwl] at hP1 hD1
    exact k H1 locs1 hP1 hD1 hS1
  have hlen : fi < (flds ad P I L ci k0).length := by rw [fl_len]; exact hfi
  have hdsc := ty_at hci fi hfi
  simp only [Bool.or_eq_true, Bool.and_eq_true, beq_iff_eq] at hfin
  rcases hlink with hlink | ⟨hnest, hlink⟩
  · by_cases hff : (fT ci fi).2.2.2 = false
    · exact va_put (D := D) (C := cn ci) (T := fT ci) (N := fN ci) hx hb hts (in_at hci) (fY ci) (ty_at hci) (nm_at hci) hown sv.2.1 hP hD hS (k0 - 1) he (cl_at hci) fi hfi (hts _ (mem_GT1 hlink rfl)) (fun _ h9 => h9) hff hdsc hn1 hn2 hlen hdec kk
    · rcases hfin with hfin | hfin
      · exact absurd hfin hff
      · exact va_putF (D := D) (C := cn ci) (T := fT ci) (N := fN ci) hx hb hts (in_at hci) (fY ci) (ty_at hci) (nm_at hci) hown sv.2.1 hP hD hS (k0 - 1) he (cl_at hci) fi hfi (hts _ (mem_GT1 hlink rfl)) (fun _ h9 => h9) (by simpa using hff) (hnm.trans hfin.1.1) hfin.1.2 hdsc hn1 hn2 hlen hdec kk
  · rcases hfin with hfin | hfin
    · exact va_putN (D := D) (C := cn ci) (T := fT ci) (N := fN ci) hx hb hts (in_at hci) (fY ci) (ty_at hci) (nm_at hci) hown sv.2.1 hP hD hS (k0 - 1) he (cl_at hci) fi hfi (hts _ (mem_GT1 hlink rfl)) (fun _ h9 => h9) hfin hdsc hn1 hn2 hlen hdec kk
    · exact absurd hfin.2 hnest

set_option maxHeartbeats 4000000 in
theorem sx_getfield {n : Nat} (fo : FO p s m meth c mi) (sv : SV D cy s) (sh : SH L0 x0 s s.heap) (hd : dec mi pc = some (.getfield n, len, rz)) (hI : IV D cy L0 x0 s mi ad P I L ls st lsA H locs) {w : FR × MM} (hs : stp pc (.getfield n) len rz ls st P I L C = some (.inl w)) (hcR : cells + w.2.2.2.2.1 ≤ R.cells + C.1) (hsR : slots + w.2.2.2.2.2 ≤ R.slots + C.2) (hfR : 8 ≤ R.frames) (hlR : 128 ≤ R.locals)
    (k : KN p l e R s m args below meth c cells slots Q D cy L0 x0 mi ad P C w) : W p l e R s m args below meth c H locs cells slots Q (F0 m pc lsA (cv ad st)) := by
  obtain ⟨hdec, hck⟩ := dec_ok hd
  obtain ⟨hx, hb, hml, hrt, hown, hlocks, htab, hnm⟩ := fo
  have hts : ∀ w ∈ GT, w.before args s = true := fun w hw => sv.1 w hw args
  obtain ⟨hP, hD, hwf, hS, hlh, hlv, hsv, hx1, hx2, hx3⟩ := id hI
  simp only [stp] at hs
  simp only [ckR, Bool.and_eq_true, beq_iff_eq, decide_eq_true_eq] at hck
  obtain ⟨rfl, hv0⟩ := hck
  have fo : FO p s m meth c mi := ⟨hx, hb, hml, hrt, hown, hlocks, htab, hnm⟩
  split at hs
  · rename_i ci fi nest pl k0 st1
    split at hs
    · rename_i hk
      cases hs
      have hv := (List.forall_mem_cons.mp hsv).2
      exact get_row (rest := cv ad st1) fo sv hI hdec hk hv0 (fun h => by rw [tyc_0 h]; rfl) (KN.pure k hI (List.forall_mem_cons.mpr ⟨vk_i P _, hv⟩))
    · cases hs
  · rename_i ci fi nest pl k0 st1
    split at hs
    · rename_i hk
      cases hs
      have hv := (List.forall_mem_cons.mp hsv).2
      exact get_row (rest := cv ad st1) fo sv hI hdec hk hv0 (fun h => by rw [tyc_1 h]; rfl) (KN.pure k hI (List.forall_mem_cons.mpr ⟨vk_l P _, hv⟩))
    · cases hs
  · rename_i ci fi nest pl k0 st1
    split at hs
    · rename_i hk
      cases hs
      have hv := (List.forall_mem_cons.mp hsv).2
      exact get_row (rest := cv ad st1) fo sv hI hdec hk hv0 (v := conc ad (va_rf (P.2.1 k0 fi))) (fun h => (fval_2 h ad P I L k0 fi).trans conc_rf.symm) (KN.pure k hI (List.forall_mem_cons.mpr ⟨vk_rf hwf _ _, hv⟩))
    · cases hs
  · cases hs

set_option maxHeartbeats 4000000 in
theorem sx_putfield {n : Nat} (fo : FO p s m meth c mi) (sv : SV D cy s) (sh : SH L0 x0 s s.heap) (hd : dec mi pc = some (.putfield n, len, rz)) (hI : IV D cy L0 x0 s mi ad P I L ls st lsA H locs) {w : FR × MM} (hs : stp pc (.putfield n) len rz ls st P I L C = some (.inl w)) (hcR : cells + w.2.2.2.2.1 ≤ R.cells + C.1) (hsR : slots + w.2.2.2.2.2 ≤ R.slots + C.2) (hfR : 8 ≤ R.frames) (hlR : 128 ≤ R.locals)
    (k : KN p l e R s m args below meth c cells slots Q D cy L0 x0 mi ad P C w) : W p l e R s m args below meth c H locs cells slots Q (F0 m pc lsA (cv ad st)) := by
  obtain ⟨hdec, hck⟩ := dec_ok hd
  obtain ⟨hx, hb, hml, hrt, hown, hlocks, htab, hnm⟩ := fo
  have hts : ∀ w ∈ GT, w.before args s = true := fun w hw => sv.1 w hw args
  obtain ⟨hP, hD, hwf, hS, hlh, hlv, hsv, hx1, hx2, hx3⟩ := id hI
  simp only [stp] at hs
  simp only [ckR, Bool.and_eq_true, beq_iff_eq, decide_eq_true_eq] at hck
  obtain ⟨⟨rfl, hv0⟩, hfin⟩ := hck
  have fo : FO p s m meth c mi := ⟨hx, hb, hml, hrt, hown, hlocks, htab, hnm⟩
  have h00 : ∀ k0 ci, (P.1 k0).1 = ci + 1 → ci < 10 → (0 : Nat) ≠ k0 := by
    intro k0 ci h1 h2 h3
    subst h3
    rw [hx1] at h1
    have : 30 = ci + 1 := h1
    omega
  split at hs
  · rename_i ci fi nest pl v0 k0 st1
    split at hs
    · rename_i hk
      cases hs
      have hv := (List.forall_mem_cons.mp (List.forall_mem_cons.mp hsv).2).2
      have hci := (lkB_field (ckLk_inv hv0 (by simp)).1 rfl rfl).1
      refine put_row (rest := cv ad st1) (v := .int v0) (P1 := P) (I1 := xu I k0 fi v0) (L1 := L) fo sv hI hdec hk hv0 hfin (fun h => ?_) (fun g hg => fval_ext (xu_n _ _ (Or.inr hg)) rfl rfl) (fun j hj => elt_ext rfl (xu_row _ _ hj) rfl (fun _ => rfl)) rfl rfl (fun H1 locs1 h1 h2 h3 => KN.wr k hI hv rfl hwf rfl (xu_row _ _ (h00 k0 ci hk hci)) h1 h2 h3)
      rw [tyc_0 h]
      exact ⟨rfl, rfl, congrArg Value.int (xu_s _ _ _ _)⟩
    · cases hs
  · rename_i ci fi nest pl v0 k0 st1
    split at hs
    · rename_i hk
      cases hs
      have hv := (List.forall_mem_cons.mp (List.forall_mem_cons.mp hsv).2).2
      refine put_row (rest := cv ad st1) (v := .long v0) (P1 := P) (I1 := I) (L1 := xu L k0 fi v0) fo sv hI hdec hk hv0 hfin (fun h => ?_) (fun g hg => fval_ext rfl (xu_n _ _ (Or.inr hg)) rfl) (fun j hj => elt_ext rfl rfl (xu_row _ _ hj) (fun _ => rfl)) rfl rfl (fun H1 locs1 h1 h2 h3 => KN.wr k hI hv rfl hwf rfl rfl h1 h2 h3)
      rw [tyc_1 h]
      exact ⟨rfl, rfl, congrArg Value.long (xu_s _ _ _ _)⟩
    · cases hs
  · rename_i ci fi nest pl v0 k0 st1
    split at hs
    · rename_i hk
      cases hs
      have hvv := List.forall_mem_cons.mp hsv
      have hv := (List.forall_mem_cons.mp hvv.2).2
      have hlb := lkB_field (ckLk_inv hv0 (by simp)).1 rfl rfl
      have hv1 : v0 ≤ P.2.2 := hvv.1 v0 rfl
      refine put_row (rest := cv ad st1) (v := .ref (ad v0)) (P1 := (P.1, xu P.2.1 k0 fi (some v0), P.2.2)) (I1 := I) (L1 := L) fo sv hI hdec hk.1 hv0 hfin (fun h => ?_) (fun g hg => fval_ext rfl rfl (congrArg (Option.map ad) (xu_n P.2.1 _ (Or.inr hg)))) (fun j hj => elt_ext rfl rfl rfl (fun f => congrArg (Option.map ad) (xu_n P.2.1 _ (Or.inl hj)))) rfl rfl (fun H1 locs1 h1 h2 h3 => KN.wr k hI hv rfl (wf_put hwf ⟨hk.2, hv1⟩) rfl rfl h1 h2 h3)
      have hf : fval ad (P.1, xu P.2.1 k0 fi (some v0), P.2.2) I L (fY ci fi) k0 fi = .ref (ad v0) := (fval_2 h _ _ _ _ _ _).trans (congrArg (va_re ad) (xu_s P.2.1 _ _ _))
      rcases tyo hlb.1 fi hlb.2.1 h with ⟨n1, h1⟩ | ⟨t1, h1⟩
      · rw [h1] at hf ⊢; exact ⟨rfl, rfl, hf⟩
      · rw [h1] at hf ⊢; exact ⟨rfl, rfl, hf⟩
    · cases hs
  · cases hs

theorem ty4_0 (cy : CY) : ([(cy.1, FieldType.int), (cy.2.1, .long), (cy.2.2.1, .byte), (cy.2.2.2, .object RX6)] : List (ClassId × FieldType))[0]? = some (cy.1, .int) := rfl
theorem ty4_1 (cy : CY) : ([(cy.1, FieldType.int), (cy.2.1, .long), (cy.2.2.1, .byte), (cy.2.2.2, .object RX6)] : List (ClassId × FieldType))[1]? = some (cy.2.1, .long) := rfl
theorem ty4_2 (cy : CY) : ([(cy.1, FieldType.int), (cy.2.1, .long), (cy.2.2.1, .byte), (cy.2.2.2, .object RX6)] : List (ClassId × FieldType))[2]? = some (cy.2.2.1, .byte) := rfl
theorem ty4_3 (cy : CY) : ([(cy.1, FieldType.int), (cy.2.1, .long), (cy.2.2.1, .byte), (cy.2.2.2, .object RX6)] : List (ClassId × FieldType))[3]? = some (cy.2.2.2, .object RX6) := rfl
theorem kind_i {cy : CY} {ad : Nat → Nat} {P : MP} {I : MI} {L : ML} {k : Nat} (h : (P.1 k).1 = 20) : elt cy ad P I L k = .inl (cy.1, (P.1 k).2, .inl (I k)) := by unfold elt; rw [if_pos h]
theorem kind_l {cy : CY} {ad : Nat → Nat} {P : MP} {I : MI} {L : ML} {k : Nat} (h : (P.1 k).1 = 21) : elt cy ad P I L k = .inl (cy.2.1, (P.1 k).2, .inr (.inl (L k))) := by unfold elt; rw [if_neg (by omega), if_pos h]
theorem kind_b {cy : CY} {ad : Nat → Nat} {P : MP} {I : MI} {L : ML} {k : Nat} (h : (P.1 k).1 = 22) : elt cy ad P I L k = .inl (cy.2.2.1, (P.1 k).2, .inl (I k)) := by unfold elt; rw [if_neg (by omega), if_neg (by omega), if_pos h]
theorem kind_s {cy : CY} {ad : Nat → Nat} {P : MP} {I : MI} {L : ML} {k : Nat} (h : (P.1 k).1 = 23) : elt cy ad P I L k = .inl (cy.2.2.2, (P.1 k).2, .inr (.inr (.inr (.inr (fun i => (P.2.1 k i).map ad))))) := by unfold elt; rw [if_neg (by omega), if_neg (by omega), if_neg (by omega), if_pos h]
theorem upd_xu {α : Type} (f : Nat → Nat → α) (k j : Nat) (v : α) : (fun b => if b = j then v else f k b) = xu f k j v k := by
  funext b
  unfold xu
  by_cases h : b = j
  · rw [if_pos h, if_pos ⟨rfl, h⟩]
  · rw [if_neg h, if_neg (fun q => h q.2)]
theorem kind_0 {P : MP} {x0 : XX} (h : P.1 0 = (30, x0.2.1)) {k t : Nat} (hk : (P.1 k).1 = t) (ht : t ≠ 30) : (0 : Nat) ≠ k := by
  intro e; subst e; rw [h] at hk; exact ht hk.symm

set_option maxHeartbeats 4000000 in
theorem sx_arraylength  (fo : FO p s m meth c mi) (sv : SV D cy s) (sh : SH L0 x0 s s.heap) (hd : dec mi pc = some (.arraylength, len, rz)) (hI : IV D cy L0 x0 s mi ad P I L ls st lsA H locs) {w : FR × MM} (hs : stp pc (.arraylength) len rz ls st P I L C = some (.inl w)) (hcR : cells + w.2.2.2.2.1 ≤ R.cells + C.1) (hsR : slots + w.2.2.2.2.2 ≤ R.slots + C.2) (hfR : 8 ≤ R.frames) (hlR : 128 ≤ R.locals)
    (k : KN p l e R s m args below meth c cells slots Q D cy L0 x0 mi ad P C w) : W p l e R s m args below meth c H locs cells slots Q (F0 m pc lsA (cv ad st)) := by
  obtain ⟨hdec, hck⟩ := dec_ok hd
  obtain ⟨hx, hb, hml, hrt, hown, hlocks, htab, hnm⟩ := fo
  have hts : ∀ w ∈ GT, w.before args s = true := fun w hw => sv.1 w hw args
  obtain ⟨hP, hD, hwf, hS, hlh, hlv, hsv, hx1, hx2, hx3⟩ := id hI
  simp only [stp] at hs
  simp only [ckR, Bool.and_eq_true, beq_iff_eq, decide_eq_true_eq] at hck
  subst hck
  split at hs
  · rename_i k0 st1
    split at hs
    · rename_i hk
      cases hs
      have hv := (List.forall_mem_cons.mp hsv).2
      have kk := KN.pure k hI (List.forall_mem_cons.mpr ⟨vk_i P _, hv⟩)
      rcases hwf.1 k0 (by omega) with ⟨h0, h30⟩ | ⟨h1, h2, h3⟩
      · subst h0
        have hb0 : ¬ (fun q => L0 ≤ q) x0.1 := Nat.not_le.mpr sh.2.2.2.1
        have key : W p l e R s m args below meth c H locs cells slots Q (F0 m pc lsA (.ref x0.1 :: cv ad st1)) := va_slen hx hb sh.2.2.1 (Nat.lt_of_lt_of_le sh.2.2.2.1 sh.2.2.2.2) hb0 hS hdec (by rw [hx1] at kk; exact kk)
        rw [← hx2] at key
        exact key
      · have he := wl_get (cy := cy) (ad := ad) (I := I) (L := L) h1 h2
        rcases (show (P.1 k0).1 = 20 ∨ (P.1 k0).1 = 21 ∨ (P.1 k0).1 = 22 ∨ (P.1 k0).1 = 23 by omega) with h | h | h | h
        · rw [kind_i h] at he
          exact va_alen (rest := cv ad st1) hx hb sv.2.1 hP (k0 - 1) 0 he (ty4_0 cy) rfl hdec kk
        · rw [kind_l h] at he
          exact va_alen (rest := cv ad st1) hx hb sv.2.1 hP (k0 - 1) 1 he (ty4_1 cy) rfl hdec kk
        · rw [kind_b h] at he
          exact va_alen (rest := cv ad st1) hx hb sv.2.1 hP (k0 - 1) 2 he (ty4_2 cy) rfl hdec kk
        · rw [kind_s h] at he
          exact va_alen (rest := cv ad st1) hx hb sv.2.1 hP (k0 - 1) 3 he (ty4_3 cy) rfl hdec kk
    · cases hs
  · cases hs

set_option maxHeartbeats 4000000 in
theorem sx_iaload  (fo : FO p s m meth c mi) (sv : SV D cy s) (sh : SH L0 x0 s s.heap) (hd : dec mi pc = some (.iaload, len, rz)) (hI : IV D cy L0 x0 s mi ad P I L ls st lsA H locs) {w : FR × MM} (hs : stp pc (.iaload) len rz ls st P I L C = some (.inl w)) (hcR : cells + w.2.2.2.2.1 ≤ R.cells + C.1) (hsR : slots + w.2.2.2.2.2 ≤ R.slots + C.2) (hfR : 8 ≤ R.frames) (hlR : 128 ≤ R.locals)
    (k : KN p l e R s m args below meth c cells slots Q D cy L0 x0 mi ad P C w) : W p l e R s m args below meth c H locs cells slots Q (F0 m pc lsA (cv ad st)) := by
  obtain ⟨hdec, hck⟩ := dec_ok hd
  obtain ⟨hx, hb, hml, hrt, hown, hlocks, htab, hnm⟩ := fo
  have hts : ∀ w ∈ GT, w.before args s = true := fun w hw => sv.1 w hw args
  obtain ⟨hP, hD, hwf, hS, hlh, hlv, hsv, hx1, hx2, hx3⟩ := id hI
  simp only [stp] at hs
  simp only [ckR, Bool.and_eq_true, beq_iff_eq, decide_eq_true_eq] at hck
  subst hck
  split at hs
  · rename_i i0 k0 st1
    split at hs
    · rename_i hk
      cases hs
      have hv := (List.forall_mem_cons.mp (List.forall_mem_cons.mp hsv).2).2
      have kk := KN.pure k hI (List.forall_mem_cons.mpr ⟨vk_i P _, hv⟩)
      obtain ⟨hk, hin⟩ := hk
      rcases hk with hk | hk
      · have hka := kind_at hwf (k := k0) (by omega) (by omega)
        have he := wl_get (cy := cy) (ad := ad) (I := I) (L := L) hka.1 hka.2
        rw [kind_i hk] at he
        exact va_iald (rest := cv ad st1) hx hb sv.2.1 hP (k0 - 1) 0 he (ty4_0 cy) (inb_in hin) hdec kk
      · have h0 : k0 = 0 := by
          rcases hwf.1 k0 (by omega) with ⟨h0, -⟩ | ⟨-, -, h3⟩
          · exact h0
          · omega
        subst h0
        have hb0 : ¬ (fun q => L0 ≤ q) x0.1 := Nat.not_le.mpr sh.2.2.2.1
        have hin' : vp_in i0 x0.2.1 := by have := inb_in hin; rw [hx1] at this; exact this
        have key : W p l e R s m args below meth c H locs cells slots Q (F0 m pc lsA (.int i0 :: .ref x0.1 :: cv ad st1)) := va_sld hx hb sh.2.2.1 (Nat.lt_of_lt_of_le sh.2.2.2.1 sh.2.2.2.2) hb0 hS hin' hdec (by rw [hx3] at kk; exact kk)
        rw [← hx2] at key
        exact key
    · cases hs
  · cases hs

set_option maxHeartbeats 4000000 in
theorem sx_baload  (fo : FO p s m meth c mi) (sv : SV D cy s) (sh : SH L0 x0 s s.heap) (hd : dec mi pc = some (.baload, len, rz)) (hI : IV D cy L0 x0 s mi ad P I L ls st lsA H locs) {w : FR × MM} (hs : stp pc (.baload) len rz ls st P I L C = some (.inl w)) (hcR : cells + w.2.2.2.2.1 ≤ R.cells + C.1) (hsR : slots + w.2.2.2.2.2 ≤ R.slots + C.2) (hfR : 8 ≤ R.frames) (hlR : 128 ≤ R.locals)
    (k : KN p l e R s m args below meth c cells slots Q D cy L0 x0 mi ad P C w) : W p l e R s m args below meth c H locs cells slots Q (F0 m pc lsA (cv ad st)) := by
  obtain ⟨hdec, hck⟩ := dec_ok hd
  obtain ⟨hx, hb, hml, hrt, hown, hlocks, htab, hnm⟩ := fo
  have hts : ∀ w ∈ GT, w.before args s = true := fun w hw => sv.1 w hw args
  obtain ⟨hP, hD, hwf, hS, hlh, hlv, hsv, hx1, hx2, hx3⟩ := id hI
  simp only [stp] at hs
  simp only [ckR, Bool.and_eq_true, beq_iff_eq, decide_eq_true_eq] at hck
  subst hck
  split at hs
  · rename_i i0 k0 st1
    split at hs
    · rename_i hk
      cases hs
      have hv := (List.forall_mem_cons.mp (List.forall_mem_cons.mp hsv).2).2
      have kk := KN.pure k hI (List.forall_mem_cons.mpr ⟨vk_i P _, hv⟩)
      obtain ⟨hk, hin⟩ := hk
      have hka := kind_at hwf (k := k0) (by omega) (by omega)
      have he := wl_get (cy := cy) (ad := ad) (I := I) (L := L) hka.1 hka.2
      rw [kind_b hk] at he
      exact va_bald (rest := cv ad st1) hx hb sv.2.1 hP (k0 - 1) 2 he (ty4_2 cy) (inb_in hin) hdec kk
    · cases hs
  · cases hs

set_option maxHeartbeats 4000000 in
theorem sx_laload  (fo : FO p s m meth c mi) (sv : SV D cy s) (sh : SH L0 x0 s s.heap) (hd : dec mi pc = some (.laload, len, rz)) (hI : IV D cy L0 x0 s mi ad P I L ls st lsA H locs) {w : FR × MM} (hs : stp pc (.laload) len rz ls st P I L C = some (.inl w)) (hcR : cells + w.2.2.2.2.1 ≤ R.cells + C.1) (hsR : slots + w.2.2.2.2.2 ≤ R.slots + C.2) (hfR : 8 ≤ R.frames) (hlR : 128 ≤ R.locals)
    (k : KN p l e R s m args below meth c cells slots Q D cy L0 x0 mi ad P C w) : W p l e R s m args below meth c H locs cells slots Q (F0 m pc lsA (cv ad st)) := by
  obtain ⟨hdec, hck⟩ := dec_ok hd
  obtain ⟨hx, hb, hml, hrt, hown, hlocks, htab, hnm⟩ := fo
  have hts : ∀ w ∈ GT, w.before args s = true := fun w hw => sv.1 w hw args
  obtain ⟨hP, hD, hwf, hS, hlh, hlv, hsv, hx1, hx2, hx3⟩ := id hI
  simp only [stp] at hs
  simp only [ckR, Bool.and_eq_true, beq_iff_eq, decide_eq_true_eq] at hck
  subst hck
  split at hs
  · rename_i i0 k0 st1
    split at hs
    · rename_i hk
      cases hs
      have hv := (List.forall_mem_cons.mp (List.forall_mem_cons.mp hsv).2).2
      have kk := KN.pure k hI (List.forall_mem_cons.mpr ⟨vk_l P _, hv⟩)
      obtain ⟨hk, hin⟩ := hk
      have hka := kind_at hwf (k := k0) (by omega) (by omega)
      have he := wl_get (cy := cy) (ad := ad) (I := I) (L := L) hka.1 hka.2
      rw [kind_l hk] at he
      exact va_lald (rest := cv ad st1) hx hb sv.2.1 hP (k0 - 1) 1 he (ty4_1 cy) (inb_in hin) hdec kk
    · cases hs
  · cases hs

set_option maxHeartbeats 4000000 in
theorem sx_aaload  (fo : FO p s m meth c mi) (sv : SV D cy s) (sh : SH L0 x0 s s.heap) (hd : dec mi pc = some (.aaload, len, rz)) (hI : IV D cy L0 x0 s mi ad P I L ls st lsA H locs) {w : FR × MM} (hs : stp pc (.aaload) len rz ls st P I L C = some (.inl w)) (hcR : cells + w.2.2.2.2.1 ≤ R.cells + C.1) (hsR : slots + w.2.2.2.2.2 ≤ R.slots + C.2) (hfR : 8 ≤ R.frames) (hlR : 128 ≤ R.locals)
    (k : KN p l e R s m args below meth c cells slots Q D cy L0 x0 mi ad P C w) : W p l e R s m args below meth c H locs cells slots Q (F0 m pc lsA (cv ad st)) := by
  obtain ⟨hdec, hck⟩ := dec_ok hd
  obtain ⟨hx, hb, hml, hrt, hown, hlocks, htab, hnm⟩ := fo
  have hts : ∀ w ∈ GT, w.before args s = true := fun w hw => sv.1 w hw args
  obtain ⟨hP, hD, hwf, hS, hlh, hlv, hsv, hx1, hx2, hx3⟩ := id hI
  simp only [stp] at hs
  simp only [ckR, Bool.and_eq_true, beq_iff_eq, decide_eq_true_eq] at hck
  subst hck
  split at hs
  · rename_i i0 k0 st1
    split at hs
    · rename_i hk
      cases hs
      have hv := (List.forall_mem_cons.mp (List.forall_mem_cons.mp hsv).2).2
      have kk := KN.pure k hI (List.forall_mem_cons.mpr ⟨vk_rf hwf _ _, hv⟩)
      obtain ⟨hk, hin⟩ := hk
      have hka := kind_at hwf (k := k0) (by omega) (by omega)
      have he := wl_get (cy := cy) (ad := ad) (I := I) (L := L) hka.1 hka.2
      rw [kind_s hk] at he
      refine va_aldq (rest := cv ad st1) hx hb sv.2.1 hP (k0 - 1) 3 he (ty4_3 cy) (inb_in hin) hdec ?_
      have e9 : cv ad (va_rf (P.2.1 k0 i0.toNatClampNeg) :: st1) = va_rf ((P.2.1 k0 i0.toNatClampNeg).map ad) :: cv ad st1 := congrArg (· :: cv ad st1) conc_rf
      rw [← e9]
      exact kk
    · cases hs
  · cases hs

set_option maxHeartbeats 4000000 in
theorem sx_iastore  (fo : FO p s m meth c mi) (sv : SV D cy s) (sh : SH L0 x0 s s.heap) (hd : dec mi pc = some (.iastore, len, rz)) (hI : IV D cy L0 x0 s mi ad P I L ls st lsA H locs) {w : FR × MM} (hs : stp pc (.iastore) len rz ls st P I L C = some (.inl w)) (hcR : cells + w.2.2.2.2.1 ≤ R.cells + C.1) (hsR : slots + w.2.2.2.2.2 ≤ R.slots + C.2) (hfR : 8 ≤ R.frames) (hlR : 128 ≤ R.locals)
    (k : KN p l e R s m args below meth c cells slots Q D cy L0 x0 mi ad P C w) : W p l e R s m args below meth c H locs cells slots Q (F0 m pc lsA (cv ad st)) := by
  obtain ⟨hdec, hck⟩ := dec_ok hd
  obtain ⟨hx, hb, hml, hrt, hown, hlocks, htab, hnm⟩ := fo
  have hts : ∀ w ∈ GT, w.before args s = true := fun w hw => sv.1 w hw args
  obtain ⟨hP, hD, hwf, hS, hlh, hlv, hsv, hx1, hx2, hx3⟩ := id hI
  simp only [stp] at hs
  simp only [ckR, Bool.and_eq_true, beq_iff_eq, decide_eq_true_eq] at hck
  subst hck
  split at hs
  · rename_i v0 i0 k0 st1
    split at hs
    · rename_i hk
      cases hs
      have hv := (List.forall_mem_cons.mp (List.forall_mem_cons.mp (List.forall_mem_cons.mp hsv).2).2).2
      obtain ⟨hk, hin⟩ := hk
      have hka := kind_at hwf (k := k0) (by omega) (by omega)
      have he := wl_get (cy := cy) (ad := ad) (I := I) (L := L) hka.1 hka.2
      rw [kind_i hk] at he
      refine va_iast (rest := cv ad st1) hx hb sv.2.1 hP hD hS (k0 - 1) 0 he (ty4_0 cy) (inb_in hin) hdec (fun H1 locs1 hP1 hD1 hS1 => ?_)
      rw [wl_set (P' := P) (I' := xu I k0 i0.toNatClampNeg v0) (L' := L) hka.1 hka.2 rfl (by rw [kind_i hk, ← upd_xu]; rfl) (fun j hj => elt_ext rfl (xu_row _ _ hj) rfl (fun _ => rfl))] at hP1 hD1
      exact KN.wr k hI hv rfl hwf rfl (xu_row _ _ (kind_0 hx1 hk (by decide))) hP1 hD1 hS1
    · cases hs
  · cases hs

set_option maxHeartbeats 4000000 in
theorem sx_bastore  (fo : FO p s m meth c mi) (sv : SV D cy s) (sh : SH L0 x0 s s.heap) (hd : dec mi pc = some (.bastore, len, rz)) (hI : IV D cy L0 x0 s mi ad P I L ls st lsA H locs) {w : FR × MM} (hs : stp pc (.bastore) len rz ls st P I L C = some (.inl w)) (hcR : cells + w.2.2.2.2.1 ≤ R.cells + C.1) (hsR : slots + w.2.2.2.2.2 ≤ R.slots + C.2) (hfR : 8 ≤ R.frames) (hlR : 128 ≤ R.locals)
    (k : KN p l e R s m args below meth c cells slots Q D cy L0 x0 mi ad P C w) : W p l e R s m args below meth c H locs cells slots Q (F0 m pc lsA (cv ad st)) := by
  obtain ⟨hdec, hck⟩ := dec_ok hd
  obtain ⟨hx, hb, hml, hrt, hown, hlocks, htab, hnm⟩ := fo
  have hts : ∀ w ∈ GT, w.before args s = true := fun w hw => sv.1 w hw args
  obtain ⟨hP, hD, hwf, hS, hlh, hlv, hsv, hx1, hx2, hx3⟩ := id hI
  simp only [stp] at hs
  simp only [ckR, Bool.and_eq_true, beq_iff_eq, decide_eq_true_eq] at hck
  subst hck
  split at hs
  · rename_i v0 i0 k0 st1
    split at hs
    · rename_i hk
      cases hs
      have hv := (List.forall_mem_cons.mp (List.forall_mem_cons.mp (List.forall_mem_cons.mp hsv).2).2).2
      obtain ⟨hk, hin⟩ := hk
      have hka := kind_at hwf (k := k0) (by omega) (by omega)
      have he := wl_get (cy := cy) (ad := ad) (I := I) (L := L) hka.1 hka.2
      rw [kind_b hk] at he
      refine va_bast (rest := cv ad st1) hx hb sv.2.1 hP hD hS (k0 - 1) 2 he (ty4_2 cy) (inb_in hin) hdec (fun H1 locs1 hP1 hD1 hS1 => ?_)
      rw [wl_set (P' := P) (I' := xu I k0 i0.toNatClampNeg v0.toInt8.toInt32) (L' := L) hka.1 hka.2 rfl (by rw [kind_b hk, ← upd_xu, ← vp_nar_byte]; rfl) (fun j hj => elt_ext rfl (xu_row _ _ hj) rfl (fun _ => rfl))] at hP1 hD1
      exact KN.wr k hI hv rfl hwf rfl (xu_row _ _ (kind_0 hx1 hk (by decide))) hP1 hD1 hS1
    · cases hs
  · cases hs

set_option maxHeartbeats 4000000 in
theorem sx_lastore  (fo : FO p s m meth c mi) (sv : SV D cy s) (sh : SH L0 x0 s s.heap) (hd : dec mi pc = some (.lastore, len, rz)) (hI : IV D cy L0 x0 s mi ad P I L ls st lsA H locs) {w : FR × MM} (hs : stp pc (.lastore) len rz ls st P I L C = some (.inl w)) (hcR : cells + w.2.2.2.2.1 ≤ R.cells + C.1) (hsR : slots + w.2.2.2.2.2 ≤ R.slots + C.2) (hfR : 8 ≤ R.frames) (hlR : 128 ≤ R.locals)
    (k : KN p l e R s m args below meth c cells slots Q D cy L0 x0 mi ad P C w) : W p l e R s m args below meth c H locs cells slots Q (F0 m pc lsA (cv ad st)) := by
  obtain ⟨hdec, hck⟩ := dec_ok hd
  obtain ⟨hx, hb, hml, hrt, hown, hlocks, htab, hnm⟩ := fo
  have hts : ∀ w ∈ GT, w.before args s = true := fun w hw => sv.1 w hw args
  obtain ⟨hP, hD, hwf, hS, hlh, hlv, hsv, hx1, hx2, hx3⟩ := id hI
  simp only [stp] at hs
  simp only [ckR, Bool.and_eq_true, beq_iff_eq, decide_eq_true_eq] at hck
  subst hck
  split at hs
  · rename_i v0 i0 k0 st1
    split at hs
    · rename_i hk
      cases hs
      have hv := (List.forall_mem_cons.mp (List.forall_mem_cons.mp (List.forall_mem_cons.mp hsv).2).2).2
      obtain ⟨hk, hin⟩ := hk
      have hka := kind_at hwf (k := k0) (by omega) (by omega)
      have he := wl_get (cy := cy) (ad := ad) (I := I) (L := L) hka.1 hka.2
      rw [kind_l hk] at he
      refine va_last (rest := cv ad st1) hx hb sv.2.1 hP hD hS (k0 - 1) 1 he (ty4_1 cy) (inb_in hin) hdec (fun H1 locs1 hP1 hD1 hS1 => ?_)
      rw [wl_set (P' := P) (I' := I) (L' := xu L k0 i0.toNatClampNeg v0) hka.1 hka.2 rfl (by rw [kind_l hk, ← upd_xu]; rfl) (fun j hj => elt_ext rfl rfl (xu_row _ _ hj) (fun _ => rfl))] at hP1 hD1
      exact KN.wr k hI hv rfl hwf rfl rfl hP1 hD1 hS1
    · cases hs
  · cases hs

set_option maxHeartbeats 4000000 in
theorem sx_aastore  (fo : FO p s m meth c mi) (sv : SV D cy s) (sh : SH L0 x0 s s.heap) (hd : dec mi pc = some (.aastore, len, rz)) (hI : IV D cy L0 x0 s mi ad P I L ls st lsA H locs) {w : FR × MM} (hs : stp pc (.aastore) len rz ls st P I L C = some (.inl w)) (hcR : cells + w.2.2.2.2.1 ≤ R.cells + C.1) (hsR : slots + w.2.2.2.2.2 ≤ R.slots + C.2) (hfR : 8 ≤ R.frames) (hlR : 128 ≤ R.locals)
    (k : KN p l e R s m args below meth c cells slots Q D cy L0 x0 mi ad P C w) : W p l e R s m args below meth c H locs cells slots Q (F0 m pc lsA (cv ad st)) := by
  obtain ⟨hdec, hck⟩ := dec_ok hd
  obtain ⟨hx, hb, hml, hrt, hown, hlocks, htab, hnm⟩ := fo
  have hts : ∀ w ∈ GT, w.before args s = true := fun w hw => sv.1 w hw args
  obtain ⟨hP, hD, hwf, hS, hlh, hlv, hsv, hx1, hx2, hx3⟩ := id hI
  simp only [stp] at hs
  simp only [ckR, Bool.and_eq_true, beq_iff_eq, decide_eq_true_eq] at hck
  subst hck
  split at hs
  · rename_i v0 i0 k0 st1
    split at hs
    · rename_i hk
      cases hs
      have hv := (List.forall_mem_cons.mp (List.forall_mem_cons.mp (List.forall_mem_cons.mp hsv).2).2).2
      obtain ⟨⟨hk, hkv⟩, hin⟩ := hk
      have hka := kind_at hwf (k := k0) (by omega) (by omega)
      have hkb := kind_at hwf (k := v0) (by omega) (by omega)
      have he := wl_get (cy := cy) (ad := ad) (I := I) (L := L) hka.1 hka.2
      have hev := wl_get (cy := cy) (ad := ad) (I := I) (L := L) hkb.1 hkb.2
      rw [kind_s hk] at he
      rw [kind_obj (ci := 6) hkv (by decide)] at hev
      refine va_astq (rest := cv ad st1) (r := (RX6, TX6, 3)) hx hb sv.2.1 hP hD hS (k0 - 1) 3 (v0 - 1) 6 he (ty4_3 cy) hev rfl (inb_in hin) hdec (fun H1 locs1 hP1 hD1 hS1 => ?_)
      rw [wl_set (P' := (P.1, xu P.2.1 k0 i0.toNatClampNeg (some v0), P.2.2)) (I' := I) (L' := L) hka.1 hka.2 rfl (by
        rw [kind_s (P := (P.1, xu P.2.1 k0 i0.toNatClampNeg (some v0), P.2.2)) hk]
        congr 7
        funext j
        show Option.map ad (xu P.2.1 k0 i0.toNatClampNeg (some v0) k0 j) = va_up (fun i => Option.map ad (P.2.1 k0 i)) i0.toNatClampNeg (some (ad v0)) j
        by_cases hj : j = i0.toNatClampNeg
        · rw [hj, xu_s, va_up_self]; rfl
        · rw [xu_n _ _ (Or.inr hj), va_up_ne _ _ hj]) (fun j hj => elt_ext rfl rfl rfl (fun f => congrArg (Option.map ad) (xu_n P.2.1 _ (Or.inl hj))))] at hP1 hD1
      exact KN.wr k hI hv rfl (wf_put hwf ⟨hkb.1, hkb.2⟩) rfl rfl hP1 hD1 hS1
    · cases hs
  · cases hs

/-- behind a new cell -/
theorem KN.new {pc1 t len0 nf q : Nat} {e0 : va_E} {H1 : Heap} (k : KN p l e R s m args below meth c cells slots Q D cy L0 x0 mi ad P C ((pc1, ls, .ref (P.2.2 + 1) :: st'), (mkP P t len0, xr I (P.2.2 + 1) (fun _ => 0), xr L (P.2.2 + 1) (fun _ => 0), (C.1 + 1, C.2 + nf)))) (h : IV D cy L0 x0 s mi ad P I L ls st lsA H locs) (hv : ∀ v ∈ st', vk P v)
    (ht : (1 ≤ t ∧ t ≤ 10) ∨ (20 ≤ t ∧ t ≤ 23)) (he : elt cy (xr ad (P.2.2 + 1) q) (mkP P t len0) (xr I (P.2.2 + 1) (fun _ => 0)) (xr L (P.2.2 + 1) (fun _ => 0)) (P.2.2 + 1) = e0)
    (hP : va_P D vwCl (wl cy ad P I L ++ [(q, e0)]) H1) (hD : va_D (fun q => L0 ≤ q) (wl cy ad P I L ++ [(q, e0)])) (hS : va_S (fun q => L0 ≤ q) s.heap H1 locs) :
    W p l e R s m args below meth c H1 locs (cells + 1) (slots + nf) Q (F0 m pc1 lsA (.ref q :: cv ad st')) := by
  obtain ⟨-, -, hwf, -, hlh, hlv, -, hx1, hx2, hx3⟩ := h
  rw [wl_push hwf he] at hP hD
  have hext : ∀ j, j ≤ P.2.2 → xr ad (P.2.2 + 1) q j = ad j := fun j hj => xr_n _ _ (by omega)
  have hle : P.2.2 ≤ (mkP P t len0).2.2 := Nat.le_succ _
  have := k (xr ad (P.2.2 + 1) q) lsA H1 locs hext hle ⟨hP, hD, wf_mk hwf ht, hS, lh_ad hlh hext hlv, fun v z => vk_mono hle (hlv v z), List.forall_mem_cons.mpr ⟨fun a z => by cases z; exact Nat.le_refl _, fun v z => vk_mono hle (hv v z)⟩, (xr_n P.1 (t, len0) (show 0 ≠ P.2.2 + 1 by omega)).trans hx1, (xr_n ad q (show 0 ≠ P.2.2 + 1 by omega)).trans hx2, (xr_n I (fun _ => 0) (show 0 ≠ P.2.2 + 1 by omega)).trans hx3⟩
  have e1 : C.1 + 1 - C.1 = 1 := by omega
  have e2 : C.2 + nf - C.2 = nf := by omega
  have e3 : cv (xr ad (P.2.2 + 1) q) (.ref (P.2.2 + 1) :: st') = .ref q :: cv ad st' := by
    show Value.ref (xr ad (P.2.2 + 1) q (P.2.2 + 1)) :: cv (xr ad (P.2.2 + 1) q) st' = _
    rw [xr_s, cv_eq hext hv]
  dsimp only at this
  rw [e1, e2, e3] at this
  exact this
theorem fl_new {ad : Nat → Nat} {P : MP} {I : MI} {L : ML} {ci t len0 : Nat} (hci : ci < 10) : flds ad (mkP P t len0) (xr I (P.2.2 + 1) (fun _ => 0)) (xr L (P.2.2 + 1) (fun _ => 0)) ci (P.2.2 + 1) = (List.range (fN ci)).map (fun f => defaultValue (fY ci f)) := by
  unfold flds
  apply List.map_congr_left
  intro f hf
  have hf := List.mem_range.mp hf
  have key : ∀ t' : FieldType, (match t' with | .int => true | .long => true | .object _ => true | .array _ => true | _ => false) = true → fval ad (mkP P t len0) (xr I (P.2.2 + 1) (fun _ => 0)) (xr L (P.2.2 + 1) (fun _ => 0)) t' (P.2.2 + 1) f = defaultValue t' := by
    intro t' h1
    have e1 : xr I (P.2.2 + 1) (fun _ => 0) (P.2.2 + 1) f = 0 := congrFun (xr_s _ _ _) f
    have e2 : xr L (P.2.2 + 1) (fun _ => 0) (P.2.2 + 1) f = 0 := congrFun (xr_s _ _ _) f
    have e3 : (mkP P t len0).2.1 (P.2.2 + 1) f = none := congrFun (xr_s P.2.1 _ _) f
    cases t' <;> first | cases h1 | skip
    · exact congrArg Value.int e1
    · exact congrArg Value.long e2
    · exact congrArg (va_re ad) e3
    · exact congrArg (va_re ad) e3
  refine key _ ?_
  have hall : ∀ ci < 10, ∀ f < fN ci, (match fY ci f with | .int => true | .long => true | .object _ => true | .array _ => true | _ => false) = true := by decide +kernel
  exact hall ci hci f hf

set_option maxHeartbeats 4000000 in
theorem sx_new {n : Nat} (fo : FO p s m meth c mi) (sv : SV D cy s) (sh : SH L0 x0 s s.heap) (hd : dec mi pc = some (.new n, len, rz)) (hI : IV D cy L0 x0 s mi ad P I L ls st lsA H locs) {w : FR × MM} (hs : stp pc (.new n) len rz ls st P I L C = some (.inl w)) (hcR : cells + w.2.2.2.2.1 ≤ R.cells + C.1) (hsR : slots + w.2.2.2.2.2 ≤ R.slots + C.2) (hfR : 8 ≤ R.frames) (hlR : 128 ≤ R.locals)
    (k : KN p l e R s m args below meth c cells slots Q D cy L0 x0 mi ad P C w) : W p l e R s m args below meth c H locs cells slots Q (F0 m pc lsA (cv ad st)) := by
  obtain ⟨hdec, hck⟩ := dec_ok hd
  obtain ⟨hx, hb, hml, hrt, hown, hlocks, htab, hnm⟩ := fo
  have hts : ∀ w ∈ GT, w.before args s = true := fun w hw => sv.1 w hw args
  obtain ⟨hP, hD, hwf, hS, hlh, hlv, hsv, hx1, hx2, hx3⟩ := id hI
  simp only [stp] at hs
  simp only [ckR, Bool.and_eq_true, beq_iff_eq, decide_eq_true_eq] at hck
  obtain ⟨⟨rfl, hv0⟩, -⟩ := hck
  split at hs
  · rename_i ci pl1 pl2 pl3
    cases hs
    obtain ⟨hlk, hk1, hk2⟩ := ckLk_inv hv0 (by simp)
    simp only [lkB, hk1, hk2, Bool.and_eq_true, decide_eq_true_eq] at hlk
    obtain ⟨⟨⟨h1, h2⟩, h3⟩, hci⟩ := hlk
    dsimp only at hcR hsR
    refine va_new (rest := cv ad st) (D := D) (ci := ci) (fs := (List.range (fN ci)).map (fun f => defaultValue (fY ci f))) (C := cn ci) (T := fT ci) (N := fN ci) hx hb hts (in_at hci) (fY ci) (ty_at hci) hown (hts _ (mem_GT1 h1 rfl)) (hts _ (mem_GT1 h2 rfl)) (hts _ (mem_GT1 h3 rfl)) sv.2.1 hP hD hS (fun q hq => Nat.le_trans sh.2.2.2.2 hq) (cl_at hci) (fun j hj => ?_) (by omega) (by omega) hdec (fun q H1 hP1 hD1 hS1 => ?_)
    · unfold vp_V
      rw [List.getD_eq_getElem?_getD, List.getElem?_map, List.getElem?_range hj]; rfl
    · refine KN.new k hI hsv (Or.inl ⟨by omega, by omega⟩) ?_ hP1 hD1 hS1
      rw [kind_obj (ci := ci) (by show (xr P.1 (P.2.2 + 1) (ci + 1, 0) (P.2.2 + 1)).1 = ci + 1; rw [xr_s]) hci, fl_new hci]
  · rename_i pl1 pl2
    cases hs
    obtain ⟨hlk, hk1, hk2⟩ := ckLk_inv hv0 (by simp)
    simp only [lkB, hk1, hk2, Bool.and_eq_true, decide_eq_true_eq] at hlk
    obtain ⟨h1, h2⟩ := hlk
    dsimp only at hcR hsR
    have hci : 6 < 10 := by decide
    refine va_new (rest := cv ad st) (D := D) (ci := 6) (fs := (List.range (fN 6)).map (fun f => defaultValue (fY 6 f))) (C := cn 6) (T := fT 6) (N := fN 6) hx hb hts (in_at hci) (fY 6) (ty_at hci) hown (hts _ (mem_GT1 h1 rfl)) (hts _ (mem_GT1 h2 rfl)) (hts _ (mem_GT1 (i := 2) (by decide +kernel) (by decide +kernel))) sv.2.1 hP hD hS (fun q hq => Nat.le_trans sh.2.2.2.2 hq) (cl_at hci) (fun j hj => ?_) (by omega) (by omega) hdec (fun q H1 hP1 hD1 hS1 => ?_)
    · unfold vp_V
      rw [List.getD_eq_getElem?_getD, List.getElem?_map, List.getElem?_range hj]; rfl
    · refine KN.new k hI hsv (Or.inl ⟨by omega, by omega⟩) ?_ hP1 hD1 hS1
      rw [kind_obj (ci := 6) (by show (xr P.1 (P.2.2 + 1) (6 + 1, 0) (P.2.2 + 1)).1 = 6 + 1; rw [xr_s]) hci, fl_new hci]
  · split at hs <;> cases hs
  · cases hs

set_option maxHeartbeats 4000000 in
theorem sx_newarray_int  (fo : FO p s m meth c mi) (sv : SV D cy s) (sh : SH L0 x0 s s.heap) (hd : dec mi pc = some (.newarray .int, len, rz)) (hI : IV D cy L0 x0 s mi ad P I L ls st lsA H locs) {w : FR × MM} (hs : stp pc (.newarray .int) len rz ls st P I L C = some (.inl w)) (hcR : cells + w.2.2.2.2.1 ≤ R.cells + C.1) (hsR : slots + w.2.2.2.2.2 ≤ R.slots + C.2) (hfR : 8 ≤ R.frames) (hlR : 128 ≤ R.locals)
    (k : KN p l e R s m args below meth c cells slots Q D cy L0 x0 mi ad P C w) : W p l e R s m args below meth c H locs cells slots Q (F0 m pc lsA (cv ad st)) := by
  obtain ⟨hdec, hck⟩ := dec_ok hd
  obtain ⟨hx, hb, hml, hrt, hown, hlocks, htab, hnm⟩ := fo
  have hts : ∀ w ∈ GT, w.before args s = true := fun w hw => sv.1 w hw args
  obtain ⟨hP, hD, hwf, hS, hlh, hlv, hsv, hx1, hx2, hx3⟩ := id hI
  simp only [stp] at hs
  simp only [ckR, Bool.and_eq_true, beq_iff_eq, decide_eq_true_eq] at hck
  subst hck
  split at hs
  · rename_i a0 st1
    split at hs
    · rename_i hin
      cases hs
      have hv := (List.forall_mem_cons.mp hsv).2
      obtain ⟨hb1, hb2⟩ := inb_2 hin
      dsimp only at hcR hsR
      refine va_newa (rest := cv ad st1) (atype := .int) (ty := .int) (N' := a0.toNatClampNeg) (a0 := (a0.toNatClampNeg, .inl (fun _ => 0))) hx hb (hts _ (mem_GT1 (i := 83) (by decide +kernel) (by decide +kernel))) rfl sv.2.1 hP hD hS (fun q hq => Nat.le_trans sh.2.2.2.2 hq) (fun _ => rfl) hb1 rfl (by show a0.toNatClampNeg * 4 ≤ 536870912; omega) (by omega) (by omega) hdec (fun q cA H1 hK1 hP1 hD1 hS1 => ?_)
      have hcA : cA = cy.1 := Option.some.inj (((hK1.2 4 (cA, .int) rfl).2 : s.vm.findClass _ = some cA).symm.trans ((sv.2.1.2 0 _ (ty4_0 cy)).2 : s.vm.findClass _ = some _))
      subst hcA
      refine KN.new k hI hv (Or.inr ⟨by decide, by decide⟩) ?_ hP1 hD1 hS1
      rw [kind_i (by show (xr P.1 (P.2.2 + 1) (20, a0.toNatClampNeg) (P.2.2 + 1)).1 = 20; rw [xr_s])]
      show (Sum.inl (_, (xr P.1 (P.2.2 + 1) (20, a0.toNatClampNeg) (P.2.2 + 1)).2, _) : va_E) = _
      rw [xr_s, xr_s]
    · cases hs
  · cases hs

set_option maxHeartbeats 4000000 in
theorem sx_newarray_long  (fo : FO p s m meth c mi) (sv : SV D cy s) (sh : SH L0 x0 s s.heap) (hd : dec mi pc = some (.newarray .long, len, rz)) (hI : IV D cy L0 x0 s mi ad P I L ls st lsA H locs) {w : FR × MM} (hs : stp pc (.newarray .long) len rz ls st P I L C = some (.inl w)) (hcR : cells + w.2.2.2.2.1 ≤ R.cells + C.1) (hsR : slots + w.2.2.2.2.2 ≤ R.slots + C.2) (hfR : 8 ≤ R.frames) (hlR : 128 ≤ R.locals)
    (k : KN p l e R s m args below meth c cells slots Q D cy L0 x0 mi ad P C w) : W p l e R s m args below meth c H locs cells slots Q (F0 m pc lsA (cv ad st)) := by
  obtain ⟨hdec, hck⟩ := dec_ok hd
  obtain ⟨hx, hb, hml, hrt, hown, hlocks, htab, hnm⟩ := fo
  have hts : ∀ w ∈ GT, w.before args s = true := fun w hw => sv.1 w hw args
  obtain ⟨hP, hD, hwf, hS, hlh, hlv, hsv, hx1, hx2, hx3⟩ := id hI
  simp only [stp] at hs
  simp only [ckR, Bool.and_eq_true, beq_iff_eq, decide_eq_true_eq] at hck
  subst hck
  split at hs
  · rename_i a0 st1
    split at hs
    · rename_i hin
      cases hs
      have hv := (List.forall_mem_cons.mp hsv).2
      obtain ⟨hb1, hb2⟩ := inb_2 hin
      dsimp only at hcR hsR
      refine va_newa (rest := cv ad st1) (atype := .long) (ty := .long) (N' := a0.toNatClampNeg) (a0 := (a0.toNatClampNeg, .inr (.inl (fun _ => 0)))) hx hb (hts _ (mem_GT1 (i := 266) (by decide +kernel) (by decide +kernel))) rfl sv.2.1 hP hD hS (fun q hq => Nat.le_trans sh.2.2.2.2 hq) (fun _ => rfl) hb1 rfl (by show a0.toNatClampNeg * 8 ≤ 536870912; omega) (by omega) (by omega) hdec (fun q cA H1 hK1 hP1 hD1 hS1 => ?_)
      have hcA : cA = cy.2.1 := Option.some.inj (((hK1.2 4 (cA, .long) rfl).2 : s.vm.findClass _ = some cA).symm.trans ((sv.2.1.2 1 _ (ty4_1 cy)).2 : s.vm.findClass _ = some _))
      subst hcA
      refine KN.new k hI hv (Or.inr ⟨by decide, by decide⟩) ?_ hP1 hD1 hS1
      rw [kind_l (by show (xr P.1 (P.2.2 + 1) (21, a0.toNatClampNeg) (P.2.2 + 1)).1 = 21; rw [xr_s])]
      show (Sum.inl (_, (xr P.1 (P.2.2 + 1) (21, a0.toNatClampNeg) (P.2.2 + 1)).2, _) : va_E) = _
      rw [xr_s, xr_s]
    · cases hs
  · cases hs

set_option maxHeartbeats 4000000 in
theorem sx_newarray_byte  (fo : FO p s m meth c mi) (sv : SV D cy s) (sh : SH L0 x0 s s.heap) (hd : dec mi pc = some (.newarray .byte, len, rz)) (hI : IV D cy L0 x0 s mi ad P I L ls st lsA H locs) {w : FR × MM} (hs : stp pc (.newarray .byte) len rz ls st P I L C = some (.inl w)) (hcR : cells + w.2.2.2.2.1 ≤ R.cells + C.1) (hsR : slots + w.2.2.2.2.2 ≤ R.slots + C.2) (hfR : 8 ≤ R.frames) (hlR : 128 ≤ R.locals)
    (k : KN p l e R s m args below meth c cells slots Q D cy L0 x0 mi ad P C w) : W p l e R s m args below meth c H locs cells slots Q (F0 m pc lsA (cv ad st)) := by
  obtain ⟨hdec, hck⟩ := dec_ok hd
  obtain ⟨hx, hb, hml, hrt, hown, hlocks, htab, hnm⟩ := fo
  have hts : ∀ w ∈ GT, w.before args s = true := fun w hw => sv.1 w hw args
  obtain ⟨hP, hD, hwf, hS, hlh, hlv, hsv, hx1, hx2, hx3⟩ := id hI
  simp only [stp] at hs
  simp only [ckR, Bool.and_eq_true, beq_iff_eq, decide_eq_true_eq] at hck
  subst hck
  split at hs
  · rename_i a0 st1
    split at hs
    · rename_i hin
      cases hs
      have hv := (List.forall_mem_cons.mp hsv).2
      obtain ⟨hb1, hb2⟩ := inb_2 hin
      dsimp only at hcR hsR
      refine va_newa (rest := cv ad st1) (atype := .byte) (ty := .byte) (N' := a0.toNatClampNeg) (a0 := (a0.toNatClampNeg, .inl (fun _ => 0))) hx hb (hts _ (mem_GT1 (i := 193) (by decide +kernel) (by decide +kernel))) rfl sv.2.1 hP hD hS (fun q hq => Nat.le_trans sh.2.2.2.2 hq) (fun _ => rfl) hb1 rfl (by show a0.toNatClampNeg * 1 ≤ 536870912; omega) (by omega) (by omega) hdec (fun q cA H1 hK1 hP1 hD1 hS1 => ?_)
      have hcA : cA = cy.2.2.1 := Option.some.inj (((hK1.2 4 (cA, .byte) rfl).2 : s.vm.findClass _ = some cA).symm.trans ((sv.2.1.2 2 _ (ty4_2 cy)).2 : s.vm.findClass _ = some _))
      subst hcA
      refine KN.new k hI hv (Or.inr ⟨by decide, by decide⟩) ?_ hP1 hD1 hS1
      rw [kind_b (by show (xr P.1 (P.2.2 + 1) (22, a0.toNatClampNeg) (P.2.2 + 1)).1 = 22; rw [xr_s])]
      show (Sum.inl (_, (xr P.1 (P.2.2 + 1) (22, a0.toNatClampNeg) (P.2.2 + 1)).2, _) : va_E) = _
      rw [xr_s, xr_s]
    · cases hs
  · cases hs

set_option maxHeartbeats 4000000 in
theorem sx_anewarray {n : Nat} (fo : FO p s m meth c mi) (sv : SV D cy s) (sh : SH L0 x0 s s.heap) (hd : dec mi pc = some (.anewarray n, len, rz)) (hI : IV D cy L0 x0 s mi ad P I L ls st lsA H locs) {w : FR × MM} (hs : stp pc (.anewarray n) len rz ls st P I L C = some (.inl w)) (hcR : cells + w.2.2.2.2.1 ≤ R.cells + C.1) (hsR : slots + w.2.2.2.2.2 ≤ R.slots + C.2) (hfR : 8 ≤ R.frames) (hlR : 128 ≤ R.locals)
    (k : KN p l e R s m args below meth c cells slots Q D cy L0 x0 mi ad P C w) : W p l e R s m args below meth c H locs cells slots Q (F0 m pc lsA (cv ad st)) := by
  obtain ⟨hdec, hck⟩ := dec_ok hd
  obtain ⟨hx, hb, hml, hrt, hown, hlocks, htab, hnm⟩ := fo
  have hts : ∀ w ∈ GT, w.before args s = true := fun w hw => sv.1 w hw args
  obtain ⟨hP, hD, hwf, hS, hlh, hlv, hsv, hx1, hx2, hx3⟩ := id hI
  simp only [stp] at hs
  simp only [ckR, Bool.and_eq_true, beq_iff_eq, decide_eq_true_eq] at hck
  obtain ⟨rfl, hv0⟩ := hck
  split at hs
  · rename_i pl1 pl2 a0 st1
    split at hs
    · rename_i hin
      cases hs
      have hv := (List.forall_mem_cons.mp hsv).2
      obtain ⟨hb1, hb2⟩ := inb_2 hin
      obtain ⟨hlk, hk1, hk2⟩ := ckLk_inv hv0 (by simp)
      simp only [lkB, hk1, hk2, Bool.and_eq_true, decide_eq_true_eq] at hlk
      dsimp only at hcR hsR
      refine va_newq (rest := cv ad st1) (C := RX6) (N' := a0.toNatClampNeg) hx hb hown (hts _ (mem_GT1 hlk.1 rfl)) sv.2.2.2.2 sv.2.1 hP hD hS (fun q hq => Nat.le_trans sh.2.2.2.2 hq) hb1 rfl (by omega) (by omega) (by omega) hdec (fun q cA H1 hK1 hP1 hD1 hS1 => ?_)
      have hcA : cA = cy.2.2.2 := by
        obtain ⟨_, _, _, _, _, g1⟩ := (hK1.2 4 (cA, .object RX6) rfl).2
        obtain ⟨_, _, _, _, _, g2⟩ := (sv.2.1.2 3 _ (ty4_3 cy)).2
        exact Option.some.inj (g1.symm.trans g2)
      subst hcA
      refine KN.new k hI hv (Or.inr ⟨by decide, by decide⟩) ?_ hP1 hD1 hS1
      rw [kind_s (by show (xr P.1 (P.2.2 + 1) (23, a0.toNatClampNeg) (P.2.2 + 1)).1 = 23; rw [xr_s])]
      show (Sum.inl (_, (xr P.1 (P.2.2 + 1) (23, a0.toNatClampNeg) (P.2.2 + 1)).2, Sum.inr (Sum.inr (Sum.inr (Sum.inr (fun i => Option.map _ (xr P.2.1 (P.2.2 + 1) (fun _ => none) (P.2.2 + 1) i)))))) : va_E) = _
      rw [xr_s, xr_s]
      rfl
    · cases hs
  · cases hs

set_option maxHeartbeats 4000000 in
theorem sx_invokestatic {n : Nat} (fo : FO p s m meth c mi) (sv : SV D cy s) (sh : SH L0 x0 s s.heap) (hd : dec mi pc = some (.invokestatic n, len, rz)) (hI : IV D cy L0 x0 s mi ad P I L ls st lsA H locs) {w : FR × MM} (hs : stp pc (.invokestatic n) len rz ls st P I L C = some (.inl w)) (hcR : cells + w.2.2.2.2.1 ≤ R.cells + C.1) (hsR : slots + w.2.2.2.2.2 ≤ R.slots + C.2) (hfR : 8 ≤ R.frames) (hlR : 128 ≤ R.locals)
    (k : KN p l e R s m args below meth c cells slots Q D cy L0 x0 mi ad P C w) : W p l e R s m args below meth c H locs cells slots Q (F0 m pc lsA (cv ad st)) := by
  obtain ⟨hdec, hck⟩ := dec_ok hd
  obtain ⟨hx, hb, hml, hrt, hown, hlocks, htab, hnm⟩ := fo
  have hts : ∀ w ∈ GT, w.before args s = true := fun w hw => sv.1 w hw args
  obtain ⟨hP, hD, hwf, hS, hlh, hlv, hsv, hx1, hx2, hx3⟩ := id hI
  simp only [stp] at hs
  simp only [ckR, Bool.and_eq_true, beq_iff_eq, decide_eq_true_eq] at hck
  obtain ⟨⟨rfl, hv0⟩, -⟩ := hck
  have hls : c.maxLocals = lsA.size := hml.trans hlh.1.symm
  split at hs
  · split at hs
    · split at hs <;> cases hs
    · cases hs
  · rename_i pl
    split at hs
    · rename_i n0 dp a1 sp a0 st1
      split at hs
      · rename_i hc
        cases hs
        obtain ⟨⟨⟨hka, hka0⟩, h1, h2, h3⟩, ⟨h4, h5⟩, h6⟩ := hc
        have hv := (List.forall_mem_cons.mp (List.forall_mem_cons.mp (List.forall_mem_cons.mp (List.forall_mem_cons.mp (List.forall_mem_cons.mp hsv).2).2).2).2).2
        obtain ⟨hlk, hk1, hk2⟩ := ckLk_inv hv0 (by simp)
        simp only [lkB, hk1, hk2, decide_eq_true_eq] at hlk
        have hkb := kind_at hwf (k := a1) (by omega) (by omega)
        have hkb0 := kind_at hwf (k := a0) (by omega) (by omega)
        have he := wl_get (cy := cy) (ad := ad) (I := I) (L := L) hkb.1 hkb.2
        have he0 := wl_get (cy := cy) (ad := ad) (I := I) (L := L) hkb0.1 hkb0.2
        rw [kind_i hka] at he
        rw [kind_i hka0] at he0
        have hnw : nativeFrameWords "java/lang/System" "arraycopy" 5 + 11 ≤ 100 := by decide +kernel
        refine va_copyi (rest := cv ad st1) hx hb hls hown (hts _ (mem_GT1 hlk rfl)) (hts _ (mem_GT1 (i := 405) (by decide +kernel) (by decide +kernel))) (hts _ (mem_GT1 (i := 404) (by decide +kernel) (by decide +kernel))) (hts _ (mem_GT1 (i := 16) (by decide +kernel) (by decide +kernel))) sv.2.1 hP hD hS (a0 - 1) (a1 - 1) 0 0 he0 he (ty4_0 cy) (ty4_0 cy) rfl h1 h2 h3 h4 h5 (fun _ _ => rfl) (by omega) (by rw [catS_cv]; omega) hdec (fun H1 locs1 hP1 hD1 hS1 => ?_)
        rw [wl_set (P' := P) (I' := xr I a1 (va_cpy (I a0) (I a1) sp.toNatClampNeg dp.toNatClampNeg n0.toNatClampNeg)) (L' := L) hkb.1 hkb.2 rfl (by rw [kind_i hka, xr_s]) (fun j hj => elt_ext rfl (xr_n _ _ hj) rfl (fun _ => rfl))] at hP1 hD1
        exact KN.wr k hI hv rfl hwf rfl (xr_n _ _ (kind_0 hx1 hka (by decide))) hP1 hD1 hS1
      · cases hs
    · cases hs
  · rename_i pl
    split at hs
    · rename_i y0 x00 st1
      split at hs
      · rename_i hc
        cases hs
        have hv := (List.forall_mem_cons.mp (List.forall_mem_cons.mp hsv).2).2
        obtain ⟨hlk, hk1, hk2⟩ := ckLk_inv hv0 (by simp)
        simp only [lkB, hk1, hk2, decide_eq_true_eq] at hlk
        dsimp only at hcR hsR
        exact va_mmin (rest := cv ad st1) hx hb hls hown (hts _ (mem_GT1 hlk rfl)) (hts _ (mem_GT1 (i := 401) (by decide +kernel) (by decide +kernel))) (hts _ (mem_GT1 (i := 15) (by decide +kernel) (by decide +kernel))) (hts _ (mem_GT1 (i := 402) (by decide +kernel) (by decide +kernel))) (by omega) (by rw [catS_cv]; omega) (by omega) (by omega) hdec (KN.pure k hI (List.forall_mem_cons.mpr ⟨vk_i P _, hv⟩))
      · cases hs
    · cases hs
  · rename_i pl
    split at hs
    · rename_i y0 x00 st1
      split at hs
      · rename_i hc
        cases hs
        have hv := (List.forall_mem_cons.mp (List.forall_mem_cons.mp hsv).2).2
        obtain ⟨hlk, hk1, hk2⟩ := ckLk_inv hv0 (by simp)
        simp only [lkB, hk1, hk2, decide_eq_true_eq] at hlk
        dsimp only at hcR hsR
        exact va_mmax (rest := cv ad st1) hx hb hls hown (hts _ (mem_GT1 hlk rfl)) (hts _ (mem_GT1 (i := 774) (by decide +kernel) (by decide +kernel))) (hts _ (mem_GT1 (i := 15) (by decide +kernel) (by decide +kernel))) (hts _ (mem_GT1 (i := 775) (by decide +kernel) (by decide +kernel))) (by omega) (by rw [catS_cv]; omega) (by omega) (by omega) hdec (KN.pure k hI (List.forall_mem_cons.mpr ⟨vk_i P _, hv⟩))
      · cases hs
    · cases hs
  · cases hs

set_option maxHeartbeats 4000000 in
theorem sx_invokespecial {n : Nat} (fo : FO p s m meth c mi) (sv : SV D cy s) (sh : SH L0 x0 s s.heap) (hd : dec mi pc = some (.invokespecial n, len, rz)) (hI : IV D cy L0 x0 s mi ad P I L ls st lsA H locs) {w : FR × MM} (hs : stp pc (.invokespecial n) len rz ls st P I L C = some (.inl w)) (hcR : cells + w.2.2.2.2.1 ≤ R.cells + C.1) (hsR : slots + w.2.2.2.2.2 ≤ R.slots + C.2) (hfR : 8 ≤ R.frames) (hlR : 128 ≤ R.locals)
    (k : KN p l e R s m args below meth c cells slots Q D cy L0 x0 mi ad P C w) : W p l e R s m args below meth c H locs cells slots Q (F0 m pc lsA (cv ad st)) := by
  obtain ⟨hdec, hck⟩ := dec_ok hd
  obtain ⟨hx, hb, hml, hrt, hown, hlocks, htab, hnm⟩ := fo
  have hts : ∀ w ∈ GT, w.before args s = true := fun w hw => sv.1 w hw args
  obtain ⟨hP, hD, hwf, hS, hlh, hlv, hsv, hx1, hx2, hx3⟩ := id hI
  simp only [stp] at hs
  simp only [ckR, Bool.and_eq_true, beq_iff_eq, decide_eq_true_eq] at hck
  obtain ⟨⟨rfl, hv0⟩, -⟩ := hck
  split at hs
  · split at hs
    · split at hs <;> cases hs
    · cases hs
  · rename_i pl
    split at hs
    · rename_i a0 st1
      split at hs
      · rename_i hc
        cases hs
        have hv := (List.forall_mem_cons.mp hsv).2
        obtain ⟨hlk, hk1, hk2⟩ := ckLk_inv hv0 (by simp)
        simp only [lkB, hk1, hk2, decide_eq_true_eq] at hlk
        refine W.objInit (g := F0 m pc lsA (cv ad (.ref a0 :: st1))) (rest := cv ad st1) (a := ad a0) hx hb hown (hts _ (mem_GT1 hlk rfl)) (hts _ (mem_GT1 (i := 27) (by decide +kernel) (by decide +kernel))) (hts _ (mem_GT1 (i := 28) (by decide +kernel) (by decide +kernel))) rfl (hlh.1.trans hml.symm) rfl hdec (by omega) ?_ (KN.pure k hI hv)
        rw [catS_cv]
        show 2 * 0 + catS st1 + 12 ≤ R.locals
        omega
      · cases hs
    · cases hs
  · cases hs

end SND2
