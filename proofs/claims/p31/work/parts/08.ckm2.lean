theorem ckm153_0 : (List.range' 0 96).all (ckI 153) = true := by decide +kernel
theorem ckm153_1 : (List.range' 96 96).all (ckI 153) = true := by decide +kernel
theorem ckm153_2 : (List.range' 192 96).all (ckI 153) = true := by decide +kernel
theorem ckm153_3 : (List.range' 288 96).all (ckI 153) = true := by decide +kernel
theorem ckm153_4 : (List.range' 384 29).all (ckI 153) = true := by decide +kernel
theorem ckm153 : ckM 153 := by
  unfold ckM
  have hd : dln 153 = 413 := by decide +kernel
  rw [hd]
  refine List.all_eq_true.mpr fun pc hp => ?_
  have hp := List.mem_range.mp hp
  by_cases h0 : pc < 96
  · exact List.all_eq_true.mp ckm153_0 pc (List.mem_range'_1.mpr (by omega))
  by_cases h1 : pc < 192
  · exact List.all_eq_true.mp ckm153_1 pc (List.mem_range'_1.mpr (by omega))
  by_cases h2 : pc < 288
  · exact List.all_eq_true.mp ckm153_2 pc (List.mem_range'_1.mpr (by omega))
  by_cases h3 : pc < 384
  · exact List.all_eq_true.mp ckm153_3 pc (List.mem_range'_1.mpr (by omega))
  by_cases h4 : pc < 413
  · exact List.all_eq_true.mp ckm153_4 pc (List.mem_range'_1.mpr (by omega))
  omega
