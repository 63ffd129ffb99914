theorem ckm158_0 : (List.range' 0 96).all (ckI 158) = true := by decide +kernel
theorem ckm158_1 : (List.range' 96 96).all (ckI 158) = true := by decide +kernel
theorem ckm158_2 : (List.range' 192 96).all (ckI 158) = true := by decide +kernel
theorem ckm158_3 : (List.range' 288 96).all (ckI 158) = true := by decide +kernel
theorem ckm158_4 : (List.range' 384 43).all (ckI 158) = true := by decide +kernel
theorem ckm158 : ckM 158 := by
  unfold ckM
  have hd : dln 158 = 427 := by decide +kernel
  rw [hd]
  refine List.all_eq_true.mpr fun pc hp => ?_
  have hp := List.mem_range.mp hp
  by_cases h0 : pc < 96
  · exact List.all_eq_true.mp ckm158_0 pc (List.mem_range'_1.mpr (by omega))
  by_cases h1 : pc < 192
  · exact List.all_eq_true.mp ckm158_1 pc (List.mem_range'_1.mpr (by omega))
  by_cases h2 : pc < 288
  · exact List.all_eq_true.mp ckm158_2 pc (List.mem_range'_1.mpr (by omega))
  by_cases h3 : pc < 384
  · exact List.all_eq_true.mp ckm158_3 pc (List.mem_range'_1.mpr (by omega))
  by_cases h4 : pc < 427
  · exact List.all_eq_true.mp ckm158_4 pc (List.mem_range'_1.mpr (by omega))
  omega
