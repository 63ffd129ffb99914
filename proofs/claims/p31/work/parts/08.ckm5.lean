theorem ckm156_0 : (List.range' 0 96).all (ckI 156) = true := by decide +kernel
theorem ckm156_1 : (List.range' 96 96).all (ckI 156) = true := by decide +kernel
theorem ckm156_2 : (List.range' 192 96).all (ckI 156) = true := by decide +kernel
theorem ckm156_3 : (List.range' 288 96).all (ckI 156) = true := by decide +kernel
theorem ckm156_4 : (List.range' 384 96).all (ckI 156) = true := by decide +kernel
theorem ckm156_5 : (List.range' 480 76).all (ckI 156) = true := by decide +kernel
theorem ckm156 : ckM 156 := by
  unfold ckM
  have hd : dln 156 = 556 := by decide +kernel
  rw [hd]
  refine List.all_eq_true.mpr fun pc hp => ?_
  have hp := List.mem_range.mp hp
  by_cases h0 : pc < 96
  · exact List.all_eq_true.mp ckm156_0 pc (List.mem_range'_1.mpr (by omega))
  by_cases h1 : pc < 192
  · exact List.all_eq_true.mp ckm156_1 pc (List.mem_range'_1.mpr (by omega))
  by_cases h2 : pc < 288
  · exact List.all_eq_true.mp ckm156_2 pc (List.mem_range'_1.mpr (by omega))
  by_cases h3 : pc < 384
  · exact List.all_eq_true.mp ckm156_3 pc (List.mem_range'_1.mpr (by omega))
  by_cases h4 : pc < 480
  · exact List.all_eq_true.mp ckm156_4 pc (List.mem_range'_1.mpr (by omega))
  by_cases h5 : pc < 556
  · exact List.all_eq_true.mp ckm156_5 pc (List.mem_range'_1.mpr (by omega))
  omega
