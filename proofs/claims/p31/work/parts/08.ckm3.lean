theorem ckm154_0 : (List.range' 0 96).all (ckI 154) = true := by decide +kernel
theorem ckm154_1 : (List.range' 96 96).all (ckI 154) = true := by decide +kernel
theorem ckm154_2 : (List.range' 192 96).all (ckI 154) = true := by decide +kernel
theorem ckm154_3 : (List.range' 288 96).all (ckI 154) = true := by decide +kernel
theorem ckm154_4 : (List.range' 384 96).all (ckI 154) = true := by decide +kernel
theorem ckm154_5 : (List.range' 480 30).all (ckI 154) = true := by decide +kernel
theorem ckm154 : ckM 154 := by
  unfold ckM
  have hd : dln 154 = 510 := by decide +kernel
  rw [hd]
  refine List.all_eq_true.mpr fun pc hp => ?_
  have hp := List.mem_range.mp hp
  by_cases h0 : pc < 96
  · exact List.all_eq_true.mp ckm154_0 pc (List.mem_range'_1.mpr (by omega))
  by_cases h1 : pc < 192
  · exact List.all_eq_true.mp ckm154_1 pc (List.mem_range'_1.mpr (by omega))
  by_cases h2 : pc < 288
  · exact List.all_eq_true.mp ckm154_2 pc (List.mem_range'_1.mpr (by omega))
  by_cases h3 : pc < 384
  · exact List.all_eq_true.mp ckm154_3 pc (List.mem_range'_1.mpr (by omega))
  by_cases h4 : pc < 480
  · exact List.all_eq_true.mp ckm154_4 pc (List.mem_range'_1.mpr (by omega))
  by_cases h5 : pc < 510
  · exact List.all_eq_true.mp ckm154_5 pc (List.mem_range'_1.mpr (by omega))
  omega
