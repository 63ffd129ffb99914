theorem ckm226_15 : (List.range' 1440 96).all (ckI 226) = true := by decide +kernel
theorem ckm226_16 : (List.range' 1536 96).all (ckI 226) = true := by decide +kernel
theorem ckm226_17 : (List.range' 1632 96).all (ckI 226) = true := by decide +kernel
theorem ckm226_18 : (List.range' 1728 96).all (ckI 226) = true := by decide +kernel
theorem ckm226_19 : (List.range' 1824 59).all (ckI 226) = true := by decide +kernel
theorem ckm226 : ckM 226 := by
  unfold ckM
  have hd : dln 226 = 1883 := by decide +kernel
  rw [hd]
  refine List.all_eq_true.mpr fun pc hp => ?_
  have hp := List.mem_range.mp hp
  by_cases h0 : pc < 96
  · exact List.all_eq_true.mp ckm226_0 pc (List.mem_range'_1.mpr (by omega))
  by_cases h1 : pc < 192
  · exact List.all_eq_true.mp ckm226_1 pc (List.mem_range'_1.mpr (by omega))
  by_cases h2 : pc < 288
  · exact List.all_eq_true.mp ckm226_2 pc (List.mem_range'_1.mpr (by omega))
  by_cases h3 : pc < 384
  · exact List.all_eq_true.mp ckm226_3 pc (List.mem_range'_1.mpr (by omega))
  by_cases h4 : pc < 480
  · exact List.all_eq_true.mp ckm226_4 pc (List.mem_range'_1.mpr (by omega))
  by_cases h5 : pc < 576
  · exact List.all_eq_true.mp ckm226_5 pc (List.mem_range'_1.mpr (by omega))
  by_cases h6 : pc < 672
  · exact List.all_eq_true.mp ckm226_6 pc (List.mem_range'_1.mpr (by omega))
  by_cases h7 : pc < 768
  · exact List.all_eq_true.mp ckm226_7 pc (List.mem_range'_1.mpr (by omega))
  by_cases h8 : pc < 864
  · exact List.all_eq_true.mp ckm226_8 pc (List.mem_range'_1.mpr (by omega))
  by_cases h9 : pc < 960
  · exact List.all_eq_true.mp ckm226_9 pc (List.mem_range'_1.mpr (by omega))
  by_cases h10 : pc < 1056
  · exact List.all_eq_true.mp ckm226_10 pc (List.mem_range'_1.mpr (by omega))
  by_cases h11 : pc < 1152
  · exact List.all_eq_true.mp ckm226_11 pc (List.mem_range'_1.mpr (by omega))
  by_cases h12 : pc < 1248
  · exact List.all_eq_true.mp ckm226_12 pc (List.mem_range'_1.mpr (by omega))
  by_cases h13 : pc < 1344
  · exact List.all_eq_true.mp ckm226_13 pc (List.mem_range'_1.mpr (by omega))
  by_cases h14 : pc < 1440
  · exact List.all_eq_true.mp ckm226_14 pc (List.mem_range'_1.mpr (by omega))
  by_cases h15 : pc < 1536
  · exact List.all_eq_true.mp ckm226_15 pc (List.mem_range'_1.mpr (by omega))
  by_cases h16 : pc < 1632
  · exact List.all_eq_true.mp ckm226_16 pc (List.mem_range'_1.mpr (by omega))
  by_cases h17 : pc < 1728
  · exact List.all_eq_true.mp ckm226_17 pc (List.mem_range'_1.mpr (by omega))
  by_cases h18 : pc < 1824
  · exact List.all_eq_true.mp ckm226_18 pc (List.mem_range'_1.mpr (by omega))
  by_cases h19 : pc < 1883
  · exact List.all_eq_true.mp ckm226_19 pc (List.mem_range'_1.mpr (by omega))
  omega
