theorem ckm226_0 : (List.range' 0 96).all (ckI 226) = true := by decide +kernel
theorem ckm226_1 : (List.range' 96 96).all (ckI 226) = true := by decide +kernel
theorem ckm226_2 : (List.range' 192 96).all (ckI 226) = true := by decide +kernel
theorem ckm226_3 : (List.range' 288 96).all (ckI 226) = true := by decide +kernel
theorem ckm226_4 : (List.range' 384 96).all (ckI 226) = true := by decide +kernel
theorem ckm226_5 : (List.range' 480 96).all (ckI 226) = true := by decide +kernel
theorem ckm226_6 : (List.range' 576 96).all (ckI 226) = true := by decide +kernel
