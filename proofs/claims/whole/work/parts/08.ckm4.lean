theorem ckm226_7 : (List.range' 672 96).all (ckI 226) = true := by decide +kernel
theorem ckm226_8 : (List.range' 768 96).all (ckI 226) = true := by decide +kernel
theorem ckm226_9 : (List.range' 864 96).all (ckI 226) = true := by decide +kernel
theorem ckm226_10 : (List.range' 960 96).all (ckI 226) = true := by decide +kernel
theorem ckm226_11 : (List.range' 1056 96).all (ckI 226) = true := by decide +kernel
theorem ckm226_12 : (List.range' 1152 96).all (ckI 226) = true := by decide +kernel
theorem ckm226_13 : (List.range' 1248 96).all (ckI 226) = true := by decide +kernel
theorem ckm226_14 : (List.range' 1344 96).all (ckI 226) = true := by decide +kernel
