theorem ckm157 : ckM 157 := by unfold ckM; decide +kernel
