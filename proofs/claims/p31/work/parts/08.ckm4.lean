theorem ckm155 : ckM 155 := by unfold ckM; decide +kernel
