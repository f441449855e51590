theorem kT5_50 : t5k 2241059 = true := by decide +kernel
theorem kT5_51 : t5k 2236979 = true := by decide +kernel
theorem kT5_52 : t5k 2236964 = true := by decide +kernel
theorem kT5_53 : t5k 3285540 = true := by decide +kernel
theorem kT5_54 : t5k 2236965 = true := by decide +kernel
theorem kT5_55 : t5k 3285541 = true := by decide +kernel
theorem kT5_56 : t5k 2236966 = true := by decide +kernel
theorem kT5_57 : t5k 2236967 = true := by decide +kernel
