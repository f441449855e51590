theorem kT4_8 : t4k 2594 = true := by decide +kernel
theorem kT4_9 : t4k 2850 = true := by decide +kernel
theorem kT4_10 : t4k 3106 = true := by decide +kernel
theorem kT4_11 : t4k 562 = true := by decide +kernel
theorem kT4_12 : t4k 818 = true := by decide +kernel
theorem kT4_13 : t4k 1074 = true := by decide +kernel
theorem kT4_14 : t4k 578 = true := by decide +kernel
theorem kT4_15 : t4k 834 = true := by decide +kernel
