theorem kT4_0 : t4k 546 = true := by decide +kernel
theorem kT4_1 : t4k 802 = true := by decide +kernel
theorem kT4_2 : t4k 1058 = true := by decide +kernel
theorem kT4_3 : t4k 1314 = true := by decide +kernel
theorem kT4_4 : t4k 1570 = true := by decide +kernel
theorem kT4_5 : t4k 1826 = true := by decide +kernel
theorem kT4_6 : t4k 2082 = true := by decide +kernel
theorem kT4_7 : t4k 2338 = true := by decide +kernel
