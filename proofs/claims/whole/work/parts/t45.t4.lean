theorem kT4_32 : t4k 549 = true := by decide +kernel
theorem kT4_33 : t4k 550 = true := by decide +kernel
theorem kT4_34 : t4k 551 = true := by decide +kernel
theorem kT4_35 : t4k 552 = true := by decide +kernel
theorem kT4_36 : t4k 553 = true := by decide +kernel
theorem kT4_37 : t4k 554 = true := by decide +kernel
theorem kT4_38 : t4k 555 = true := by decide +kernel
theorem kT4_39 : t4k 556 = true := by decide +kernel
