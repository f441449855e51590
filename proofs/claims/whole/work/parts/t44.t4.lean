theorem kT4_24 : t4k 547 = true := by decide +kernel
theorem kT4_25 : t4k 803 = true := by decide +kernel
theorem kT4_26 : t4k 1059 = true := by decide +kernel
theorem kT4_27 : t4k 563 = true := by decide +kernel
theorem kT4_28 : t4k 579 = true := by decide +kernel
theorem kT4_29 : t4k 548 = true := by decide +kernel
theorem kT4_30 : t4k 804 = true := by decide +kernel
theorem kT4_31 : t4k 564 = true := by decide +kernel
