theorem kT4_16 : t4k 594 = true := by decide +kernel
theorem kT4_17 : t4k 610 = true := by decide +kernel
theorem kT4_18 : t4k 626 = true := by decide +kernel
theorem kT4_19 : t4k 642 = true := by decide +kernel
theorem kT4_20 : t4k 658 = true := by decide +kernel
theorem kT4_21 : t4k 674 = true := by decide +kernel
theorem kT4_22 : t4k 690 = true := by decide +kernel
theorem kT4_23 : t4k 706 = true := by decide +kernel
