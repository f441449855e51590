def t4k (x : Nat) : Bool := frc (dgx x 0) (fun a => frc (dgx x 1) (fun b => frc (dgx x 2) (fun c => allR (fun d => allR fun e => bif g3c a d e then allR (fun f => bif g3c b d f then (bif g3c c e f then (bif g4c a b c d e f then true else ck4 a b c d e f) else true) else true) else true))))
theorem kT4_0 : t4k 546 = true := by decide +kernel
theorem kT4_1 : t4k 802 = true := by decide +kernel
theorem kT4_2 : t4k 1058 = true := by decide +kernel
theorem kT4_3 : t4k 1314 = true := by decide +kernel
theorem kT4_4 : t4k 1570 = true := by decide +kernel
theorem kT4_5 : t4k 1826 = true := by decide +kernel
theorem kT4_6 : t4k 2082 = true := by decide +kernel
theorem kT4_7 : t4k 2338 = true := by decide +kernel
theorem kT4_8 : t4k 2594 = true := by decide +kernel
theorem kT4_9 : t4k 2850 = true := by decide +kernel
theorem kT4_10 : t4k 3106 = true := by decide +kernel
theorem kT4_11 : t4k 562 = true := by decide +kernel
theorem kT4_12 : t4k 818 = true := by decide +kernel
theorem kT4_13 : t4k 1074 = true := by decide +kernel
theorem kT4_14 : t4k 578 = true := by decide +kernel
theorem kT4_15 : t4k 834 = true := by decide +kernel
theorem kT4_16 : t4k 594 = true := by decide +kernel
theorem kT4_17 : t4k 610 = true := by decide +kernel
theorem kT4_18 : t4k 626 = true := by decide +kernel
theorem kT4_19 : t4k 642 = true := by decide +kernel
theorem kT4_20 : t4k 658 = true := by decide +kernel
theorem kT4_21 : t4k 674 = true := by decide +kernel
theorem kT4_22 : t4k 690 = true := by decide +kernel
theorem kT4_23 : t4k 706 = true := by decide +kernel
theorem kT4_24 : t4k 547 = true := by decide +kernel
theorem kT4_25 : t4k 803 = true := by decide +kernel
theorem kT4_26 : t4k 1059 = true := by decide +kernel
theorem kT4_27 : t4k 563 = true := by decide +kernel
theorem kT4_28 : t4k 579 = true := by decide +kernel
theorem kT4_29 : t4k 548 = true := by decide +kernel
theorem kT4_30 : t4k 804 = true := by decide +kernel
theorem kT4_31 : t4k 564 = true := by decide +kernel
theorem kT4_32 : t4k 549 = true := by decide +kernel
theorem kT4_33 : t4k 550 = true := by decide +kernel
theorem kT4_34 : t4k 551 = true := by decide +kernel
theorem kT4_35 : t4k 552 = true := by decide +kernel
theorem kT4_36 : t4k 553 = true := by decide +kernel
theorem kT4_37 : t4k 554 = true := by decide +kernel
theorem kT4_38 : t4k 555 = true := by decide +kernel
theorem kT4_39 : t4k 556 = true := by decide +kernel
theorem kT4 : allN t4k L3c = true := by
  simp only [L3c, allN, kT4_0, kT4_1, kT4_2, kT4_3, kT4_4, kT4_5, kT4_6, kT4_7, kT4_8, kT4_9, kT4_10, kT4_11, kT4_12, kT4_13, kT4_14, kT4_15, kT4_16, kT4_17, kT4_18, kT4_19, kT4_20, kT4_21, kT4_22, kT4_23, kT4_24, kT4_25, kT4_26, kT4_27, kT4_28, kT4_29, kT4_30, kT4_31, kT4_32, kT4_33, kT4_34, kT4_35, kT4_36, kT4_37, kT4_38, kT4_39, Bool.and_self]
theorem T4_ok : T4p := by
  intro a b c d e f ha hb hc hd he hf h1 h2 h3 h4 hg
  have q := allN_at L3c kT4 (by rw [g3c, frc_eq] at h1; exact h1)
  have e1 : dgx (a + 16 * b + 256 * c) 0 = a := by unfold dgx; have := ha.2; have := hb.2; have := hc.2; omega
  have e2 : dgx (a + 16 * b + 256 * c) 1 = b := by unfold dgx; have := ha.2; have := hb.2; have := hc.2; omega
  have e3 : dgx (a + 16 * b + 256 * c) 2 = c := by unfold dgx; have := ha.2; have := hb.2; have := hc.2; omega
  unfold t4k at q
  simp only [frc_eq] at q
  rw [e1, e2, e3] at q
  have q := allR_at (allR_at q hd) he
  rw [h2, cond_true] at q
  have q := allR_at q hf
  rw [h3, cond_true, h4, cond_true, hg, cond_false] at q
  exact q

