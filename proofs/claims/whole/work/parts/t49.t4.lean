theorem kT4 : allN t4k L3c = true := by
  simp only [L3c, allN, kT4_0, kT4_1, kT4_2, kT4_3, kT4_4, kT4_5, kT4_6, kT4_7, kT4_8, kT4_9, kT4_10, kT4_11, kT4_12, kT4_13, kT4_14, kT4_15, kT4_16, kT4_17, kT4_18, kT4_19, kT4_20, kT4_21, kT4_22, kT4_23, kT4_24, kT4_25, kT4_26, kT4_27, kT4_28, kT4_29, kT4_30, kT4_31, kT4_32, kT4_33, kT4_34, kT4_35, kT4_36, kT4_37, kT4_38, kT4_39, Bool.and_self]
theorem T4_ok : T4p := by
  intro a b c d e f ha hb hc hd he hf h1 h2 h3 h4 hg
  have q := allN_at L3c kT4 (by rw [g3c, frc_eq] at h1; exact h1)
  have e1 : dgx (a + 16 * b + 256 * c) 0 = a := by unfold dgx; have := ha.2; have := hb.2; have := hc.2; omega
  have e2 : dgx (a + 16 * b + 256 * c) 1 = b := by unfold dgx; have := ha.2; have := hb.2; have := hc.2; omega
  have e3 : dgx (a + 16 * b + 256 * c) 2 = c := by unfold dgx; have := ha.2; have := hb.2; have := hc.2; omega
  unfold t4k at q
  simp only [frc_eq] at q
  rw [e1, e2, e3] at q
  have q := allR_at (allR_at q hd) he
  rw [h2, cond_true] at q
  have q := allR_at q hf
  rw [h3, cond_true, h4, cond_true, hg, cond_false] at q
  exact q

