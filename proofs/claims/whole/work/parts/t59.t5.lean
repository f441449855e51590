theorem kT5 : allN t5k L4c = true := by
  simp only [L4c, allN, kT5_0, kT5_1, kT5_2, kT5_3, kT5_4, kT5_5, kT5_6, kT5_7, kT5_8, kT5_9, kT5_10, kT5_11, kT5_12, kT5_13, kT5_14, kT5_15, kT5_16, kT5_17, kT5_18, kT5_19, kT5_20, kT5_21, kT5_22, kT5_23, kT5_24, kT5_25, kT5_26, kT5_27, kT5_28, kT5_29, kT5_30, kT5_31, kT5_32, kT5_33, kT5_34, kT5_35, kT5_36, kT5_37, kT5_38, kT5_39, kT5_40, kT5_41, kT5_42, kT5_43, kT5_44, kT5_45, kT5_46, kT5_47, kT5_48, kT5_49, kT5_50, kT5_51, kT5_52, kT5_53, kT5_54, kT5_55, kT5_56, kT5_57, Bool.and_self]
theorem T5_ok : T5p := by
  intro a b c d e f g h i j ha hb hc hd he hf hg hh hi hj k0 k1 k2 k3 k4 k5 k6 k7 k8 k9 k10 hq
  have q := allN_at L4c kT5 (by rw [g4c, frc_eq] at k0; exact k0)
  have e0 : dgx (a + 16 * b + 256 * c + 4096 * d + 65536 * e + 1048576 * f) 0 = a := by unfold dgx; have := ha.2; have := hb.2; have := hc.2; have := hd.2; have := he.2; have := hf.2; omega
  have e1 : dgx (a + 16 * b + 256 * c + 4096 * d + 65536 * e + 1048576 * f) 1 = b := by unfold dgx; have := ha.2; have := hb.2; have := hc.2; have := hd.2; have := he.2; have := hf.2; omega
  have e2 : dgx (a + 16 * b + 256 * c + 4096 * d + 65536 * e + 1048576 * f) 2 = c := by unfold dgx; have := ha.2; have := hb.2; have := hc.2; have := hd.2; have := he.2; have := hf.2; omega
  have e3 : dgx (a + 16 * b + 256 * c + 4096 * d + 65536 * e + 1048576 * f) 3 = d := by unfold dgx; have := ha.2; have := hb.2; have := hc.2; have := hd.2; have := he.2; have := hf.2; omega
  have e4 : dgx (a + 16 * b + 256 * c + 4096 * d + 65536 * e + 1048576 * f) 4 = e := by unfold dgx; have := ha.2; have := hb.2; have := hc.2; have := hd.2; have := he.2; have := hf.2; omega
  have e5 : dgx (a + 16 * b + 256 * c + 4096 * d + 65536 * e + 1048576 * f) 5 = f := by unfold dgx; have := ha.2; have := hb.2; have := hc.2; have := hd.2; have := he.2; have := hf.2; omega
  unfold t5k at q
  simp only [frc_eq] at q
  rw [e0, e1, e2, e3, e4, e5] at q
  have q := allR_at (allR_at q hg) hh
  rw [k1, cond_true] at q
  have q := allR_at q hi
  rw [k2, cond_true, k3, cond_true] at q
  have q := allR_at q hj
  rw [k4, cond_true, k5, cond_true, k6, cond_true, k7, cond_true, k8, cond_true, k9, cond_true, k10, cond_true, hq, cond_false] at q
  exact q

