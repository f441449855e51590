def t5k (x : Nat) : Bool := frc (dgx x 0) (fun a => frc (dgx x 1) (fun b => frc (dgx x 2) (fun c => frc (dgx x 3) (fun d => frc (dgx x 4) (fun e => frc (dgx x 5) (fun f => allR (fun g => allR fun h => bif g3c a g h then allR (fun i => bif g3c b g i then (bif g3c c h i then allR (fun j => bif g3c d g j then (bif g3c e h j then (bif g3c f i j then (bif g4c a b c g h i then (bif g4c a d e g h j then (bif g4c b d f g i j then (bif g4c c e f h i j then (bif g5c a b c d e f g h i j then true else ck5 a b c d e f g h i j) else true) else true) else true) else true) else true) else true) else true) else true) else true) else true)))))))
theorem kT5_0 : t5k 2236962 = true := by decide +kernel
theorem kT5_1 : t5k 3285538 = true := by decide +kernel
theorem kT5_2 : t5k 4334114 = true := by decide +kernel
theorem kT5_3 : t5k 5382690 = true := by decide +kernel
theorem kT5_4 : t5k 6431266 = true := by decide +kernel
theorem kT5_5 : t5k 7479842 = true := by decide +kernel
theorem kT5_6 : t5k 2302498 = true := by decide +kernel
theorem kT5_7 : t5k 3351074 = true := by decide +kernel
theorem kT5_8 : t5k 2368034 = true := by decide +kernel
theorem kT5_9 : t5k 2433570 = true := by decide +kernel
theorem kT5_10 : t5k 2499106 = true := by decide +kernel
theorem kT5_11 : t5k 2564642 = true := by decide +kernel
theorem kT5_12 : t5k 2237218 = true := by decide +kernel
theorem kT5_13 : t5k 3285794 = true := by decide +kernel
theorem kT5_14 : t5k 2302754 = true := by decide +kernel
theorem kT5_15 : t5k 2237474 = true := by decide +kernel
theorem kT5_16 : t5k 2237730 = true := by decide +kernel
theorem kT5_17 : t5k 2237986 = true := by decide +kernel
theorem kT5_18 : t5k 2238242 = true := by decide +kernel
theorem kT5_19 : t5k 2241058 = true := by decide +kernel
theorem kT5_20 : t5k 3289634 = true := by decide +kernel
theorem kT5_21 : t5k 2306594 = true := by decide +kernel
theorem kT5_22 : t5k 2241314 = true := by decide +kernel
theorem kT5_23 : t5k 2241570 = true := by decide +kernel
theorem kT5_24 : t5k 2241826 = true := by decide +kernel
theorem kT5_25 : t5k 2245154 = true := by decide +kernel
theorem kT5_26 : t5k 2245410 = true := by decide +kernel
theorem kT5_27 : t5k 2249250 = true := by decide +kernel
theorem kT5_28 : t5k 2249506 = true := by decide +kernel
theorem kT5_29 : t5k 2253346 = true := by decide +kernel
theorem kT5_30 : t5k 2257442 = true := by decide +kernel
theorem kT5_31 : t5k 2236978 = true := by decide +kernel
theorem kT5_32 : t5k 3285554 = true := by decide +kernel
theorem kT5_33 : t5k 2302514 = true := by decide +kernel
theorem kT5_34 : t5k 2368050 = true := by decide +kernel
theorem kT5_35 : t5k 2433586 = true := by decide +kernel
theorem kT5_36 : t5k 2237234 = true := by decide +kernel
theorem kT5_37 : t5k 2241074 = true := by decide +kernel
theorem kT5_38 : t5k 2236994 = true := by decide +kernel
theorem kT5_39 : t5k 2302530 = true := by decide +kernel
theorem kT5_40 : t5k 2237010 = true := by decide +kernel
theorem kT5_41 : t5k 2302546 = true := by decide +kernel
theorem kT5_42 : t5k 2237026 = true := by decide +kernel
theorem kT5_43 : t5k 2237042 = true := by decide +kernel
theorem kT5_44 : t5k 2236963 = true := by decide +kernel
theorem kT5_45 : t5k 3285539 = true := by decide +kernel
theorem kT5_46 : t5k 4334115 = true := by decide +kernel
theorem kT5_47 : t5k 5382691 = true := by decide +kernel
theorem kT5_48 : t5k 2302499 = true := by decide +kernel
theorem kT5_49 : t5k 2237219 = true := by decide +kernel
theorem kT5_50 : t5k 2241059 = true := by decide +kernel
theorem kT5_51 : t5k 2236979 = true := by decide +kernel
theorem kT5_52 : t5k 2236964 = true := by decide +kernel
theorem kT5_53 : t5k 3285540 = true := by decide +kernel
theorem kT5_54 : t5k 2236965 = true := by decide +kernel
theorem kT5_55 : t5k 3285541 = true := by decide +kernel
theorem kT5_56 : t5k 2236966 = true := by decide +kernel
theorem kT5_57 : t5k 2236967 = true := by decide +kernel
theorem kT5 : allN t5k L4c = true := by
  simp only [L4c, allN, kT5_0, kT5_1, kT5_2, kT5_3, kT5_4, kT5_5, kT5_6, kT5_7, kT5_8, kT5_9, kT5_10, kT5_11, kT5_12, kT5_13, kT5_14, kT5_15, kT5_16, kT5_17, kT5_18, kT5_19, kT5_20, kT5_21, kT5_22, kT5_23, kT5_24, kT5_25, kT5_26, kT5_27, kT5_28, kT5_29, kT5_30, kT5_31, kT5_32, kT5_33, kT5_34, kT5_35, kT5_36, kT5_37, kT5_38, kT5_39, kT5_40, kT5_41, kT5_42, kT5_43, kT5_44, kT5_45, kT5_46, kT5_47, kT5_48, kT5_49, kT5_50, kT5_51, kT5_52, kT5_53, kT5_54, kT5_55, kT5_56, kT5_57, Bool.and_self]
theorem T5_ok : T5p := by
  intro a b c d e f g h i j ha hb hc hd he hf hg hh hi hj k0 k1 k2 k3 k4 k5 k6 k7 k8 k9 k10 hq
  have q := allN_at L4c kT5 (by rw [g4c, frc_eq] at k0; exact k0)
  have e0 : dgx (a + 16 * b + 256 * c + 4096 * d + 65536 * e + 1048576 * f) 0 = a := by unfold dgx; have := ha.2; have := hb.2; have := hc.2; have := hd.2; have := he.2; have := hf.2; omega
  have e1 : dgx (a + 16 * b + 256 * c + 4096 * d + 65536 * e + 1048576 * f) 1 = b := by unfold dgx; have := ha.2; have := hb.2; have := hc.2; have := hd.2; have := he.2; have := hf.2; omega
  have e2 : dgx (a + 16 * b + 256 * c + 4096 * d + 65536 * e + 1048576 * f) 2 = c := by unfold dgx; have := ha.2; have := hb.2; have := hc.2; have := hd.2; have := he.2; have := hf.2; omega
  have e3 : dgx (a + 16 * b + 256 * c + 4096 * d + 65536 * e + 1048576 * f) 3 = d := by unfold dgx; have := ha.2; have := hb.2; have := hc.2; have := hd.2; have := he.2; have := hf.2; omega
  have e4 : dgx (a + 16 * b + 256 * c + 4096 * d + 65536 * e + 1048576 * f) 4 = e := by unfold dgx; have := ha.2; have := hb.2; have := hc.2; have := hd.2; have := he.2; have := hf.2; omega
  have e5 : dgx (a + 16 * b + 256 * c + 4096 * d + 65536 * e + 1048576 * f) 5 = f := by unfold dgx; have := ha.2; have := hb.2; have := hc.2; have := hd.2; have := he.2; have := hf.2; omega
  unfold t5k at q
  simp only [frc_eq] at q
  rw [e0, e1, e2, e3, e4, e5] at q
  have q := allR_at (allR_at q hg) hh
  rw [k1, cond_true] at q
  have q := allR_at q hi
  rw [k2, cond_true, k3, cond_true] at q
  have q := allR_at q hj
  rw [k4, cond_true, k5, cond_true, k6, cond_true, k7, cond_true, k8, cond_true, k9, cond_true, k10, cond_true, hq, cond_false] at q
  exact q

