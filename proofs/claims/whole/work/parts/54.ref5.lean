theorem dsc1 (P : GD) (x : Nat) : dsc P x 1 = gE P x := rfl
theorem ds_len {P : GD} (hC : GC P) (hV : GV P) {y s : Nat} (hy : y < gN P) (h : gE P y &&& s ≠ 0) : gL P (gS P y (lsb (gE P y &&& s))) < gL P y := by
  have h1 := lsb_and hC.1.1 hV hy h
  have h2 := lsb_is (n := gE P y &&& s) (by omega) (Nat.lt_of_le_of_lt Nat.and_le_left (Nat.lt_trans (hV.2.2.1 y hy).2.2.2.2.2.1 (by decide)))
  have h3 := h2.1
  rw [Nat.testBit_and, Bool.and_eq_true] at h3
  have h4 := (hC.2.2.2.1 y _ hy h1).1
  rw [h3.1] at h4
  exact of_decide_eq_true h4.symm
theorem as_len {P : GD} (hC : GC P) (hV : GV P) {y s : Nat} (hy : y < gN P) (hs : s < 2 ^ gR P) (h : andn s (gE P y) ≠ 0) : gL P (gS P y (lsb (andn s (gE P y)))) = gL P y + 1 := by
  have h1 := lsb_andn hV hs h
  have h0 := p2_R hV
  have h2 := lsb_is (n := andn s (gE P y)) (by omega) (Nat.lt_of_le_of_lt (andn_le _ _) (Nat.lt_trans hs (Nat.lt_of_le_of_lt h0 (by decide))))
  have h3 := h2.1
  rw [andn_bit, Bool.and_eq_true] at h3
  have h4 := (hC.2.2.2.1 y _ hy h1).1
  have h5 : (gE P y).testBit (lsb (andn s (gE P y))) = false := by have := h3.2; simpa using this
  rw [h5] at h4
  have h6 : ¬ gL P (gS P y (lsb (andn s (gE P y)))) < gL P y := of_decide_eq_false h4.symm
  have := hC.2.2.2.2.1 y _ hy h1
  omega
theorem gE_0 {P : GD} (hC : GC P) (hV : GV P) {y : Nat} (hy : y < gN P) (h : gL P y = 0) (s : Nat) : gE P y &&& s = 0 := by
  apply Classical.byContradiction
  intro q
  have := ds_len hC hV hy q
  omega
theorem lsF_le {P : GD} (hC : GC P) (hV : GV P) {s : Nat} : ∀ k y, y < gN P → gL P (lsF P s k y) ≤ gL P y := by
  intro k
  induction k with
  | zero => intro y _; exact Nat.le_refl _
  | succ k ih =>
    intro y hy
    rw [lsF]
    split
    · exact Nat.le_refl _
    · rename_i h
      have h1 := ds_len hC hV hy h
      have h2 := ih _ (hV.2.2.2.1 y _ hy (lsb_and hC.1.1 hV hy h))
      omega
theorem lsF_fix {P : GD} (hC : GC P) (hV : GV P) {s y : Nat} (hy : y < gN P) : lsF P s 60 y = y ↔ gE P y &&& s = 0 := by
  constructor
  · intro h
    apply Classical.byContradiction
    intro q
    rw [show (60 : Nat) = 59 + 1 from rfl, lsF, if_neg q] at h
    have h1 := ds_len hC hV hy q
    have h2 := lsF_le hC hV (s := s) 59 _ (hV.2.2.2.1 y _ hy (lsb_and hC.1.1 hV hy q))
    rw [h] at h2
    omega
  · intro h
    rw [show (60 : Nat) = 59 + 1 from rfl, lsF, if_pos h]
set_option maxHeartbeats 2000000 in
set_option maxRecDepth 20000 in
theorem g_X9_leastBy_12 {G : GG} {j nw nx gn : Nat} {g : Nat → Sh} {c : Nat → Nat → Int} {post : Option AV → AM → Prop} {x : Nat} {s : Nat} {P : GD} {y : Nat} (hM : ML c P) (hV : GV P) (hC : GC P)  (hv : ((dsc P y 1) &&& s < 2147483648) ∧ ((((dsc P y 1) &&& s = 0) → post (some (vi (((y : Nat) : Int)))) (S nw nx g, 78 + gn, c)) ∧ ((¬ ((dsc P y 1) &&& s = 0)) → ((dsc P y 1) &&& s < 2147483648) ∧ ((0 < ((dsc P y 1) &&& s)) ∧ (((dsc P y 1) &&& s) < 9223372036854775808) ∧ ((y < gN P) ∧ ((lsb ((dsc P y 1) &&& s)) < gR P) ∧ (((gS P y (lsb ((dsc P y 1) &&& s))) < gN P) ∧ (1 < 2) ∧ (SW G (j + 2) mX9_leastBy 12 [some (vr (49)), some (vi (((x : Nat) : Int))), some (vi (((s : Nat) : Int))), some (vi (((gS P y (lsb ((dsc P y 1) &&& s)) : Nat) : Int))), some (vi ((((dsc P (gS P y (lsb ((dsc P y 1) &&& s))) 1) &&& s : Nat) : Int)))] [] (S nw nx g, 78 + gn, c) B0 post))))))) :
    SW G (j + 2) mX9_leastBy 12 [some (vr (49)), some (vi (((x : Nat) : Int))), some (vi (((s : Nat) : Int))), some (vi (((y : Nat) : Int))), some (vi ((((dsc P y 1) &&& s : Nat) : Int)))] [] (S nw nx g, 78 + gn, c) B0 post := by
  refine sw_iload (dX9_leastBy.at 9 rfl) rfl ?_
  refine sw_ifN_eq ((dsc P y 1) &&& s) (tgt := 46) (dX9_leastBy.at 10 rfl) (by decide) hv.1 (fun q => ?_) (fun q => ?_)
  · replace hv := hv.2.1 q
    refine sw_iload_n (dX9_leastBy.at 30 rfl) rfl rfl ?_
    exact sw_iret (dX9_leastBy.at 31 rfl) rfl (Nat.le_refl _) (Nat.le_refl _) hv
  · replace hv := hv.2.2 q
    refine sw_aload_n (dX9_leastBy.at 11 rfl) rfl rfl ?_
    refine sw_getR (dX9_leastBy.at 12 rfl) fp_X9_26 (S_lt 49 (by decide)) (S_49 nw nx g) rfl rfl ?_
    refine sw_iconst (dX9_leastBy.at 13 rfl) ?_
    refine sw_iload_n (dX9_leastBy.at 14 rfl) rfl rfl ?_
    refine sw_imul (dX9_leastBy.at 15 rfl) ?_
    refine sw_topI (y := ((5 * y : Nat) : Int)) (by first | rfl | (congr 1)) ?_
    refine sw_iload (dX9_leastBy.at 16 rfl) rfl ?_
    refine sw_i2l (dX9_leastBy.at 17 rfl) (nrng hv.1) ?_
    replace hv := hv.2
    refine sw_callS (post' := post) (B' := B0) (As := [vl ((((dsc P y 1) &&& s : Nat) : Int))]) (mc := 0) (ms := 0) (dX9_leastBy.at 18 rfl) lk_X9_353 rfl rfl (Nat.le_of_ble_eq_true rfl) rfl (Nat.le_refl _) (Nat.le_refl _) ?_
    refine c_X9_leastOf (s := ((dsc P y 1) &&& s)) (j := j + 0) hv.1 hv.2.1 ?_
    replace hv := hv.2.2
    refine sw_iadd (dX9_leastBy.at 19 rfl) ?_
    refine sw_topI (y := (((5 * y) + (lsb ((dsc P y 1) &&& s)) : Nat) : Int)) (by first | rfl | (congr 1)) ?_
    refine sw_ialdN ((5 * y) + (lsb ((dsc P y 1) &&& s))) (w := ((gS P y (lsb ((dsc P y 1) &&& s)) : Nat) : Int)) (dX9_leastBy.at 20 rfl) (S_lt 54 (by decide)) (S_54 nw nx g) (by decide) (GV_5 hV hv.1 hv.2.1) (ML_S hM hv.1 hv.2.1) ?_
    replace hv := hv.2.2
    refine sw_istore_n (lo' := [some (vr (49)), some (vi (((x : Nat) : Int))), some (vi (((s : Nat) : Int))), some (vi (((gS P y (lsb ((dsc P y 1) &&& s)) : Nat) : Int))), some (vi ((((dsc P y 1) &&& s : Nat) : Int)))]) (dX9_leastBy.at 21 rfl) rfl (by decide) rfl ?_
    refine sw_aload_n (dX9_leastBy.at 22 rfl) rfl rfl ?_
    refine sw_iload_n (dX9_leastBy.at 23 rfl) rfl rfl ?_
    refine sw_iconst (dX9_leastBy.at 24 rfl) ?_
    refine sw_callV (B' := B0) (As := [vi (((gS P y (lsb ((dsc P y 1) &&& s)) : Nat) : Int)), vi (1)]) (mc := 0) (ms := 0) (dX9_leastBy.at 25 rfl) lk_X9_278 (S_lt 49 (by decide)) (S_49 nw nx g) rfl rfl (Nat.le_of_ble_eq_true rfl) rfl (Nat.le_refl _) (Nat.le_refl _) ?_
    refine c_X9_shorterBits (x := (gS P y (lsb ((dsc P y 1) &&& s)))) (sd := 1) (j := j + 0) hM hV hC hv.1 hv.2.1 ?_
    replace hv := hv.2.2
    refine sw_iload_n (dX9_leastBy.at 26 rfl) rfl rfl ?_
    refine sw_andN (dsc P (gS P y (lsb ((dsc P y 1) &&& s))) 1) s (dX9_leastBy.at 27 rfl) ?_
    refine sw_istore (lo' := [some (vr (49)), some (vi (((x : Nat) : Int))), some (vi (((s : Nat) : Int))), some (vi (((gS P y (lsb ((dsc P y 1) &&& s)) : Nat) : Int))), some (vi ((((dsc P (gS P y (lsb ((dsc P y 1) &&& s))) 1) &&& s : Nat) : Int)))]) (dX9_leastBy.at 28 rfl) (by decide) rfl ?_
    refine sw_goto (tgt := 12) (dX9_leastBy.at 29 rfl) (by decide) ?_
    exact hv

set_option maxHeartbeats 4000000 in
theorem lp_X9_leastBy_12 {G : GG} {j nw nx gn : Nat} {g : Nat → Sh} {c : Nat → Nat → Int} {post : Option AV → AM → Prop} {P : GD} {x : Nat} {s : Nat} (hM : ML c P) (hV : GV P) (hC : GC P) : ∀ (k : Nat) (y : Nat), gL P y ≤ k → (y < gN P) → (post (some (vi (((lsF P s k y : Nat) : Int)))) (S nw nx g, 78 + gn, c)) → SW G (j + 2) mX9_leastBy 12 [some (vr (49)), some (vi (((x : Nat) : Int))), some (vi (((s : Nat) : Int))), some (vi (((y : Nat) : Int))), some (vi ((((dsc P y 1) &&& s : Nat) : Int)))] [] (S nw nx g, 78 + gn, c) B0 post := by
  intro k
  induction k with
  | zero =>
    intro y hrel hy K
    have e0 := gE_0 hC hV hy (by omega) s
    rw [lsF] at K
    refine g_X9_leastBy_12 hM hV hC ?_
    simp only [dsc1]
    refine ⟨?_, ⟨fun q => ?_, fun q => ⟨?_, ⟨?_, ?_, ⟨?_, ?_, ⟨?_, ?_, ?_⟩⟩⟩⟩⟩⟩
    all_goals first | omega | exact K | (exfalso; omega)
  | succ k ih =>
    intro y hrel hy K
    rw [lsF] at K
    have f9 := (hV.2.2.1 y hy).2.2.2.2.2.1
    have e9 : gE P y &&& s ≤ gE P y := Nat.and_le_left
    refine g_X9_leastBy_12 hM hV hC ?_
    by_cases h0 : gE P y &&& s = 0
    · rw [if_pos h0] at K
      simp only [dsc1]
      refine ⟨?_, ⟨fun q => ?_, fun q => ⟨?_, ⟨?_, ?_, ⟨?_, ?_, ⟨?_, ?_, ?_⟩⟩⟩⟩⟩⟩
      all_goals first | omega | exact K | (exfalso; omega)
    · rw [if_neg h0] at K
      have l9 := lsb_and hC.1.1 hV hy h0
      have s9 := hV.2.2.2.1 y _ hy l9
      have d9 := ds_len hC hV hy h0
      have i9 := ih _ (by omega) s9 K
      simp only [dsc1] at i9 ⊢
      refine ⟨?_, ⟨fun q => ?_, fun q => ⟨?_, ⟨?_, ?_, ⟨?_, ?_, ⟨?_, ?_, ?_⟩⟩⟩⟩⟩⟩
      all_goals first | omega | exact i9 | assumption | (exfalso; omega)

set_option maxHeartbeats 2000000 in
set_option maxRecDepth 20000 in
theorem g_X9_leastBy_0 {G : GG} {j nw nx gn : Nat} {g : Nat → Sh} {c : Nat → Nat → Int} {post : Option AV → AM → Prop} {x : Nat} {s : Nat} {P : GD} (hM : ML c P) (hV : GV P) (hC : GC P)  (hv : (x < gN P) ∧ (1 < 2) ∧ (SW G (j + 2) mX9_leastBy 12 [some (vr (49)), some (vi (((x : Nat) : Int))), some (vi (((s : Nat) : Int))), some (vi (((x : Nat) : Int))), some (vi ((((dsc P x 1) &&& s : Nat) : Int)))] [] (S nw nx g, 78 + gn, c) B0 post)) :
    SW G (j + 2) mX9_leastBy 0 [some (vr (49)), some (vi (((x : Nat) : Int))), some (vi (((s : Nat) : Int))), none, none] [] (S nw nx g, 78 + gn, c) B0 post := by
  refine sw_iload_n (dX9_leastBy.at 0 rfl) rfl rfl ?_
  refine sw_istore_n (lo' := [some (vr (49)), some (vi (((x : Nat) : Int))), some (vi (((s : Nat) : Int))), some (vi (((x : Nat) : Int))), none]) (dX9_leastBy.at 1 rfl) rfl (by decide) rfl ?_
  refine sw_aload_n (dX9_leastBy.at 2 rfl) rfl rfl ?_
  refine sw_iload_n (dX9_leastBy.at 3 rfl) rfl rfl ?_
  refine sw_iconst (dX9_leastBy.at 4 rfl) ?_
  refine sw_callV (B' := B0) (As := [vi (((x : Nat) : Int)), vi (1)]) (mc := 0) (ms := 0) (dX9_leastBy.at 5 rfl) lk_X9_278 (S_lt 49 (by decide)) (S_49 nw nx g) rfl rfl (Nat.le_of_ble_eq_true rfl) rfl (Nat.le_refl _) (Nat.le_refl _) ?_
  refine c_X9_shorterBits (x := x) (sd := 1) (j := j + 0) hM hV hC hv.1 hv.2.1 ?_
  replace hv := hv.2.2
  refine sw_iload_n (dX9_leastBy.at 6 rfl) rfl rfl ?_
  refine sw_andN (dsc P x 1) s (dX9_leastBy.at 7 rfl) ?_
  refine sw_istore (lo' := [some (vr (49)), some (vi (((x : Nat) : Int))), some (vi (((s : Nat) : Int))), some (vi (((x : Nat) : Int))), some (vi ((((dsc P x 1) &&& s : Nat) : Int)))]) (dX9_leastBy.at 8 rfl) (by decide) rfl ?_
  exact hv

set_option maxHeartbeats 2000000 in
theorem c_X9_leastBy {G : GG} {j nw nx gn : Nat} {g : Nat → Sh} {c : Nat → Nat → Int} {post : Option AV → AM → Prop} {P : GD} {x : Nat} {s : Nat} (hM : ML c P) (hV : GV P) (hC : GC P) (p1 : x < gN P) (p2 : s < 2 ^ gR P) (K : post (some (vi (((lsF P s 60 x : Nat) : Int)))) (S nw nx g, 78 + gn, c)) : SM G (j + 3) mX9_leastBy [vr (49), vi (((x : Nat) : Int)), vi (((s : Nat) : Int))] (S nw nx g, 78 + gn, c) 0 0 post := by
  refine sm_of wX9_leastBy rfl (Nat.le_of_ble_eq_true rfl) ?_
  refine g_X9_leastBy_0 hM hV hC ?_
  have h13 := (hV.2.2.1 x p1).1
  refine ⟨?_, ?_, ?_⟩
  all_goals first | omega | exact lp_X9_leastBy_12 hM hV hC 60 x (by omega) p1 K

set_option maxHeartbeats 2000000 in
set_option maxRecDepth 20000 in
theorem g_X9_longestOf_13 {G : GG} {j nw nx gn : Nat} {g : Nat → Sh} {c : Nat → Nat → Int} {post : Option AV → AM → Prop} {s : Nat} {P : GD} {y : Nat} (hM : ML c P) (hV : GV P) (hC : GC P)  (hv : (andn s (dsc P y 1) < 2147483648) ∧ (((andn s (dsc P y 1) = 0) → post (some (vi (((y : Nat) : Int)))) (S nw nx g, 78 + gn, c)) ∧ ((¬ (andn s (dsc P y 1) = 0)) → (andn s (dsc P y 1) < 2147483648) ∧ ((0 < (andn s (dsc P y 1))) ∧ ((andn s (dsc P y 1)) < 9223372036854775808) ∧ ((y < gN P) ∧ ((lsb (andn s (dsc P y 1))) < gR P) ∧ (((gS P y (lsb (andn s (dsc P y 1)))) < gN P) ∧ (1 < 2) ∧ (SW G (j + 2) mX9_longestOf 13 [some (vr (49)), some (vi (((s : Nat) : Int))), some (vi (((gS P y (lsb (andn s (dsc P y 1))) : Nat) : Int))), some (vi (((andn s (dsc P (gS P y (lsb (andn s (dsc P y 1)))) 1) : Nat) : Int)))] [] (S nw nx g, 78 + gn, c) B0 post))))))) :
    SW G (j + 2) mX9_longestOf 13 [some (vr (49)), some (vi (((s : Nat) : Int))), some (vi (((y : Nat) : Int))), some (vi (((andn s (dsc P y 1) : Nat) : Int)))] [] (S nw nx g, 78 + gn, c) B0 post := by
  refine sw_iload_n (dX9_longestOf.at 11 rfl) rfl rfl ?_
  refine sw_ifN_eq (andn s (dsc P y 1)) (tgt := 46) (dX9_longestOf.at 12 rfl) (by decide) hv.1 (fun q => ?_) (fun q => ?_)
  · replace hv := hv.2.1 q
    refine sw_iload_n (dX9_longestOf.at 34 rfl) rfl rfl ?_
    exact sw_iret (dX9_longestOf.at 35 rfl) rfl (Nat.le_refl _) (Nat.le_refl _) hv
  · replace hv := hv.2.2 q
    refine sw_aload_n (dX9_longestOf.at 13 rfl) rfl rfl ?_
    refine sw_getR (dX9_longestOf.at 14 rfl) fp_X9_26 (S_lt 49 (by decide)) (S_49 nw nx g) rfl rfl ?_
    refine sw_iconst (dX9_longestOf.at 15 rfl) ?_
    refine sw_iload_n (dX9_longestOf.at 16 rfl) rfl rfl ?_
    refine sw_imul (dX9_longestOf.at 17 rfl) ?_
    refine sw_topI (y := ((5 * y : Nat) : Int)) (by first | rfl | (congr 1)) ?_
    refine sw_iload_n (dX9_longestOf.at 18 rfl) rfl rfl ?_
    refine sw_i2l (dX9_longestOf.at 19 rfl) (nrng hv.1) ?_
    replace hv := hv.2
    refine sw_callS (post' := post) (B' := B0) (As := [vl (((andn s (dsc P y 1) : Nat) : Int))]) (mc := 0) (ms := 0) (dX9_longestOf.at 20 rfl) lk_X9_353 rfl rfl (Nat.le_of_ble_eq_true rfl) rfl (Nat.le_refl _) (Nat.le_refl _) ?_
    refine c_X9_leastOf (s := (andn s (dsc P y 1))) (j := j + 0) hv.1 hv.2.1 ?_
    replace hv := hv.2.2
    refine sw_iadd (dX9_longestOf.at 21 rfl) ?_
    refine sw_topI (y := (((5 * y) + (lsb (andn s (dsc P y 1))) : Nat) : Int)) (by first | rfl | (congr 1)) ?_
    refine sw_ialdN ((5 * y) + (lsb (andn s (dsc P y 1)))) (w := ((gS P y (lsb (andn s (dsc P y 1))) : Nat) : Int)) (dX9_longestOf.at 22 rfl) (S_lt 54 (by decide)) (S_54 nw nx g) (by decide) (GV_5 hV hv.1 hv.2.1) (ML_S hM hv.1 hv.2.1) ?_
    replace hv := hv.2.2
    refine sw_istore_n (lo' := [some (vr (49)), some (vi (((s : Nat) : Int))), some (vi (((gS P y (lsb (andn s (dsc P y 1))) : Nat) : Int))), some (vi (((andn s (dsc P y 1) : Nat) : Int)))]) (dX9_longestOf.at 23 rfl) rfl (by decide) rfl ?_
    refine sw_iload_n (dX9_longestOf.at 24 rfl) rfl rfl ?_
    refine sw_aload_n (dX9_longestOf.at 25 rfl) rfl rfl ?_
    refine sw_iload_n (dX9_longestOf.at 26 rfl) rfl rfl ?_
    refine sw_iconst (dX9_longestOf.at 27 rfl) ?_
    refine sw_callV (B' := B0) (As := [vi (((gS P y (lsb (andn s (dsc P y 1))) : Nat) : Int)), vi (1)]) (mc := 0) (ms := 0) (dX9_longestOf.at 28 rfl) lk_X9_278 (S_lt 49 (by decide)) (S_49 nw nx g) rfl rfl (Nat.le_of_ble_eq_true rfl) rfl (Nat.le_refl _) (Nat.le_refl _) ?_
    refine c_X9_shorterBits (x := (gS P y (lsb (andn s (dsc P y 1))))) (sd := 1) (j := j + 0) hM hV hC hv.1 hv.2.1 ?_
    replace hv := hv.2.2
    refine sw_iconst (dX9_longestOf.at 29 rfl) ?_
    refine sw_ixor (dX9_longestOf.at 30 rfl) ?_
    refine sw_andC s (dsc P (gS P y (lsb (andn s (dsc P y 1)))) 1) (dX9_longestOf.at 31 rfl) ?_
    refine sw_istore_n (lo' := [some (vr (49)), some (vi (((s : Nat) : Int))), some (vi (((gS P y (lsb (andn s (dsc P y 1))) : Nat) : Int))), some (vi (((andn s (dsc P (gS P y (lsb (andn s (dsc P y 1)))) 1) : Nat) : Int)))]) (dX9_longestOf.at 32 rfl) rfl (by decide) rfl ?_
    refine sw_goto (tgt := 13) (dX9_longestOf.at 33 rfl) (by decide) ?_
    exact hv

set_option maxHeartbeats 4000000 in
theorem lp_X9_longestOf_13 {G : GG} {j nw nx gn : Nat} {g : Nat → Sh} {c : Nat → Nat → Int} {post : Option AV → AM → Prop} {P : GD} {s : Nat} (hM : ML c P) (hV : GV P) (hC : GC P) (hs : s < 2 ^ gR P) : ∀ (k : Nat) (y : Nat), 14 ≤ gL P y + k → (y < gN P) → (post (some (vi (((loF P s k y : Nat) : Int)))) (S nw nx g, 78 + gn, c)) → SW G (j + 2) mX9_longestOf 13 [some (vr (49)), some (vi (((s : Nat) : Int))), some (vi (((y : Nat) : Int))), some (vi (((andn s (dsc P y 1) : Nat) : Int)))] [] (S nw nx g, 78 + gn, c) B0 post := by
  intro k
  induction k with
  | zero =>
    intro y hrel hy K
    have := (hV.2.2.1 y hy).1
    omega
  | succ k ih =>
    intro y hrel hy K
    rw [loF] at K
    have h32 := p2_R hV
    have e9 := andn_le s (gE P y)
    refine g_X9_longestOf_13 hM hV hC ?_
    by_cases h0 : andn s (gE P y) = 0
    · rw [if_pos h0] at K
      simp only [dsc1]
      refine ⟨?_, ⟨fun q => ?_, fun q => ⟨?_, ⟨?_, ?_, ⟨?_, ?_, ⟨?_, ?_, ?_⟩⟩⟩⟩⟩⟩
      all_goals first | omega | exact K | (exfalso; omega)
    · rw [if_neg h0] at K
      have l9 := lsb_andn hV hs h0
      have s9 := hV.2.2.2.1 y _ hy l9
      have d9 := as_len hC hV hy hs h0
      have i9 := ih _ (by omega) s9 K
      simp only [dsc1] at i9 ⊢
      refine ⟨?_, ⟨fun q => ?_, fun q => ⟨?_, ⟨?_, ?_, ⟨?_, ?_, ⟨?_, ?_, ?_⟩⟩⟩⟩⟩⟩
      all_goals first | omega | exact i9 | assumption | (exfalso; omega)

set_option maxHeartbeats 2000000 in
set_option maxRecDepth 20000 in
theorem g_X9_longestOf_0 {G : GG} {j nw nx gn : Nat} {g : Nat → Sh} {c : Nat → Nat → Int} {post : Option AV → AM → Prop} {s : Nat} {P : GD} (hM : ML c P) (hV : GV P) (hC : GC P)  (hv : (0 < gN P) ∧ (1 < 2) ∧ (SW G (j + 2) mX9_longestOf 13 [some (vr (49)), some (vi (((s : Nat) : Int))), some (vi (0)), some (vi (((andn s (dsc P 0 1) : Nat) : Int)))] [] (S nw nx g, 78 + gn, c) B0 post)) :
    SW G (j + 2) mX9_longestOf 0 [some (vr (49)), some (vi (((s : Nat) : Int))), none, none] [] (S nw nx g, 78 + gn, c) B0 post := by
  refine sw_iconst (dX9_longestOf.at 0 rfl) ?_
  refine sw_istore_n (lo' := [some (vr (49)), some (vi (((s : Nat) : Int))), some (vi (0)), none]) (dX9_longestOf.at 1 rfl) rfl (by decide) rfl ?_
  refine sw_iload_n (dX9_longestOf.at 2 rfl) rfl rfl ?_
  refine sw_aload_n (dX9_longestOf.at 3 rfl) rfl rfl ?_
  refine sw_iload_n (dX9_longestOf.at 4 rfl) rfl rfl ?_
  refine sw_iconst (dX9_longestOf.at 5 rfl) ?_
  refine sw_callV (B' := B0) (As := [vi (0), vi (1)]) (mc := 0) (ms := 0) (dX9_longestOf.at 6 rfl) lk_X9_278 (S_lt 49 (by decide)) (S_49 nw nx g) rfl rfl (Nat.le_of_ble_eq_true rfl) rfl (Nat.le_refl _) (Nat.le_refl _) ?_
  refine c_X9_shorterBits (x := 0) (sd := 1) (j := j + 0) hM hV hC hv.1 hv.2.1 ?_
  replace hv := hv.2.2
  refine sw_iconst (dX9_longestOf.at 7 rfl) ?_
  refine sw_ixor (dX9_longestOf.at 8 rfl) ?_
  refine sw_andC s (dsc P 0 1) (dX9_longestOf.at 9 rfl) ?_
  refine sw_istore_n (lo' := [some (vr (49)), some (vi (((s : Nat) : Int))), some (vi (0)), some (vi (((andn s (dsc P 0 1) : Nat) : Int)))]) (dX9_longestOf.at 10 rfl) rfl (by decide) rfl ?_
  exact hv

set_option maxHeartbeats 2000000 in
theorem c_X9_longestOf {G : GG} {j nw nx gn : Nat} {g : Nat → Sh} {c : Nat → Nat → Int} {post : Option AV → AM → Prop} {P : GD} {s : Nat} (hM : ML c P) (hV : GV P) (hC : GC P) (p1 : 0 < gN P) (p2 : s < 2 ^ gR P) (K : post (some (vi (((loF P s 60 0 : Nat) : Int)))) (S nw nx g, 78 + gn, c)) : SM G (j + 3) mX9_longestOf [vr (49), vi (((s : Nat) : Int))] (S nw nx g, 78 + gn, c) 0 0 post := by
  refine sm_of wX9_longestOf rfl (Nat.le_of_ble_eq_true rfl) ?_
  refine g_X9_longestOf_0 hM hV hC ?_
  refine ⟨?_, ?_, ?_⟩
  all_goals first | omega | exact lp_X9_longestOf_13 hM hV hC p2 60 0 (by omega) p1 K

set_option maxHeartbeats 2000000 in
set_option maxRecDepth 20000 in
theorem g_X9_least_0n {G : GG} {j nw nx gn : Nat} {g : Nat → Sh} {c : Nat → Nat → Int} {post : Option AV → AM → Prop} {x : Nat} {s : Nat} {P : GD} (hM : ML c P) (hV : GV P) (hC : GC P)  (hv : (-2147483648 ≤ ((x : Nat) : Int) ∧ ((x : Nat) : Int) < 2147483648) ∧ ((((decide (0 ≤ ((x : Nat) : Int) ∧ ((x : Nat) : Int) < (gN P : Int))) = false) → post (some (vi ((-2)))) (S nw nx g, 78 + gn, c)) ∧ (((decide (0 ≤ ((x : Nat) : Int) ∧ ((x : Nat) : Int) < (gN P : Int))) = true) → (-2147483648 ≤ ((s : Nat) : Int) ∧ ((s : Nat) : Int) < 2147483648) ∧ ((((decide (0 < gN P ∧ 0 ≤ ((s : Nat) : Int) ∧ ((s : Nat) : Int) < ((2 ^ gR P : Nat) : Int))) = false) → post (some (vi ((-2)))) (S nw nx g, 78 + gn, c)) ∧ (((decide (0 < gN P ∧ 0 ≤ ((s : Nat) : Int) ∧ ((s : Nat) : Int) < ((2 ^ gR P : Nat) : Int))) = true) → (x < gN P) ∧ (s < 2 ^ gR P) ∧ (post (some (vi (((lsF P s 60 x : Nat) : Int)))) (S nw nx g, 78 + gn, c))))))) :
    SW G (j + 3) mX9_least 0 [some (vr (49)), some (vi (((x : Nat) : Int))), some (vi (((s : Nat) : Int)))] [] (S nw nx g, 78 + gn, c) B0 post := by
  refine sw_aload_n (dX9_least.at 0 rfl) rfl rfl ?_
  refine sw_iload_n (dX9_least.at 1 rfl) rfl rfl ?_
  refine sw_callV (B' := B0) (As := [vi (((x : Nat) : Int))]) (mc := 0) (ms := 0) (dX9_least.at 2 rfl) lk_X9_251 (S_lt 49 (by decide)) (S_49 nw nx g) rfl rfl (Nat.le_of_ble_eq_true rfl) rfl (Nat.le_refl _) (Nat.le_refl _) ?_
  refine c_X9_isElement (x := ((x : Nat) : Int)) (j := j + 1) hM hV hv.1 ?_
  replace hv := hv.2
  refine sw_if_eq (tgt := 25) (dX9_least.at 3 rfl) (by decide) (bz_rng _) (fun q => ?_) (fun q => ?_)
  · replace hv := hv.1 (bz_0 q)
    refine sw_bipush (dX9_least.at 13 rfl) (by decide) ?_
    exact sw_iret (dX9_least.at 14 rfl) rfl (Nat.le_refl _) (Nat.le_refl _) hv
  · replace hv := hv.2 (bz_n0 q)
    refine sw_aload_n (dX9_least.at 4 rfl) rfl rfl ?_
    refine sw_iload_n (dX9_least.at 5 rfl) rfl rfl ?_
    refine sw_callV (B' := B0) (As := [vi (((s : Nat) : Int))]) (mc := 0) (ms := 0) (dX9_least.at 6 rfl) lk_X9_360 (S_lt 49 (by decide)) (S_49 nw nx g) rfl rfl (Nat.le_of_ble_eq_true rfl) rfl (Nat.le_refl _) (Nat.le_refl _) ?_
    refine c_X9_isSet (x := ((s : Nat) : Int)) (j := j + 1) hM hV hv.1 ?_
    replace hv := hv.2
    refine sw_if_eq (tgt := 25) (dX9_least.at 7 rfl) (by decide) (bz_rng _) (fun q => ?_) (fun q => ?_)
    · replace hv := hv.1 (bz_0 q)
      refine sw_bipush (dX9_least.at 13 rfl) (by decide) ?_
      exact sw_iret (dX9_least.at 14 rfl) rfl (Nat.le_refl _) (Nat.le_refl _) hv
    · replace hv := hv.2 (bz_n0 q)
      refine sw_aload_n (dX9_least.at 8 rfl) rfl rfl ?_
      refine sw_iload_n (dX9_least.at 9 rfl) rfl rfl ?_
      refine sw_iload_n (dX9_least.at 10 rfl) rfl rfl ?_
      refine sw_callV (B' := B0) (As := [vi (((x : Nat) : Int)), vi (((s : Nat) : Int))]) (mc := 0) (ms := 0) (dX9_least.at 11 rfl) lk_X9_363 (S_lt 49 (by decide)) (S_49 nw nx g) rfl rfl (Nat.le_of_ble_eq_true rfl) rfl (Nat.le_refl _) (Nat.le_refl _) ?_
      refine c_X9_leastBy (x := x) (s := s) (j := j + 0) hM hV hC hv.1 hv.2.1 ?_
      replace hv := hv.2.2
      refine sw_goto (tgt := 27) (dX9_least.at 12 rfl) (by decide) ?_
      exact sw_iret (dX9_least.at 14 rfl) rfl (Nat.le_refl _) (Nat.le_refl _) hv

set_option maxHeartbeats 2000000 in
set_option maxRecDepth 20000 in
theorem g_X9_least_0 {G : GG} {j nw nx gn : Nat} {g : Nat → Sh} {c : Nat → Nat → Int} {post : Option AV → AM → Prop} {x : Int} {s : Int} {P : GD} (hM : ML c P) (hV : GV P) (hC : GC P)  (hv : (-2147483648 ≤ x ∧ x < 2147483648) ∧ ((((decide (0 ≤ x ∧ x < (gN P : Int))) = false) → post (some (vi ((-2)))) (S nw nx g, 78 + gn, c)) ∧ (((decide (0 ≤ x ∧ x < (gN P : Int))) = true) → (-2147483648 ≤ s ∧ s < 2147483648) ∧ ((((decide (0 < gN P ∧ 0 ≤ s ∧ s < ((2 ^ gR P : Nat) : Int))) = false) → post (some (vi ((-2)))) (S nw nx g, 78 + gn, c)) ∧ (((decide (0 < gN P ∧ 0 ≤ s ∧ s < ((2 ^ gR P : Nat) : Int))) = true) → SW G (j + 3) mX9_least 19 [some (vr (49)), some (vi (x)), some (vi (s))] [vi (s), vi (x), vr (49)] (S nw nx g, 78 + gn, c) B0 post))))) :
    SW G (j + 3) mX9_least 0 [some (vr (49)), some (vi (x)), some (vi (s))] [] (S nw nx g, 78 + gn, c) B0 post := by
  refine sw_aload_n (dX9_least.at 0 rfl) rfl rfl ?_
  refine sw_iload_n (dX9_least.at 1 rfl) rfl rfl ?_
  refine sw_callV (B' := B0) (As := [vi (x)]) (mc := 0) (ms := 0) (dX9_least.at 2 rfl) lk_X9_251 (S_lt 49 (by decide)) (S_49 nw nx g) rfl rfl (Nat.le_of_ble_eq_true rfl) rfl (Nat.le_refl _) (Nat.le_refl _) ?_
  refine c_X9_isElement (x := x) (j := j + 1) hM hV hv.1 ?_
  replace hv := hv.2
  refine sw_if_eq (tgt := 25) (dX9_least.at 3 rfl) (by decide) (bz_rng _) (fun q => ?_) (fun q => ?_)
  · replace hv := hv.1 (bz_0 q)
    refine sw_bipush (dX9_least.at 13 rfl) (by decide) ?_
    exact sw_iret (dX9_least.at 14 rfl) rfl (Nat.le_refl _) (Nat.le_refl _) hv
  · replace hv := hv.2 (bz_n0 q)
    refine sw_aload_n (dX9_least.at 4 rfl) rfl rfl ?_
    refine sw_iload_n (dX9_least.at 5 rfl) rfl rfl ?_
    refine sw_callV (B' := B0) (As := [vi (s)]) (mc := 0) (ms := 0) (dX9_least.at 6 rfl) lk_X9_360 (S_lt 49 (by decide)) (S_49 nw nx g) rfl rfl (Nat.le_of_ble_eq_true rfl) rfl (Nat.le_refl _) (Nat.le_refl _) ?_
    refine c_X9_isSet (x := s) (j := j + 1) hM hV hv.1 ?_
    replace hv := hv.2
    refine sw_if_eq (tgt := 25) (dX9_least.at 7 rfl) (by decide) (bz_rng _) (fun q => ?_) (fun q => ?_)
    · replace hv := hv.1 (bz_0 q)
      refine sw_bipush (dX9_least.at 13 rfl) (by decide) ?_
      exact sw_iret (dX9_least.at 14 rfl) rfl (Nat.le_refl _) (Nat.le_refl _) hv
    · replace hv := hv.2 (bz_n0 q)
      refine sw_aload_n (dX9_least.at 8 rfl) rfl rfl ?_
      refine sw_iload_n (dX9_least.at 9 rfl) rfl rfl ?_
      refine sw_iload_n (dX9_least.at 10 rfl) rfl rfl ?_
      exact hv

set_option maxHeartbeats 4000000 in
theorem c_X9_least {G : GG} {j nw nx gn : Nat} {g : Nat → Sh} {c : Nat → Nat → Int} {post : Option AV → AM → Prop} {P : GD} {x s : Int} (hM : ML c P) (hV : GV P) (hC : GC P) (p1 : -2147483648 ≤ x ∧ x < 2147483648) (p2 : -2147483648 ≤ s ∧ s < 2147483648) (K : ∀ c2 : Nat → Nat → Int, SC c c2 → post (some (vi (q_least P x s))) (S nw nx g, 78 + gn, c2)) : SM G (j + 4) mX9_least [vr (49), vi (x), vi (s)] (S nw nx g, 78 + gn, c) 0 0 post := by
  refine sm_of wX9_least rfl (Nat.le_of_ble_eq_true rfl) ?_
  have hN60 := GV_N hV
  have hR5 := GV_R hV
  by_cases hv : (0 ≤ x ∧ x < (gN P : Int)) ∧ 0 < gN P ∧ 0 ≤ s ∧ s < ((2 ^ gR P : Nat) : Int)
  · obtain ⟨x, rfl⟩ : ∃ n : Nat, x = (n : Int) := ⟨x.toNat, by omega⟩
    obtain ⟨s, rfl⟩ : ∃ n : Nat, s = (n : Int) := ⟨s.toNat, by omega⟩
    have e : q_least P ((x : Nat) : Int) ((s : Nat) : Int) = ((lsF P s 60 x : Nat) : Int) := by
      rw [q_least, if_pos hv]
      simp only [Int.toNat_natCast]
    rw [e] at K
    have K1 : ∀ (z : Int) (c2 : Nat → Nat → Int), (SC c c2) → z = (((lsF P s 60 x : Nat) : Int)) → post (some (vi z)) (S nw nx g, 78 + gn, c2) := fun z c2 h e9 => e9 ▸ K c2 h
    refine g_X9_least_0n hM hV hC ?_
    refine ⟨?_, ⟨fun q => ?_, fun q => ⟨?_, ⟨fun q => ?_, fun q => ⟨?_, ?_, ?_⟩⟩⟩⟩⟩
    all_goals first | omega | assumption | (exfalso; simp only [decide_eq_true_eq, decide_eq_false_iff_not] at *; omega) | exact K _ (by first | exact SC_rf | assumption | (refine SC_tr ?_ (by assumption); first | assumption | (refine SC_tr ?_ (by assumption); first | assumption | (refine SC_tr ?_ (by assumption); assumption)))) | (refine K1 _ _ (by first | exact SC_rf | assumption | (refine SC_tr ?_ (by assumption); first | assumption | (refine SC_tr ?_ (by assumption); first | assumption | (refine SC_tr ?_ (by assumption); assumption)))) ?_; first | rfl | (simp [bz, *]; done) | (split <;> first | rfl | omega))
  · have e : q_least P x s = (-2) := by rw [q_least, if_neg hv]
    rw [e] at K
    have K1 : ∀ (z : Int) (c2 : Nat → Nat → Int), (SC c c2) → z = ((-2)) → post (some (vi z)) (S nw nx g, 78 + gn, c2) := fun z c2 h e9 => e9 ▸ K c2 h
    refine g_X9_least_0 hM hV hC ?_
    refine ⟨?_, ⟨fun q => ?_, fun q => ⟨?_, ⟨fun q => ?_, fun q => ?_⟩⟩⟩⟩
    all_goals first | omega | assumption | (exfalso; simp only [decide_eq_true_eq, decide_eq_false_iff_not] at *; omega) | exact K _ (by first | exact SC_rf | assumption | (refine SC_tr ?_ (by assumption); first | assumption | (refine SC_tr ?_ (by assumption); first | assumption | (refine SC_tr ?_ (by assumption); assumption)))) | (refine K1 _ _ (by first | exact SC_rf | assumption | (refine SC_tr ?_ (by assumption); first | assumption | (refine SC_tr ?_ (by assumption); first | assumption | (refine SC_tr ?_ (by assumption); assumption)))) ?_; first | rfl | (simp [bz, *]; done) | (split <;> first | rfl | omega))

set_option maxHeartbeats 2000000 in
set_option maxRecDepth 20000 in
theorem g_X9_longest_0n {G : GG} {j nw nx gn : Nat} {g : Nat → Sh} {c : Nat → Nat → Int} {post : Option AV → AM → Prop} {s : Nat} {P : GD} (hM : ML c P) (hV : GV P) (hC : GC P)  (hv : (-2147483648 ≤ ((s : Nat) : Int) ∧ ((s : Nat) : Int) < 2147483648) ∧ ((((decide (0 < gN P ∧ 0 ≤ ((s : Nat) : Int) ∧ ((s : Nat) : Int) < ((2 ^ gR P : Nat) : Int))) = false) → post (some (vi ((-2)))) (S nw nx g, 78 + gn, c)) ∧ (((decide (0 < gN P ∧ 0 ≤ ((s : Nat) : Int) ∧ ((s : Nat) : Int) < ((2 ^ gR P : Nat) : Int))) = true) → (0 < gN P) ∧ (s < 2 ^ gR P) ∧ (post (some (vi (((loF P s 60 0 : Nat) : Int)))) (S nw nx g, 78 + gn, c))))) :
    SW G (j + 3) mX9_longest 0 [some (vr (49)), some (vi (((s : Nat) : Int)))] [] (S nw nx g, 78 + gn, c) B0 post := by
  refine sw_aload_n (dX9_longest.at 0 rfl) rfl rfl ?_
  refine sw_iload_n (dX9_longest.at 1 rfl) rfl rfl ?_
  refine sw_callV (B' := B0) (As := [vi (((s : Nat) : Int))]) (mc := 0) (ms := 0) (dX9_longest.at 2 rfl) lk_X9_360 (S_lt 49 (by decide)) (S_49 nw nx g) rfl rfl (Nat.le_of_ble_eq_true rfl) rfl (Nat.le_refl _) (Nat.le_refl _) ?_
  refine c_X9_isSet (x := ((s : Nat) : Int)) (j := j + 1) hM hV hv.1 ?_
  replace hv := hv.2
  refine sw_if_eq (tgt := 16) (dX9_longest.at 3 rfl) (by decide) (bz_rng _) (fun q => ?_) (fun q => ?_)
  · replace hv := hv.1 (bz_0 q)
    refine sw_bipush (dX9_longest.at 8 rfl) (by decide) ?_
    exact sw_iret (dX9_longest.at 9 rfl) rfl (Nat.le_refl _) (Nat.le_refl _) hv
  · replace hv := hv.2 (bz_n0 q)
    refine sw_aload_n (dX9_longest.at 4 rfl) rfl rfl ?_
    refine sw_iload_n (dX9_longest.at 5 rfl) rfl rfl ?_
    refine sw_callV (B' := B0) (As := [vi (((s : Nat) : Int))]) (mc := 0) (ms := 0) (dX9_longest.at 6 rfl) lk_X9_366 (S_lt 49 (by decide)) (S_49 nw nx g) rfl rfl (Nat.le_of_ble_eq_true rfl) rfl (Nat.le_refl _) (Nat.le_refl _) ?_
    refine c_X9_longestOf (s := s) (j := j + 0) hM hV hC hv.1 hv.2.1 ?_
    replace hv := hv.2.2
    refine sw_goto (tgt := 18) (dX9_longest.at 7 rfl) (by decide) ?_
    exact sw_iret (dX9_longest.at 9 rfl) rfl (Nat.le_refl _) (Nat.le_refl _) hv

set_option maxHeartbeats 2000000 in
set_option maxRecDepth 20000 in
theorem g_X9_longest_0 {G : GG} {j nw nx gn : Nat} {g : Nat → Sh} {c : Nat → Nat → Int} {post : Option AV → AM → Prop} {s : Int} {P : GD} (hM : ML c P) (hV : GV P) (hC : GC P)  (hv : (-2147483648 ≤ s ∧ s < 2147483648) ∧ ((((decide (0 < gN P ∧ 0 ≤ s ∧ s < ((2 ^ gR P : Nat) : Int))) = false) → post (some (vi ((-2)))) (S nw nx g, 78 + gn, c)) ∧ (((decide (0 < gN P ∧ 0 ≤ s ∧ s < ((2 ^ gR P : Nat) : Int))) = true) → SW G (j + 3) mX9_longest 10 [some (vr (49)), some (vi (s))] [vi (s), vr (49)] (S nw nx g, 78 + gn, c) B0 post))) :
    SW G (j + 3) mX9_longest 0 [some (vr (49)), some (vi (s))] [] (S nw nx g, 78 + gn, c) B0 post := by
  refine sw_aload_n (dX9_longest.at 0 rfl) rfl rfl ?_
  refine sw_iload_n (dX9_longest.at 1 rfl) rfl rfl ?_
  refine sw_callV (B' := B0) (As := [vi (s)]) (mc := 0) (ms := 0) (dX9_longest.at 2 rfl) lk_X9_360 (S_lt 49 (by decide)) (S_49 nw nx g) rfl rfl (Nat.le_of_ble_eq_true rfl) rfl (Nat.le_refl _) (Nat.le_refl _) ?_
  refine c_X9_isSet (x := s) (j := j + 1) hM hV hv.1 ?_
  replace hv := hv.2
  refine sw_if_eq (tgt := 16) (dX9_longest.at 3 rfl) (by decide) (bz_rng _) (fun q => ?_) (fun q => ?_)
  · replace hv := hv.1 (bz_0 q)
    refine sw_bipush (dX9_longest.at 8 rfl) (by decide) ?_
    exact sw_iret (dX9_longest.at 9 rfl) rfl (Nat.le_refl _) (Nat.le_refl _) hv
  · replace hv := hv.2 (bz_n0 q)
    refine sw_aload_n (dX9_longest.at 4 rfl) rfl rfl ?_
    refine sw_iload_n (dX9_longest.at 5 rfl) rfl rfl ?_
    exact hv

set_option maxHeartbeats 4000000 in
theorem c_X9_longest {G : GG} {j nw nx gn : Nat} {g : Nat → Sh} {c : Nat → Nat → Int} {post : Option AV → AM → Prop} {P : GD} {s : Int} (hM : ML c P) (hV : GV P) (hC : GC P) (p1 : -2147483648 ≤ s ∧ s < 2147483648) (K : ∀ c2 : Nat → Nat → Int, SC c c2 → post (some (vi (q_longest P s))) (S nw nx g, 78 + gn, c2)) : SM G (j + 4) mX9_longest [vr (49), vi (s)] (S nw nx g, 78 + gn, c) 0 0 post := by
  refine sm_of wX9_longest rfl (Nat.le_of_ble_eq_true rfl) ?_
  have hN60 := GV_N hV
  have hR5 := GV_R hV
  by_cases hv : 0 < gN P ∧ 0 ≤ s ∧ s < ((2 ^ gR P : Nat) : Int)
  · obtain ⟨s, rfl⟩ : ∃ n : Nat, s = (n : Int) := ⟨s.toNat, by omega⟩
    have e : q_longest P ((s : Nat) : Int) = ((loF P s 60 0 : Nat) : Int) := by
      rw [q_longest, if_pos hv]
      simp only [Int.toNat_natCast]
    rw [e] at K
    have K1 : ∀ (z : Int) (c2 : Nat → Nat → Int), (SC c c2) → z = (((loF P s 60 0 : Nat) : Int)) → post (some (vi z)) (S nw nx g, 78 + gn, c2) := fun z c2 h e9 => e9 ▸ K c2 h
    refine g_X9_longest_0n hM hV hC ?_
    refine ⟨?_, ⟨fun q => ?_, fun q => ⟨?_, ?_, ?_⟩⟩⟩
    all_goals first | omega | assumption | (exfalso; simp only [decide_eq_true_eq, decide_eq_false_iff_not] at *; omega) | exact K _ (by first | exact SC_rf | assumption | (refine SC_tr ?_ (by assumption); first | assumption | (refine SC_tr ?_ (by assumption); first | assumption | (refine SC_tr ?_ (by assumption); assumption)))) | (refine K1 _ _ (by first | exact SC_rf | assumption | (refine SC_tr ?_ (by assumption); first | assumption | (refine SC_tr ?_ (by assumption); first | assumption | (refine SC_tr ?_ (by assumption); assumption)))) ?_; first | rfl | (simp [bz, *]; done) | (split <;> first | rfl | omega))
  · have e : q_longest P s = (-2) := by rw [q_longest, if_neg hv]
    rw [e] at K
    have K1 : ∀ (z : Int) (c2 : Nat → Nat → Int), (SC c c2) → z = ((-2)) → post (some (vi z)) (S nw nx g, 78 + gn, c2) := fun z c2 h e9 => e9 ▸ K c2 h
    refine g_X9_longest_0 hM hV hC ?_
    refine ⟨?_, ⟨fun q => ?_, fun q => ?_⟩⟩
    all_goals first | omega | assumption | (exfalso; simp only [decide_eq_true_eq, decide_eq_false_iff_not] at *; omega) | exact K _ (by first | exact SC_rf | assumption | (refine SC_tr ?_ (by assumption); first | assumption | (refine SC_tr ?_ (by assumption); first | assumption | (refine SC_tr ?_ (by assumption); assumption)))) | (refine K1 _ _ (by first | exact SC_rf | assumption | (refine SC_tr ?_ (by assumption); first | assumption | (refine SC_tr ?_ (by assumption); first | assumption | (refine SC_tr ?_ (by assumption); assumption)))) ?_; first | rfl | (simp [bz, *]; done) | (split <;> first | rfl | omega))

def csF (P : GD) (s : Nat) (i : Int) : Nat → Nat → Nat → Int
  | 0, _, u => if i = -1 then (u : Int) else -1
  | k + 1, z, u => if gE P z &&& s = 0 then (if (u : Int) = i then (z : Int) else csF P s i k (z + 1) (u + 1)) else csF P s i k (z + 1) u
theorem csF_cnt (P : GD) (s : Nat) : ∀ k z u, csF P s (-1) k z u = ((u + cntD (pCos P s) k z : Nat) : Int) := by
  intro k
  induction k with
  | zero => intro z u; rfl
  | succ k ih =>
    intro z u
    rw [csF, cntD, if_neg (show ¬ ((u : Int) = -1) by omega), ih, ih]
    by_cases h : gE P z &&& s = 0
    · simp only [h, pCos, if_true, decide_true]; congr 1; omega
    · simp only [h, pCos, if_false, decide_false, Bool.false_eq_true]; congr 1; omega
theorem csF_kth (P : GD) (s i : Nat) : ∀ k z u, csF P s (i : Int) k z u = kthF (pCos P s) i k z u := by
  intro k
  induction k with
  | zero => intro z u; rw [csF, kthF, if_neg (by omega)]
  | succ k ih =>
    intro z u
    rw [csF, kthF, ih, ih]
    by_cases h : gE P z &&& s = 0
    · by_cases h2 : u = i
      · simp [h, pCos, h2]
      · have : ¬ ((u : Int) = (i : Int)) := by omega
        simp only [h, pCos, h2, this, if_true, if_false, decide_true]
    · simp [h, pCos]
set_option maxHeartbeats 2000000 in
set_option maxRecDepth 20000 in
theorem g_X9_cosetsOf_5 {G : GG} {j nw nx gn : Nat} {g : Nat → Sh} {c : Nat → Nat → Int} {post : Option AV → AM → Prop} {s : Nat} {i : Int} {P : GD} {z : Nat} {u : Nat} (hM : ML c P) (hV : GV P) (hC : GC P)  (hv : (z < 2147483648) ∧ (gN P < 2147483648) ∧ (((gN P ≤ z) → (-2147483648 ≤ i ∧ i < 2147483648) ∧ (((i ≠ (-1)) → post (some (vi ((-1)))) (S nw nx g, 78 + gn, c)) ∧ ((i = (-1)) → post (some (vi (((u : Nat) : Int)))) (S nw nx g, 78 + gn, c)))) ∧ ((¬ (gN P ≤ z)) → (z < gN P) ∧ (s < 2 ^ gR P) ∧ ((lsF P s 60 z < 2147483648) ∧ (z < 2147483648) ∧ (((lsF P s 60 z = z) → (u < 2147483648) ∧ (-2147483648 ≤ i ∧ i < 2147483648) ∧ (((((u : Nat) : Int) ≠ i) → SW G (j + 3) mX9_cosetsOf 5 [some (vr (49)), some (vi (((s : Nat) : Int))), some (vi (i)), some (vi (((u + 1 : Nat) : Int))), some (vi (((z + 1 : Nat) : Int)))] [] (S nw nx g, 78 + gn, c) B0 post) ∧ ((((u : Nat) : Int) = i) → post (some (vi (((z : Nat) : Int)))) (S nw nx g, 78 + gn, c)))) ∧ ((¬ (lsF P s 60 z = z)) → SW G (j + 3) mX9_cosetsOf 5 [some (vr (49)), some (vi (((s : Nat) : Int))), some (vi (i)), some (vi (((u : Nat) : Int))), some (vi (((z + 1 : Nat) : Int)))] [] (S nw nx g, 78 + gn, c) B0 post)))))) :
    SW G (j + 3) mX9_cosetsOf 5 [some (vr (49)), some (vi (((s : Nat) : Int))), some (vi (i)), some (vi (((u : Nat) : Int))), some (vi (((z : Nat) : Int)))] [] (S nw nx g, 78 + gn, c) B0 post := by
  refine sw_iload (dX9_cosetsOf.at 4 rfl) rfl ?_
  refine sw_aload_n (dX9_cosetsOf.at 5 rfl) rfl rfl ?_
  refine sw_getIE (w := ((gN P : Nat) : Int)) (dX9_cosetsOf.at 6 rfl) fp_X9_196 (S_lt 49 (by decide)) (S_49 nw nx g) rfl hM.1.2.1 ?_
  refine sw_icmpN_ge z (gN P) (tgt := 46) (dX9_cosetsOf.at 7 rfl) (by decide) hv.1 hv.2.1 (fun q => ?_) (fun q => ?_)
  · replace hv := hv.2.2.1 q
    refine sw_iload_n (dX9_cosetsOf.at 23 rfl) rfl rfl ?_
    refine sw_iconst (dX9_cosetsOf.at 24 rfl) ?_
    refine sw_icmp_ne (tgt := 55) (dX9_cosetsOf.at 25 rfl) (by decide) hv.1 (by decide) (fun q => ?_) (fun q => ?_)
    · replace hv := hv.2.1 q
      refine sw_iconst (dX9_cosetsOf.at 28 rfl) ?_
      exact sw_iret (dX9_cosetsOf.at 29 rfl) rfl (Nat.le_refl _) (Nat.le_refl _) hv
    · replace hv := hv.2.2 q
      refine sw_iload_n (dX9_cosetsOf.at 26 rfl) rfl rfl ?_
      refine sw_goto (tgt := 56) (dX9_cosetsOf.at 27 rfl) (by decide) ?_
      exact sw_iret (dX9_cosetsOf.at 29 rfl) rfl (Nat.le_refl _) (Nat.le_refl _) hv
  · replace hv := hv.2.2.2 q
    refine sw_aload_n (dX9_cosetsOf.at 8 rfl) rfl rfl ?_
    refine sw_iload (dX9_cosetsOf.at 9 rfl) rfl ?_
    refine sw_iload_n (dX9_cosetsOf.at 10 rfl) rfl rfl ?_
    refine sw_callV (B' := B0) (As := [vi (((z : Nat) : Int)), vi (((s : Nat) : Int))]) (mc := 0) (ms := 0) (dX9_cosetsOf.at 11 rfl) lk_X9_363 (S_lt 49 (by decide)) (S_49 nw nx g) rfl rfl (Nat.le_of_ble_eq_true rfl) rfl (Nat.le_refl _) (Nat.le_refl _) ?_
    refine c_X9_leastBy (x := z) (s := s) (j := j + 0) hM hV hC hv.1 hv.2.1 ?_
    replace hv := hv.2.2
    refine sw_iload (dX9_cosetsOf.at 12 rfl) rfl ?_
    refine sw_icmpN_eq (lsF P s 60 z) z (tgt := 29) (dX9_cosetsOf.at 13 rfl) (by decide) hv.1 hv.2.1 (fun q => ?_) (fun q => ?_)
    · replace hv := hv.2.2.1 q
      refine sw_iload_n (dX9_cosetsOf.at 15 rfl) rfl rfl ?_
      refine sw_iload_n (dX9_cosetsOf.at 16 rfl) rfl rfl ?_
      refine sw_icmp_ne (tgt := 37) (dX9_cosetsOf.at 17 rfl) (by decide) (nrng hv.1) hv.2.1 (fun q => ?_) (fun q => ?_)
      · replace hv := hv.2.2.1 q
        refine sw_iinc (lo' := [some (vr (49)), some (vi (((s : Nat) : Int))), some (vi (i)), some (vi (((u + 1 : Nat) : Int))), some (vi (((z : Nat) : Int)))]) (dX9_cosetsOf.at 20 rfl) rfl (by decide) rfl ?_
        refine sw_iinc (lo' := [some (vr (49)), some (vi (((s : Nat) : Int))), some (vi (i)), some (vi (((u + 1 : Nat) : Int))), some (vi (((z + 1 : Nat) : Int)))]) (dX9_cosetsOf.at 21 rfl) rfl (by decide) rfl ?_
        refine sw_goto (tgt := 5) (dX9_cosetsOf.at 22 rfl) (by decide) ?_
        exact hv
      · replace hv := hv.2.2.2 q
        refine sw_iload (dX9_cosetsOf.at 18 rfl) rfl ?_
        exact sw_iret (dX9_cosetsOf.at 19 rfl) rfl (Nat.le_refl _) (Nat.le_refl _) hv
    · replace hv := hv.2.2.2 q
      refine sw_goto (tgt := 40) (dX9_cosetsOf.at 14 rfl) (by decide) ?_
      refine sw_iinc (lo' := [some (vr (49)), some (vi (((s : Nat) : Int))), some (vi (i)), some (vi (((u : Nat) : Int))), some (vi (((z + 1 : Nat) : Int)))]) (dX9_cosetsOf.at 21 rfl) rfl (by decide) rfl ?_
      refine sw_goto (tgt := 5) (dX9_cosetsOf.at 22 rfl) (by decide) ?_
      exact hv

set_option maxHeartbeats 4000000 in
theorem lp_X9_cosetsOf_5 {G : GG} {j nw nx gn : Nat} {g : Nat → Sh} {c : Nat → Nat → Int} {post : Option AV → AM → Prop} {P : GD} {s : Nat} {i : Int} (hM : ML c P) (hV : GV P) (hC : GC P) (hs : s < 2 ^ gR P) (hi : -2147483648 ≤ i ∧ i < 2147483648) : ∀ (k : Nat) (z : Nat) (u : Nat), z + k = gN P → (u ≤ z) → (post (some (vi (csF P s i k z u))) (S nw nx g, 78 + gn, c)) → SW G (j + 3) mX9_cosetsOf 5 [some (vr (49)), some (vi (((s : Nat) : Int))), some (vi (i)), some (vi (((u : Nat) : Int))), some (vi (((z : Nat) : Int)))] [] (S nw nx g, 78 + gn, c) B0 post := by
  intro k
  induction k with
  | zero =>
    intro z u hrel hu K
    have h60 := GV_N hV
    have f9 := fun h => lsF_fix hC hV (s := s) (y := z) h
    have g9 := fun h => lsF_lt hC.1.1 hV (s := s) 60 z h
    simp only [csF] at K
    refine g_X9_cosetsOf_5 hM hV hC  ?_
    refine ⟨?_, ?_, ⟨fun q => ⟨?_, ⟨fun q => ?_, fun q => ?_⟩⟩, fun q => ⟨?_, ?_, ⟨?_, ?_, ⟨fun q => ⟨?_, ?_, ⟨fun q => ?_, fun q => ?_⟩⟩, fun q => ?_⟩⟩⟩⟩⟩
    all_goals first | omega | exact K | (exfalso; omega) | (have := g9 (by omega); omega) | (have h9 := (f9 (by omega)).mp (by assumption); rw [if_pos h9, if_pos (by assumption)] at K; exact K) | (have h9 := (f9 (by omega)).mp (by assumption); rw [if_pos h9, if_neg (by assumption)] at K; exact ih _ _ (by omega) (by omega) K) | (have h9 : ¬ (gE P z &&& s = 0) := (fun q => absurd ((f9 (by omega)).mpr q) (by assumption)); rw [if_neg h9] at K; exact ih _ _ (by omega) (by omega) K) | (rw [if_pos (by assumption)] at K; exact K) | (rw [if_neg (by assumption)] at K; exact K) | (simp only [*, if_true, if_false, ite_true, ite_false, Bool.false_eq_true, and_true, true_and, and_false, false_and, and_self, or_true, true_or, or_false, false_or, Bool.and_true, Bool.and_false, Bool.true_and, Bool.false_and, decide_true, decide_false, eq_self, not_true_eq_false, not_false_eq_true, ne_eq, reduceCtorEq] at K; exact K)
  | succ k ih =>
    intro z u hrel hu K
    have h60 := GV_N hV
    have f9 := fun h => lsF_fix hC hV (s := s) (y := z) h
    have g9 := fun h => lsF_lt hC.1.1 hV (s := s) 60 z h
    simp only [csF] at K
    refine g_X9_cosetsOf_5 hM hV hC  ?_
    refine ⟨?_, ?_, ⟨fun q => ⟨?_, ⟨fun q => ?_, fun q => ?_⟩⟩, fun q => ⟨?_, ?_, ⟨?_, ?_, ⟨fun q => ⟨?_, ?_, ⟨fun q => ?_, fun q => ?_⟩⟩, fun q => ?_⟩⟩⟩⟩⟩
    all_goals first | omega | assumption | (exfalso; omega) | (have := g9 (by omega); omega) | (have h9 := (f9 (by omega)).mp (by assumption); rw [if_pos h9, if_pos (by assumption)] at K; exact K) | (have h9 := (f9 (by omega)).mp (by assumption); rw [if_pos h9, if_neg (by assumption)] at K; exact ih _ _ (by omega) (by omega) K) | (have h9 : ¬ (gE P z &&& s = 0) := (fun q => absurd ((f9 (by omega)).mpr q) (by assumption)); rw [if_neg h9] at K; exact ih _ _ (by omega) (by omega) K) | (rw [if_pos (by assumption)] at K; exact K) | (rw [if_neg (by assumption)] at K; exact K) | (simp only [*, if_true, if_false, ite_true, ite_false, Bool.false_eq_true, and_true, true_and, and_false, false_and, and_self, or_true, true_or, or_false, false_or, Bool.and_true, Bool.and_false, Bool.true_and, Bool.false_and, decide_true, decide_false, eq_self, not_true_eq_false, not_false_eq_true, ne_eq, reduceCtorEq] at K; first | exact K | exact ih _ _ (by omega) (by first | assumption | omega) K) | exact ih _ _ (by omega) (by first | assumption | omega) K

set_option maxHeartbeats 2000000 in
set_option maxRecDepth 20000 in
theorem g_X9_cosetsOf_0 {G : GG} {j nw nx gn : Nat} {g : Nat → Sh} {c : Nat → Nat → Int} {post : Option AV → AM → Prop} {s : Nat} {i : Int}  (hv : SW G (j + 3) mX9_cosetsOf 5 [some (vr (49)), some (vi (((s : Nat) : Int))), some (vi (i)), some (vi (0)), some (vi (0))] [] (S nw nx g, 78 + gn, c) B0 post) :
    SW G (j + 3) mX9_cosetsOf 0 [some (vr (49)), some (vi (((s : Nat) : Int))), some (vi (i)), none, none] [] (S nw nx g, 78 + gn, c) B0 post := by
  refine sw_iconst (dX9_cosetsOf.at 0 rfl) ?_
  refine sw_istore_n (lo' := [some (vr (49)), some (vi (((s : Nat) : Int))), some (vi (i)), some (vi (0)), none]) (dX9_cosetsOf.at 1 rfl) rfl (by decide) rfl ?_
  refine sw_iconst (dX9_cosetsOf.at 2 rfl) ?_
  refine sw_istore (lo' := [some (vr (49)), some (vi (((s : Nat) : Int))), some (vi (i)), some (vi (0)), some (vi (0))]) (dX9_cosetsOf.at 3 rfl) (by decide) rfl ?_
  exact hv

set_option maxHeartbeats 2000000 in
theorem c_X9_cosetsOf {G : GG} {j nw nx gn : Nat} {g : Nat → Sh} {c : Nat → Nat → Int} {post : Option AV → AM → Prop} {P : GD} {s : Nat} {i : Int} (hM : ML c P) (hV : GV P) (hC : GC P) (p1 : s < 2 ^ gR P) (p2 : -2147483648 ≤ (i : Int) ∧ (i : Int) < 2147483648) (K : post (some (vi (csF P s i (gN P) 0 0))) (S nw nx g, 78 + gn, c)) : SM G (j + 4) mX9_cosetsOf [vr (49), vi (((s : Nat) : Int)), vi (i)] (S nw nx g, 78 + gn, c) 0 0 post := by
  refine sm_of wX9_cosetsOf rfl (Nat.le_of_ble_eq_true rfl) ?_
  refine g_X9_cosetsOf_0  ?_
  exact lp_X9_cosetsOf_5 hM hV hC p1 p2 (gN P) 0 0 (by omega) (by omega) K

set_option maxHeartbeats 2000000 in
set_option maxRecDepth 20000 in
theorem g_X9_cosets_0n {G : GG} {j nw nx gn : Nat} {g : Nat → Sh} {c : Nat → Nat → Int} {post : Option AV → AM → Prop} {s : Nat} {P : GD} (hM : ML c P) (hV : GV P) (hC : GC P)  (hv : (-2147483648 ≤ ((s : Nat) : Int) ∧ ((s : Nat) : Int) < 2147483648) ∧ ((((decide (0 < gN P ∧ 0 ≤ ((s : Nat) : Int) ∧ ((s : Nat) : Int) < ((2 ^ gR P : Nat) : Int))) = false) → post (some (vi ((-2)))) (S nw nx g, 78 + gn, c)) ∧ (((decide (0 < gN P ∧ 0 ≤ ((s : Nat) : Int) ∧ ((s : Nat) : Int) < ((2 ^ gR P : Nat) : Int))) = true) → (s < 2 ^ gR P) ∧ (-2147483648 ≤ ((-1) : Int) ∧ ((-1) : Int) < 2147483648) ∧ (post (some (vi (csF P s (-1) (gN P) 0 0))) (S nw nx g, 78 + gn, c))))) :
    SW G (j + 4) mX9_cosets 0 [some (vr (49)), some (vi (((s : Nat) : Int)))] [] (S nw nx g, 78 + gn, c) B0 post := by
  refine sw_aload_n (dX9_cosets.at 0 rfl) rfl rfl ?_
  refine sw_iload_n (dX9_cosets.at 1 rfl) rfl rfl ?_
  refine sw_callV (B' := B0) (As := [vi (((s : Nat) : Int))]) (mc := 0) (ms := 0) (dX9_cosets.at 2 rfl) lk_X9_360 (S_lt 49 (by decide)) (S_49 nw nx g) rfl rfl (Nat.le_of_ble_eq_true rfl) rfl (Nat.le_refl _) (Nat.le_refl _) ?_
  refine c_X9_isSet (x := ((s : Nat) : Int)) (j := j + 2) hM hV hv.1 ?_
  replace hv := hv.2
  refine sw_if_eq (tgt := 17) (dX9_cosets.at 3 rfl) (by decide) (bz_rng _) (fun q => ?_) (fun q => ?_)
  · replace hv := hv.1 (bz_0 q)
    refine sw_bipush (dX9_cosets.at 9 rfl) (by decide) ?_
    exact sw_iret (dX9_cosets.at 10 rfl) rfl (Nat.le_refl _) (Nat.le_refl _) hv
  · replace hv := hv.2 (bz_n0 q)
    refine sw_aload_n (dX9_cosets.at 4 rfl) rfl rfl ?_
    refine sw_iload_n (dX9_cosets.at 5 rfl) rfl rfl ?_
    refine sw_iconst (dX9_cosets.at 6 rfl) ?_
    refine sw_callV (B' := B0) (As := [vi (((s : Nat) : Int)), vi ((-1))]) (mc := 0) (ms := 0) (dX9_cosets.at 7 rfl) lk_X9_369 (S_lt 49 (by decide)) (S_49 nw nx g) rfl rfl (Nat.le_of_ble_eq_true rfl) rfl (Nat.le_refl _) (Nat.le_refl _) ?_
    refine c_X9_cosetsOf (s := s) (i := (-1)) (j := j + 0) hM hV hC hv.1 hv.2.1 ?_
    replace hv := hv.2.2
    refine sw_goto (tgt := 19) (dX9_cosets.at 8 rfl) (by decide) ?_
    exact sw_iret (dX9_cosets.at 10 rfl) rfl (Nat.le_refl _) (Nat.le_refl _) hv

set_option maxHeartbeats 2000000 in
set_option maxRecDepth 20000 in
theorem g_X9_cosets_0 {G : GG} {j nw nx gn : Nat} {g : Nat → Sh} {c : Nat → Nat → Int} {post : Option AV → AM → Prop} {s : Int} {P : GD} (hM : ML c P) (hV : GV P) (hC : GC P)  (hv : (-2147483648 ≤ s ∧ s < 2147483648) ∧ ((((decide (0 < gN P ∧ 0 ≤ s ∧ s < ((2 ^ gR P : Nat) : Int))) = false) → post (some (vi ((-2)))) (S nw nx g, 78 + gn, c)) ∧ (((decide (0 < gN P ∧ 0 ≤ s ∧ s < ((2 ^ gR P : Nat) : Int))) = true) → SW G (j + 4) mX9_cosets 11 [some (vr (49)), some (vi (s))] [vi ((-1)), vi (s), vr (49)] (S nw nx g, 78 + gn, c) B0 post))) :
    SW G (j + 4) mX9_cosets 0 [some (vr (49)), some (vi (s))] [] (S nw nx g, 78 + gn, c) B0 post := by
  refine sw_aload_n (dX9_cosets.at 0 rfl) rfl rfl ?_
  refine sw_iload_n (dX9_cosets.at 1 rfl) rfl rfl ?_
  refine sw_callV (B' := B0) (As := [vi (s)]) (mc := 0) (ms := 0) (dX9_cosets.at 2 rfl) lk_X9_360 (S_lt 49 (by decide)) (S_49 nw nx g) rfl rfl (Nat.le_of_ble_eq_true rfl) rfl (Nat.le_refl _) (Nat.le_refl _) ?_
  refine c_X9_isSet (x := s) (j := j + 2) hM hV hv.1 ?_
  replace hv := hv.2
  refine sw_if_eq (tgt := 17) (dX9_cosets.at 3 rfl) (by decide) (bz_rng _) (fun q => ?_) (fun q => ?_)
  · replace hv := hv.1 (bz_0 q)
    refine sw_bipush (dX9_cosets.at 9 rfl) (by decide) ?_
    exact sw_iret (dX9_cosets.at 10 rfl) rfl (Nat.le_refl _) (Nat.le_refl _) hv
  · replace hv := hv.2 (bz_n0 q)
    refine sw_aload_n (dX9_cosets.at 4 rfl) rfl rfl ?_
    refine sw_iload_n (dX9_cosets.at 5 rfl) rfl rfl ?_
    refine sw_iconst (dX9_cosets.at 6 rfl) ?_
    exact hv

set_option maxHeartbeats 4000000 in
theorem c_X9_cosets {G : GG} {j nw nx gn : Nat} {g : Nat → Sh} {c : Nat → Nat → Int} {post : Option AV → AM → Prop} {P : GD} {s : Int} (hM : ML c P) (hV : GV P) (hC : GC P) (p1 : -2147483648 ≤ s ∧ s < 2147483648) (K : ∀ c2 : Nat → Nat → Int, SC c c2 → post (some (vi (q_cosets P s))) (S nw nx g, 78 + gn, c2)) : SM G (j + 5) mX9_cosets [vr (49), vi (s)] (S nw nx g, 78 + gn, c) 0 0 post := by
  refine sm_of wX9_cosets rfl (Nat.le_of_ble_eq_true rfl) ?_
  have hN60 := GV_N hV
  have hR5 := GV_R hV
  by_cases hv : 0 < gN P ∧ 0 ≤ s ∧ s < ((2 ^ gR P : Nat) : Int)
  · obtain ⟨s, rfl⟩ : ∃ n : Nat, s = (n : Int) := ⟨s.toNat, by omega⟩
    have e : q_cosets P ((s : Nat) : Int) = ((cntU (pCos P s) (gN P) : Nat) : Int) := by
      rw [q_cosets, if_pos hv]
      simp only [Int.toNat_natCast]
    rw [e] at K
    have K1 : ∀ (z : Int) (c2 : Nat → Nat → Int), (SC c c2) → z = (((cntU (pCos P s) (gN P) : Nat) : Int)) → post (some (vi z)) (S nw nx g, 78 + gn, c2) := fun z c2 h e9 => e9 ▸ K c2 h
    refine g_X9_cosets_0n hM hV hC ?_
    refine ⟨?_, ⟨fun q => ?_, fun q => ⟨?_, ?_, ?_⟩⟩⟩
    all_goals first | omega | assumption | (exfalso; simp only [decide_eq_true_eq, decide_eq_false_iff_not] at *; omega) | (rw [csF_cnt, Nat.zero_add, cntD_U]; exact K _ SC_rf) | exact K _ (by first | exact SC_rf | assumption | (refine SC_tr ?_ (by assumption); first | assumption | (refine SC_tr ?_ (by assumption); first | assumption | (refine SC_tr ?_ (by assumption); assumption)))) | (refine K1 _ _ (by first | exact SC_rf | assumption | (refine SC_tr ?_ (by assumption); first | assumption | (refine SC_tr ?_ (by assumption); first | assumption | (refine SC_tr ?_ (by assumption); assumption)))) ?_; first | rfl | (simp [bz, *]; done) | (split <;> first | rfl | omega))
  · have e : q_cosets P s = (-2) := by rw [q_cosets, if_neg hv]
    rw [e] at K
    have K1 : ∀ (z : Int) (c2 : Nat → Nat → Int), (SC c c2) → z = ((-2)) → post (some (vi z)) (S nw nx g, 78 + gn, c2) := fun z c2 h e9 => e9 ▸ K c2 h
    refine g_X9_cosets_0 hM hV hC ?_
    refine ⟨?_, ⟨fun q => ?_, fun q => ?_⟩⟩
    all_goals first | omega | assumption | (exfalso; simp only [decide_eq_true_eq, decide_eq_false_iff_not] at *; omega) | exact K _ (by first | exact SC_rf | assumption | (refine SC_tr ?_ (by assumption); first | assumption | (refine SC_tr ?_ (by assumption); first | assumption | (refine SC_tr ?_ (by assumption); assumption)))) | (refine K1 _ _ (by first | exact SC_rf | assumption | (refine SC_tr ?_ (by assumption); first | assumption | (refine SC_tr ?_ (by assumption); first | assumption | (refine SC_tr ?_ (by assumption); assumption)))) ?_; first | rfl | (simp [bz, *]; done) | (split <;> first | rfl | omega))

set_option maxHeartbeats 2000000 in
set_option maxRecDepth 20000 in
theorem g_X9_coset_0n {G : GG} {j nw nx gn : Nat} {g : Nat → Sh} {c : Nat → Nat → Int} {post : Option AV → AM → Prop} {s : Nat} {i : Nat} {P : GD} (hM : ML c P) (hV : GV P) (hC : GC P)  (hv : (-2147483648 ≤ ((s : Nat) : Int) ∧ ((s : Nat) : Int) < 2147483648) ∧ ((((decide (0 < gN P ∧ 0 ≤ ((s : Nat) : Int) ∧ ((s : Nat) : Int) < ((2 ^ gR P : Nat) : Int))) = false) → post (some (vi ((-2)))) (S nw nx g, 78 + gn, c)) ∧ (((decide (0 < gN P ∧ 0 ≤ ((s : Nat) : Int) ∧ ((s : Nat) : Int) < ((2 ^ gR P : Nat) : Int))) = true) → (i < 2147483648) ∧ (((((i : Nat) : Int) < 0) → post (some (vi ((-2)))) (S nw nx g, 78 + gn, c)) ∧ ((¬ (((i : Nat) : Int) < 0)) → (s < 2 ^ gR P) ∧ (-2147483648 ≤ (((i : Nat) : Int) : Int) ∧ (((i : Nat) : Int) : Int) < 2147483648) ∧ (post (some (vi (csF P s ((i : Nat) : Int) (gN P) 0 0))) (S nw nx g, 78 + gn, c))))))) :
    SW G (j + 4) mX9_coset 0 [some (vr (49)), some (vi (((s : Nat) : Int))), some (vi (((i : Nat) : Int)))] [] (S nw nx g, 78 + gn, c) B0 post := by
  refine sw_aload_n (dX9_coset.at 0 rfl) rfl rfl ?_
  refine sw_iload_n (dX9_coset.at 1 rfl) rfl rfl ?_
  refine sw_callV (B' := B0) (As := [vi (((s : Nat) : Int))]) (mc := 0) (ms := 0) (dX9_coset.at 2 rfl) lk_X9_360 (S_lt 49 (by decide)) (S_49 nw nx g) rfl rfl (Nat.le_of_ble_eq_true rfl) rfl (Nat.le_refl _) (Nat.le_refl _) ?_
  refine c_X9_isSet (x := ((s : Nat) : Int)) (j := j + 2) hM hV hv.1 ?_
  replace hv := hv.2
  refine sw_if_eq (tgt := 21) (dX9_coset.at 3 rfl) (by decide) (bz_rng _) (fun q => ?_) (fun q => ?_)
  · replace hv := hv.1 (bz_0 q)
    refine sw_bipush (dX9_coset.at 11 rfl) (by decide) ?_
    exact sw_iret (dX9_coset.at 12 rfl) rfl (Nat.le_refl _) (Nat.le_refl _) hv
  · replace hv := hv.2 (bz_n0 q)
    refine sw_iload_n (dX9_coset.at 4 rfl) rfl rfl ?_
    refine sw_if_lt (tgt := 21) (dX9_coset.at 5 rfl) (by decide) (nrng hv.1) (fun q => ?_) (fun q => ?_)
    · replace hv := hv.2.1 q
      refine sw_bipush (dX9_coset.at 11 rfl) (by decide) ?_
      exact sw_iret (dX9_coset.at 12 rfl) rfl (Nat.le_refl _) (Nat.le_refl _) hv
    · replace hv := hv.2.2 q
      refine sw_aload_n (dX9_coset.at 6 rfl) rfl rfl ?_
      refine sw_iload_n (dX9_coset.at 7 rfl) rfl rfl ?_
      refine sw_iload_n (dX9_coset.at 8 rfl) rfl rfl ?_
      refine sw_callV (B' := B0) (As := [vi (((s : Nat) : Int)), vi (((i : Nat) : Int))]) (mc := 0) (ms := 0) (dX9_coset.at 9 rfl) lk_X9_369 (S_lt 49 (by decide)) (S_49 nw nx g) rfl rfl (Nat.le_of_ble_eq_true rfl) rfl (Nat.le_refl _) (Nat.le_refl _) ?_
      refine c_X9_cosetsOf (s := s) (i := ((i : Nat) : Int)) (j := j + 0) hM hV hC hv.1 hv.2.1 ?_
      replace hv := hv.2.2
      refine sw_goto (tgt := 23) (dX9_coset.at 10 rfl) (by decide) ?_
      exact sw_iret (dX9_coset.at 12 rfl) rfl (Nat.le_refl _) (Nat.le_refl _) hv

set_option maxHeartbeats 2000000 in
set_option maxRecDepth 20000 in
theorem g_X9_coset_0 {G : GG} {j nw nx gn : Nat} {g : Nat → Sh} {c : Nat → Nat → Int} {post : Option AV → AM → Prop} {s : Int} {i : Int} {P : GD} (hM : ML c P) (hV : GV P) (hC : GC P)  (hv : (-2147483648 ≤ s ∧ s < 2147483648) ∧ ((((decide (0 < gN P ∧ 0 ≤ s ∧ s < ((2 ^ gR P : Nat) : Int))) = false) → post (some (vi ((-2)))) (S nw nx g, 78 + gn, c)) ∧ (((decide (0 < gN P ∧ 0 ≤ s ∧ s < ((2 ^ gR P : Nat) : Int))) = true) → (-2147483648 ≤ i ∧ i < 2147483648) ∧ (((i < 0) → post (some (vi ((-2)))) (S nw nx g, 78 + gn, c)) ∧ ((¬ (i < 0)) → SW G (j + 4) mX9_coset 15 [some (vr (49)), some (vi (s)), some (vi (i))] [vi (i), vi (s), vr (49)] (S nw nx g, 78 + gn, c) B0 post))))) :
    SW G (j + 4) mX9_coset 0 [some (vr (49)), some (vi (s)), some (vi (i))] [] (S nw nx g, 78 + gn, c) B0 post := by
  refine sw_aload_n (dX9_coset.at 0 rfl) rfl rfl ?_
  refine sw_iload_n (dX9_coset.at 1 rfl) rfl rfl ?_
  refine sw_callV (B' := B0) (As := [vi (s)]) (mc := 0) (ms := 0) (dX9_coset.at 2 rfl) lk_X9_360 (S_lt 49 (by decide)) (S_49 nw nx g) rfl rfl (Nat.le_of_ble_eq_true rfl) rfl (Nat.le_refl _) (Nat.le_refl _) ?_
  refine c_X9_isSet (x := s) (j := j + 2) hM hV hv.1 ?_
  replace hv := hv.2
  refine sw_if_eq (tgt := 21) (dX9_coset.at 3 rfl) (by decide) (bz_rng _) (fun q => ?_) (fun q => ?_)
  · replace hv := hv.1 (bz_0 q)
    refine sw_bipush (dX9_coset.at 11 rfl) (by decide) ?_
    exact sw_iret (dX9_coset.at 12 rfl) rfl (Nat.le_refl _) (Nat.le_refl _) hv
  · replace hv := hv.2 (bz_n0 q)
    refine sw_iload_n (dX9_coset.at 4 rfl) rfl rfl ?_
    refine sw_if_lt (tgt := 21) (dX9_coset.at 5 rfl) (by decide) hv.1 (fun q => ?_) (fun q => ?_)
    · replace hv := hv.2.1 q
      refine sw_bipush (dX9_coset.at 11 rfl) (by decide) ?_
      exact sw_iret (dX9_coset.at 12 rfl) rfl (Nat.le_refl _) (Nat.le_refl _) hv
    · replace hv := hv.2.2 q
      refine sw_aload_n (dX9_coset.at 6 rfl) rfl rfl ?_
      refine sw_iload_n (dX9_coset.at 7 rfl) rfl rfl ?_
      refine sw_iload_n (dX9_coset.at 8 rfl) rfl rfl ?_
      exact hv

set_option maxHeartbeats 4000000 in
theorem c_X9_coset {G : GG} {j nw nx gn : Nat} {g : Nat → Sh} {c : Nat → Nat → Int} {post : Option AV → AM → Prop} {P : GD} {s i : Int} (hM : ML c P) (hV : GV P) (hC : GC P) (p1 : -2147483648 ≤ s ∧ s < 2147483648) (p2 : -2147483648 ≤ i ∧ i < 2147483648) (K : ∀ c2 : Nat → Nat → Int, SC c c2 → post (some (vi (q_coset P s i))) (S nw nx g, 78 + gn, c2)) : SM G (j + 5) mX9_coset [vr (49), vi (s), vi (i)] (S nw nx g, 78 + gn, c) 0 0 post := by
  refine sm_of wX9_coset rfl (Nat.le_of_ble_eq_true rfl) ?_
  have hN60 := GV_N hV
  have hR5 := GV_R hV
  by_cases hv : (0 < gN P ∧ 0 ≤ s ∧ s < ((2 ^ gR P : Nat) : Int)) ∧ 0 ≤ i
  · obtain ⟨s, rfl⟩ : ∃ n : Nat, s = (n : Int) := ⟨s.toNat, by omega⟩
    obtain ⟨i, rfl⟩ : ∃ n : Nat, i = (n : Int) := ⟨i.toNat, by omega⟩
    have e : q_coset P ((s : Nat) : Int) ((i : Nat) : Int) = kthF (pCos P s) i (gN P) 0 0 := by
      rw [q_coset, if_pos hv]
      simp only [Int.toNat_natCast]
    rw [e] at K
    have K1 : ∀ (z : Int) (c2 : Nat → Nat → Int), (SC c c2) → z = (kthF (pCos P s) i (gN P) 0 0) → post (some (vi z)) (S nw nx g, 78 + gn, c2) := fun z c2 h e9 => e9 ▸ K c2 h
    refine g_X9_coset_0n hM hV hC ?_
    refine ⟨?_, ⟨fun q => ?_, fun q => ⟨?_, ⟨fun q => ?_, fun q => ⟨?_, ?_, ?_⟩⟩⟩⟩⟩
    all_goals first | omega | assumption | (exfalso; simp only [decide_eq_true_eq, decide_eq_false_iff_not] at *; omega) | (rw [csF_kth]; exact K _ SC_rf) | exact K _ (by first | exact SC_rf | assumption | (refine SC_tr ?_ (by assumption); first | assumption | (refine SC_tr ?_ (by assumption); first | assumption | (refine SC_tr ?_ (by assumption); assumption)))) | (refine K1 _ _ (by first | exact SC_rf | assumption | (refine SC_tr ?_ (by assumption); first | assumption | (refine SC_tr ?_ (by assumption); first | assumption | (refine SC_tr ?_ (by assumption); assumption)))) ?_; first | rfl | (simp [bz, *]; done) | (split <;> first | rfl | omega))
  · have e : q_coset P s i = (-2) := by rw [q_coset, if_neg hv]
    rw [e] at K
    have K1 : ∀ (z : Int) (c2 : Nat → Nat → Int), (SC c c2) → z = ((-2)) → post (some (vi z)) (S nw nx g, 78 + gn, c2) := fun z c2 h e9 => e9 ▸ K c2 h
    refine g_X9_coset_0 hM hV hC ?_
    refine ⟨?_, ⟨fun q => ?_, fun q => ⟨?_, ⟨fun q => ?_, fun q => ?_⟩⟩⟩⟩
    all_goals first | omega | assumption | (exfalso; simp only [decide_eq_true_eq, decide_eq_false_iff_not] at *; omega) | exact K _ (by first | exact SC_rf | assumption | (refine SC_tr ?_ (by assumption); first | assumption | (refine SC_tr ?_ (by assumption); first | assumption | (refine SC_tr ?_ (by assumption); assumption)))) | (refine K1 _ _ (by first | exact SC_rf | assumption | (refine SC_tr ?_ (by assumption); first | assumption | (refine SC_tr ?_ (by assumption); first | assumption | (refine SC_tr ?_ (by assumption); assumption)))) ?_; first | rfl | (simp [bz, *]; done) | (split <;> first | rfl | omega))

