def pLay (P : GD) (k : Nat) : Nat → Bool := fun z => decide (gL P z = k)
set_option maxHeartbeats 2000000 in
set_option maxRecDepth 20000 in
theorem g_X8_layers_21 {G : GG} {j nw nx gn : Nat} {g : Nat → Sh} {c : Nat → Nat → Int} {post : Option AV → AM → Prop} {n0 : Nat} {P : GD} {z : Nat} (hnw : nw = 21 ∨ nw = 35) (hE : EL c nw P) (hV : GV P)  (hv : (z < 2147483648) ∧ (gN P < 2147483648) ∧ (((gN P ≤ z) → post (some (vi (((cntU (pLay P n0) z : Nat) : Int)))) (S nw nx g, 78 + gn, c)) ∧ ((¬ (gN P ≤ z)) → (z < gN P) ∧ ((gL P z < 2147483648) ∧ (n0 < 2147483648) ∧ (((gL P z ≠ n0) → SW G (j + 0) mX8_layers 21 [some (vr (0)), some (vi (((n0 : Nat) : Int))), some (vi (((cntU (pLay P n0) z : Nat) : Int))), some (vi (((z + 1 : Nat) : Int)))] [] (S nw nx g, 78 + gn, c) B0 post) ∧ ((gL P z = n0) → SW G (j + 0) mX8_layers 21 [some (vr (0)), some (vi (((n0 : Nat) : Int))), some (vi ((((cntU (pLay P n0) z) + 1 : Nat) : Int))), some (vi (((z + 1 : Nat) : Int)))] [] (S nw nx g, 78 + gn, c) B0 post)))))) :
    SW G (j + 0) mX8_layers 21 [some (vr (0)), some (vi (((n0 : Nat) : Int))), some (vi (((cntU (pLay P n0) z : Nat) : Int))), some (vi (((z : Nat) : Int)))] [] (S nw nx g, 78 + gn, c) B0 post := by
  refine sw_iload_n (dX8_layers.at 12 rfl) rfl rfl ?_
  refine sw_aload_n (dX8_layers.at 13 rfl) rfl rfl ?_
  refine sw_getR (dX8_layers.at 14 rfl) fp_X8_65 (S_lt 0 (by decide)) (S_0 nw nx g) rfl rfl ?_
  refine sw_getIE (w := ((gN P : Nat) : Int)) (dX8_layers.at 15 rfl) fp_X8_103 (S_e_lt hnw) (S_e hnw) rfl (EL_N hE) ?_
  refine sw_icmpN_ge z (gN P) (tgt := 54) (dX8_layers.at 16 rfl) (by decide) hv.1 hv.2.1 (fun q => ?_) (fun q => ?_)
  · replace hv := hv.2.2.1 q
    refine sw_iload_n (dX8_layers.at 27 rfl) rfl rfl ?_
    exact sw_iret (dX8_layers.at 28 rfl) rfl (Nat.le_refl _) (Nat.le_refl _) hv
  · replace hv := hv.2.2.2 q
    refine sw_aload_n (dX8_layers.at 17 rfl) rfl rfl ?_
    refine sw_getR (dX8_layers.at 18 rfl) fp_X8_65 (S_lt 0 (by decide)) (S_0 nw nx g) rfl rfl ?_
    refine sw_getR (dX8_layers.at 19 rfl) fp_X8_133 (S_e_lt hnw) (S_e hnw) rfl rfl ?_
    refine sw_iload_n (dX8_layers.at 20 rfl) rfl rfl ?_
    refine sw_ialdN z (w := ((gL P z : Nat) : Int)) (dX8_layers.at 21 rfl) (S_ek_lt hnw (by decide)) (S_e_2 hnw) (by decide) (GV_lt hV hv.1) (EL_L hE hv.1) ?_
    replace hv := hv.2
    refine sw_iload_n (dX8_layers.at 22 rfl) rfl rfl ?_
    refine sw_icmpN_ne (gL P z) n0 (tgt := 48) (dX8_layers.at 23 rfl) (by decide) hv.1 hv.2.1 (fun q => ?_) (fun q => ?_)
    · replace hv := hv.2.2.1 q
      refine sw_iinc (lo' := [some (vr (0)), some (vi (((n0 : Nat) : Int))), some (vi (((cntU (pLay P n0) z : Nat) : Int))), some (vi (((z + 1 : Nat) : Int)))]) (dX8_layers.at 25 rfl) rfl (by decide) rfl ?_
      refine sw_goto (tgt := 21) (dX8_layers.at 26 rfl) (by decide) ?_
      exact hv
    · replace hv := hv.2.2.2 q
      refine sw_iinc (lo' := [some (vr (0)), some (vi (((n0 : Nat) : Int))), some (vi ((((cntU (pLay P n0) z) + 1 : Nat) : Int))), some (vi (((z : Nat) : Int)))]) (dX8_layers.at 24 rfl) rfl (by decide) rfl ?_
      refine sw_iinc (lo' := [some (vr (0)), some (vi (((n0 : Nat) : Int))), some (vi ((((cntU (pLay P n0) z) + 1 : Nat) : Int))), some (vi (((z + 1 : Nat) : Int)))]) (dX8_layers.at 25 rfl) rfl (by decide) rfl ?_
      refine sw_goto (tgt := 21) (dX8_layers.at 26 rfl) (by decide) ?_
      exact hv

set_option maxHeartbeats 2000000 in
theorem lp_X8_layers_21 {G : GG} {j nw nx gn : Nat} {g : Nat → Sh} {c : Nat → Nat → Int} {post : Option AV → AM → Prop} {P : GD} {n0 : Nat} (hnw : nw = 21 ∨ nw = 35) (hE : EL c nw P) (hV : GV P) (hq : n0 < 2147483648) (K : post (some (vi (((cntU (pLay P n0) (gN P) : Nat) : Int)))) (S nw nx g, 78 + gn, c)) : ∀ k z : Nat, z + k = gN P → SW G (j + 0) mX8_layers 21 [some (vr (0)), some (vi (((n0 : Nat) : Int))), some (vi (((cntU (pLay P n0) z : Nat) : Int))), some (vi (((z : Nat) : Int)))] [] (S nw nx g, 78 + gn, c) B0 post := by
  intro k
  induction k with
  | zero =>
    intro z hx
    refine g_X8_layers_21 hnw hE hV ?_
    have := GV_N hV
    have hx2 : z = gN P := by omega
    subst hx2
    refine ⟨?_, ?_, ⟨fun q => ?_, fun q => ⟨?_, ⟨?_, ?_, ⟨fun q => ?_, fun q => ?_⟩⟩⟩⟩⟩
    all_goals first | exact K | omega | (exfalso; omega)
  | succ k ih =>
    intro z hx
    refine g_X8_layers_21 hnw hE hV ?_
    have := GV_N hV
    have hi := ih (z + 1) (by omega)
    simp only [cntU, pLay] at hi
    refine ⟨?_, ?_, ⟨fun q => ?_, fun q => ⟨?_, ⟨?_, ?_, ⟨fun q => ?_, fun q => ?_⟩⟩⟩⟩⟩
    all_goals first | omega | (exfalso; omega) | assumption | exact hi | (have := (hV.2.2.1 z (by omega)).1; omega) | (have h9 : gL P z = n0 := (by omega); simp only [h9, decide_true, eq_self, if_true] at hi; exact hi) | (have h9 : ¬ (gL P z = n0) := (by omega); simp only [h9, decide_false, Bool.false_eq_true, if_false] at hi; exact hi) | (simp only [*, if_true, if_false, ite_true, ite_false, Bool.false_eq_true, and_true, true_and, and_false, false_and, Bool.and_true, Bool.and_false, Bool.true_and, Bool.false_and, decide_true, decide_false] at hi; exact hi) | (simp only [*, if_true, if_false, ite_true, ite_false, Bool.false_eq_true, and_true, true_and, and_false, false_and, Bool.and_true, Bool.and_false, Bool.true_and, Bool.false_and, decide_true, decide_false] at hi ⊢; exact hi)

def q_layers (P : GD) (n0 : Int) : Int := if 0 < gN P ∧ 0 ≤ n0 then ((cntU (pLay P n0.toNat) (gN P) : Nat) : Int) else (-2)
set_option maxHeartbeats 2000000 in
set_option maxRecDepth 20000 in
theorem g_X8_layers_0n {G : GG} {j nw nx gn : Nat} {g : Nat → Sh} {c : Nat → Nat → Int} {post : Option AV → AM → Prop} {n0 : Nat} {P : GD} (hnw : nw = 21 ∨ nw = 35) (hE : EL c nw P) (hV : GV P)  (hv : (gN P < 2147483648) ∧ (((gN P = 0) → post (some (vi ((-2)))) (S nw nx g, 78 + gn, c)) ∧ ((¬ (gN P = 0)) → (n0 < 2147483648) ∧ (((0 ≤ ((n0 : Nat) : Int)) → SW G (j + 0) mX8_layers 21 [some (vr (0)), some (vi (((n0 : Nat) : Int))), some (vi (0)), some (vi (0))] [] (S nw nx g, 78 + gn, c) B0 post) ∧ ((¬ (0 ≤ ((n0 : Nat) : Int))) → post (some (vi ((-2)))) (S nw nx g, 78 + gn, c)))))) :
    SW G (j + 0) mX8_layers 0 [some (vr (0)), some (vi (((n0 : Nat) : Int))), none, none] [] (S nw nx g, 78 + gn, c) B0 post := by
  refine sw_aload_n (dX8_layers.at 0 rfl) rfl rfl ?_
  refine sw_getR (dX8_layers.at 1 rfl) fp_X8_65 (S_lt 0 (by decide)) (S_0 nw nx g) rfl rfl ?_
  refine sw_getIE (w := ((gN P : Nat) : Int)) (dX8_layers.at 2 rfl) fp_X8_103 (S_e_lt hnw) (S_e hnw) rfl (EL_N hE) ?_
  refine sw_ifN_eq (gN P) (tgt := 14) (dX8_layers.at 3 rfl) (by decide) hv.1 (fun q => ?_) (fun q => ?_)
  · replace hv := hv.2.1 q
    refine sw_bipush (dX8_layers.at 6 rfl) (by decide) ?_
    exact sw_iret (dX8_layers.at 7 rfl) rfl (Nat.le_refl _) (Nat.le_refl _) hv
  · replace hv := hv.2.2 q
    refine sw_iload_n (dX8_layers.at 4 rfl) rfl rfl ?_
    refine sw_if_ge (tgt := 17) (dX8_layers.at 5 rfl) (by decide) (nrng hv.1) (fun q => ?_) (fun q => ?_)
    · replace hv := hv.2.1 q
      refine sw_iconst (dX8_layers.at 8 rfl) ?_
      refine sw_istore_n (lo' := [some (vr (0)), some (vi (((n0 : Nat) : Int))), some (vi (0)), none]) (dX8_layers.at 9 rfl) rfl (by decide) rfl ?_
      refine sw_iconst (dX8_layers.at 10 rfl) ?_
      refine sw_istore_n (lo' := [some (vr (0)), some (vi (((n0 : Nat) : Int))), some (vi (0)), some (vi (0))]) (dX8_layers.at 11 rfl) rfl (by decide) rfl ?_
      exact hv
    · replace hv := hv.2.2 q
      refine sw_bipush (dX8_layers.at 6 rfl) (by decide) ?_
      exact sw_iret (dX8_layers.at 7 rfl) rfl (Nat.le_refl _) (Nat.le_refl _) hv

set_option maxHeartbeats 2000000 in
set_option maxRecDepth 20000 in
theorem g_X8_layers_0 {G : GG} {j nw nx gn : Nat} {g : Nat → Sh} {c : Nat → Nat → Int} {post : Option AV → AM → Prop} {n0 : Int} {P : GD} (hnw : nw = 21 ∨ nw = 35) (hE : EL c nw P) (hV : GV P)  (hv : (gN P < 2147483648) ∧ (((gN P = 0) → post (some (vi ((-2)))) (S nw nx g, 78 + gn, c)) ∧ ((¬ (gN P = 0)) → (-2147483648 ≤ n0 ∧ n0 < 2147483648) ∧ (((0 ≤ n0) → SW G (j + 0) mX8_layers 21 [some (vr (0)), some (vi (n0)), some (vi (0)), some (vi (0))] [] (S nw nx g, 78 + gn, c) B0 post) ∧ ((¬ (0 ≤ n0)) → post (some (vi ((-2)))) (S nw nx g, 78 + gn, c)))))) :
    SW G (j + 0) mX8_layers 0 [some (vr (0)), some (vi (n0)), none, none] [] (S nw nx g, 78 + gn, c) B0 post := by
  refine sw_aload_n (dX8_layers.at 0 rfl) rfl rfl ?_
  refine sw_getR (dX8_layers.at 1 rfl) fp_X8_65 (S_lt 0 (by decide)) (S_0 nw nx g) rfl rfl ?_
  refine sw_getIE (w := ((gN P : Nat) : Int)) (dX8_layers.at 2 rfl) fp_X8_103 (S_e_lt hnw) (S_e hnw) rfl (EL_N hE) ?_
  refine sw_ifN_eq (gN P) (tgt := 14) (dX8_layers.at 3 rfl) (by decide) hv.1 (fun q => ?_) (fun q => ?_)
  · replace hv := hv.2.1 q
    refine sw_bipush (dX8_layers.at 6 rfl) (by decide) ?_
    exact sw_iret (dX8_layers.at 7 rfl) rfl (Nat.le_refl _) (Nat.le_refl _) hv
  · replace hv := hv.2.2 q
    refine sw_iload_n (dX8_layers.at 4 rfl) rfl rfl ?_
    refine sw_if_ge (tgt := 17) (dX8_layers.at 5 rfl) (by decide) hv.1 (fun q => ?_) (fun q => ?_)
    · replace hv := hv.2.1 q
      refine sw_iconst (dX8_layers.at 8 rfl) ?_
      refine sw_istore_n (lo' := [some (vr (0)), some (vi (n0)), some (vi (0)), none]) (dX8_layers.at 9 rfl) rfl (by decide) rfl ?_
      refine sw_iconst (dX8_layers.at 10 rfl) ?_
      refine sw_istore_n (lo' := [some (vr (0)), some (vi (n0)), some (vi (0)), some (vi (0))]) (dX8_layers.at 11 rfl) rfl (by decide) rfl ?_
      exact hv
    · replace hv := hv.2.2 q
      refine sw_bipush (dX8_layers.at 6 rfl) (by decide) ?_
      exact sw_iret (dX8_layers.at 7 rfl) rfl (Nat.le_refl _) (Nat.le_refl _) hv

set_option maxHeartbeats 4000000 in
theorem c_X8_layers {G : GG} {j nw nx gn : Nat} {g : Nat → Sh} {c : Nat → Nat → Int} {post : Option AV → AM → Prop} {P : GD} {n0 : Int} (hnw : nw = 21 ∨ nw = 35) (hE : EL c nw P) (hV : GV P) (p1 : -2147483648 ≤ n0 ∧ n0 < 2147483648) (K : post (some (vi (q_layers P n0))) (S nw nx g, 78 + gn, c)) : SM G (j + 1) mX8_layers [vr (0), vi (n0)] (S nw nx g, 78 + gn, c) 0 0 post := by
  refine sm_of wX8_layers rfl (Nat.le_of_ble_eq_true rfl) ?_
  have hN60 := GV_N hV
  have hR5 := GV_R hV
  by_cases hv : 0 < gN P ∧ 0 ≤ n0
  · obtain ⟨n0, rfl⟩ : ∃ n : Nat, n0 = (n : Int) := ⟨n0.toNat, by omega⟩
    have e : q_layers P ((n0 : Nat) : Int) = ((cntU (pLay P n0) (gN P) : Nat) : Int) := by
      rw [q_layers, if_pos hv]
      simp only [Int.toNat_natCast]
    rw [e] at K
    have K1 : ∀ z : Int, z = (((cntU (pLay P n0) (gN P) : Nat) : Int)) → post (some (vi z)) (S nw nx g, 78 + gn, c) := fun z h => h ▸ K
    refine g_X8_layers_0n hnw hE hV ?_
    refine ⟨?_, ⟨fun q => ?_, fun q => ⟨?_, ⟨fun q => ?_, fun q => ?_⟩⟩⟩⟩
    all_goals first | exact lp_X8_layers_21 hnw hE hV (by omega) K (gN P) 0 (by omega) | omega | assumption | (exfalso; simp only [decide_eq_true_eq, decide_eq_false_iff_not] at *; omega)
  · have e : q_layers P n0 = (-2) := by rw [q_layers, if_neg hv]
    rw [e] at K
    refine g_X8_layers_0 hnw hE hV ?_
    refine ⟨?_, ⟨fun q => ?_, fun q => ⟨?_, ⟨fun q => ?_, fun q => ?_⟩⟩⟩⟩
    all_goals first | exact K | omega | assumption | (exfalso; simp only [decide_eq_true_eq, decide_eq_false_iff_not] at *; omega)

def pCos (P : GD) (s : Nat) : Nat → Bool := fun z => decide (gE P z &&& s = 0)
theorem and_small {a b : Nat} (h : a < 32) : a &&& b < 2147483648 := Nat.lt_of_le_of_lt Nat.and_le_left (by omega)
set_option maxHeartbeats 2000000 in
set_option maxRecDepth 20000 in
theorem g_X8_cosets_15 {G : GG} {j nw nx gn : Nat} {g : Nat → Sh} {c : Nat → Nat → Int} {post : Option AV → AM → Prop} {s : Nat} {P : GD} {z : Nat} (hnw : nw = 21 ∨ nw = 35) (hE : EL c nw P) (hV : GV P)  (hv : (z < 2147483648) ∧ (gN P < 2147483648) ∧ (((gN P ≤ z) → post (some (vi (((cntU (pCos P s) z : Nat) : Int)))) (S nw nx g, 78 + gn, c)) ∧ ((¬ (gN P ≤ z)) → (z < gN P) ∧ (((gE P z) &&& s < 2147483648) ∧ ((((gE P z) &&& s ≠ 0) → SW G (j + 1) mX8_cosets 15 [some (vr (0)), some (vi (((s : Nat) : Int))), some (vi (((cntU (pCos P s) z : Nat) : Int))), some (vi (((z + 1 : Nat) : Int)))] [] (S nw nx g, 78 + gn, c) B0 post) ∧ (((gE P z) &&& s = 0) → SW G (j + 1) mX8_cosets 15 [some (vr (0)), some (vi (((s : Nat) : Int))), some (vi ((((cntU (pCos P s) z) + 1 : Nat) : Int))), some (vi (((z + 1 : Nat) : Int)))] [] (S nw nx g, 78 + gn, c) B0 post)))))) :
    SW G (j + 1) mX8_cosets 15 [some (vr (0)), some (vi (((s : Nat) : Int))), some (vi (((cntU (pCos P s) z : Nat) : Int))), some (vi (((z : Nat) : Int)))] [] (S nw nx g, 78 + gn, c) B0 post := by
  refine sw_iload_n (dX8_cosets.at 10 rfl) rfl rfl ?_
  refine sw_aload_n (dX8_cosets.at 11 rfl) rfl rfl ?_
  refine sw_getR (dX8_cosets.at 12 rfl) fp_X8_65 (S_lt 0 (by decide)) (S_0 nw nx g) rfl rfl ?_
  refine sw_getIE (w := ((gN P : Nat) : Int)) (dX8_cosets.at 13 rfl) fp_X8_103 (S_e_lt hnw) (S_e hnw) rfl (EL_N hE) ?_
  refine sw_icmpN_ge z (gN P) (tgt := 49) (dX8_cosets.at 14 rfl) (by decide) hv.1 hv.2.1 (fun q => ?_) (fun q => ?_)
  · replace hv := hv.2.2.1 q
    refine sw_iload_n (dX8_cosets.at 26 rfl) rfl rfl ?_
    exact sw_iret (dX8_cosets.at 27 rfl) rfl (Nat.le_refl _) (Nat.le_refl _) hv
  · replace hv := hv.2.2.2 q
    refine sw_aload_n (dX8_cosets.at 15 rfl) rfl rfl ?_
    refine sw_getR (dX8_cosets.at 16 rfl) fp_X8_65 (S_lt 0 (by decide)) (S_0 nw nx g) rfl rfl ?_
    refine sw_getR (dX8_cosets.at 17 rfl) fp_X8_261 (S_e_lt hnw) (S_e hnw) rfl rfl ?_
    refine sw_iload_n (dX8_cosets.at 18 rfl) rfl rfl ?_
    refine sw_ialdN z (w := ((gE P z : Nat) : Int)) (dX8_cosets.at 19 rfl) (S_ek_lt hnw (by decide)) (S_e_9 hnw) (by decide) (GV_lt hV hv.1) (EL_E hE hv.1) ?_
    replace hv := hv.2
    refine sw_iload_n (dX8_cosets.at 20 rfl) rfl rfl ?_
    refine sw_andN (gE P z) s (dX8_cosets.at 21 rfl) ?_
    refine sw_ifN_ne ((gE P z) &&& s) (tgt := 43) (dX8_cosets.at 22 rfl) (by decide) hv.1 (fun q => ?_) (fun q => ?_)
    · replace hv := hv.2.1 q
      refine sw_iinc (lo' := [some (vr (0)), some (vi (((s : Nat) : Int))), some (vi (((cntU (pCos P s) z : Nat) : Int))), some (vi (((z + 1 : Nat) : Int)))]) (dX8_cosets.at 24 rfl) rfl (by decide) rfl ?_
      refine sw_goto (tgt := 15) (dX8_cosets.at 25 rfl) (by decide) ?_
      exact hv
    · replace hv := hv.2.2 q
      refine sw_iinc (lo' := [some (vr (0)), some (vi (((s : Nat) : Int))), some (vi ((((cntU (pCos P s) z) + 1 : Nat) : Int))), some (vi (((z : Nat) : Int)))]) (dX8_cosets.at 23 rfl) rfl (by decide) rfl ?_
      refine sw_iinc (lo' := [some (vr (0)), some (vi (((s : Nat) : Int))), some (vi ((((cntU (pCos P s) z) + 1 : Nat) : Int))), some (vi (((z + 1 : Nat) : Int)))]) (dX8_cosets.at 24 rfl) rfl (by decide) rfl ?_
      refine sw_goto (tgt := 15) (dX8_cosets.at 25 rfl) (by decide) ?_
      exact hv

set_option maxHeartbeats 2000000 in
theorem lp_X8_cosets_15 {G : GG} {j nw nx gn : Nat} {g : Nat → Sh} {c : Nat → Nat → Int} {post : Option AV → AM → Prop} {P : GD} {s : Nat} (hnw : nw = 21 ∨ nw = 35) (hE : EL c nw P) (hV : GV P) (K : post (some (vi (((cntU (pCos P s) (gN P) : Nat) : Int)))) (S nw nx g, 78 + gn, c)) : ∀ k z : Nat, z + k = gN P → SW G (j + 1) mX8_cosets 15 [some (vr (0)), some (vi (((s : Nat) : Int))), some (vi (((cntU (pCos P s) z : Nat) : Int))), some (vi (((z : Nat) : Int)))] [] (S nw nx g, 78 + gn, c) B0 post := by
  intro k
  induction k with
  | zero =>
    intro z hx
    refine g_X8_cosets_15 hnw hE hV ?_
    have := GV_N hV
    have := GV_R hV
    have hx2 : z = gN P := by omega
    subst hx2
    refine ⟨?_, ?_, ⟨fun q => ?_, fun q => ⟨?_, ⟨?_, ⟨fun q => ?_, fun q => ?_⟩⟩⟩⟩⟩
    all_goals first | exact K | omega | (exfalso; omega)
  | succ k ih =>
    intro z hx
    refine g_X8_cosets_15 hnw hE hV ?_
    have := GV_N hV
    have := GV_R hV
    have hi := ih (z + 1) (by omega)
    simp only [cntU, pCos] at hi
    refine ⟨?_, ?_, ⟨fun q => ?_, fun q => ⟨?_, ⟨?_, ⟨fun q => ?_, fun q => ?_⟩⟩⟩⟩⟩
    all_goals first | omega | (exfalso; omega) | assumption | exact hi | exact and_small (hV.2.2.1 z (by omega)).2.2.2.2.2.1 | (simp only [*, if_true, if_false, ite_true, ite_false, Bool.false_eq_true, and_true, true_and, and_false, false_and, Bool.and_true, Bool.and_false, Bool.true_and, Bool.false_and, decide_true, decide_false] at hi; exact hi) | (simp only [*, if_true, if_false, ite_true, ite_false, Bool.false_eq_true, and_true, true_and, and_false, false_and, Bool.and_true, Bool.and_false, Bool.true_and, Bool.false_and, decide_true, decide_false] at hi ⊢; exact hi)

def q_cosets (P : GD) (s : Int) : Int := if 0 < gN P ∧ 0 ≤ s ∧ s < ((2 ^ gR P : Nat) : Int) then ((cntU (pCos P s.toNat) (gN P) : Nat) : Int) else (-2)
set_option maxHeartbeats 2000000 in
set_option maxRecDepth 20000 in
theorem g_X8_cosets_0n {G : GG} {j nw nx gn : Nat} {g : Nat → Sh} {c : Nat → Nat → Int} {post : Option AV → AM → Prop} {s : Nat} {P : GD} (hnw : nw = 21 ∨ nw = 35) (hE : EL c nw P) (hV : GV P)  (hv : (-2147483648 ≤ ((s : Nat) : Int) ∧ ((s : Nat) : Int) < 2147483648) ∧ ((((decide (0 < gN P ∧ 0 ≤ ((s : Nat) : Int) ∧ ((s : Nat) : Int) < ((2 ^ gR P : Nat) : Int))) = true) → SW G (j + 1) mX8_cosets 15 [some (vr (0)), some (vi (((s : Nat) : Int))), some (vi (0)), some (vi (0))] [] (S nw nx g, 78 + gn, c) B0 post) ∧ (((decide (0 < gN P ∧ 0 ≤ ((s : Nat) : Int) ∧ ((s : Nat) : Int) < ((2 ^ gR P : Nat) : Int))) = false) → post (some (vi ((-2)))) (S nw nx g, 78 + gn, c)))) :
    SW G (j + 1) mX8_cosets 0 [some (vr (0)), some (vi (((s : Nat) : Int))), none, none] [] (S nw nx g, 78 + gn, c) B0 post := by
  refine sw_aload_n (dX8_cosets.at 0 rfl) rfl rfl ?_
  refine sw_iload_n (dX8_cosets.at 1 rfl) rfl rfl ?_
  refine sw_callV (B' := B0) (As := [vi (((s : Nat) : Int))]) (mc := 0) (ms := 0) (dX8_cosets.at 2 rfl) lk_X8_258 (S_lt 0 (by decide)) (S_0 nw nx g) rfl rfl (Nat.le_of_ble_eq_true rfl) rfl (Nat.le_refl _) (Nat.le_refl _) ?_
  refine c_X8_isSet (x := ((s : Nat) : Int)) (j := j + 0) hnw hE hV hv.1 ?_
  replace hv := hv.2
  refine sw_if_ne (tgt := 11) (dX8_cosets.at 3 rfl) (by decide) (bz_rng _) (fun q => ?_) (fun q => ?_)
  · replace hv := hv.1 (bz_1 q)
    refine sw_iconst (dX8_cosets.at 6 rfl) ?_
    refine sw_istore_n (lo' := [some (vr (0)), some (vi (((s : Nat) : Int))), some (vi (0)), none]) (dX8_cosets.at 7 rfl) rfl (by decide) rfl ?_
    refine sw_iconst (dX8_cosets.at 8 rfl) ?_
    refine sw_istore_n (lo' := [some (vr (0)), some (vi (((s : Nat) : Int))), some (vi (0)), some (vi (0))]) (dX8_cosets.at 9 rfl) rfl (by decide) rfl ?_
    exact hv
  · replace hv := hv.2 (bz_n1 q)
    refine sw_bipush (dX8_cosets.at 4 rfl) (by decide) ?_
    exact sw_iret (dX8_cosets.at 5 rfl) rfl (Nat.le_refl _) (Nat.le_refl _) hv

set_option maxHeartbeats 2000000 in
set_option maxRecDepth 20000 in
theorem g_X8_cosets_0 {G : GG} {j nw nx gn : Nat} {g : Nat → Sh} {c : Nat → Nat → Int} {post : Option AV → AM → Prop} {s : Int} {P : GD} (hnw : nw = 21 ∨ nw = 35) (hE : EL c nw P) (hV : GV P)  (hv : (-2147483648 ≤ s ∧ s < 2147483648) ∧ ((((decide (0 < gN P ∧ 0 ≤ s ∧ s < ((2 ^ gR P : Nat) : Int))) = true) → SW G (j + 1) mX8_cosets 15 [some (vr (0)), some (vi (s)), some (vi (0)), some (vi (0))] [] (S nw nx g, 78 + gn, c) B0 post) ∧ (((decide (0 < gN P ∧ 0 ≤ s ∧ s < ((2 ^ gR P : Nat) : Int))) = false) → post (some (vi ((-2)))) (S nw nx g, 78 + gn, c)))) :
    SW G (j + 1) mX8_cosets 0 [some (vr (0)), some (vi (s)), none, none] [] (S nw nx g, 78 + gn, c) B0 post := by
  refine sw_aload_n (dX8_cosets.at 0 rfl) rfl rfl ?_
  refine sw_iload_n (dX8_cosets.at 1 rfl) rfl rfl ?_
  refine sw_callV (B' := B0) (As := [vi (s)]) (mc := 0) (ms := 0) (dX8_cosets.at 2 rfl) lk_X8_258 (S_lt 0 (by decide)) (S_0 nw nx g) rfl rfl (Nat.le_of_ble_eq_true rfl) rfl (Nat.le_refl _) (Nat.le_refl _) ?_
  refine c_X8_isSet (x := s) (j := j + 0) hnw hE hV hv.1 ?_
  replace hv := hv.2
  refine sw_if_ne (tgt := 11) (dX8_cosets.at 3 rfl) (by decide) (bz_rng _) (fun q => ?_) (fun q => ?_)
  · replace hv := hv.1 (bz_1 q)
    refine sw_iconst (dX8_cosets.at 6 rfl) ?_
    refine sw_istore_n (lo' := [some (vr (0)), some (vi (s)), some (vi (0)), none]) (dX8_cosets.at 7 rfl) rfl (by decide) rfl ?_
    refine sw_iconst (dX8_cosets.at 8 rfl) ?_
    refine sw_istore_n (lo' := [some (vr (0)), some (vi (s)), some (vi (0)), some (vi (0))]) (dX8_cosets.at 9 rfl) rfl (by decide) rfl ?_
    exact hv
  · replace hv := hv.2 (bz_n1 q)
    refine sw_bipush (dX8_cosets.at 4 rfl) (by decide) ?_
    exact sw_iret (dX8_cosets.at 5 rfl) rfl (Nat.le_refl _) (Nat.le_refl _) hv

set_option maxHeartbeats 4000000 in
theorem c_X8_cosets {G : GG} {j nw nx gn : Nat} {g : Nat → Sh} {c : Nat → Nat → Int} {post : Option AV → AM → Prop} {P : GD} {s : Int} (hnw : nw = 21 ∨ nw = 35) (hE : EL c nw P) (hV : GV P) (p1 : -2147483648 ≤ s ∧ s < 2147483648) (K : post (some (vi (q_cosets P s))) (S nw nx g, 78 + gn, c)) : SM G (j + 2) mX8_cosets [vr (0), vi (s)] (S nw nx g, 78 + gn, c) 0 0 post := by
  refine sm_of wX8_cosets rfl (Nat.le_of_ble_eq_true rfl) ?_
  have hN60 := GV_N hV
  have hR5 := GV_R hV
  by_cases hv : 0 < gN P ∧ 0 ≤ s ∧ s < ((2 ^ gR P : Nat) : Int)
  · obtain ⟨s, rfl⟩ : ∃ n : Nat, s = (n : Int) := ⟨s.toNat, by omega⟩
    have e : q_cosets P ((s : Nat) : Int) = ((cntU (pCos P s) (gN P) : Nat) : Int) := by
      rw [q_cosets, if_pos hv]
      simp only [Int.toNat_natCast]
    rw [e] at K
    have K1 : ∀ z : Int, z = (((cntU (pCos P s) (gN P) : Nat) : Int)) → post (some (vi z)) (S nw nx g, 78 + gn, c) := fun z h => h ▸ K
    refine g_X8_cosets_0n hnw hE hV ?_
    refine ⟨?_, ⟨fun q => ?_, fun q => ?_⟩⟩
    all_goals first | exact lp_X8_cosets_15 hnw hE hV  K (gN P) 0 (by omega) | omega | assumption | (exfalso; simp only [decide_eq_true_eq, decide_eq_false_iff_not] at *; omega)
  · have e : q_cosets P s = (-2) := by rw [q_cosets, if_neg hv]
    rw [e] at K
    refine g_X8_cosets_0 hnw hE hV ?_
    refine ⟨?_, ⟨fun q => ?_, fun q => ?_⟩⟩
    all_goals first | exact K | omega | assumption | (exfalso; simp only [decide_eq_true_eq, decide_eq_false_iff_not] at *; omega)

def pWm (P : GD) (x sd : Nat) : Nat → Bool := fun z => gWk P z x sd
set_option maxHeartbeats 2000000 in
set_option maxRecDepth 20000 in
theorem g_X8_weakMany_23 {G : GG} {j nw nx gn : Nat} {g : Nat → Sh} {c : Nat → Nat → Int} {post : Option AV → AM → Prop} {x : Nat} {sd : Nat} {P : GD} {z : Nat} (hnw : nw = 21 ∨ nw = 35) (hE : EL c nw P) (hV : GV P)  (hv : (z < 2147483648) ∧ (gN P < 2147483648) ∧ (((gN P ≤ z) → post (some (vi (((cntU (pWm P x sd) z : Nat) : Int)))) (S nw nx g, 78 + gn, c)) ∧ ((¬ (gN P ≤ z)) → (z < gN P) ∧ (x < gN P) ∧ (sd < 2) ∧ ((((gWk P z x sd) = false) → SW G (j + 2) mX8_weakMany 23 [some (vr (0)), some (vi (((x : Nat) : Int))), some (vi (((sd : Nat) : Int))), some (vi (((cntU (pWm P x sd) z : Nat) : Int))), some (vi (((z + 1 : Nat) : Int)))] [] (S nw nx g, 78 + gn, c) B0 post) ∧ (((gWk P z x sd) = true) → SW G (j + 2) mX8_weakMany 23 [some (vr (0)), some (vi (((x : Nat) : Int))), some (vi (((sd : Nat) : Int))), some (vi ((((cntU (pWm P x sd) z) + 1 : Nat) : Int))), some (vi (((z + 1 : Nat) : Int)))] [] (S nw nx g, 78 + gn, c) B0 post))))) :
    SW G (j + 2) mX8_weakMany 23 [some (vr (0)), some (vi (((x : Nat) : Int))), some (vi (((sd : Nat) : Int))), some (vi (((cntU (pWm P x sd) z : Nat) : Int))), some (vi (((z : Nat) : Int)))] [] (S nw nx g, 78 + gn, c) B0 post := by
  refine sw_iload (dX8_weakMany.at 13 rfl) rfl ?_
  refine sw_aload_n (dX8_weakMany.at 14 rfl) rfl rfl ?_
  refine sw_getR (dX8_weakMany.at 15 rfl) fp_X8_65 (S_lt 0 (by decide)) (S_0 nw nx g) rfl rfl ?_
  refine sw_getIE (w := ((gN P : Nat) : Int)) (dX8_weakMany.at 16 rfl) fp_X8_103 (S_e_lt hnw) (S_e hnw) rfl (EL_N hE) ?_
  refine sw_icmpN_ge z (gN P) (tgt := 58) (dX8_weakMany.at 17 rfl) (by decide) hv.1 hv.2.1 (fun q => ?_) (fun q => ?_)
  · replace hv := hv.2.2.1 q
    refine sw_iload_n (dX8_weakMany.at 28 rfl) rfl rfl ?_
    exact sw_iret (dX8_weakMany.at 29 rfl) rfl (Nat.le_refl _) (Nat.le_refl _) hv
  · replace hv := hv.2.2.2 q
    refine sw_aload_n (dX8_weakMany.at 18 rfl) rfl rfl ?_
    refine sw_getR (dX8_weakMany.at 19 rfl) fp_X8_65 (S_lt 0 (by decide)) (S_0 nw nx g) rfl rfl ?_
    refine sw_iload (dX8_weakMany.at 20 rfl) rfl ?_
    refine sw_iload_n (dX8_weakMany.at 21 rfl) rfl rfl ?_
    refine sw_iload_n (dX8_weakMany.at 22 rfl) rfl rfl ?_
    refine sw_callV (B' := B0) (As := [vi (((z : Nat) : Int)), vi (((x : Nat) : Int)), vi (((sd : Nat) : Int))]) (mc := 0) (ms := 0) (dX8_weakMany.at 23 rfl) lk_X8_275 (S_e_lt hnw) (S_e hnw) rfl rfl (Nat.le_of_ble_eq_true rfl) rfl (Nat.le_refl _) (Nat.le_refl _) ?_
    refine c_X1_isWeaklyBelow (e := nw) (v := z) (w := x) (sd := sd) (j := j + 0) hnw hE hV hv.1 hv.2.1 hv.2.2.1 ?_
    replace hv := hv.2.2.2
    refine sw_if_eq (tgt := 52) (dX8_weakMany.at 24 rfl) (by decide) (bz_rng _) (fun q => ?_) (fun q => ?_)
    · replace hv := hv.1 (bz_0 q)
      refine sw_iinc (lo' := [some (vr (0)), some (vi (((x : Nat) : Int))), some (vi (((sd : Nat) : Int))), some (vi (((cntU (pWm P x sd) z : Nat) : Int))), some (vi (((z + 1 : Nat) : Int)))]) (dX8_weakMany.at 26 rfl) rfl (by decide) rfl ?_
      refine sw_goto (tgt := 23) (dX8_weakMany.at 27 rfl) (by decide) ?_
      exact hv
    · replace hv := hv.2 (bz_n0 q)
      refine sw_iinc (lo' := [some (vr (0)), some (vi (((x : Nat) : Int))), some (vi (((sd : Nat) : Int))), some (vi ((((cntU (pWm P x sd) z) + 1 : Nat) : Int))), some (vi (((z : Nat) : Int)))]) (dX8_weakMany.at 25 rfl) rfl (by decide) rfl ?_
      refine sw_iinc (lo' := [some (vr (0)), some (vi (((x : Nat) : Int))), some (vi (((sd : Nat) : Int))), some (vi ((((cntU (pWm P x sd) z) + 1 : Nat) : Int))), some (vi (((z + 1 : Nat) : Int)))]) (dX8_weakMany.at 26 rfl) rfl (by decide) rfl ?_
      refine sw_goto (tgt := 23) (dX8_weakMany.at 27 rfl) (by decide) ?_
      exact hv

set_option maxHeartbeats 2000000 in
theorem lp_X8_weakMany_23 {G : GG} {j nw nx gn : Nat} {g : Nat → Sh} {c : Nat → Nat → Int} {post : Option AV → AM → Prop} {P : GD} {x : Nat} {sd : Nat} (hnw : nw = 21 ∨ nw = 35) (hE : EL c nw P) (hV : GV P) (hx0 : x < gN P) (hsd : sd < 2) (K : post (some (vi (((cntU (pWm P x sd) (gN P) : Nat) : Int)))) (S nw nx g, 78 + gn, c)) : ∀ k z : Nat, z + k = gN P → SW G (j + 2) mX8_weakMany 23 [some (vr (0)), some (vi (((x : Nat) : Int))), some (vi (((sd : Nat) : Int))), some (vi (((cntU (pWm P x sd) z : Nat) : Int))), some (vi (((z : Nat) : Int)))] [] (S nw nx g, 78 + gn, c) B0 post := by
  intro k
  induction k with
  | zero =>
    intro z hx
    refine g_X8_weakMany_23 hnw hE hV ?_
    have := GV_N hV
    have := GV_R hV
    have hx2 : z = gN P := by omega
    subst hx2
    refine ⟨?_, ?_, ⟨fun q => ?_, fun q => ⟨?_, ?_, ?_, ⟨fun q => ?_, fun q => ?_⟩⟩⟩⟩
    all_goals first | exact K | omega | (exfalso; omega)
  | succ k ih =>
    intro z hx
    refine g_X8_weakMany_23 hnw hE hV ?_
    have := GV_N hV
    have := GV_R hV
    have hi := ih (z + 1) (by omega)
    simp only [cntU, pWm] at hi
    refine ⟨?_, ?_, ⟨fun q => ?_, fun q => ⟨?_, ?_, ?_, ⟨fun q => ?_, fun q => ?_⟩⟩⟩⟩
    all_goals first | omega | (exfalso; omega) | assumption | exact hi | (simp only [*, if_true, if_false, ite_true, ite_false, Bool.false_eq_true, and_true, true_and, and_false, false_and, Bool.and_true, Bool.and_false, Bool.true_and, Bool.false_and, decide_true, decide_false] at hi; exact hi) | (simp only [*, if_true, if_false, ite_true, ite_false, Bool.false_eq_true, and_true, true_and, and_false, false_and, Bool.and_true, Bool.and_false, Bool.true_and, Bool.false_and, decide_true, decide_false] at hi ⊢; exact hi)

def q_weakMany (P : GD) (x sd : Int) : Int := if 0 ≤ x ∧ x < (gN P : Int) ∧ 0 ≤ sd ∧ sd < 2 then ((cntU (pWm P x.toNat sd.toNat) (gN P) : Nat) : Int) else (-2)
set_option maxHeartbeats 2000000 in
set_option maxRecDepth 20000 in
theorem g_X8_weakMany_0n {G : GG} {j nw nx gn : Nat} {g : Nat → Sh} {c : Nat → Nat → Int} {post : Option AV → AM → Prop} {x : Nat} {sd : Nat} {P : GD} (hnw : nw = 21 ∨ nw = 35) (hE : EL c nw P) (hV : GV P)  (hv : (-2147483648 ≤ ((x : Nat) : Int) ∧ ((x : Nat) : Int) < 2147483648) ∧ ((((decide (0 ≤ ((x : Nat) : Int) ∧ ((x : Nat) : Int) < (gN P : Int))) = false) → post (some (vi ((-2)))) (S nw nx g, 78 + gn, c)) ∧ (((decide (0 ≤ ((x : Nat) : Int) ∧ ((x : Nat) : Int) < (gN P : Int))) = true) → (-2147483648 ≤ ((sd : Nat) : Int) ∧ ((sd : Nat) : Int) < 2147483648) ∧ ((((decide (((sd : Nat) : Int) = 0 ∨ ((sd : Nat) : Int) = 1)) = true) → SW G (j + 2) mX8_weakMany 23 [some (vr (0)), some (vi (((x : Nat) : Int))), some (vi (((sd : Nat) : Int))), some (vi (0)), some (vi (0))] [] (S nw nx g, 78 + gn, c) B0 post) ∧ (((decide (((sd : Nat) : Int) = 0 ∨ ((sd : Nat) : Int) = 1)) = false) → post (some (vi ((-2)))) (S nw nx g, 78 + gn, c)))))) :
    SW G (j + 2) mX8_weakMany 0 [some (vr (0)), some (vi (((x : Nat) : Int))), some (vi (((sd : Nat) : Int))), none, none] [] (S nw nx g, 78 + gn, c) B0 post := by
  refine sw_aload_n (dX8_weakMany.at 0 rfl) rfl rfl ?_
  refine sw_iload_n (dX8_weakMany.at 1 rfl) rfl rfl ?_
  refine sw_callV (B' := B0) (As := [vi (((x : Nat) : Int))]) (mc := 0) (ms := 0) (dX8_weakMany.at 2 rfl) lk_X8_130 (S_lt 0 (by decide)) (S_0 nw nx g) rfl rfl (Nat.le_of_ble_eq_true rfl) rfl (Nat.le_refl _) (Nat.le_refl _) ?_
  refine c_X8_isElementP (x := ((x : Nat) : Int)) (j := j + 1) hnw hE hV hv.1 ?_
  replace hv := hv.2
  refine sw_if_eq (tgt := 15) (dX8_weakMany.at 3 rfl) (by decide) (bz_rng _) (fun q => ?_) (fun q => ?_)
  · replace hv := hv.1 (bz_0 q)
    refine sw_bipush (dX8_weakMany.at 7 rfl) (by decide) ?_
    exact sw_iret (dX8_weakMany.at 8 rfl) rfl (Nat.le_refl _) (Nat.le_refl _) hv
  · replace hv := hv.2 (bz_n0 q)
    refine sw_iload_n (dX8_weakMany.at 4 rfl) rfl rfl ?_
    refine sw_callS (post' := post) (B' := B0) (As := [vi (((sd : Nat) : Int))]) (mc := 0) (ms := 0) (dX8_weakMany.at 5 rfl) lk_X8_167 rfl rfl (Nat.le_of_ble_eq_true rfl) rfl (Nat.le_refl _) (Nat.le_refl _) ?_
    refine c_X8_isSide (x := ((sd : Nat) : Int)) (j := j + 1) hv.1 ?_
    replace hv := hv.2
    refine sw_if_ne (tgt := 18) (dX8_weakMany.at 6 rfl) (by decide) (bz_rng _) (fun q => ?_) (fun q => ?_)
    · replace hv := hv.1 (bz_1 q)
      refine sw_iconst (dX8_weakMany.at 9 rfl) ?_
      refine sw_istore_n (lo' := [some (vr (0)), some (vi (((x : Nat) : Int))), some (vi (((sd : Nat) : Int))), some (vi (0)), none]) (dX8_weakMany.at 10 rfl) rfl (by decide) rfl ?_
      refine sw_iconst (dX8_weakMany.at 11 rfl) ?_
      refine sw_istore (lo' := [some (vr (0)), some (vi (((x : Nat) : Int))), some (vi (((sd : Nat) : Int))), some (vi (0)), some (vi (0))]) (dX8_weakMany.at 12 rfl) (by decide) rfl ?_
      exact hv
    · replace hv := hv.2 (bz_n1 q)
      refine sw_bipush (dX8_weakMany.at 7 rfl) (by decide) ?_
      exact sw_iret (dX8_weakMany.at 8 rfl) rfl (Nat.le_refl _) (Nat.le_refl _) hv

set_option maxHeartbeats 2000000 in
set_option maxRecDepth 20000 in
theorem g_X8_weakMany_0 {G : GG} {j nw nx gn : Nat} {g : Nat → Sh} {c : Nat → Nat → Int} {post : Option AV → AM → Prop} {x : Int} {sd : Int} {P : GD} (hnw : nw = 21 ∨ nw = 35) (hE : EL c nw P) (hV : GV P)  (hv : (-2147483648 ≤ x ∧ x < 2147483648) ∧ ((((decide (0 ≤ x ∧ x < (gN P : Int))) = false) → post (some (vi ((-2)))) (S nw nx g, 78 + gn, c)) ∧ (((decide (0 ≤ x ∧ x < (gN P : Int))) = true) → (-2147483648 ≤ sd ∧ sd < 2147483648) ∧ ((((decide (sd = 0 ∨ sd = 1)) = true) → SW G (j + 2) mX8_weakMany 23 [some (vr (0)), some (vi (x)), some (vi (sd)), some (vi (0)), some (vi (0))] [] (S nw nx g, 78 + gn, c) B0 post) ∧ (((decide (sd = 0 ∨ sd = 1)) = false) → post (some (vi ((-2)))) (S nw nx g, 78 + gn, c)))))) :
    SW G (j + 2) mX8_weakMany 0 [some (vr (0)), some (vi (x)), some (vi (sd)), none, none] [] (S nw nx g, 78 + gn, c) B0 post := by
  refine sw_aload_n (dX8_weakMany.at 0 rfl) rfl rfl ?_
  refine sw_iload_n (dX8_weakMany.at 1 rfl) rfl rfl ?_
  refine sw_callV (B' := B0) (As := [vi (x)]) (mc := 0) (ms := 0) (dX8_weakMany.at 2 rfl) lk_X8_130 (S_lt 0 (by decide)) (S_0 nw nx g) rfl rfl (Nat.le_of_ble_eq_true rfl) rfl (Nat.le_refl _) (Nat.le_refl _) ?_
  refine c_X8_isElementP (x := x) (j := j + 1) hnw hE hV hv.1 ?_
  replace hv := hv.2
  refine sw_if_eq (tgt := 15) (dX8_weakMany.at 3 rfl) (by decide) (bz_rng _) (fun q => ?_) (fun q => ?_)
  · replace hv := hv.1 (bz_0 q)
    refine sw_bipush (dX8_weakMany.at 7 rfl) (by decide) ?_
    exact sw_iret (dX8_weakMany.at 8 rfl) rfl (Nat.le_refl _) (Nat.le_refl _) hv
  · replace hv := hv.2 (bz_n0 q)
    refine sw_iload_n (dX8_weakMany.at 4 rfl) rfl rfl ?_
    refine sw_callS (post' := post) (B' := B0) (As := [vi (sd)]) (mc := 0) (ms := 0) (dX8_weakMany.at 5 rfl) lk_X8_167 rfl rfl (Nat.le_of_ble_eq_true rfl) rfl (Nat.le_refl _) (Nat.le_refl _) ?_
    refine c_X8_isSide (x := sd) (j := j + 1) hv.1 ?_
    replace hv := hv.2
    refine sw_if_ne (tgt := 18) (dX8_weakMany.at 6 rfl) (by decide) (bz_rng _) (fun q => ?_) (fun q => ?_)
    · replace hv := hv.1 (bz_1 q)
      refine sw_iconst (dX8_weakMany.at 9 rfl) ?_
      refine sw_istore_n (lo' := [some (vr (0)), some (vi (x)), some (vi (sd)), some (vi (0)), none]) (dX8_weakMany.at 10 rfl) rfl (by decide) rfl ?_
      refine sw_iconst (dX8_weakMany.at 11 rfl) ?_
      refine sw_istore (lo' := [some (vr (0)), some (vi (x)), some (vi (sd)), some (vi (0)), some (vi (0))]) (dX8_weakMany.at 12 rfl) (by decide) rfl ?_
      exact hv
    · replace hv := hv.2 (bz_n1 q)
      refine sw_bipush (dX8_weakMany.at 7 rfl) (by decide) ?_
      exact sw_iret (dX8_weakMany.at 8 rfl) rfl (Nat.le_refl _) (Nat.le_refl _) hv

set_option maxHeartbeats 4000000 in
theorem c_X8_weakMany {G : GG} {j nw nx gn : Nat} {g : Nat → Sh} {c : Nat → Nat → Int} {post : Option AV → AM → Prop} {P : GD} {x sd : Int} (hnw : nw = 21 ∨ nw = 35) (hE : EL c nw P) (hV : GV P) (p1 : -2147483648 ≤ x ∧ x < 2147483648) (p2 : -2147483648 ≤ sd ∧ sd < 2147483648) (K : post (some (vi (q_weakMany P x sd))) (S nw nx g, 78 + gn, c)) : SM G (j + 3) mX8_weakMany [vr (0), vi (x), vi (sd)] (S nw nx g, 78 + gn, c) 0 0 post := by
  refine sm_of wX8_weakMany rfl (Nat.le_of_ble_eq_true rfl) ?_
  have hN60 := GV_N hV
  have hR5 := GV_R hV
  by_cases hv : 0 ≤ x ∧ x < (gN P : Int) ∧ 0 ≤ sd ∧ sd < 2
  · obtain ⟨x, rfl⟩ : ∃ n : Nat, x = (n : Int) := ⟨x.toNat, by omega⟩
    obtain ⟨sd, rfl⟩ : ∃ n : Nat, sd = (n : Int) := ⟨sd.toNat, by omega⟩
    have e : q_weakMany P ((x : Nat) : Int) ((sd : Nat) : Int) = ((cntU (pWm P x sd) (gN P) : Nat) : Int) := by
      rw [q_weakMany, if_pos hv]
      simp only [Int.toNat_natCast]
    rw [e] at K
    have K1 : ∀ z : Int, z = (((cntU (pWm P x sd) (gN P) : Nat) : Int)) → post (some (vi z)) (S nw nx g, 78 + gn, c) := fun z h => h ▸ K
    have hx : x < gN P := by omega
    have fx := hV.2.2.1 x hx
    refine g_X8_weakMany_0n hnw hE hV ?_
    refine ⟨?_, ⟨fun q => ?_, fun q => ⟨?_, ⟨fun q => ?_, fun q => ?_⟩⟩⟩⟩
    all_goals first | exact lp_X8_weakMany_23 hnw hE hV hx (by omega) K (gN P) 0 (by omega) | omega | assumption | (exfalso; simp only [decide_eq_true_eq, decide_eq_false_iff_not] at *; omega)
  · have e : q_weakMany P x sd = (-2) := by rw [q_weakMany, if_neg hv]
    rw [e] at K
    refine g_X8_weakMany_0 hnw hE hV ?_
    refine ⟨?_, ⟨fun q => ?_, fun q => ⟨?_, ⟨fun q => ?_, fun q => ?_⟩⟩⟩⟩
    all_goals first | exact K | omega | assumption | (exfalso; simp only [decide_eq_true_eq, decide_eq_false_iff_not] at *; omega)

def pSd (P : GD) (s t : Nat) : Nat → Bool := fun z => decide (gF P z = s) && decide (gE P z = t)
set_option maxHeartbeats 2000000 in
set_option maxRecDepth 20000 in
theorem g_X8_sided_24 {G : GG} {j nw nx gn : Nat} {g : Nat → Sh} {c : Nat → Nat → Int} {post : Option AV → AM → Prop} {s : Nat} {t : Nat} {P : GD} {z : Nat} (hnw : nw = 21 ∨ nw = 35) (hE : EL c nw P) (hV : GV P)  (hv : (z < 2147483648) ∧ (gN P < 2147483648) ∧ (((gN P ≤ z) → post (some (vi (((cntU (pSd P s t) z : Nat) : Int)))) (S nw nx g, 78 + gn, c)) ∧ ((¬ (gN P ≤ z)) → (z < gN P) ∧ ((gF P z < 2147483648) ∧ (s < 2147483648) ∧ (((gF P z ≠ s) → SW G (j + 1) mX8_sided 24 [some (vr (0)), some (vi (((s : Nat) : Int))), some (vi (((t : Nat) : Int))), some (vi (((cntU (pSd P s t) z : Nat) : Int))), some (vi (((z + 1 : Nat) : Int)))] [] (S nw nx g, 78 + gn, c) B0 post) ∧ ((gF P z = s) → (z < gN P) ∧ ((gE P z < 2147483648) ∧ (t < 2147483648) ∧ (((gE P z ≠ t) → SW G (j + 1) mX8_sided 24 [some (vr (0)), some (vi (((s : Nat) : Int))), some (vi (((t : Nat) : Int))), some (vi (((cntU (pSd P s t) z : Nat) : Int))), some (vi (((z + 1 : Nat) : Int)))] [] (S nw nx g, 78 + gn, c) B0 post) ∧ ((gE P z = t) → SW G (j + 1) mX8_sided 24 [some (vr (0)), some (vi (((s : Nat) : Int))), some (vi (((t : Nat) : Int))), some (vi ((((cntU (pSd P s t) z) + 1 : Nat) : Int))), some (vi (((z + 1 : Nat) : Int)))] [] (S nw nx g, 78 + gn, c) B0 post))))))))) :
    SW G (j + 1) mX8_sided 24 [some (vr (0)), some (vi (((s : Nat) : Int))), some (vi (((t : Nat) : Int))), some (vi (((cntU (pSd P s t) z : Nat) : Int))), some (vi (((z : Nat) : Int)))] [] (S nw nx g, 78 + gn, c) B0 post := by
  refine sw_iload (dX8_sided.at 14 rfl) rfl ?_
  refine sw_aload_n (dX8_sided.at 15 rfl) rfl rfl ?_
  refine sw_getR (dX8_sided.at 16 rfl) fp_X8_65 (S_lt 0 (by decide)) (S_0 nw nx g) rfl rfl ?_
  refine sw_getIE (w := ((gN P : Nat) : Int)) (dX8_sided.at 17 rfl) fp_X8_103 (S_e_lt hnw) (S_e hnw) rfl (EL_N hE) ?_
  refine sw_icmpN_ge z (gN P) (tgt := 73) (dX8_sided.at 18 rfl) (by decide) hv.1 hv.2.1 (fun q => ?_) (fun q => ?_)
  · replace hv := hv.2.2.1 q
    refine sw_iload_n (dX8_sided.at 36 rfl) rfl rfl ?_
    exact sw_iret (dX8_sided.at 37 rfl) rfl (Nat.le_refl _) (Nat.le_refl _) hv
  · replace hv := hv.2.2.2 q
    refine sw_aload_n (dX8_sided.at 19 rfl) rfl rfl ?_
    refine sw_getR (dX8_sided.at 20 rfl) fp_X8_65 (S_lt 0 (by decide)) (S_0 nw nx g) rfl rfl ?_
    refine sw_getR (dX8_sided.at 21 rfl) fp_X8_255 (S_e_lt hnw) (S_e hnw) rfl rfl ?_
    refine sw_iload (dX8_sided.at 22 rfl) rfl ?_
    refine sw_ialdN z (w := ((gF P z : Nat) : Int)) (dX8_sided.at 23 rfl) (S_ek_lt hnw (by decide)) (S_e_8 hnw) (by decide) (GV_lt hV hv.1) (EL_F hE hv.1) ?_
    replace hv := hv.2
    refine sw_iload_n (dX8_sided.at 24 rfl) rfl rfl ?_
    refine sw_icmpN_ne (gF P z) s (tgt := 67) (dX8_sided.at 25 rfl) (by decide) hv.1 hv.2.1 (fun q => ?_) (fun q => ?_)
    · replace hv := hv.2.2.1 q
      refine sw_iinc (lo' := [some (vr (0)), some (vi (((s : Nat) : Int))), some (vi (((t : Nat) : Int))), some (vi (((cntU (pSd P s t) z : Nat) : Int))), some (vi (((z + 1 : Nat) : Int)))]) (dX8_sided.at 34 rfl) rfl (by decide) rfl ?_
      refine sw_goto (tgt := 24) (dX8_sided.at 35 rfl) (by decide) ?_
      exact hv
    · replace hv := hv.2.2.2 q
      refine sw_aload_n (dX8_sided.at 26 rfl) rfl rfl ?_
      refine sw_getR (dX8_sided.at 27 rfl) fp_X8_65 (S_lt 0 (by decide)) (S_0 nw nx g) rfl rfl ?_
      refine sw_getR (dX8_sided.at 28 rfl) fp_X8_261 (S_e_lt hnw) (S_e hnw) rfl rfl ?_
      refine sw_iload (dX8_sided.at 29 rfl) rfl ?_
      refine sw_ialdN z (w := ((gE P z : Nat) : Int)) (dX8_sided.at 30 rfl) (S_ek_lt hnw (by decide)) (S_e_9 hnw) (by decide) (GV_lt hV hv.1) (EL_E hE hv.1) ?_
      replace hv := hv.2
      refine sw_iload_n (dX8_sided.at 31 rfl) rfl rfl ?_
      refine sw_icmpN_ne (gE P z) t (tgt := 67) (dX8_sided.at 32 rfl) (by decide) hv.1 hv.2.1 (fun q => ?_) (fun q => ?_)
      · replace hv := hv.2.2.1 q
        refine sw_iinc (lo' := [some (vr (0)), some (vi (((s : Nat) : Int))), some (vi (((t : Nat) : Int))), some (vi (((cntU (pSd P s t) z : Nat) : Int))), some (vi (((z + 1 : Nat) : Int)))]) (dX8_sided.at 34 rfl) rfl (by decide) rfl ?_
        refine sw_goto (tgt := 24) (dX8_sided.at 35 rfl) (by decide) ?_
        exact hv
      · replace hv := hv.2.2.2 q
        refine sw_iinc (lo' := [some (vr (0)), some (vi (((s : Nat) : Int))), some (vi (((t : Nat) : Int))), some (vi ((((cntU (pSd P s t) z) + 1 : Nat) : Int))), some (vi (((z : Nat) : Int)))]) (dX8_sided.at 33 rfl) rfl (by decide) rfl ?_
        refine sw_iinc (lo' := [some (vr (0)), some (vi (((s : Nat) : Int))), some (vi (((t : Nat) : Int))), some (vi ((((cntU (pSd P s t) z) + 1 : Nat) : Int))), some (vi (((z + 1 : Nat) : Int)))]) (dX8_sided.at 34 rfl) rfl (by decide) rfl ?_
        refine sw_goto (tgt := 24) (dX8_sided.at 35 rfl) (by decide) ?_
        exact hv

set_option maxHeartbeats 2000000 in
theorem lp_X8_sided_24 {G : GG} {j nw nx gn : Nat} {g : Nat → Sh} {c : Nat → Nat → Int} {post : Option AV → AM → Prop} {P : GD} {s : Nat} {t : Nat} (hnw : nw = 21 ∨ nw = 35) (hE : EL c nw P) (hV : GV P) (hs0 : s < 2147483648) (ht0 : t < 2147483648) (K : post (some (vi (((cntU (pSd P s t) (gN P) : Nat) : Int)))) (S nw nx g, 78 + gn, c)) : ∀ k z : Nat, z + k = gN P → SW G (j + 1) mX8_sided 24 [some (vr (0)), some (vi (((s : Nat) : Int))), some (vi (((t : Nat) : Int))), some (vi (((cntU (pSd P s t) z : Nat) : Int))), some (vi (((z : Nat) : Int)))] [] (S nw nx g, 78 + gn, c) B0 post := by
  intro k
  induction k with
  | zero =>
    intro z hx
    refine g_X8_sided_24 hnw hE hV ?_
    have := GV_N hV
    have f := fun h => (hV.2.2.1 z h).2.2.2.2.1
    have f2 := fun h => (hV.2.2.1 z h).2.2.2.2.2.1
    have hx2 : z = gN P := by omega
    subst hx2
    refine ⟨?_, ?_, ⟨fun q => ?_, fun q => ⟨?_, ⟨?_, ?_, ⟨fun q => ?_, fun q => ⟨?_, ⟨?_, ?_, ⟨fun q => ?_, fun q => ?_⟩⟩⟩⟩⟩⟩⟩⟩
    all_goals first | exact K | omega | (exfalso; omega)
  | succ k ih =>
    intro z hx
    refine g_X8_sided_24 hnw hE hV ?_
    have := GV_N hV
    have f := fun h => (hV.2.2.1 z h).2.2.2.2.1
    have f2 := fun h => (hV.2.2.1 z h).2.2.2.2.2.1
    have hi := ih (z + 1) (by omega)
    simp only [cntU, pSd] at hi
    refine ⟨?_, ?_, ⟨fun q => ?_, fun q => ⟨?_, ⟨?_, ?_, ⟨fun q => ?_, fun q => ⟨?_, ⟨?_, ?_, ⟨fun q => ?_, fun q => ?_⟩⟩⟩⟩⟩⟩⟩⟩
    all_goals first | omega | (exfalso; omega) | assumption | exact hi | (simp only [*, if_true, if_false, ite_true, ite_false, Bool.false_eq_true, and_true, true_and, and_false, false_and, Bool.and_true, Bool.and_false, Bool.true_and, Bool.false_and, decide_true, decide_false] at hi; exact hi) | (simp only [*, if_true, if_false, ite_true, ite_false, Bool.false_eq_true, and_true, true_and, and_false, false_and, Bool.and_true, Bool.and_false, Bool.true_and, Bool.false_and, decide_true, decide_false] at hi ⊢; exact hi)

def q_sided (P : GD) (s t : Int) : Int := if (0 < gN P ∧ 0 ≤ s ∧ s < ((2 ^ gR P : Nat) : Int)) ∧ 0 < gN P ∧ 0 ≤ t ∧ t < ((2 ^ gR P : Nat) : Int) then ((cntU (pSd P s.toNat t.toNat) (gN P) : Nat) : Int) else (-2)
set_option maxHeartbeats 2000000 in
set_option maxRecDepth 20000 in
theorem g_X8_sided_0n {G : GG} {j nw nx gn : Nat} {g : Nat → Sh} {c : Nat → Nat → Int} {post : Option AV → AM → Prop} {s : Nat} {t : Nat} {P : GD} (hnw : nw = 21 ∨ nw = 35) (hE : EL c nw P) (hV : GV P)  (hv : (-2147483648 ≤ ((s : Nat) : Int) ∧ ((s : Nat) : Int) < 2147483648) ∧ ((((decide (0 < gN P ∧ 0 ≤ ((s : Nat) : Int) ∧ ((s : Nat) : Int) < ((2 ^ gR P : Nat) : Int))) = false) → post (some (vi ((-2)))) (S nw nx g, 78 + gn, c)) ∧ (((decide (0 < gN P ∧ 0 ≤ ((s : Nat) : Int) ∧ ((s : Nat) : Int) < ((2 ^ gR P : Nat) : Int))) = true) → (-2147483648 ≤ ((t : Nat) : Int) ∧ ((t : Nat) : Int) < 2147483648) ∧ ((((decide (0 < gN P ∧ 0 ≤ ((t : Nat) : Int) ∧ ((t : Nat) : Int) < ((2 ^ gR P : Nat) : Int))) = true) → SW G (j + 1) mX8_sided 24 [some (vr (0)), some (vi (((s : Nat) : Int))), some (vi (((t : Nat) : Int))), some (vi (0)), some (vi (0))] [] (S nw nx g, 78 + gn, c) B0 post) ∧ (((decide (0 < gN P ∧ 0 ≤ ((t : Nat) : Int) ∧ ((t : Nat) : Int) < ((2 ^ gR P : Nat) : Int))) = false) → post (some (vi ((-2)))) (S nw nx g, 78 + gn, c)))))) :
    SW G (j + 1) mX8_sided 0 [some (vr (0)), some (vi (((s : Nat) : Int))), some (vi (((t : Nat) : Int))), none, none] [] (S nw nx g, 78 + gn, c) B0 post := by
  refine sw_aload_n (dX8_sided.at 0 rfl) rfl rfl ?_
  refine sw_iload_n (dX8_sided.at 1 rfl) rfl rfl ?_
  refine sw_callV (B' := B0) (As := [vi (((s : Nat) : Int))]) (mc := 0) (ms := 0) (dX8_sided.at 2 rfl) lk_X8_258 (S_lt 0 (by decide)) (S_0 nw nx g) rfl rfl (Nat.le_of_ble_eq_true rfl) rfl (Nat.le_refl _) (Nat.le_refl _) ?_
  refine c_X8_isSet (x := ((s : Nat) : Int)) (j := j + 0) hnw hE hV hv.1 ?_
  replace hv := hv.2
  refine sw_if_eq (tgt := 16) (dX8_sided.at 3 rfl) (by decide) (bz_rng _) (fun q => ?_) (fun q => ?_)
  · replace hv := hv.1 (bz_0 q)
    refine sw_bipush (dX8_sided.at 8 rfl) (by decide) ?_
    exact sw_iret (dX8_sided.at 9 rfl) rfl (Nat.le_refl _) (Nat.le_refl _) hv
  · replace hv := hv.2 (bz_n0 q)
    refine sw_aload_n (dX8_sided.at 4 rfl) rfl rfl ?_
    refine sw_iload_n (dX8_sided.at 5 rfl) rfl rfl ?_
    refine sw_callV (B' := B0) (As := [vi (((t : Nat) : Int))]) (mc := 0) (ms := 0) (dX8_sided.at 6 rfl) lk_X8_258 (S_lt 0 (by decide)) (S_0 nw nx g) rfl rfl (Nat.le_of_ble_eq_true rfl) rfl (Nat.le_refl _) (Nat.le_refl _) ?_
    refine c_X8_isSet (x := ((t : Nat) : Int)) (j := j + 0) hnw hE hV hv.1 ?_
    replace hv := hv.2
    refine sw_if_ne (tgt := 19) (dX8_sided.at 7 rfl) (by decide) (bz_rng _) (fun q => ?_) (fun q => ?_)
    · replace hv := hv.1 (bz_1 q)
      refine sw_iconst (dX8_sided.at 10 rfl) ?_
      refine sw_istore_n (lo' := [some (vr (0)), some (vi (((s : Nat) : Int))), some (vi (((t : Nat) : Int))), some (vi (0)), none]) (dX8_sided.at 11 rfl) rfl (by decide) rfl ?_
      refine sw_iconst (dX8_sided.at 12 rfl) ?_
      refine sw_istore (lo' := [some (vr (0)), some (vi (((s : Nat) : Int))), some (vi (((t : Nat) : Int))), some (vi (0)), some (vi (0))]) (dX8_sided.at 13 rfl) (by decide) rfl ?_
      exact hv
    · replace hv := hv.2 (bz_n1 q)
      refine sw_bipush (dX8_sided.at 8 rfl) (by decide) ?_
      exact sw_iret (dX8_sided.at 9 rfl) rfl (Nat.le_refl _) (Nat.le_refl _) hv

set_option maxHeartbeats 2000000 in
set_option maxRecDepth 20000 in
theorem g_X8_sided_0 {G : GG} {j nw nx gn : Nat} {g : Nat → Sh} {c : Nat → Nat → Int} {post : Option AV → AM → Prop} {s : Int} {t : Int} {P : GD} (hnw : nw = 21 ∨ nw = 35) (hE : EL c nw P) (hV : GV P)  (hv : (-2147483648 ≤ s ∧ s < 2147483648) ∧ ((((decide (0 < gN P ∧ 0 ≤ s ∧ s < ((2 ^ gR P : Nat) : Int))) = false) → post (some (vi ((-2)))) (S nw nx g, 78 + gn, c)) ∧ (((decide (0 < gN P ∧ 0 ≤ s ∧ s < ((2 ^ gR P : Nat) : Int))) = true) → (-2147483648 ≤ t ∧ t < 2147483648) ∧ ((((decide (0 < gN P ∧ 0 ≤ t ∧ t < ((2 ^ gR P : Nat) : Int))) = true) → SW G (j + 1) mX8_sided 24 [some (vr (0)), some (vi (s)), some (vi (t)), some (vi (0)), some (vi (0))] [] (S nw nx g, 78 + gn, c) B0 post) ∧ (((decide (0 < gN P ∧ 0 ≤ t ∧ t < ((2 ^ gR P : Nat) : Int))) = false) → post (some (vi ((-2)))) (S nw nx g, 78 + gn, c)))))) :
    SW G (j + 1) mX8_sided 0 [some (vr (0)), some (vi (s)), some (vi (t)), none, none] [] (S nw nx g, 78 + gn, c) B0 post := by
  refine sw_aload_n (dX8_sided.at 0 rfl) rfl rfl ?_
  refine sw_iload_n (dX8_sided.at 1 rfl) rfl rfl ?_
  refine sw_callV (B' := B0) (As := [vi (s)]) (mc := 0) (ms := 0) (dX8_sided.at 2 rfl) lk_X8_258 (S_lt 0 (by decide)) (S_0 nw nx g) rfl rfl (Nat.le_of_ble_eq_true rfl) rfl (Nat.le_refl _) (Nat.le_refl _) ?_
  refine c_X8_isSet (x := s) (j := j + 0) hnw hE hV hv.1 ?_
  replace hv := hv.2
  refine sw_if_eq (tgt := 16) (dX8_sided.at 3 rfl) (by decide) (bz_rng _) (fun q => ?_) (fun q => ?_)
  · replace hv := hv.1 (bz_0 q)
    refine sw_bipush (dX8_sided.at 8 rfl) (by decide) ?_
    exact sw_iret (dX8_sided.at 9 rfl) rfl (Nat.le_refl _) (Nat.le_refl _) hv
  · replace hv := hv.2 (bz_n0 q)
    refine sw_aload_n (dX8_sided.at 4 rfl) rfl rfl ?_
    refine sw_iload_n (dX8_sided.at 5 rfl) rfl rfl ?_
    refine sw_callV (B' := B0) (As := [vi (t)]) (mc := 0) (ms := 0) (dX8_sided.at 6 rfl) lk_X8_258 (S_lt 0 (by decide)) (S_0 nw nx g) rfl rfl (Nat.le_of_ble_eq_true rfl) rfl (Nat.le_refl _) (Nat.le_refl _) ?_
    refine c_X8_isSet (x := t) (j := j + 0) hnw hE hV hv.1 ?_
    replace hv := hv.2
    refine sw_if_ne (tgt := 19) (dX8_sided.at 7 rfl) (by decide) (bz_rng _) (fun q => ?_) (fun q => ?_)
    · replace hv := hv.1 (bz_1 q)
      refine sw_iconst (dX8_sided.at 10 rfl) ?_
      refine sw_istore_n (lo' := [some (vr (0)), some (vi (s)), some (vi (t)), some (vi (0)), none]) (dX8_sided.at 11 rfl) rfl (by decide) rfl ?_
      refine sw_iconst (dX8_sided.at 12 rfl) ?_
      refine sw_istore (lo' := [some (vr (0)), some (vi (s)), some (vi (t)), some (vi (0)), some (vi (0))]) (dX8_sided.at 13 rfl) (by decide) rfl ?_
      exact hv
    · replace hv := hv.2 (bz_n1 q)
      refine sw_bipush (dX8_sided.at 8 rfl) (by decide) ?_
      exact sw_iret (dX8_sided.at 9 rfl) rfl (Nat.le_refl _) (Nat.le_refl _) hv

set_option maxHeartbeats 4000000 in
theorem c_X8_sided {G : GG} {j nw nx gn : Nat} {g : Nat → Sh} {c : Nat → Nat → Int} {post : Option AV → AM → Prop} {P : GD} {s t : Int} (hnw : nw = 21 ∨ nw = 35) (hE : EL c nw P) (hV : GV P) (p1 : -2147483648 ≤ s ∧ s < 2147483648) (p2 : -2147483648 ≤ t ∧ t < 2147483648) (K : post (some (vi (q_sided P s t))) (S nw nx g, 78 + gn, c)) : SM G (j + 2) mX8_sided [vr (0), vi (s), vi (t)] (S nw nx g, 78 + gn, c) 0 0 post := by
  refine sm_of wX8_sided rfl (Nat.le_of_ble_eq_true rfl) ?_
  have hN60 := GV_N hV
  have hR5 := GV_R hV
  by_cases hv : (0 < gN P ∧ 0 ≤ s ∧ s < ((2 ^ gR P : Nat) : Int)) ∧ 0 < gN P ∧ 0 ≤ t ∧ t < ((2 ^ gR P : Nat) : Int)
  · obtain ⟨s, rfl⟩ : ∃ n : Nat, s = (n : Int) := ⟨s.toNat, by omega⟩
    obtain ⟨t, rfl⟩ : ∃ n : Nat, t = (n : Int) := ⟨t.toNat, by omega⟩
    have e : q_sided P ((s : Nat) : Int) ((t : Nat) : Int) = ((cntU (pSd P s t) (gN P) : Nat) : Int) := by
      rw [q_sided, if_pos hv]
      simp only [Int.toNat_natCast]
    rw [e] at K
    have K1 : ∀ z : Int, z = (((cntU (pSd P s t) (gN P) : Nat) : Int)) → post (some (vi z)) (S nw nx g, 78 + gn, c) := fun z h => h ▸ K
    refine g_X8_sided_0n hnw hE hV ?_
    refine ⟨?_, ⟨fun q => ?_, fun q => ⟨?_, ⟨fun q => ?_, fun q => ?_⟩⟩⟩⟩
    all_goals first | exact lp_X8_sided_24 hnw hE hV (by omega) (by omega) K (gN P) 0 (by omega) | omega | assumption | (exfalso; simp only [decide_eq_true_eq, decide_eq_false_iff_not] at *; omega)
  · have e : q_sided P s t = (-2) := by rw [q_sided, if_neg hv]
    rw [e] at K
    refine g_X8_sided_0 hnw hE hV ?_
    refine ⟨?_, ⟨fun q => ?_, fun q => ⟨?_, ⟨fun q => ?_, fun q => ?_⟩⟩⟩⟩
    all_goals first | exact K | omega | assumption | (exfalso; simp only [decide_eq_true_eq, decide_eq_false_iff_not] at *; omega)

def pInv (P : GD) (x : Nat) : Nat → Bool := fun i => decide (gL P (gX P (gT P i) x) < gL P x)
set_option maxHeartbeats 2000000 in
set_option maxRecDepth 20000 in
theorem g_X8_inversions_17 {G : GG} {j nw nx gn : Nat} {g : Nat → Sh} {c : Nat → Nat → Int} {post : Option AV → AM → Prop} {x : Nat} {P : GD} {z : Nat} (hnw : nw = 21 ∨ nw = 35) (hE : EL c nw P) (hV : GV P)  (hv : (z < 2147483648) ∧ (gM P < 2147483648) ∧ (((gM P ≤ z) → post (some (vl (((bitsU (pInv P x) z : Nat) : Int)))) (S nw nx g, 78 + gn, c)) ∧ ((¬ (gM P ≤ z)) → (z < gM P) ∧ (((gT P z) < gN P) ∧ (x < gN P) ∧ ((gX P (gT P z) x < gN P) ∧ ((x < gN P) ∧ ((gL P (gX P (gT P z) x) < 2147483648) ∧ (gL P x < 2147483648) ∧ (((gL P x ≤ gL P (gX P (gT P z) x)) → SW G (j + 1) mX8_inversions 17 [some (vr (0)), some (vi (((x : Nat) : Int))), some (vl (((bitsU (pInv P x) z : Nat) : Int))), none, some (vi (((z + 1 : Nat) : Int))), none] [] (S nw nx g, 78 + gn, c) B0 post) ∧ ((¬ (gL P x ≤ gL P (gX P (gT P z) x))) → (z < 64) ∧ (SW G (j + 1) mX8_inversions 17 [some (vr (0)), some (vi (((x : Nat) : Int))), some (vl ((((bitsU (pInv P x) z) ||| (1 * 2 ^ z) : Nat) : Int))), none, some (vi (((z + 1 : Nat) : Int))), none] [] (S nw nx g, 78 + gn, c) B0 post)))))))))) :
    SW G (j + 1) mX8_inversions 17 [some (vr (0)), some (vi (((x : Nat) : Int))), some (vl (((bitsU (pInv P x) z : Nat) : Int))), none, some (vi (((z : Nat) : Int))), none] [] (S nw nx g, 78 + gn, c) B0 post := by
  refine sw_iload (dX8_inversions.at 10 rfl) rfl ?_
  refine sw_aload_n (dX8_inversions.at 11 rfl) rfl rfl ?_
  refine sw_getR (dX8_inversions.at 12 rfl) fp_X8_65 (S_lt 0 (by decide)) (S_0 nw nx g) rfl rfl ?_
  refine sw_getIE (w := ((gM P : Nat) : Int)) (dX8_inversions.at 13 rfl) fp_X8_116 (S_e_lt hnw) (S_e hnw) rfl (EL_M hE) ?_
  refine sw_icmpN_ge z (gM P) (tgt := 84) (dX8_inversions.at 14 rfl) (by decide) hv.1 hv.2.1 (fun q => ?_) (fun q => ?_)
  · replace hv := hv.2.2.1 q
    refine sw_lload_n (dX8_inversions.at 44 rfl) rfl rfl ?_
    exact sw_lret (dX8_inversions.at 45 rfl) rfl (Nat.le_refl _) (Nat.le_refl _) hv
  · replace hv := hv.2.2.2 q
    refine sw_aload_n (dX8_inversions.at 15 rfl) rfl rfl ?_
    refine sw_getR (dX8_inversions.at 16 rfl) fp_X8_65 (S_lt 0 (by decide)) (S_0 nw nx g) rfl rfl ?_
    refine sw_aload_n (dX8_inversions.at 17 rfl) rfl rfl ?_
    refine sw_getR (dX8_inversions.at 18 rfl) fp_X8_65 (S_lt 0 (by decide)) (S_0 nw nx g) rfl rfl ?_
    refine sw_getR (dX8_inversions.at 19 rfl) fp_X8_173 (S_e_lt hnw) (S_e hnw) rfl rfl ?_
    refine sw_iload (dX8_inversions.at 20 rfl) rfl ?_
    refine sw_ialdN z (w := ((gT P z : Nat) : Int)) (dX8_inversions.at 21 rfl) (S_ek_lt hnw (by decide)) (S_e_10 hnw) (by decide) (GV_ltM hV hv.1) (EL_T hE hv.1) ?_
    replace hv := hv.2
    refine sw_iload_n (dX8_inversions.at 22 rfl) rfl rfl ?_
    refine sw_callV (B' := B0) (As := [vi (((gT P z : Nat) : Int)), vi (((x : Nat) : Int))]) (mc := 0) (ms := 0) (dX8_inversions.at 23 rfl) lk_X8_161 (S_e_lt hnw) (S_e hnw) rfl rfl (Nat.le_of_ble_eq_true rfl) rfl (Nat.le_refl _) (Nat.le_refl _) ?_
    refine c_X1_mulP (e := nw) (x := (gT P z)) (y := x) (j := j + 0) hnw hE hV hv.1 hv.2.1 ?_
    replace hv := hv.2.2
    refine sw_istore (lo' := [some (vr (0)), some (vi (((x : Nat) : Int))), some (vl (((bitsU (pInv P x) z : Nat) : Int))), none, some (vi (((z : Nat) : Int))), some (vi (((gX P (gT P z) x : Nat) : Int)))]) (dX8_inversions.at 24 rfl) (by decide) rfl ?_
    refine sw_aload_n (dX8_inversions.at 25 rfl) rfl rfl ?_
    refine sw_getR (dX8_inversions.at 26 rfl) fp_X8_65 (S_lt 0 (by decide)) (S_0 nw nx g) rfl rfl ?_
    refine sw_getR (dX8_inversions.at 27 rfl) fp_X8_133 (S_e_lt hnw) (S_e hnw) rfl rfl ?_
    refine sw_iload (dX8_inversions.at 28 rfl) rfl ?_
    refine sw_ialdN (gX P (gT P z) x) (w := ((gL P (gX P (gT P z) x) : Nat) : Int)) (dX8_inversions.at 29 rfl) (S_ek_lt hnw (by decide)) (S_e_2 hnw) (by decide) (GV_lt hV hv.1) (EL_L hE hv.1) ?_
    replace hv := hv.2
    refine sw_aload_n (dX8_inversions.at 30 rfl) rfl rfl ?_
    refine sw_getR (dX8_inversions.at 31 rfl) fp_X8_65 (S_lt 0 (by decide)) (S_0 nw nx g) rfl rfl ?_
    refine sw_getR (dX8_inversions.at 32 rfl) fp_X8_133 (S_e_lt hnw) (S_e hnw) rfl rfl ?_
    refine sw_iload_n (dX8_inversions.at 33 rfl) rfl rfl ?_
    refine sw_ialdN x (w := ((gL P x : Nat) : Int)) (dX8_inversions.at 34 rfl) (S_ek_lt hnw (by decide)) (S_e_2 hnw) (by decide) (GV_lt hV hv.1) (EL_L hE hv.1) ?_
    replace hv := hv.2
    refine sw_icmpN_ge (gL P (gX P (gT P z) x)) (gL P x) (tgt := 78) (dX8_inversions.at 35 rfl) (by decide) hv.1 hv.2.1 (fun q => ?_) (fun q => ?_)
    · replace hv := hv.2.2.1 q
      refine sw_iinc (lo' := [some (vr (0)), some (vi (((x : Nat) : Int))), some (vl (((bitsU (pInv P x) z : Nat) : Int))), none, some (vi (((z + 1 : Nat) : Int))), some (vi (((gX P (gT P z) x : Nat) : Int)))]) (dX8_inversions.at 42 rfl) rfl (by decide) rfl ?_
      refine sw_goto (tgt := 17) (dX8_inversions.at 43 rfl) (by decide) ?_
      exact sw_mask (bs := [true, true, true, false, true, false]) hv
    · replace hv := hv.2.2.2 q
      refine sw_lload_n (dX8_inversions.at 36 rfl) rfl rfl ?_
      refine sw_lconst (z := 1) (dX8_inversions.at 37 rfl) (by decide) ?_
      refine sw_iload (dX8_inversions.at 38 rfl) rfl ?_
      refine sw_lshlN 1 z (dX8_inversions.at 39 rfl) hv.1 ?_
      replace hv := hv.2
      refine sw_lorN (bitsU (pInv P x) z) (1 * 2 ^ z) (dX8_inversions.at 40 rfl) ?_
      refine sw_lstore_n (lo' := [some (vr (0)), some (vi (((x : Nat) : Int))), some (vl ((((bitsU (pInv P x) z) ||| (1 * 2 ^ z) : Nat) : Int))), none, some (vi (((z : Nat) : Int))), some (vi (((gX P (gT P z) x : Nat) : Int)))]) (dX8_inversions.at 41 rfl) rfl (by decide) rfl ?_
      refine sw_iinc (lo' := [some (vr (0)), some (vi (((x : Nat) : Int))), some (vl ((((bitsU (pInv P x) z) ||| (1 * 2 ^ z) : Nat) : Int))), none, some (vi (((z + 1 : Nat) : Int))), some (vi (((gX P (gT P z) x : Nat) : Int)))]) (dX8_inversions.at 42 rfl) rfl (by decide) rfl ?_
      refine sw_goto (tgt := 17) (dX8_inversions.at 43 rfl) (by decide) ?_
      exact sw_mask (bs := [true, true, true, false, true, false]) hv

set_option maxHeartbeats 2000000 in
theorem lp_X8_inversions_17 {G : GG} {j nw nx gn : Nat} {g : Nat → Sh} {c : Nat → Nat → Int} {post : Option AV → AM → Prop} {P : GD} {x : Nat} (hnw : nw = 21 ∨ nw = 35) (hE : EL c nw P) (hV : GV P) (hx0 : x < gN P) (K : post (some (vl (((bitsU (pInv P x) (gM P) : Nat) : Int)))) (S nw nx g, 78 + gn, c)) : ∀ k z : Nat, z + k = gM P → SW G (j + 1) mX8_inversions 17 [some (vr (0)), some (vi (((x : Nat) : Int))), some (vl (((bitsU (pInv P x) z : Nat) : Int))), none, some (vi (((z : Nat) : Int))), none] [] (S nw nx g, 78 + gn, c) B0 post := by
  intro k
  induction k with
  | zero =>
    intro z hx
    refine g_X8_inversions_17 hnw hE hV ?_
    have := GV_N hV
    have hm := hV.1.2.2.1
    have f0 := (hV.2.2.1 x hx0).1
    have f1 := fun h => hV.2.2.2.2.2 z h
    have f2 := fun h => hV.2.2.2.2.1 (gT P z) x (f1 h) hx0
    have f3 := fun h => (hV.2.2.1 _ (f2 h)).1
    have hx2 : z = gM P := by omega
    subst hx2
    refine ⟨?_, ?_, ⟨fun q => ?_, fun q => ⟨?_, ⟨?_, ?_, ⟨?_, ⟨?_, ⟨?_, ?_, ⟨fun q => ?_, fun q => ⟨?_, ?_⟩⟩⟩⟩⟩⟩⟩⟩⟩
    all_goals first | exact K | omega | (exfalso; omega)
  | succ k ih =>
    intro z hx
    refine g_X8_inversions_17 hnw hE hV ?_
    have := GV_N hV
    have hm := hV.1.2.2.1
    have f0 := (hV.2.2.1 x hx0).1
    have f1 := fun h => hV.2.2.2.2.2 z h
    have f2 := fun h => hV.2.2.2.2.1 (gT P z) x (f1 h) hx0
    have f3 := fun h => (hV.2.2.1 _ (f2 h)).1
    have hi := ih (z + 1) (by omega)
    simp only [bitsU, pInv] at hi
    refine ⟨?_, ?_, ⟨fun q => ?_, fun q => ⟨?_, ⟨?_, ?_, ⟨?_, ⟨?_, ⟨?_, ?_, ⟨fun q => ?_, fun q => ⟨?_, ?_⟩⟩⟩⟩⟩⟩⟩⟩⟩
    all_goals first | omega | (exfalso; omega) | assumption | exact hi | exact f1 (by omega) | exact f2 (by omega) | (have := f3 (by omega); omega) | (have h9 : gL P (gX P (gT P z) x) < gL P x := (by omega); simp only [h9, decide_true, eq_self, if_true] at hi; exact hi) | (have h9 : ¬ (gL P (gX P (gT P z) x) < gL P x) := (by omega); simp only [h9, decide_false, Bool.false_eq_true, if_false] at hi; exact hi) | (simp only [*, if_true, if_false, ite_true, ite_false, Bool.false_eq_true, and_true, true_and, and_false, false_and, Bool.and_true, Bool.and_false, Bool.true_and, Bool.false_and, decide_true, decide_false] at hi; exact hi) | (simp only [*, if_true, if_false, ite_true, ite_false, Bool.false_eq_true, and_true, true_and, and_false, false_and, Bool.and_true, Bool.and_false, Bool.true_and, Bool.false_and, decide_true, decide_false] at hi ⊢; exact hi)

def q_inversions (P : GD) (x : Int) : Int := if 0 ≤ x ∧ x < (gN P : Int) then ((bitsU (pInv P x.toNat) (gM P) : Nat) : Int) else (-2)
set_option maxHeartbeats 2000000 in
set_option maxRecDepth 20000 in
theorem g_X8_inversions_0n {G : GG} {j nw nx gn : Nat} {g : Nat → Sh} {c : Nat → Nat → Int} {post : Option AV → AM → Prop} {x : Nat} {P : GD} (hnw : nw = 21 ∨ nw = 35) (hE : EL c nw P) (hV : GV P)  (hv : (-2147483648 ≤ ((x : Nat) : Int) ∧ ((x : Nat) : Int) < 2147483648) ∧ ((((decide (0 ≤ ((x : Nat) : Int) ∧ ((x : Nat) : Int) < (gN P : Int))) = true) → SW G (j + 1) mX8_inversions 17 [some (vr (0)), some (vi (((x : Nat) : Int))), some (vl (0)), none, some (vi (0)), none] [] (S nw nx g, 78 + gn, c) B0 post) ∧ (((decide (0 ≤ ((x : Nat) : Int) ∧ ((x : Nat) : Int) < (gN P : Int))) = false) → post (some (vl ((-2)))) (S nw nx g, 78 + gn, c)))) :
    SW G (j + 1) mX8_inversions 0 [some (vr (0)), some (vi (((x : Nat) : Int))), none, none, none, none] [] (S nw nx g, 78 + gn, c) B0 post := by
  refine sw_aload_n (dX8_inversions.at 0 rfl) rfl rfl ?_
  refine sw_iload_n (dX8_inversions.at 1 rfl) rfl rfl ?_
  refine sw_callV (B' := B0) (As := [vi (((x : Nat) : Int))]) (mc := 0) (ms := 0) (dX8_inversions.at 2 rfl) lk_X8_130 (S_lt 0 (by decide)) (S_0 nw nx g) rfl rfl (Nat.le_of_ble_eq_true rfl) rfl (Nat.le_refl _) (Nat.le_refl _) ?_
  refine c_X8_isElementP (x := ((x : Nat) : Int)) (j := j + 0) hnw hE hV hv.1 ?_
  replace hv := hv.2
  refine sw_if_ne (tgt := 12) (dX8_inversions.at 3 rfl) (by decide) (bz_rng _) (fun q => ?_) (fun q => ?_)
  · replace hv := hv.1 (bz_1 q)
    refine sw_lconst (z := 0) (dX8_inversions.at 6 rfl) (by decide) ?_
    refine sw_lstore_n (lo' := [some (vr (0)), some (vi (((x : Nat) : Int))), some (vl (0)), none, none, none]) (dX8_inversions.at 7 rfl) rfl (by decide) rfl ?_
    refine sw_iconst (dX8_inversions.at 8 rfl) ?_
    refine sw_istore (lo' := [some (vr (0)), some (vi (((x : Nat) : Int))), some (vl (0)), none, some (vi (0)), none]) (dX8_inversions.at 9 rfl) (by decide) rfl ?_
    exact hv
  · replace hv := hv.2 (bz_n1 q)
    refine sw_ldc2 (z := (-2)) (dX8_inversions.at 4 rfl) kc_X8_147 (by decide) ?_
    exact sw_lret (dX8_inversions.at 5 rfl) rfl (Nat.le_refl _) (Nat.le_refl _) hv

set_option maxHeartbeats 2000000 in
set_option maxRecDepth 20000 in
theorem g_X8_inversions_0 {G : GG} {j nw nx gn : Nat} {g : Nat → Sh} {c : Nat → Nat → Int} {post : Option AV → AM → Prop} {x : Int} {P : GD} (hnw : nw = 21 ∨ nw = 35) (hE : EL c nw P) (hV : GV P)  (hv : (-2147483648 ≤ x ∧ x < 2147483648) ∧ ((((decide (0 ≤ x ∧ x < (gN P : Int))) = true) → SW G (j + 1) mX8_inversions 17 [some (vr (0)), some (vi (x)), some (vl (0)), none, some (vi (0)), none] [] (S nw nx g, 78 + gn, c) B0 post) ∧ (((decide (0 ≤ x ∧ x < (gN P : Int))) = false) → post (some (vl ((-2)))) (S nw nx g, 78 + gn, c)))) :
    SW G (j + 1) mX8_inversions 0 [some (vr (0)), some (vi (x)), none, none, none, none] [] (S nw nx g, 78 + gn, c) B0 post := by
  refine sw_aload_n (dX8_inversions.at 0 rfl) rfl rfl ?_
  refine sw_iload_n (dX8_inversions.at 1 rfl) rfl rfl ?_
  refine sw_callV (B' := B0) (As := [vi (x)]) (mc := 0) (ms := 0) (dX8_inversions.at 2 rfl) lk_X8_130 (S_lt 0 (by decide)) (S_0 nw nx g) rfl rfl (Nat.le_of_ble_eq_true rfl) rfl (Nat.le_refl _) (Nat.le_refl _) ?_
  refine c_X8_isElementP (x := x) (j := j + 0) hnw hE hV hv.1 ?_
  replace hv := hv.2
  refine sw_if_ne (tgt := 12) (dX8_inversions.at 3 rfl) (by decide) (bz_rng _) (fun q => ?_) (fun q => ?_)
  · replace hv := hv.1 (bz_1 q)
    refine sw_lconst (z := 0) (dX8_inversions.at 6 rfl) (by decide) ?_
    refine sw_lstore_n (lo' := [some (vr (0)), some (vi (x)), some (vl (0)), none, none, none]) (dX8_inversions.at 7 rfl) rfl (by decide) rfl ?_
    refine sw_iconst (dX8_inversions.at 8 rfl) ?_
    refine sw_istore (lo' := [some (vr (0)), some (vi (x)), some (vl (0)), none, some (vi (0)), none]) (dX8_inversions.at 9 rfl) (by decide) rfl ?_
    exact hv
  · replace hv := hv.2 (bz_n1 q)
    refine sw_ldc2 (z := (-2)) (dX8_inversions.at 4 rfl) kc_X8_147 (by decide) ?_
    exact sw_lret (dX8_inversions.at 5 rfl) rfl (Nat.le_refl _) (Nat.le_refl _) hv

set_option maxHeartbeats 4000000 in
theorem c_X8_inversions {G : GG} {j nw nx gn : Nat} {g : Nat → Sh} {c : Nat → Nat → Int} {post : Option AV → AM → Prop} {P : GD} {x : Int} (hnw : nw = 21 ∨ nw = 35) (hE : EL c nw P) (hV : GV P) (p1 : -2147483648 ≤ x ∧ x < 2147483648) (K : post (some (vl (q_inversions P x))) (S nw nx g, 78 + gn, c)) : SM G (j + 2) mX8_inversions [vr (0), vi (x)] (S nw nx g, 78 + gn, c) 0 0 post := by
  refine sm_of wX8_inversions rfl (Nat.le_of_ble_eq_true rfl) ?_
  have hN60 := GV_N hV
  have hR5 := GV_R hV
  by_cases hv : 0 ≤ x ∧ x < (gN P : Int)
  · obtain ⟨x, rfl⟩ : ∃ n : Nat, x = (n : Int) := ⟨x.toNat, by omega⟩
    have e : q_inversions P ((x : Nat) : Int) = ((bitsU (pInv P x) (gM P) : Nat) : Int) := by
      rw [q_inversions, if_pos hv]
      simp only [Int.toNat_natCast]
    rw [e] at K
    have K1 : ∀ z : Int, z = (((bitsU (pInv P x) (gM P) : Nat) : Int)) → post (some (vl z)) (S nw nx g, 78 + gn, c) := fun z h => h ▸ K
    have hx : x < gN P := by omega
    have fx := hV.2.2.1 x hx
    refine g_X8_inversions_0n hnw hE hV ?_
    refine ⟨?_, ⟨fun q => ?_, fun q => ?_⟩⟩
    all_goals first | exact lp_X8_inversions_17 hnw hE hV hx K (gM P) 0 (by omega) | omega | assumption | (exfalso; simp only [decide_eq_true_eq, decide_eq_false_iff_not] at *; omega)
  · have e : q_inversions P x = (-2) := by rw [q_inversions, if_neg hv]
    rw [e] at K
    refine g_X8_inversions_0 hnw hE hV ?_
    refine ⟨?_, ⟨fun q => ?_, fun q => ?_⟩⟩
    all_goals first | exact K | omega | assumption | (exfalso; simp only [decide_eq_true_eq, decide_eq_false_iff_not] at *; omega)

