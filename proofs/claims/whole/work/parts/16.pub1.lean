set_option maxHeartbeats 2000000 in
theorem c_X8_isElementP {G : GG} {j nw nx gn : Nat} {g : Nat → Sh} {c : Nat → Nat → Int} {post : Option AV → AM → Prop} {P : GD} {x : Int} (hnw : nw = 21 ∨ nw = 35) (hE : EL c nw P) (hV : GV P) (p1 : -2147483648 ≤ x ∧ x < 2147483648) (K : post (some (vi (bz (decide (0 ≤ x ∧ x < (gN P : Int)))))) (S nw nx g, 78 + gn, c)) : SM G (j + 1) mX8_isElement [vr (0), vi (x)] (S nw nx g, 78 + gn, c) 0 0 post := by
  refine sm_of wX8_isElement rfl (Nat.le_of_ble_eq_true rfl) ?_
  have := GV_N hV
  have h2 := EL_N hE
  refine g_X8_isElement_0 hnw ?_
  have K1 : ∀ v : Int, v = bz (decide (0 ≤ x ∧ x < (gN P : Int))) → post (some (vi v)) (S nw nx g, 78 + gn, c) := fun v h => h ▸ K
  repeat' (first | apply And.intro | intro)
  all_goals first | assumption | omega | (refine K1 _ ?_; simp only [bz, decide_eq_true_eq]; split <;> omega)

set_option maxHeartbeats 2000000 in
set_option maxRecDepth 20000 in
theorem g_X8_arePair_0 {G : GG} {j nw nx gn : Nat} {g : Nat → Sh} {c : Nat → Nat → Int} {post : Option AV → AM → Prop} {x : Int} {y : Int} {P : GD} (hnw : nw = 21 ∨ nw = 35) (hE : EL c nw P) (hV : GV P)  (hv : (-2147483648 ≤ x ∧ x < 2147483648) ∧ ((((decide (0 ≤ x ∧ x < (gN P : Int))) = false) → post (some (vi (0))) (S nw nx g, 78 + gn, c)) ∧ (((decide (0 ≤ x ∧ x < (gN P : Int))) = true) → (-2147483648 ≤ y ∧ y < 2147483648) ∧ ((((decide (0 ≤ y ∧ y < (gN P : Int))) = false) → post (some (vi (0))) (S nw nx g, 78 + gn, c)) ∧ (((decide (0 ≤ y ∧ y < (gN P : Int))) = true) → post (some (vi (1))) (S nw nx g, 78 + gn, c)))))) :
    SW G (j + 1) mX8_arePair 0 [some (vr (0)), some (vi (x)), some (vi (y))] [] (S nw nx g, 78 + gn, c) B0 post := by
  refine sw_aload_n (dX8_arePair.at 0 rfl) rfl rfl ?_
  refine sw_iload_n (dX8_arePair.at 1 rfl) rfl rfl ?_
  refine sw_callV (B' := B0) (As := [vi (x)]) (mc := 0) (ms := 0) (dX8_arePair.at 2 rfl) lk_X8_130 (S_lt 0 (by decide)) (S_0 nw nx g) rfl rfl (Nat.le_of_ble_eq_true rfl) rfl (Nat.le_refl _) (Nat.le_refl _) ?_
  refine c_X8_isElementP (x := x) (j := j + 0) hnw hE hV hv.1 ?_
  replace hv := hv.2
  refine sw_if_eq (tgt := 20) (dX8_arePair.at 3 rfl) (by decide) (bz_rng _) (fun q => ?_) (fun q => ?_)
  · replace hv := hv.1 (bz_0 q)
    refine sw_iconst (dX8_arePair.at 10 rfl) ?_
    exact sw_zret (dX8_arePair.at 11 rfl) rfl (by decide) (Nat.le_refl _) (Nat.le_refl _) hv
  · replace hv := hv.2 (bz_n0 q)
    refine sw_aload_n (dX8_arePair.at 4 rfl) rfl rfl ?_
    refine sw_iload_n (dX8_arePair.at 5 rfl) rfl rfl ?_
    refine sw_callV (B' := B0) (As := [vi (y)]) (mc := 0) (ms := 0) (dX8_arePair.at 6 rfl) lk_X8_130 (S_lt 0 (by decide)) (S_0 nw nx g) rfl rfl (Nat.le_of_ble_eq_true rfl) rfl (Nat.le_refl _) (Nat.le_refl _) ?_
    refine c_X8_isElementP (x := y) (j := j + 0) hnw hE hV hv.1 ?_
    replace hv := hv.2
    refine sw_if_eq (tgt := 20) (dX8_arePair.at 7 rfl) (by decide) (bz_rng _) (fun q => ?_) (fun q => ?_)
    · replace hv := hv.1 (bz_0 q)
      refine sw_iconst (dX8_arePair.at 10 rfl) ?_
      exact sw_zret (dX8_arePair.at 11 rfl) rfl (by decide) (Nat.le_refl _) (Nat.le_refl _) hv
    · replace hv := hv.2 (bz_n0 q)
      refine sw_iconst (dX8_arePair.at 8 rfl) ?_
      refine sw_goto (tgt := 21) (dX8_arePair.at 9 rfl) (by decide) ?_
      exact sw_zret (dX8_arePair.at 11 rfl) rfl (by decide) (Nat.le_refl _) (Nat.le_refl _) hv

set_option maxHeartbeats 2000000 in
theorem c_X8_arePair {G : GG} {j nw nx gn : Nat} {g : Nat → Sh} {c : Nat → Nat → Int} {post : Option AV → AM → Prop} {P : GD} {x : Int} {y : Int} (hnw : nw = 21 ∨ nw = 35) (hE : EL c nw P) (hV : GV P) (p1 : -2147483648 ≤ x ∧ x < 2147483648) (p2 : -2147483648 ≤ y ∧ y < 2147483648) (K : post (some (vi (bz (decide ((0 ≤ x ∧ x < (gN P : Int)) ∧ 0 ≤ y ∧ y < (gN P : Int)))))) (S nw nx g, 78 + gn, c)) : SM G (j + 2) mX8_arePair [vr (0), vi (x), vi (y)] (S nw nx g, 78 + gn, c) 0 0 post := by
  refine sm_of wX8_arePair rfl (Nat.le_of_ble_eq_true rfl) ?_
  refine g_X8_arePair_0 hnw hE hV ?_
  have := GV_N hV
  have K1 : ∀ v : Int, v = bz (decide ((0 ≤ x ∧ x < (gN P : Int)) ∧ 0 ≤ y ∧ y < (gN P : Int))) → post (some (vi v)) (S nw nx g, 78 + gn, c) := fun v h => h ▸ K
  repeat' (first | apply And.intro | intro)
  all_goals (try simp only [decide_eq_true_eq, decide_eq_false_iff_not] at *)
  all_goals first | assumption | omega | (refine K1 _ ?_; simp only [bz, decide_eq_true_eq]; split <;> omega)

set_option maxHeartbeats 2000000 in
set_option maxRecDepth 20000 in
theorem g_X8_isLetter_0 {G : GG} {j nw nx gn : Nat} {g : Nat → Sh} {c : Nat → Nat → Int} {post : Option AV → AM → Prop} {x : Int} {P : GD} (hnw : nw = 21 ∨ nw = 35) (hE : EL c nw P) (hV : GV P)  (hv : (-2147483648 ≤ x ∧ x < 2147483648) ∧ (((x < 0) → post (some (vi (0))) (S nw nx g, 78 + gn, c)) ∧ ((¬ (x < 0)) → (-2147483648 ≤ x ∧ x < 2147483648) ∧ (gR P < 2147483648) ∧ (((((gR P : Nat) : Int) ≤ x) → post (some (vi (0))) (S nw nx g, 78 + gn, c)) ∧ ((¬ (((gR P : Nat) : Int) ≤ x)) → post (some (vi (1))) (S nw nx g, 78 + gn, c)))))) :
    SW G (j + 0) mX8_isLetter 0 [some (vr (0)), some (vi (x))] [] (S nw nx g, 78 + gn, c) B0 post := by
  refine sw_iload_n (dX8_isLetter.at 0 rfl) rfl rfl ?_
  refine sw_if_lt (tgt := 19) (dX8_isLetter.at 1 rfl) (by decide) hv.1 (fun q => ?_) (fun q => ?_)
  · replace hv := hv.2.1 q
    refine sw_iconst (dX8_isLetter.at 9 rfl) ?_
    exact sw_zret (dX8_isLetter.at 10 rfl) rfl (by decide) (Nat.le_refl _) (Nat.le_refl _) hv
  · replace hv := hv.2.2 q
    refine sw_iload_n (dX8_isLetter.at 2 rfl) rfl rfl ?_
    refine sw_aload_n (dX8_isLetter.at 3 rfl) rfl rfl ?_
    refine sw_getR (dX8_isLetter.at 4 rfl) fp_X8_65 (S_lt 0 (by decide)) (S_0 nw nx g) rfl rfl ?_
    refine sw_getIE (w := ((gR P : Nat) : Int)) (dX8_isLetter.at 5 rfl) fp_X8_109 (S_e_lt hnw) (S_e hnw) rfl (EL_R hE) ?_
    refine sw_icmp_ge (tgt := 19) (dX8_isLetter.at 6 rfl) (by decide) hv.1 (nrng hv.2.1) (fun q => ?_) (fun q => ?_)
    · replace hv := hv.2.2.1 q
      refine sw_iconst (dX8_isLetter.at 9 rfl) ?_
      exact sw_zret (dX8_isLetter.at 10 rfl) rfl (by decide) (Nat.le_refl _) (Nat.le_refl _) hv
    · replace hv := hv.2.2.2 q
      refine sw_iconst (dX8_isLetter.at 7 rfl) ?_
      refine sw_goto (tgt := 20) (dX8_isLetter.at 8 rfl) (by decide) ?_
      exact sw_zret (dX8_isLetter.at 10 rfl) rfl (by decide) (Nat.le_refl _) (Nat.le_refl _) hv

set_option maxHeartbeats 2000000 in
theorem c_X8_isLetter {G : GG} {j nw nx gn : Nat} {g : Nat → Sh} {c : Nat → Nat → Int} {post : Option AV → AM → Prop} {P : GD} {x : Int} (hnw : nw = 21 ∨ nw = 35) (hE : EL c nw P) (hV : GV P) (p1 : -2147483648 ≤ x ∧ x < 2147483648) (K : post (some (vi (bz (decide (0 ≤ x ∧ x < (gR P : Int)))))) (S nw nx g, 78 + gn, c)) : SM G (j + 1) mX8_isLetter [vr (0), vi (x)] (S nw nx g, 78 + gn, c) 0 0 post := by
  refine sm_of wX8_isLetter rfl (Nat.le_of_ble_eq_true rfl) ?_
  refine g_X8_isLetter_0 hnw hE hV ?_
  have := GV_R hV
  have K1 : ∀ v : Int, v = bz (decide (0 ≤ x ∧ x < (gR P : Int))) → post (some (vi v)) (S nw nx g, 78 + gn, c) := fun v h => h ▸ K
  repeat' (first | apply And.intro | intro)
  all_goals first | assumption | omega | (refine K1 _ ?_; simp only [bz, decide_eq_true_eq]; split <;> omega)

theorem p2_R {P : GD} (hV : GV P) : 2 ^ gR P ≤ 32 := Nat.le_trans (Nat.pow_le_pow_right (by decide) (GV_R hV)) (by decide)
set_option maxHeartbeats 2000000 in
set_option maxRecDepth 20000 in
theorem g_X8_isSet_0 {G : GG} {j nw nx gn : Nat} {g : Nat → Sh} {c : Nat → Nat → Int} {post : Option AV → AM → Prop} {x : Int} {P : GD} (hnw : nw = 21 ∨ nw = 35) (hE : EL c nw P) (hV : GV P)  (hv : (gN P < 2147483648) ∧ (((((gN P : Nat) : Int) ≤ 0) → post (some (vi (0))) (S nw nx g, 78 + gn, c)) ∧ ((¬ (((gN P : Nat) : Int) ≤ 0)) → (-2147483648 ≤ x ∧ x < 2147483648) ∧ (((x < 0) → post (some (vi (0))) (S nw nx g, 78 + gn, c)) ∧ ((¬ (x < 0)) → (gR P < 32) ∧ ((-2147483648 ≤ x ∧ x < 2147483648) ∧ (1 * 2 ^ (gR P) < 2147483648) ∧ (((((1 * 2 ^ (gR P) : Nat) : Int) ≤ x) → post (some (vi (0))) (S nw nx g, 78 + gn, c)) ∧ ((¬ (((1 * 2 ^ (gR P) : Nat) : Int) ≤ x)) → post (some (vi (1))) (S nw nx g, 78 + gn, c))))))))) :
    SW G (j + 0) mX8_isSet 0 [some (vr (0)), some (vi (x))] [] (S nw nx g, 78 + gn, c) B0 post := by
  refine sw_aload_n (dX8_isSet.at 0 rfl) rfl rfl ?_
  refine sw_getR (dX8_isSet.at 1 rfl) fp_X8_65 (S_lt 0 (by decide)) (S_0 nw nx g) rfl rfl ?_
  refine sw_getIE (w := ((gN P : Nat) : Int)) (dX8_isSet.at 2 rfl) fp_X8_103 (S_e_lt hnw) (S_e hnw) rfl (EL_N hE) ?_
  refine sw_if_le (tgt := 31) (dX8_isSet.at 3 rfl) (by decide) (nrng hv.1) (fun q => ?_) (fun q => ?_)
  · replace hv := hv.2.1 q
    refine sw_iconst (dX8_isSet.at 15 rfl) ?_
    exact sw_zret (dX8_isSet.at 16 rfl) rfl (by decide) (Nat.le_refl _) (Nat.le_refl _) hv
  · replace hv := hv.2.2 q
    refine sw_iload_n (dX8_isSet.at 4 rfl) rfl rfl ?_
    refine sw_if_lt (tgt := 31) (dX8_isSet.at 5 rfl) (by decide) hv.1 (fun q => ?_) (fun q => ?_)
    · replace hv := hv.2.1 q
      refine sw_iconst (dX8_isSet.at 15 rfl) ?_
      exact sw_zret (dX8_isSet.at 16 rfl) rfl (by decide) (Nat.le_refl _) (Nat.le_refl _) hv
    · replace hv := hv.2.2 q
      refine sw_iload_n (dX8_isSet.at 6 rfl) rfl rfl ?_
      refine sw_iconst (dX8_isSet.at 7 rfl) ?_
      refine sw_aload_n (dX8_isSet.at 8 rfl) rfl rfl ?_
      refine sw_getR (dX8_isSet.at 9 rfl) fp_X8_65 (S_lt 0 (by decide)) (S_0 nw nx g) rfl rfl ?_
      refine sw_getIE (w := ((gR P : Nat) : Int)) (dX8_isSet.at 10 rfl) fp_X8_109 (S_e_lt hnw) (S_e hnw) rfl (EL_R hE) ?_
      refine sw_ishlN 1 (gR P) (dX8_isSet.at 11 rfl) hv.1 ?_
      replace hv := hv.2
      refine sw_icmp_ge (tgt := 31) (dX8_isSet.at 12 rfl) (by decide) hv.1 (nrng hv.2.1) (fun q => ?_) (fun q => ?_)
      · replace hv := hv.2.2.1 q
        refine sw_iconst (dX8_isSet.at 15 rfl) ?_
        exact sw_zret (dX8_isSet.at 16 rfl) rfl (by decide) (Nat.le_refl _) (Nat.le_refl _) hv
      · replace hv := hv.2.2.2 q
        refine sw_iconst (dX8_isSet.at 13 rfl) ?_
        refine sw_goto (tgt := 32) (dX8_isSet.at 14 rfl) (by decide) ?_
        exact sw_zret (dX8_isSet.at 16 rfl) rfl (by decide) (Nat.le_refl _) (Nat.le_refl _) hv

set_option maxHeartbeats 2000000 in
theorem c_X8_isSet {G : GG} {j nw nx gn : Nat} {g : Nat → Sh} {c : Nat → Nat → Int} {post : Option AV → AM → Prop} {P : GD} {x : Int} (hnw : nw = 21 ∨ nw = 35) (hE : EL c nw P) (hV : GV P) (p1 : -2147483648 ≤ x ∧ x < 2147483648) (K : post (some (vi (bz (decide (0 < gN P ∧ 0 ≤ x ∧ x < ((2 ^ gR P : Nat) : Int)))))) (S nw nx g, 78 + gn, c)) : SM G (j + 1) mX8_isSet [vr (0), vi (x)] (S nw nx g, 78 + gn, c) 0 0 post := by
  refine sm_of wX8_isSet rfl (Nat.le_of_ble_eq_true rfl) ?_
  refine g_X8_isSet_0 hnw hE hV ?_
  have := GV_N hV
  have := GV_R hV
  have h32 := p2_R hV
  have K1 : ∀ v : Int, v = bz (decide (0 < gN P ∧ 0 ≤ x ∧ x < ((2 ^ gR P : Nat) : Int))) → post (some (vi v)) (S nw nx g, 78 + gn, c) := fun v h => h ▸ K
  generalize 2 ^ gR P = q at *
  simp only [Nat.one_mul]
  repeat' (first | apply And.intro | intro)
  all_goals first | assumption | omega | (refine K1 _ ?_; simp only [bz, decide_eq_true_eq]; split <;> omega)

def q_length (P : GD) (x : Int) : Int := if (0 ≤ x ∧ x < (gN P : Int)) then ((gL P x.toNat : Nat) : Int) else (-2)
set_option maxHeartbeats 2000000 in
set_option maxRecDepth 20000 in
theorem g_X8_length_0n {G : GG} {j nw nx gn : Nat} {g : Nat → Sh} {c : Nat → Nat → Int} {post : Option AV → AM → Prop} {x : Nat} {P : GD} (hnw : nw = 21 ∨ nw = 35) (hE : EL c nw P) (hV : GV P)  (hv : (-2147483648 ≤ ((x : Nat) : Int) ∧ ((x : Nat) : Int) < 2147483648) ∧ ((((decide (0 ≤ ((x : Nat) : Int) ∧ ((x : Nat) : Int) < (gN P : Int))) = false) → post (some (vi ((-2)))) (S nw nx g, 78 + gn, c)) ∧ (((decide (0 ≤ ((x : Nat) : Int) ∧ ((x : Nat) : Int) < (gN P : Int))) = true) → (x < gN P) ∧ (post (some (vi (((gL P x : Nat) : Int)))) (S nw nx g, 78 + gn, c))))) :
    SW G (j + 1) mX8_length 0 [some (vr (0)), some (vi (((x : Nat) : Int)))] [] (S nw nx g, 78 + gn, c) B0 post := by
  refine sw_aload_n (dX8_length.at 0 rfl) rfl rfl ?_
  refine sw_iload_n (dX8_length.at 1 rfl) rfl rfl ?_
  refine sw_callV (B' := B0) (As := [vi (((x : Nat) : Int))]) (mc := 0) (ms := 0) (dX8_length.at 2 rfl) lk_X8_130 (S_lt 0 (by decide)) (S_0 nw nx g) rfl rfl (Nat.le_of_ble_eq_true rfl) rfl (Nat.le_refl _) (Nat.le_refl _) ?_
  refine c_X8_isElementP (x := ((x : Nat) : Int)) (j := j + 0) hnw hE hV hv.1 ?_
  replace hv := hv.2
  refine sw_if_eq (tgt := 20) (dX8_length.at 3 rfl) (by decide) (bz_rng _) (fun q => ?_) (fun q => ?_)
  · replace hv := hv.1 (bz_0 q)
    refine sw_bipush (dX8_length.at 10 rfl) (by decide) ?_
    exact sw_iret (dX8_length.at 11 rfl) rfl (Nat.le_refl _) (Nat.le_refl _) hv
  · replace hv := hv.2 (bz_n0 q)
    refine sw_aload_n (dX8_length.at 4 rfl) rfl rfl ?_
    refine sw_getR (dX8_length.at 5 rfl) fp_X8_65 (S_lt 0 (by decide)) (S_0 nw nx g) rfl rfl ?_
    refine sw_getR (dX8_length.at 6 rfl) fp_X8_133 (S_e_lt hnw) (S_e hnw) rfl rfl ?_
    refine sw_iload_n (dX8_length.at 7 rfl) rfl rfl ?_
    refine sw_ialdN x (w := ((gL P x : Nat) : Int)) (dX8_length.at 8 rfl) (S_ek_lt hnw (by decide)) (S_e_2 hnw) (by decide) (GV_lt hV hv.1) (EL_L hE hv.1) ?_
    replace hv := hv.2
    refine sw_goto (tgt := 22) (dX8_length.at 9 rfl) (by decide) ?_
    exact sw_iret (dX8_length.at 11 rfl) rfl (Nat.le_refl _) (Nat.le_refl _) hv

set_option maxHeartbeats 2000000 in
set_option maxRecDepth 20000 in
theorem g_X8_length_0 {G : GG} {j nw nx gn : Nat} {g : Nat → Sh} {c : Nat → Nat → Int} {post : Option AV → AM → Prop} {x : Int} {P : GD} (hnw : nw = 21 ∨ nw = 35) (hE : EL c nw P) (hV : GV P)  (hv : (-2147483648 ≤ x ∧ x < 2147483648) ∧ ((((decide (0 ≤ x ∧ x < (gN P : Int))) = false) → post (some (vi ((-2)))) (S nw nx g, 78 + gn, c)) ∧ (((decide (0 ≤ x ∧ x < (gN P : Int))) = true) → SW G (j + 1) mX8_length 16 [some (vr (0)), some (vi (x))] [vi (x), vr (nw + 2)] (S nw nx g, 78 + gn, c) B0 post))) :
    SW G (j + 1) mX8_length 0 [some (vr (0)), some (vi (x))] [] (S nw nx g, 78 + gn, c) B0 post := by
  refine sw_aload_n (dX8_length.at 0 rfl) rfl rfl ?_
  refine sw_iload_n (dX8_length.at 1 rfl) rfl rfl ?_
  refine sw_callV (B' := B0) (As := [vi (x)]) (mc := 0) (ms := 0) (dX8_length.at 2 rfl) lk_X8_130 (S_lt 0 (by decide)) (S_0 nw nx g) rfl rfl (Nat.le_of_ble_eq_true rfl) rfl (Nat.le_refl _) (Nat.le_refl _) ?_
  refine c_X8_isElementP (x := x) (j := j + 0) hnw hE hV hv.1 ?_
  replace hv := hv.2
  refine sw_if_eq (tgt := 20) (dX8_length.at 3 rfl) (by decide) (bz_rng _) (fun q => ?_) (fun q => ?_)
  · replace hv := hv.1 (bz_0 q)
    refine sw_bipush (dX8_length.at 10 rfl) (by decide) ?_
    exact sw_iret (dX8_length.at 11 rfl) rfl (Nat.le_refl _) (Nat.le_refl _) hv
  · replace hv := hv.2 (bz_n0 q)
    refine sw_aload_n (dX8_length.at 4 rfl) rfl rfl ?_
    refine sw_getR (dX8_length.at 5 rfl) fp_X8_65 (S_lt 0 (by decide)) (S_0 nw nx g) rfl rfl ?_
    refine sw_getR (dX8_length.at 6 rfl) fp_X8_133 (S_e_lt hnw) (S_e hnw) rfl rfl ?_
    refine sw_iload_n (dX8_length.at 7 rfl) rfl rfl ?_
    exact hv

set_option maxHeartbeats 4000000 in
theorem c_X8_length {G : GG} {j nw nx gn : Nat} {g : Nat → Sh} {c : Nat → Nat → Int} {post : Option AV → AM → Prop} {P : GD} {x : Int} (hnw : nw = 21 ∨ nw = 35) (hE : EL c nw P) (hV : GV P) (p1 : -2147483648 ≤ x ∧ x < 2147483648) (K : post (some (vi (q_length P x))) (S nw nx g, 78 + gn, c)) : SM G (j + 2) mX8_length [vr (0), vi (x)] (S nw nx g, 78 + gn, c) 0 0 post := by
  refine sm_of wX8_length rfl (Nat.le_of_ble_eq_true rfl) ?_
  have hN60 := GV_N hV
  have hR5 := GV_R hV
  by_cases hv : (0 ≤ x ∧ x < (gN P : Int))
  · obtain ⟨x, rfl⟩ : ∃ n : Nat, x = (n : Int) := ⟨x.toNat, by omega⟩
    have e : q_length P ((x : Nat) : Int) = ((gL P x : Nat) : Int) := by
      rw [q_length, if_pos hv]
      simp only [Int.toNat_natCast]
    rw [e] at K
    have K1 : ∀ z : Int, z = (((gL P x : Nat) : Int)) → post (some (vi z)) (S nw nx g, 78 + gn, c) := fun z h => h ▸ K
    refine g_X8_length_0n hnw hE hV ?_
    refine ⟨?_, ⟨fun q => ?_, fun q => ⟨?_, ?_⟩⟩⟩
    all_goals first | exact K | omega | assumption | (exfalso; simp only [decide_eq_true_eq, decide_eq_false_iff_not] at *; omega) | (refine K1 _ ?_; first | (split <;> first | rfl | omega) | (simp [bz, *]; done))
  · have e : q_length P x = (-2) := by rw [q_length, if_neg hv]
    rw [e] at K
    refine g_X8_length_0 hnw hE hV ?_
    refine ⟨?_, ⟨fun q => ?_, fun q => ?_⟩⟩
    all_goals first | exact K | omega | assumption | (exfalso; simp only [decide_eq_true_eq, decide_eq_false_iff_not] at *; omega)

def q_inverse (P : GD) (x : Int) : Int := if (0 ≤ x ∧ x < (gN P : Int)) then ((gI P x.toNat : Nat) : Int) else (-2)
set_option maxHeartbeats 2000000 in
set_option maxRecDepth 20000 in
theorem g_X8_inverse_0n {G : GG} {j nw nx gn : Nat} {g : Nat → Sh} {c : Nat → Nat → Int} {post : Option AV → AM → Prop} {x : Nat} {P : GD} (hnw : nw = 21 ∨ nw = 35) (hE : EL c nw P) (hV : GV P)  (hv : (-2147483648 ≤ ((x : Nat) : Int) ∧ ((x : Nat) : Int) < 2147483648) ∧ ((((decide (0 ≤ ((x : Nat) : Int) ∧ ((x : Nat) : Int) < (gN P : Int))) = false) → post (some (vi ((-2)))) (S nw nx g, 78 + gn, c)) ∧ (((decide (0 ≤ ((x : Nat) : Int) ∧ ((x : Nat) : Int) < (gN P : Int))) = true) → (x < gN P) ∧ (post (some (vi (((gI P x : Nat) : Int)))) (S nw nx g, 78 + gn, c))))) :
    SW G (j + 1) mX8_inverse 0 [some (vr (0)), some (vi (((x : Nat) : Int)))] [] (S nw nx g, 78 + gn, c) B0 post := by
  refine sw_aload_n (dX8_inverse.at 0 rfl) rfl rfl ?_
  refine sw_iload_n (dX8_inverse.at 1 rfl) rfl rfl ?_
  refine sw_callV (B' := B0) (As := [vi (((x : Nat) : Int))]) (mc := 0) (ms := 0) (dX8_inverse.at 2 rfl) lk_X8_130 (S_lt 0 (by decide)) (S_0 nw nx g) rfl rfl (Nat.le_of_ble_eq_true rfl) rfl (Nat.le_refl _) (Nat.le_refl _) ?_
  refine c_X8_isElementP (x := ((x : Nat) : Int)) (j := j + 0) hnw hE hV hv.1 ?_
  replace hv := hv.2
  refine sw_if_eq (tgt := 20) (dX8_inverse.at 3 rfl) (by decide) (bz_rng _) (fun q => ?_) (fun q => ?_)
  · replace hv := hv.1 (bz_0 q)
    refine sw_bipush (dX8_inverse.at 10 rfl) (by decide) ?_
    exact sw_iret (dX8_inverse.at 11 rfl) rfl (Nat.le_refl _) (Nat.le_refl _) hv
  · replace hv := hv.2 (bz_n0 q)
    refine sw_aload_n (dX8_inverse.at 4 rfl) rfl rfl ?_
    refine sw_getR (dX8_inverse.at 5 rfl) fp_X8_65 (S_lt 0 (by decide)) (S_0 nw nx g) rfl rfl ?_
    refine sw_getR (dX8_inverse.at 6 rfl) fp_X8_164 (S_e_lt hnw) (S_e hnw) rfl rfl ?_
    refine sw_iload_n (dX8_inverse.at 7 rfl) rfl rfl ?_
    refine sw_ialdN x (w := ((gI P x : Nat) : Int)) (dX8_inverse.at 8 rfl) (S_ek_lt hnw (by decide)) (S_e_7 hnw) (by decide) (GV_lt hV hv.1) (EL_I hE hv.1) ?_
    replace hv := hv.2
    refine sw_goto (tgt := 22) (dX8_inverse.at 9 rfl) (by decide) ?_
    exact sw_iret (dX8_inverse.at 11 rfl) rfl (Nat.le_refl _) (Nat.le_refl _) hv

set_option maxHeartbeats 2000000 in
set_option maxRecDepth 20000 in
theorem g_X8_inverse_0 {G : GG} {j nw nx gn : Nat} {g : Nat → Sh} {c : Nat → Nat → Int} {post : Option AV → AM → Prop} {x : Int} {P : GD} (hnw : nw = 21 ∨ nw = 35) (hE : EL c nw P) (hV : GV P)  (hv : (-2147483648 ≤ x ∧ x < 2147483648) ∧ ((((decide (0 ≤ x ∧ x < (gN P : Int))) = false) → post (some (vi ((-2)))) (S nw nx g, 78 + gn, c)) ∧ (((decide (0 ≤ x ∧ x < (gN P : Int))) = true) → SW G (j + 1) mX8_inverse 16 [some (vr (0)), some (vi (x))] [vi (x), vr (nw + 7)] (S nw nx g, 78 + gn, c) B0 post))) :
    SW G (j + 1) mX8_inverse 0 [some (vr (0)), some (vi (x))] [] (S nw nx g, 78 + gn, c) B0 post := by
  refine sw_aload_n (dX8_inverse.at 0 rfl) rfl rfl ?_
  refine sw_iload_n (dX8_inverse.at 1 rfl) rfl rfl ?_
  refine sw_callV (B' := B0) (As := [vi (x)]) (mc := 0) (ms := 0) (dX8_inverse.at 2 rfl) lk_X8_130 (S_lt 0 (by decide)) (S_0 nw nx g) rfl rfl (Nat.le_of_ble_eq_true rfl) rfl (Nat.le_refl _) (Nat.le_refl _) ?_
  refine c_X8_isElementP (x := x) (j := j + 0) hnw hE hV hv.1 ?_
  replace hv := hv.2
  refine sw_if_eq (tgt := 20) (dX8_inverse.at 3 rfl) (by decide) (bz_rng _) (fun q => ?_) (fun q => ?_)
  · replace hv := hv.1 (bz_0 q)
    refine sw_bipush (dX8_inverse.at 10 rfl) (by decide) ?_
    exact sw_iret (dX8_inverse.at 11 rfl) rfl (Nat.le_refl _) (Nat.le_refl _) hv
  · replace hv := hv.2 (bz_n0 q)
    refine sw_aload_n (dX8_inverse.at 4 rfl) rfl rfl ?_
    refine sw_getR (dX8_inverse.at 5 rfl) fp_X8_65 (S_lt 0 (by decide)) (S_0 nw nx g) rfl rfl ?_
    refine sw_getR (dX8_inverse.at 6 rfl) fp_X8_164 (S_e_lt hnw) (S_e hnw) rfl rfl ?_
    refine sw_iload_n (dX8_inverse.at 7 rfl) rfl rfl ?_
    exact hv

set_option maxHeartbeats 4000000 in
theorem c_X8_inverse {G : GG} {j nw nx gn : Nat} {g : Nat → Sh} {c : Nat → Nat → Int} {post : Option AV → AM → Prop} {P : GD} {x : Int} (hnw : nw = 21 ∨ nw = 35) (hE : EL c nw P) (hV : GV P) (p1 : -2147483648 ≤ x ∧ x < 2147483648) (K : post (some (vi (q_inverse P x))) (S nw nx g, 78 + gn, c)) : SM G (j + 2) mX8_inverse [vr (0), vi (x)] (S nw nx g, 78 + gn, c) 0 0 post := by
  refine sm_of wX8_inverse rfl (Nat.le_of_ble_eq_true rfl) ?_
  have hN60 := GV_N hV
  have hR5 := GV_R hV
  by_cases hv : (0 ≤ x ∧ x < (gN P : Int))
  · obtain ⟨x, rfl⟩ : ∃ n : Nat, x = (n : Int) := ⟨x.toNat, by omega⟩
    have e : q_inverse P ((x : Nat) : Int) = ((gI P x : Nat) : Int) := by
      rw [q_inverse, if_pos hv]
      simp only [Int.toNat_natCast]
    rw [e] at K
    have K1 : ∀ z : Int, z = (((gI P x : Nat) : Int)) → post (some (vi z)) (S nw nx g, 78 + gn, c) := fun z h => h ▸ K
    refine g_X8_inverse_0n hnw hE hV ?_
    refine ⟨?_, ⟨fun q => ?_, fun q => ⟨?_, ?_⟩⟩⟩
    all_goals first | exact K | omega | assumption | (exfalso; simp only [decide_eq_true_eq, decide_eq_false_iff_not] at *; omega) | (refine K1 _ ?_; first | (split <;> first | rfl | omega) | (simp [bz, *]; done))
  · have e : q_inverse P x = (-2) := by rw [q_inverse, if_neg hv]
    rw [e] at K
    refine g_X8_inverse_0 hnw hE hV ?_
    refine ⟨?_, ⟨fun q => ?_, fun q => ?_⟩⟩
    all_goals first | exact K | omega | assumption | (exfalso; simp only [decide_eq_true_eq, decide_eq_false_iff_not] at *; omega)

def q_mirrors (P : GD) (x : Int) : Int := if (0 ≤ x ∧ x < (gN P : Int)) then ((gO P x.toNat : Nat) : Int) else (-2)
set_option maxHeartbeats 2000000 in
set_option maxRecDepth 20000 in
theorem g_X8_mirrors_0n {G : GG} {j nw nx gn : Nat} {g : Nat → Sh} {c : Nat → Nat → Int} {post : Option AV → AM → Prop} {x : Nat} {P : GD} (hnw : nw = 21 ∨ nw = 35) (hE : EL c nw P) (hV : GV P)  (hv : (-2147483648 ≤ ((x : Nat) : Int) ∧ ((x : Nat) : Int) < 2147483648) ∧ ((((decide (0 ≤ ((x : Nat) : Int) ∧ ((x : Nat) : Int) < (gN P : Int))) = false) → post (some (vi ((-2)))) (S nw nx g, 78 + gn, c)) ∧ (((decide (0 ≤ ((x : Nat) : Int) ∧ ((x : Nat) : Int) < (gN P : Int))) = true) → (x < gN P) ∧ (post (some (vi (((gO P x : Nat) : Int)))) (S nw nx g, 78 + gn, c))))) :
    SW G (j + 1) mX8_mirrors 0 [some (vr (0)), some (vi (((x : Nat) : Int)))] [] (S nw nx g, 78 + gn, c) B0 post := by
  refine sw_aload_n (dX8_mirrors.at 0 rfl) rfl rfl ?_
  refine sw_iload_n (dX8_mirrors.at 1 rfl) rfl rfl ?_
  refine sw_callV (B' := B0) (As := [vi (((x : Nat) : Int))]) (mc := 0) (ms := 0) (dX8_mirrors.at 2 rfl) lk_X8_130 (S_lt 0 (by decide)) (S_0 nw nx g) rfl rfl (Nat.le_of_ble_eq_true rfl) rfl (Nat.le_refl _) (Nat.le_refl _) ?_
  refine c_X8_isElementP (x := ((x : Nat) : Int)) (j := j + 0) hnw hE hV hv.1 ?_
  replace hv := hv.2
  refine sw_if_eq (tgt := 20) (dX8_mirrors.at 3 rfl) (by decide) (bz_rng _) (fun q => ?_) (fun q => ?_)
  · replace hv := hv.1 (bz_0 q)
    refine sw_bipush (dX8_mirrors.at 10 rfl) (by decide) ?_
    exact sw_iret (dX8_mirrors.at 11 rfl) rfl (Nat.le_refl _) (Nat.le_refl _) hv
  · replace hv := hv.2 (bz_n0 q)
    refine sw_aload_n (dX8_mirrors.at 4 rfl) rfl rfl ?_
    refine sw_getR (dX8_mirrors.at 5 rfl) fp_X8_65 (S_lt 0 (by decide)) (S_0 nw nx g) rfl rfl ?_
    refine sw_getR (dX8_mirrors.at 6 rfl) fp_X8_282 (S_e_lt hnw) (S_e hnw) rfl rfl ?_
    refine sw_iload_n (dX8_mirrors.at 7 rfl) rfl rfl ?_
    refine sw_ialdN x (w := ((gO P x : Nat) : Int)) (dX8_mirrors.at 8 rfl) (S_ek_lt hnw (by decide)) (S_e_11 hnw) (by decide) (GV_lt hV hv.1) (EL_O hE hv.1) ?_
    replace hv := hv.2
    refine sw_goto (tgt := 22) (dX8_mirrors.at 9 rfl) (by decide) ?_
    exact sw_iret (dX8_mirrors.at 11 rfl) rfl (Nat.le_refl _) (Nat.le_refl _) hv

set_option maxHeartbeats 2000000 in
set_option maxRecDepth 20000 in
theorem g_X8_mirrors_0 {G : GG} {j nw nx gn : Nat} {g : Nat → Sh} {c : Nat → Nat → Int} {post : Option AV → AM → Prop} {x : Int} {P : GD} (hnw : nw = 21 ∨ nw = 35) (hE : EL c nw P) (hV : GV P)  (hv : (-2147483648 ≤ x ∧ x < 2147483648) ∧ ((((decide (0 ≤ x ∧ x < (gN P : Int))) = false) → post (some (vi ((-2)))) (S nw nx g, 78 + gn, c)) ∧ (((decide (0 ≤ x ∧ x < (gN P : Int))) = true) → SW G (j + 1) mX8_mirrors 16 [some (vr (0)), some (vi (x))] [vi (x), vr (nw + 11)] (S nw nx g, 78 + gn, c) B0 post))) :
    SW G (j + 1) mX8_mirrors 0 [some (vr (0)), some (vi (x))] [] (S nw nx g, 78 + gn, c) B0 post := by
  refine sw_aload_n (dX8_mirrors.at 0 rfl) rfl rfl ?_
  refine sw_iload_n (dX8_mirrors.at 1 rfl) rfl rfl ?_
  refine sw_callV (B' := B0) (As := [vi (x)]) (mc := 0) (ms := 0) (dX8_mirrors.at 2 rfl) lk_X8_130 (S_lt 0 (by decide)) (S_0 nw nx g) rfl rfl (Nat.le_of_ble_eq_true rfl) rfl (Nat.le_refl _) (Nat.le_refl _) ?_
  refine c_X8_isElementP (x := x) (j := j + 0) hnw hE hV hv.1 ?_
  replace hv := hv.2
  refine sw_if_eq (tgt := 20) (dX8_mirrors.at 3 rfl) (by decide) (bz_rng _) (fun q => ?_) (fun q => ?_)
  · replace hv := hv.1 (bz_0 q)
    refine sw_bipush (dX8_mirrors.at 10 rfl) (by decide) ?_
    exact sw_iret (dX8_mirrors.at 11 rfl) rfl (Nat.le_refl _) (Nat.le_refl _) hv
  · replace hv := hv.2 (bz_n0 q)
    refine sw_aload_n (dX8_mirrors.at 4 rfl) rfl rfl ?_
    refine sw_getR (dX8_mirrors.at 5 rfl) fp_X8_65 (S_lt 0 (by decide)) (S_0 nw nx g) rfl rfl ?_
    refine sw_getR (dX8_mirrors.at 6 rfl) fp_X8_282 (S_e_lt hnw) (S_e hnw) rfl rfl ?_
    refine sw_iload_n (dX8_mirrors.at 7 rfl) rfl rfl ?_
    exact hv

set_option maxHeartbeats 4000000 in
theorem c_X8_mirrors {G : GG} {j nw nx gn : Nat} {g : Nat → Sh} {c : Nat → Nat → Int} {post : Option AV → AM → Prop} {P : GD} {x : Int} (hnw : nw = 21 ∨ nw = 35) (hE : EL c nw P) (hV : GV P) (p1 : -2147483648 ≤ x ∧ x < 2147483648) (K : post (some (vi (q_mirrors P x))) (S nw nx g, 78 + gn, c)) : SM G (j + 2) mX8_mirrors [vr (0), vi (x)] (S nw nx g, 78 + gn, c) 0 0 post := by
  refine sm_of wX8_mirrors rfl (Nat.le_of_ble_eq_true rfl) ?_
  have hN60 := GV_N hV
  have hR5 := GV_R hV
  by_cases hv : (0 ≤ x ∧ x < (gN P : Int))
  · obtain ⟨x, rfl⟩ : ∃ n : Nat, x = (n : Int) := ⟨x.toNat, by omega⟩
    have e : q_mirrors P ((x : Nat) : Int) = ((gO P x : Nat) : Int) := by
      rw [q_mirrors, if_pos hv]
      simp only [Int.toNat_natCast]
    rw [e] at K
    have K1 : ∀ z : Int, z = (((gO P x : Nat) : Int)) → post (some (vi z)) (S nw nx g, 78 + gn, c) := fun z h => h ▸ K
    refine g_X8_mirrors_0n hnw hE hV ?_
    refine ⟨?_, ⟨fun q => ?_, fun q => ⟨?_, ?_⟩⟩⟩
    all_goals first | exact K | omega | assumption | (exfalso; simp only [decide_eq_true_eq, decide_eq_false_iff_not] at *; omega) | (refine K1 _ ?_; first | (split <;> first | rfl | omega) | (simp [bz, *]; done))
  · have e : q_mirrors P x = (-2) := by rw [q_mirrors, if_neg hv]
    rw [e] at K
    refine g_X8_mirrors_0 hnw hE hV ?_
    refine ⟨?_, ⟨fun q => ?_, fun q => ?_⟩⟩
    all_goals first | exact K | omega | assumption | (exfalso; simp only [decide_eq_true_eq, decide_eq_false_iff_not] at *; omega)

def q_spellings (P : GD) (x : Int) : Int := if (0 ≤ x ∧ x < (gN P : Int)) then ((gW P x.toNat : Nat) : Int) else (-2)
set_option maxHeartbeats 2000000 in
set_option maxRecDepth 20000 in
theorem g_X8_spellings_0n {G : GG} {j nw nx gn : Nat} {g : Nat → Sh} {c : Nat → Nat → Int} {post : Option AV → AM → Prop} {x : Nat} {P : GD} (hnw : nw = 21 ∨ nw = 35) (hE : EL c nw P) (hV : GV P)  (hv : (-2147483648 ≤ ((x : Nat) : Int) ∧ ((x : Nat) : Int) < 2147483648) ∧ ((((decide (0 ≤ ((x : Nat) : Int) ∧ ((x : Nat) : Int) < (gN P : Int))) = false) → post (some (vl ((-2)))) (S nw nx g, 78 + gn, c)) ∧ (((decide (0 ≤ ((x : Nat) : Int) ∧ ((x : Nat) : Int) < (gN P : Int))) = true) → (x < gN P) ∧ (post (some (vl (((gW P x : Nat) : Int)))) (S nw nx g, 78 + gn, c))))) :
    SW G (j + 1) mX8_spellings 0 [some (vr (0)), some (vi (((x : Nat) : Int)))] [] (S nw nx g, 78 + gn, c) B0 post := by
  refine sw_aload_n (dX8_spellings.at 0 rfl) rfl rfl ?_
  refine sw_iload_n (dX8_spellings.at 1 rfl) rfl rfl ?_
  refine sw_callV (B' := B0) (As := [vi (((x : Nat) : Int))]) (mc := 0) (ms := 0) (dX8_spellings.at 2 rfl) lk_X8_130 (S_lt 0 (by decide)) (S_0 nw nx g) rfl rfl (Nat.le_of_ble_eq_true rfl) rfl (Nat.le_refl _) (Nat.le_refl _) ?_
  refine c_X8_isElementP (x := ((x : Nat) : Int)) (j := j + 0) hnw hE hV hv.1 ?_
  replace hv := hv.2
  refine sw_if_eq (tgt := 20) (dX8_spellings.at 3 rfl) (by decide) (bz_rng _) (fun q => ?_) (fun q => ?_)
  · replace hv := hv.1 (bz_0 q)
    refine sw_ldc2 (z := (-2)) (dX8_spellings.at 10 rfl) kc_X8_147 (by decide) ?_
    exact sw_lret (dX8_spellings.at 11 rfl) rfl (Nat.le_refl _) (Nat.le_refl _) hv
  · replace hv := hv.2 (bz_n0 q)
    refine sw_aload_n (dX8_spellings.at 4 rfl) rfl rfl ?_
    refine sw_getR (dX8_spellings.at 5 rfl) fp_X8_65 (S_lt 0 (by decide)) (S_0 nw nx g) rfl rfl ?_
    refine sw_getR (dX8_spellings.at 6 rfl) fp_X8_144 (S_e_lt hnw) (S_e hnw) rfl rfl ?_
    refine sw_iload_n (dX8_spellings.at 7 rfl) rfl rfl ?_
    refine sw_laldN x (w := ((gW P x : Nat) : Int)) (dX8_spellings.at 8 rfl) (S_ek_lt hnw (by decide)) (S_e_12 hnw) (by decide) (GV_lt hV hv.1) (EL_W hE hv.1) ?_
    replace hv := hv.2
    refine sw_goto (tgt := 23) (dX8_spellings.at 9 rfl) (by decide) ?_
    exact sw_lret (dX8_spellings.at 11 rfl) rfl (Nat.le_refl _) (Nat.le_refl _) hv

set_option maxHeartbeats 2000000 in
set_option maxRecDepth 20000 in
theorem g_X8_spellings_0 {G : GG} {j nw nx gn : Nat} {g : Nat → Sh} {c : Nat → Nat → Int} {post : Option AV → AM → Prop} {x : Int} {P : GD} (hnw : nw = 21 ∨ nw = 35) (hE : EL c nw P) (hV : GV P)  (hv : (-2147483648 ≤ x ∧ x < 2147483648) ∧ ((((decide (0 ≤ x ∧ x < (gN P : Int))) = false) → post (some (vl ((-2)))) (S nw nx g, 78 + gn, c)) ∧ (((decide (0 ≤ x ∧ x < (gN P : Int))) = true) → SW G (j + 1) mX8_spellings 16 [some (vr (0)), some (vi (x))] [vi (x), vr (nw + 12)] (S nw nx g, 78 + gn, c) B0 post))) :
    SW G (j + 1) mX8_spellings 0 [some (vr (0)), some (vi (x))] [] (S nw nx g, 78 + gn, c) B0 post := by
  refine sw_aload_n (dX8_spellings.at 0 rfl) rfl rfl ?_
  refine sw_iload_n (dX8_spellings.at 1 rfl) rfl rfl ?_
  refine sw_callV (B' := B0) (As := [vi (x)]) (mc := 0) (ms := 0) (dX8_spellings.at 2 rfl) lk_X8_130 (S_lt 0 (by decide)) (S_0 nw nx g) rfl rfl (Nat.le_of_ble_eq_true rfl) rfl (Nat.le_refl _) (Nat.le_refl _) ?_
  refine c_X8_isElementP (x := x) (j := j + 0) hnw hE hV hv.1 ?_
  replace hv := hv.2
  refine sw_if_eq (tgt := 20) (dX8_spellings.at 3 rfl) (by decide) (bz_rng _) (fun q => ?_) (fun q => ?_)
  · replace hv := hv.1 (bz_0 q)
    refine sw_ldc2 (z := (-2)) (dX8_spellings.at 10 rfl) kc_X8_147 (by decide) ?_
    exact sw_lret (dX8_spellings.at 11 rfl) rfl (Nat.le_refl _) (Nat.le_refl _) hv
  · replace hv := hv.2 (bz_n0 q)
    refine sw_aload_n (dX8_spellings.at 4 rfl) rfl rfl ?_
    refine sw_getR (dX8_spellings.at 5 rfl) fp_X8_65 (S_lt 0 (by decide)) (S_0 nw nx g) rfl rfl ?_
    refine sw_getR (dX8_spellings.at 6 rfl) fp_X8_144 (S_e_lt hnw) (S_e hnw) rfl rfl ?_
    refine sw_iload_n (dX8_spellings.at 7 rfl) rfl rfl ?_
    exact hv

set_option maxHeartbeats 4000000 in
theorem c_X8_spellings {G : GG} {j nw nx gn : Nat} {g : Nat → Sh} {c : Nat → Nat → Int} {post : Option AV → AM → Prop} {P : GD} {x : Int} (hnw : nw = 21 ∨ nw = 35) (hE : EL c nw P) (hV : GV P) (p1 : -2147483648 ≤ x ∧ x < 2147483648) (K : post (some (vl (q_spellings P x))) (S nw nx g, 78 + gn, c)) : SM G (j + 2) mX8_spellings [vr (0), vi (x)] (S nw nx g, 78 + gn, c) 0 0 post := by
  refine sm_of wX8_spellings rfl (Nat.le_of_ble_eq_true rfl) ?_
  have hN60 := GV_N hV
  have hR5 := GV_R hV
  by_cases hv : (0 ≤ x ∧ x < (gN P : Int))
  · obtain ⟨x, rfl⟩ : ∃ n : Nat, x = (n : Int) := ⟨x.toNat, by omega⟩
    have e : q_spellings P ((x : Nat) : Int) = ((gW P x : Nat) : Int) := by
      rw [q_spellings, if_pos hv]
      simp only [Int.toNat_natCast]
    rw [e] at K
    have K1 : ∀ z : Int, z = (((gW P x : Nat) : Int)) → post (some (vl z)) (S nw nx g, 78 + gn, c) := fun z h => h ▸ K
    refine g_X8_spellings_0n hnw hE hV ?_
    refine ⟨?_, ⟨fun q => ?_, fun q => ⟨?_, ?_⟩⟩⟩
    all_goals first | exact K | omega | assumption | (exfalso; simp only [decide_eq_true_eq, decide_eq_false_iff_not] at *; omega) | (refine K1 _ ?_; first | (split <;> first | rfl | omega) | (simp [bz, *]; done))
  · have e : q_spellings P x = (-2) := by rw [q_spellings, if_neg hv]
    rw [e] at K
    refine g_X8_spellings_0 hnw hE hV ?_
    refine ⟨?_, ⟨fun q => ?_, fun q => ?_⟩⟩
    all_goals first | exact K | omega | assumption | (exfalso; simp only [decide_eq_true_eq, decide_eq_false_iff_not] at *; omega)

