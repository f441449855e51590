set_option maxHeartbeats 2000000 in
set_option maxRecDepth 20000 in
theorem g_X8_moves_0n {G : GG} {j nw nx gn : Nat} {g : Nat → Sh} {c : Nat → Nat → Int} {post : Option AV → AM → Prop} {x : Nat} {k : Nat} {l : Nat} {P : GD} (hnw : nw = 21 ∨ nw = 35) (hE : EL c nw P) (hV : GV P) (hL : hLn P) (hC : GC P) (hS : hSp P) (hmv : hMv P)  (hv : (-2147483648 ≤ ((x : Nat) : Int) ∧ ((x : Nat) : Int) < 2147483648) ∧ ((((decide (0 ≤ ((x : Nat) : Int) ∧ ((x : Nat) : Int) < (gN P : Int))) = false) → post (some (vi ((-2)))) (S nw nx g, 78 + gn, c)) ∧ (((decide (0 ≤ ((x : Nat) : Int) ∧ ((x : Nat) : Int) < (gN P : Int))) = true) → (k < 2147483648) ∧ (((((k : Nat) : Int) < 0) → post (some (vi ((-2)))) (S nw nx g, 78 + gn, c)) ∧ ((¬ (((k : Nat) : Int) < 0)) → (l < 2147483648) ∧ (((0 ≤ ((l : Nat) : Int)) → (k < 2147483648) ∧ ((x < gN P) ∧ ((k < 9223372036854775808) ∧ (gW P x < 9223372036854775808) ∧ (((gW P x ≤ k) → post (some (vi ((-2)))) (S nw nx g, 78 + gn, c)) ∧ ((¬ (gW P x ≤ k)) → (l < 2147483648) ∧ ((x < gN P) ∧ ((l < 9223372036854775808) ∧ (gW P x < 9223372036854775808) ∧ (((l < gW P x) → (x < gN P) ∧ (k < gW P x) ∧ (l < gW P x) ∧ (∀ c_1 : Nat → Nat → Int, S5 c c_1 → post (some (vi (((dMv P x k l : Nat) : Int)))) (S nw nx g, 78 + gn, c_1))) ∧ ((¬ (l < gW P x)) → post (some (vi ((-2)))) (S nw nx g, 78 + gn, c)))))))))) ∧ ((¬ (0 ≤ ((l : Nat) : Int))) → post (some (vi ((-2)))) (S nw nx g, 78 + gn, c)))))))) :
    SW G (j + 5) mX8_moves 0 [some (vr (0)), some (vi (((x : Nat) : Int))), some (vi (((k : Nat) : Int))), some (vi (((l : Nat) : Int)))] [] (S nw nx g, 78 + gn, c) B0 post := by
  refine sw_aload_n (dX8_moves.at 0 rfl) rfl rfl ?_
  refine sw_iload_n (dX8_moves.at 1 rfl) rfl rfl ?_
  refine sw_callV (B' := B0) (As := [vi (((x : Nat) : Int))]) (mc := 0) (ms := 0) (dX8_moves.at 2 rfl) lk_X8_130 (S_lt 0 (by decide)) (S_0 nw nx g) rfl rfl (Nat.le_of_ble_eq_true rfl) rfl (Nat.le_refl _) (Nat.le_refl _) ?_
  refine c_X8_isElementP (x := ((x : Nat) : Int)) (j := j + 4) hnw hE hV hv.1 ?_
  replace hv := hv.2
  refine sw_if_eq (tgt := 16) (dX8_moves.at 3 rfl) (by decide) (bz_rng _) (fun q => ?_) (fun q => ?_)
  · replace hv := hv.1 (bz_0 q)
    refine sw_bipush (dX8_moves.at 8 rfl) (by decide) ?_
    exact sw_iret (dX8_moves.at 9 rfl) rfl (Nat.le_refl _) (Nat.le_refl _) hv
  · replace hv := hv.2 (bz_n0 q)
    refine sw_iload_n (dX8_moves.at 4 rfl) rfl rfl ?_
    refine sw_if_lt (tgt := 16) (dX8_moves.at 5 rfl) (by decide) (nrng hv.1) (fun q => ?_) (fun q => ?_)
    · replace hv := hv.2.1 q
      refine sw_bipush (dX8_moves.at 8 rfl) (by decide) ?_
      exact sw_iret (dX8_moves.at 9 rfl) rfl (Nat.le_refl _) (Nat.le_refl _) hv
    · replace hv := hv.2.2 q
      refine sw_iload_n (dX8_moves.at 6 rfl) rfl rfl ?_
      refine sw_if_ge (tgt := 19) (dX8_moves.at 7 rfl) (by decide) (nrng hv.1) (fun q => ?_) (fun q => ?_)
      · replace hv := hv.2.1 q
        refine sw_iload_n (dX8_moves.at 10 rfl) rfl rfl ?_
        refine sw_i2l (dX8_moves.at 11 rfl) (nrng hv.1) ?_
        replace hv := hv.2
        refine sw_aload_n (dX8_moves.at 12 rfl) rfl rfl ?_
        refine sw_getR (dX8_moves.at 13 rfl) fp_X8_65 (S_lt 0 (by decide)) (S_0 nw nx g) rfl rfl ?_
        refine sw_getR (dX8_moves.at 14 rfl) fp_X8_144 (S_e_lt hnw) (S_e hnw) rfl rfl ?_
        refine sw_iload_n (dX8_moves.at 15 rfl) rfl rfl ?_
        refine sw_laldN x (w := ((gW P x : Nat) : Int)) (dX8_moves.at 16 rfl) (S_ek_lt hnw (by decide)) (S_e_12 hnw) (by decide) (GV_lt hV hv.1) (EL_W hE hv.1) ?_
        replace hv := hv.2
        refine sw_lcmpN_ge k (gW P x) (tgt := 49) (dX8_moves.at 17 rfl) (dX8_moves.at 18 rfl) (by decide) hv.1 hv.2.1 (fun q => ?_) (fun q => ?_)
        · replace hv := hv.2.2.1 q
          refine sw_bipush (dX8_moves.at 28 rfl) (by decide) ?_
          exact sw_iret (dX8_moves.at 29 rfl) rfl (Nat.le_refl _) (Nat.le_refl _) hv
        · replace hv := hv.2.2.2 q
          refine sw_iload_n (dX8_moves.at 19 rfl) rfl rfl ?_
          refine sw_i2l (dX8_moves.at 20 rfl) (nrng hv.1) ?_
          replace hv := hv.2
          refine sw_aload_n (dX8_moves.at 21 rfl) rfl rfl ?_
          refine sw_getR (dX8_moves.at 22 rfl) fp_X8_65 (S_lt 0 (by decide)) (S_0 nw nx g) rfl rfl ?_
          refine sw_getR (dX8_moves.at 23 rfl) fp_X8_144 (S_e_lt hnw) (S_e hnw) rfl rfl ?_
          refine sw_iload_n (dX8_moves.at 24 rfl) rfl rfl ?_
          refine sw_laldN x (w := ((gW P x : Nat) : Int)) (dX8_moves.at 25 rfl) (S_ek_lt hnw (by decide)) (S_e_12 hnw) (by decide) (GV_lt hV hv.1) (EL_W hE hv.1) ?_
          replace hv := hv.2
          refine sw_lcmpN_lt l (gW P x) (tgt := 52) (dX8_moves.at 26 rfl) (dX8_moves.at 27 rfl) (by decide) hv.1 hv.2.1 (fun q => ?_) (fun q => ?_)
          · replace hv := hv.2.2.1 q
            refine sw_aload_n (dX8_moves.at 30 rfl) rfl rfl ?_
            refine sw_getR (dX8_moves.at 31 rfl) fp_X8_47 (S_lt 0 (by decide)) (S_0 nw nx g) rfl rfl ?_
            refine sw_aload_n (dX8_moves.at 32 rfl) rfl rfl ?_
            refine sw_getR (dX8_moves.at 33 rfl) fp_X8_65 (S_lt 0 (by decide)) (S_0 nw nx g) rfl rfl ?_
            refine sw_iload_n (dX8_moves.at 34 rfl) rfl rfl ?_
            refine sw_iload_n (dX8_moves.at 35 rfl) rfl rfl ?_
            refine sw_iload_n (dX8_moves.at 36 rfl) rfl rfl ?_
            refine sw_callV (B' := B0) (As := [vr (nw), vi (((x : Nat) : Int)), vi (((k : Nat) : Int)), vi (((l : Nat) : Int))]) (mc := 0) (ms := 0) (dX8_moves.at 37 rfl) lk_X8_278 (S_lt 11 (by decide)) (S_11 nw nx g) rfl rfl (Nat.le_of_ble_eq_true rfl) rfl (Nat.le_refl _) (Nat.le_refl _) ?_
            refine c_X5_fewest (e := nw) (x := x) (k := k) (l := l) (j := j + 0) hnw hE hV hL hC hS hmv hv.1 hv.2.1 hv.2.2.1 (fun c_1 h_1 => ?_)
            replace hv := hv.2.2.2 c_1 h_1
            exact sw_iret (dX8_moves.at 38 rfl) rfl (Nat.le_refl _) (Nat.le_refl _) hv
          · replace hv := hv.2.2.2 q
            refine sw_bipush (dX8_moves.at 28 rfl) (by decide) ?_
            exact sw_iret (dX8_moves.at 29 rfl) rfl (Nat.le_refl _) (Nat.le_refl _) hv
      · replace hv := hv.2.2 q
        refine sw_bipush (dX8_moves.at 8 rfl) (by decide) ?_
        exact sw_iret (dX8_moves.at 9 rfl) rfl (Nat.le_refl _) (Nat.le_refl _) hv

set_option maxHeartbeats 2000000 in
set_option maxRecDepth 20000 in
theorem g_X8_moves_0x {G : GG} {j nw nx gn : Nat} {g : Nat → Sh} {c : Nat → Nat → Int} {post : Option AV → AM → Prop} {x : Nat} {k : Int} {l : Int} {P : GD} (hnw : nw = 21 ∨ nw = 35) (hE : EL c nw P) (hV : GV P) (hL : hLn P) (hC : GC P) (hS : hSp P) (hmv : hMv P)  (hv : (-2147483648 ≤ ((x : Nat) : Int) ∧ ((x : Nat) : Int) < 2147483648) ∧ ((((decide (0 ≤ ((x : Nat) : Int) ∧ ((x : Nat) : Int) < (gN P : Int))) = false) → post (some (vi ((-2)))) (S nw nx g, 78 + gn, c)) ∧ (((decide (0 ≤ ((x : Nat) : Int) ∧ ((x : Nat) : Int) < (gN P : Int))) = true) → (-2147483648 ≤ k ∧ k < 2147483648) ∧ (((k < 0) → post (some (vi ((-2)))) (S nw nx g, 78 + gn, c)) ∧ ((¬ (k < 0)) → (-2147483648 ≤ l ∧ l < 2147483648) ∧ (((0 ≤ l) → (-2147483648 ≤ k ∧ k < 2147483648) ∧ ((x < gN P) ∧ ((-9223372036854775808 ≤ k ∧ k < 9223372036854775808) ∧ (gW P x < 9223372036854775808) ∧ (((((gW P x : Nat) : Int) ≤ k) → post (some (vi ((-2)))) (S nw nx g, 78 + gn, c)) ∧ ((¬ (((gW P x : Nat) : Int) ≤ k)) → (-2147483648 ≤ l ∧ l < 2147483648) ∧ ((x < gN P) ∧ ((-9223372036854775808 ≤ l ∧ l < 9223372036854775808) ∧ (gW P x < 9223372036854775808) ∧ (((l < ((gW P x : Nat) : Int)) → SW G (j + 5) mX8_moves 63 [some (vr (0)), some (vi (((x : Nat) : Int))), some (vi (k)), some (vi (l))] [vi (l), vi (k), vi (((x : Nat) : Int)), vr (nw), vr (11)] (S nw nx g, 78 + gn, c) B0 post) ∧ ((¬ (l < ((gW P x : Nat) : Int))) → post (some (vi ((-2)))) (S nw nx g, 78 + gn, c)))))))))) ∧ ((¬ (0 ≤ l)) → post (some (vi ((-2)))) (S nw nx g, 78 + gn, c)))))))) :
    SW G (j + 5) mX8_moves 0 [some (vr (0)), some (vi (((x : Nat) : Int))), some (vi (k)), some (vi (l))] [] (S nw nx g, 78 + gn, c) B0 post := by
  refine sw_aload_n (dX8_moves.at 0 rfl) rfl rfl ?_
  refine sw_iload_n (dX8_moves.at 1 rfl) rfl rfl ?_
  refine sw_callV (B' := B0) (As := [vi (((x : Nat) : Int))]) (mc := 0) (ms := 0) (dX8_moves.at 2 rfl) lk_X8_130 (S_lt 0 (by decide)) (S_0 nw nx g) rfl rfl (Nat.le_of_ble_eq_true rfl) rfl (Nat.le_refl _) (Nat.le_refl _) ?_
  refine c_X8_isElementP (x := ((x : Nat) : Int)) (j := j + 4) hnw hE hV hv.1 ?_
  replace hv := hv.2
  refine sw_if_eq (tgt := 16) (dX8_moves.at 3 rfl) (by decide) (bz_rng _) (fun q => ?_) (fun q => ?_)
  · replace hv := hv.1 (bz_0 q)
    refine sw_bipush (dX8_moves.at 8 rfl) (by decide) ?_
    exact sw_iret (dX8_moves.at 9 rfl) rfl (Nat.le_refl _) (Nat.le_refl _) hv
  · replace hv := hv.2 (bz_n0 q)
    refine sw_iload_n (dX8_moves.at 4 rfl) rfl rfl ?_
    refine sw_if_lt (tgt := 16) (dX8_moves.at 5 rfl) (by decide) hv.1 (fun q => ?_) (fun q => ?_)
    · replace hv := hv.2.1 q
      refine sw_bipush (dX8_moves.at 8 rfl) (by decide) ?_
      exact sw_iret (dX8_moves.at 9 rfl) rfl (Nat.le_refl _) (Nat.le_refl _) hv
    · replace hv := hv.2.2 q
      refine sw_iload_n (dX8_moves.at 6 rfl) rfl rfl ?_
      refine sw_if_ge (tgt := 19) (dX8_moves.at 7 rfl) (by decide) hv.1 (fun q => ?_) (fun q => ?_)
      · replace hv := hv.2.1 q
        refine sw_iload_n (dX8_moves.at 10 rfl) rfl rfl ?_
        refine sw_i2l (dX8_moves.at 11 rfl) hv.1 ?_
        replace hv := hv.2
        refine sw_aload_n (dX8_moves.at 12 rfl) rfl rfl ?_
        refine sw_getR (dX8_moves.at 13 rfl) fp_X8_65 (S_lt 0 (by decide)) (S_0 nw nx g) rfl rfl ?_
        refine sw_getR (dX8_moves.at 14 rfl) fp_X8_144 (S_e_lt hnw) (S_e hnw) rfl rfl ?_
        refine sw_iload_n (dX8_moves.at 15 rfl) rfl rfl ?_
        refine sw_laldN x (w := ((gW P x : Nat) : Int)) (dX8_moves.at 16 rfl) (S_ek_lt hnw (by decide)) (S_e_12 hnw) (by decide) (GV_lt hV hv.1) (EL_W hE hv.1) ?_
        replace hv := hv.2
        refine sw_lcmp_ge (tgt := 49) (dX8_moves.at 17 rfl) (dX8_moves.at 18 rfl) (by decide) hv.1 (nrngL hv.2.1) (fun q => ?_) (fun q => ?_)
        · replace hv := hv.2.2.1 q
          refine sw_bipush (dX8_moves.at 28 rfl) (by decide) ?_
          exact sw_iret (dX8_moves.at 29 rfl) rfl (Nat.le_refl _) (Nat.le_refl _) hv
        · replace hv := hv.2.2.2 q
          refine sw_iload_n (dX8_moves.at 19 rfl) rfl rfl ?_
          refine sw_i2l (dX8_moves.at 20 rfl) hv.1 ?_
          replace hv := hv.2
          refine sw_aload_n (dX8_moves.at 21 rfl) rfl rfl ?_
          refine sw_getR (dX8_moves.at 22 rfl) fp_X8_65 (S_lt 0 (by decide)) (S_0 nw nx g) rfl rfl ?_
          refine sw_getR (dX8_moves.at 23 rfl) fp_X8_144 (S_e_lt hnw) (S_e hnw) rfl rfl ?_
          refine sw_iload_n (dX8_moves.at 24 rfl) rfl rfl ?_
          refine sw_laldN x (w := ((gW P x : Nat) : Int)) (dX8_moves.at 25 rfl) (S_ek_lt hnw (by decide)) (S_e_12 hnw) (by decide) (GV_lt hV hv.1) (EL_W hE hv.1) ?_
          replace hv := hv.2
          refine sw_lcmp_lt (tgt := 52) (dX8_moves.at 26 rfl) (dX8_moves.at 27 rfl) (by decide) hv.1 (nrngL hv.2.1) (fun q => ?_) (fun q => ?_)
          · replace hv := hv.2.2.1 q
            refine sw_aload_n (dX8_moves.at 30 rfl) rfl rfl ?_
            refine sw_getR (dX8_moves.at 31 rfl) fp_X8_47 (S_lt 0 (by decide)) (S_0 nw nx g) rfl rfl ?_
            refine sw_aload_n (dX8_moves.at 32 rfl) rfl rfl ?_
            refine sw_getR (dX8_moves.at 33 rfl) fp_X8_65 (S_lt 0 (by decide)) (S_0 nw nx g) rfl rfl ?_
            refine sw_iload_n (dX8_moves.at 34 rfl) rfl rfl ?_
            refine sw_iload_n (dX8_moves.at 35 rfl) rfl rfl ?_
            refine sw_iload_n (dX8_moves.at 36 rfl) rfl rfl ?_
            exact hv
          · replace hv := hv.2.2.2 q
            refine sw_bipush (dX8_moves.at 28 rfl) (by decide) ?_
            exact sw_iret (dX8_moves.at 29 rfl) rfl (Nat.le_refl _) (Nat.le_refl _) hv
      · replace hv := hv.2.2 q
        refine sw_bipush (dX8_moves.at 8 rfl) (by decide) ?_
        exact sw_iret (dX8_moves.at 9 rfl) rfl (Nat.le_refl _) (Nat.le_refl _) hv

set_option maxHeartbeats 2000000 in
set_option maxRecDepth 20000 in
theorem g_X8_moves_0 {G : GG} {j nw nx gn : Nat} {g : Nat → Sh} {c : Nat → Nat → Int} {post : Option AV → AM → Prop} {x : Int} {k : Int} {l : Int} {P : GD} (hnw : nw = 21 ∨ nw = 35) (hE : EL c nw P) (hV : GV P) (hL : hLn P) (hC : GC P) (hS : hSp P) (hmv : hMv P)  (hv : (-2147483648 ≤ x ∧ x < 2147483648) ∧ ((((decide (0 ≤ x ∧ x < (gN P : Int))) = false) → post (some (vi ((-2)))) (S nw nx g, 78 + gn, c)) ∧ (((decide (0 ≤ x ∧ x < (gN P : Int))) = true) → (-2147483648 ≤ k ∧ k < 2147483648) ∧ (((k < 0) → post (some (vi ((-2)))) (S nw nx g, 78 + gn, c)) ∧ ((¬ (k < 0)) → (-2147483648 ≤ l ∧ l < 2147483648) ∧ (((0 ≤ l) → (-2147483648 ≤ k ∧ k < 2147483648) ∧ (SW G (j + 5) mX8_moves 29 [some (vr (0)), some (vi (x)), some (vi (k)), some (vi (l))] [vi (x), vr (nw + 12), vl (k)] (S nw nx g, 78 + gn, c) B0 post)) ∧ ((¬ (0 ≤ l)) → post (some (vi ((-2)))) (S nw nx g, 78 + gn, c)))))))) :
    SW G (j + 5) mX8_moves 0 [some (vr (0)), some (vi (x)), some (vi (k)), some (vi (l))] [] (S nw nx g, 78 + gn, c) B0 post := by
  refine sw_aload_n (dX8_moves.at 0 rfl) rfl rfl ?_
  refine sw_iload_n (dX8_moves.at 1 rfl) rfl rfl ?_
  refine sw_callV (B' := B0) (As := [vi (x)]) (mc := 0) (ms := 0) (dX8_moves.at 2 rfl) lk_X8_130 (S_lt 0 (by decide)) (S_0 nw nx g) rfl rfl (Nat.le_of_ble_eq_true rfl) rfl (Nat.le_refl _) (Nat.le_refl _) ?_
  refine c_X8_isElementP (x := x) (j := j + 4) hnw hE hV hv.1 ?_
  replace hv := hv.2
  refine sw_if_eq (tgt := 16) (dX8_moves.at 3 rfl) (by decide) (bz_rng _) (fun q => ?_) (fun q => ?_)
  · replace hv := hv.1 (bz_0 q)
    refine sw_bipush (dX8_moves.at 8 rfl) (by decide) ?_
    exact sw_iret (dX8_moves.at 9 rfl) rfl (Nat.le_refl _) (Nat.le_refl _) hv
  · replace hv := hv.2 (bz_n0 q)
    refine sw_iload_n (dX8_moves.at 4 rfl) rfl rfl ?_
    refine sw_if_lt (tgt := 16) (dX8_moves.at 5 rfl) (by decide) hv.1 (fun q => ?_) (fun q => ?_)
    · replace hv := hv.2.1 q
      refine sw_bipush (dX8_moves.at 8 rfl) (by decide) ?_
      exact sw_iret (dX8_moves.at 9 rfl) rfl (Nat.le_refl _) (Nat.le_refl _) hv
    · replace hv := hv.2.2 q
      refine sw_iload_n (dX8_moves.at 6 rfl) rfl rfl ?_
      refine sw_if_ge (tgt := 19) (dX8_moves.at 7 rfl) (by decide) hv.1 (fun q => ?_) (fun q => ?_)
      · replace hv := hv.2.1 q
        refine sw_iload_n (dX8_moves.at 10 rfl) rfl rfl ?_
        refine sw_i2l (dX8_moves.at 11 rfl) hv.1 ?_
        replace hv := hv.2
        refine sw_aload_n (dX8_moves.at 12 rfl) rfl rfl ?_
        refine sw_getR (dX8_moves.at 13 rfl) fp_X8_65 (S_lt 0 (by decide)) (S_0 nw nx g) rfl rfl ?_
        refine sw_getR (dX8_moves.at 14 rfl) fp_X8_144 (S_e_lt hnw) (S_e hnw) rfl rfl ?_
        refine sw_iload_n (dX8_moves.at 15 rfl) rfl rfl ?_
        exact hv
      · replace hv := hv.2.2 q
        refine sw_bipush (dX8_moves.at 8 rfl) (by decide) ?_
        exact sw_iret (dX8_moves.at 9 rfl) rfl (Nat.le_refl _) (Nat.le_refl _) hv

set_option maxHeartbeats 4000000 in
theorem c_X8_moves {G : GG} {j nw nx gn : Nat} {g : Nat → Sh} {c : Nat → Nat → Int} {post : Option AV → AM → Prop} {P : GD} {x k l : Int} (hnw : nw = 21 ∨ nw = 35) (hE : EL c nw P) (hV : GV P) (hL : hLn P) (hC : GC P) (hS : hSp P) (hmv : hMv P) (p1 : -2147483648 ≤ x ∧ x < 2147483648) (p2 : -2147483648 ≤ k ∧ k < 2147483648) (p3 : -2147483648 ≤ l ∧ l < 2147483648) (K : ∀ c2 : Nat → Nat → Int, S5 c c2 → post (some (vi (q_moves P x k l))) (S nw nx g, 78 + gn, c2)) : SM G (j + 6) mX8_moves [vr 0, vi x, vi k, vi l] (S nw nx g, 78 + gn, c) 0 0 post := by
  refine sm_of wX8_moves rfl (Nat.le_of_ble_eq_true rfl) ?_
  have hN60 := GV_N hV
  by_cases hx : 0 ≤ x ∧ x < (gN P : Int)
  · obtain ⟨x, rfl⟩ : ∃ n : Nat, x = (n : Int) := ⟨x.toNat, by omega⟩
    have hx2 : x < gN P := by omega
    have w9 := (hV.2.2.1 x hx2).2.2.2.2.2.2.2.1
    by_cases hv : (0 ≤ k ∧ k < (gW P x : Int)) ∧ 0 ≤ l ∧ l < (gW P x : Int)
    · obtain ⟨k, rfl⟩ : ∃ n : Nat, k = (n : Int) := ⟨k.toNat, by omega⟩
      obtain ⟨l, rfl⟩ : ∃ n : Nat, l = (n : Int) := ⟨l.toNat, by omega⟩
      have e : q_moves P ((x : Nat) : Int) ((k : Nat) : Int) ((l : Nat) : Int) = ((dMv P x k l : Nat) : Int) := by
        rw [q_moves, if_pos ⟨hx, by simp only [Int.toNat_natCast]; exact hv⟩]; simp only [Int.toNat_natCast]
      rw [e] at K
      refine g_X8_moves_0n hnw hE hV hL hC hS hmv ?_
      refine ⟨?_, ⟨fun q => ?_, fun q => ⟨?_, ⟨fun q => ?_, fun q => ⟨?_, ⟨fun q => ⟨?_, ⟨?_, ⟨?_, ?_, ⟨fun q => ?_, fun q => ⟨?_, ⟨?_, ⟨?_, ?_, ⟨fun q => ⟨?_, ?_, ?_, fun c_1 h_1 => ?_⟩, fun q => ?_⟩⟩⟩⟩⟩⟩⟩⟩, fun q => ?_⟩⟩⟩⟩⟩⟩
      all_goals first | omega | assumption | exact K _ (by assumption) | (exfalso; simp only [decide_eq_true_eq, decide_eq_false_iff_not] at *; omega)
    · have e : q_moves P ((x : Nat) : Int) k l = -2 := by
        rw [q_moves, if_neg (fun h => hv (by simp only [Int.toNat_natCast] at h; exact h.2))]
      rw [e] at K
      have K0 := K c (fun _ _ => rfl)
      refine g_X8_moves_0x hnw hE hV hL hC hS hmv ?_
      refine ⟨?_, ⟨fun q => ?_, fun q => ⟨?_, ⟨fun q => ?_, fun q => ⟨?_, ⟨fun q => ⟨?_, ⟨?_, ⟨?_, ?_, ⟨fun q => ?_, fun q => ⟨?_, ⟨?_, ⟨?_, ?_, ⟨fun q => ?_, fun q => ?_⟩⟩⟩⟩⟩⟩⟩⟩, fun q => ?_⟩⟩⟩⟩⟩⟩
      all_goals first | omega | assumption | exact K0 | (exfalso; simp only [decide_eq_true_eq, decide_eq_false_iff_not] at *; omega)
  · have e : q_moves P x k l = -2 := by rw [q_moves, if_neg (fun h => hx h.1)]
    rw [e] at K
    have K0 := K c (fun _ _ => rfl)
    refine g_X8_moves_0 hnw hE hV hL hC hS hmv ?_
    refine ⟨?_, ⟨fun q => ?_, fun q => ⟨?_, ⟨fun q => ?_, fun q => ⟨?_, ⟨fun q => ⟨?_, ?_⟩, fun q => ?_⟩⟩⟩⟩⟩⟩
    all_goals first | omega | assumption | exact K0 | (exfalso; simp only [decide_eq_true_eq, decide_eq_false_iff_not] at *; omega)

