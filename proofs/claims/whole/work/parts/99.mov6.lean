set_option maxHeartbeats 2000000 in
set_option maxRecDepth 20000 in
theorem g_X9_moves_0n {G : GG} {j nw nx gn : Nat} {g : Nat → Sh} {c : Nat → Nat → Int} {post : Option AV → AM → Prop} {x : Nat} {k : Nat} {l : Nat} {P : GD} (hM : ML c P) (hV : GV P) (hC : GC P) (hS : hSp P) (hmv : hMv P)  (hv : (-2147483648 ≤ ((x : Nat) : Int) ∧ ((x : Nat) : Int) < 2147483648) ∧ ((((decide (0 ≤ ((x : Nat) : Int) ∧ ((x : Nat) : Int) < (gN P : Int))) = true) → (x < gN P) ∧ (∀ c_1 : Nat → Nat → Int, (SC c c_1 ∧ RWS P x c_1) → (k < 2147483648) ∧ ((-2147483648 ≤ ((gW P x : Nat) : Int) - 1 ∧ ((gW P x : Nat) : Int) - 1 < 2147483648) ∧ ((-9223372036854775808 ≤ (((k : Nat) : Int) : Int) ∧ (((k : Nat) : Int) : Int) < 9223372036854775808) ∧ (-9223372036854775808 ≤ (0 : Int) ∧ (0 : Int) < 9223372036854775808) ∧ (-9223372036854775808 ≤ ((((gW P x : Nat) : Int) - 1) : Int) ∧ ((((gW P x : Nat) : Int) - 1) : Int) < 9223372036854775808) ∧ ((((decide (0 ≤ ((k : Nat) : Int) ∧ ((k : Nat) : Int) ≤ (((gW P x : Nat) : Int) - 1))) = false) → post (some (vi ((-2)))) (S nw nx g, 78 + gn, c_1)) ∧ (((decide (0 ≤ ((k : Nat) : Int) ∧ ((k : Nat) : Int) ≤ (((gW P x : Nat) : Int) - 1))) = true) → (l < 2147483648) ∧ ((-2147483648 ≤ ((gW P x : Nat) : Int) - 1 ∧ ((gW P x : Nat) : Int) - 1 < 2147483648) ∧ ((-9223372036854775808 ≤ (((l : Nat) : Int) : Int) ∧ (((l : Nat) : Int) : Int) < 9223372036854775808) ∧ (-9223372036854775808 ≤ (0 : Int) ∧ (0 : Int) < 9223372036854775808) ∧ (-9223372036854775808 ≤ ((((gW P x : Nat) : Int) - 1) : Int) ∧ ((((gW P x : Nat) : Int) - 1) : Int) < 9223372036854775808) ∧ ((((decide (0 ≤ ((l : Nat) : Int) ∧ ((l : Nat) : Int) ≤ (((gW P x : Nat) : Int) - 1))) = true) → SW G (j + 17) mX9_moves 54 [some (vr (49)), some (vi (((x : Nat) : Int))), some (vi (((k : Nat) : Int))), some (vi (((l : Nat) : Int))), some (vi (0)), none, none] [] (S nw nx g, 78 + gn, c_1) B0 post) ∧ (((decide (0 ≤ ((l : Nat) : Int) ∧ ((l : Nat) : Int) ≤ (((gW P x : Nat) : Int) - 1))) = false) → post (some (vi ((-2)))) (S nw nx g, 78 + gn, c_1))))))))))) ∧ (((decide (0 ≤ ((x : Nat) : Int) ∧ ((x : Nat) : Int) < (gN P : Int))) = false) → post (some (vi ((-2)))) (S nw nx g, 78 + gn, c)))) :
    SW G (j + 17) mX9_moves 0 [some (vr (49)), some (vi (((x : Nat) : Int))), some (vi (((k : Nat) : Int))), some (vi (((l : Nat) : Int))), none, none, none] [] (S nw nx g, 78 + gn, c) B0 post := by
  refine sw_aload_n (dX9_moves_0.at 0 rfl) rfl rfl ?_
  refine sw_iload_n (dX9_moves_0.at 1 rfl) rfl rfl ?_
  refine sw_callV (B' := B0) (As := [vi (((x : Nat) : Int))]) (mc := 0) (ms := 0) (dX9_moves_0.at 2 rfl) lk_X9_251 (S_lt 49 (by decide)) (S_49 nw nx g) rfl rfl (Nat.le_of_ble_eq_true rfl) rfl (Nat.le_refl _) (Nat.le_refl _) ?_
  refine c_X9_isElement (x := ((x : Nat) : Int)) (j := j + 15) hM hV hv.1 ?_
  replace hv := hv.2
  refine sw_if_ne (tgt := 11) (dX9_moves_0.at 3 rfl) (by decide) (bz_rng _) (fun q => ?_) (fun q => ?_)
  · replace hv := hv.1 (bz_1 q)
    refine sw_aload_n (dX9_moves_0.at 6 rfl) rfl rfl ?_
    refine sw_iload_n (dX9_moves_0.at 7 rfl) rfl rfl ?_
    refine sw_callV (B' := B0) (As := [vi (((x : Nat) : Int))]) (mc := 0) (ms := 0) (dX9_moves_0.at 8 rfl) lk_X9_267 (S_lt 49 (by decide)) (S_49 nw nx g) rfl rfl (Nat.le_of_ble_eq_true rfl) rfl (Nat.le_refl _) (Nat.le_refl _) ?_
    refine c_X9_laysAllRows (x := x) (j := j + 0) hM hV hC hS hv.1 (fun c_1 h_1 => ?_)
    replace hv := hv.2 c_1 h_1
    refine sw_iload_n (dX9_moves_0.at 9 rfl) rfl rfl ?_
    refine sw_i2l (dX9_moves_0.at 10 rfl) (nrng hv.1) ?_
    replace hv := hv.2
    refine sw_lconst (z := 0) (dX9_moves_0.at 11 rfl) (by decide) ?_
    refine sw_aload_n (dX9_moves_0.at 12 rfl) rfl rfl ?_
    refine sw_getIE (w := ((gW P x : Nat) : Int)) (dX9_moves_0.at 13 rfl) fp_X9_261 (S_lt 49 (by decide)) (S_49 nw nx g) rfl h_1.2.1 ?_
    refine sw_iconst (dX9_moves_0.at 14 rfl) ?_
    refine sw_isub (dX9_moves_0.at 15 rfl) ?_
    refine sw_i2l (dX9_moves_0.at 16 rfl) hv.1 ?_
    replace hv := hv.2
    refine sw_callS (post' := post) (B' := B0) (As := [vl (((k : Nat) : Int)), vl (0), vl (((gW P x : Nat) : Int) - 1)]) (mc := 0) (ms := 0) (dX9_moves_0.at 17 rfl) lk_X9_104 rfl rfl (Nat.le_of_ble_eq_true rfl) rfl (Nat.le_refl _) (Nat.le_refl _) ?_
    refine c_X9_in (u := ((k : Nat) : Int)) (lo := 0) (hi := (((gW P x : Nat) : Int) - 1)) (j := j + 16) hv.1 hv.2.1 hv.2.2.1 ?_
    replace hv := hv.2.2.2
    refine sw_if_eq (tgt := 48) (dX9_moves_0.at 18 rfl) (by decide) (bz_rng _) (fun q => ?_) (fun q => ?_)
    · replace hv := hv.1 (bz_0 q)
      refine sw_bipush (dX9_moves_0.at 29 rfl) (by decide) ?_
      exact sw_iret (dX9_moves_0.at 30 rfl) rfl (Nat.le_refl _) (Nat.le_refl _) hv
    · replace hv := hv.2 (bz_n0 q)
      refine sw_iload_n (dX9_moves_0.at 19 rfl) rfl rfl ?_
      refine sw_i2l (dX9_moves_0.at 20 rfl) (nrng hv.1) ?_
      replace hv := hv.2
      refine sw_lconst (z := 0) (dX9_moves_0.at 21 rfl) (by decide) ?_
      refine sw_aload_n (dX9_moves_0.at 22 rfl) rfl rfl ?_
      refine sw_getIE (w := ((gW P x : Nat) : Int)) (dX9_moves_0.at 23 rfl) fp_X9_261 (S_lt 49 (by decide)) (S_49 nw nx g) rfl h_1.2.1 ?_
      refine sw_iconst (dX9_moves_0.at 24 rfl) ?_
      refine sw_isub (dX9_moves_0.at 25 rfl) ?_
      refine sw_i2l (dX9_moves_0.at 26 rfl) hv.1 ?_
      replace hv := hv.2
      refine sw_callS (post' := post) (B' := B0) (As := [vl (((l : Nat) : Int)), vl (0), vl (((gW P x : Nat) : Int) - 1)]) (mc := 0) (ms := 0) (dX9_moves_0.at 27 rfl) lk_X9_104 rfl rfl (Nat.le_of_ble_eq_true rfl) rfl (Nat.le_refl _) (Nat.le_refl _) ?_
      refine c_X9_in (u := ((l : Nat) : Int)) (lo := 0) (hi := (((gW P x : Nat) : Int) - 1)) (j := j + 16) hv.1 hv.2.1 hv.2.2.1 ?_
      replace hv := hv.2.2.2
      refine sw_if_ne (tgt := 51) (dX9_moves_0.at 28 rfl) (by decide) (bz_rng _) (fun q => ?_) (fun q => ?_)
      · replace hv := hv.1 (bz_1 q)
        refine sw_iconst (dX9_moves_0.at 31 rfl) ?_
        refine sw_istore (lo' := [some (vr (49)), some (vi (((x : Nat) : Int))), some (vi (((k : Nat) : Int))), some (vi (((l : Nat) : Int))), some (vi (0)), none, none]) (dX9_moves_0.at 32 rfl) (by decide) rfl ?_
        exact hv
      · replace hv := hv.2 (bz_n1 q)
        refine sw_bipush (dX9_moves_0.at 29 rfl) (by decide) ?_
        exact sw_iret (dX9_moves_0.at 30 rfl) rfl (Nat.le_refl _) (Nat.le_refl _) hv
  · replace hv := hv.2 (bz_n1 q)
    refine sw_bipush (dX9_moves_0.at 4 rfl) (by decide) ?_
    exact sw_iret (dX9_moves_0.at 5 rfl) rfl (Nat.le_refl _) (Nat.le_refl _) hv

set_option maxHeartbeats 2000000 in
set_option maxRecDepth 20000 in
theorem g_X9_moves_0x {G : GG} {j nw nx gn : Nat} {g : Nat → Sh} {c : Nat → Nat → Int} {post : Option AV → AM → Prop} {x : Nat} {k : Int} {l : Int} {P : GD} (hM : ML c P) (hV : GV P) (hC : GC P) (hS : hSp P) (hmv : hMv P)  (hv : (-2147483648 ≤ ((x : Nat) : Int) ∧ ((x : Nat) : Int) < 2147483648) ∧ ((((decide (0 ≤ ((x : Nat) : Int) ∧ ((x : Nat) : Int) < (gN P : Int))) = true) → (x < gN P) ∧ (∀ c_1 : Nat → Nat → Int, (SC c c_1 ∧ RWS P x c_1) → (-2147483648 ≤ k ∧ k < 2147483648) ∧ ((-2147483648 ≤ ((gW P x : Nat) : Int) - 1 ∧ ((gW P x : Nat) : Int) - 1 < 2147483648) ∧ ((-9223372036854775808 ≤ (k : Int) ∧ (k : Int) < 9223372036854775808) ∧ (-9223372036854775808 ≤ (0 : Int) ∧ (0 : Int) < 9223372036854775808) ∧ (-9223372036854775808 ≤ ((((gW P x : Nat) : Int) - 1) : Int) ∧ ((((gW P x : Nat) : Int) - 1) : Int) < 9223372036854775808) ∧ ((((decide (0 ≤ k ∧ k ≤ (((gW P x : Nat) : Int) - 1))) = false) → post (some (vi ((-2)))) (S nw nx g, 78 + gn, c_1)) ∧ (((decide (0 ≤ k ∧ k ≤ (((gW P x : Nat) : Int) - 1))) = true) → (-2147483648 ≤ l ∧ l < 2147483648) ∧ ((-2147483648 ≤ ((gW P x : Nat) : Int) - 1 ∧ ((gW P x : Nat) : Int) - 1 < 2147483648) ∧ ((-9223372036854775808 ≤ (l : Int) ∧ (l : Int) < 9223372036854775808) ∧ (-9223372036854775808 ≤ (0 : Int) ∧ (0 : Int) < 9223372036854775808) ∧ (-9223372036854775808 ≤ ((((gW P x : Nat) : Int) - 1) : Int) ∧ ((((gW P x : Nat) : Int) - 1) : Int) < 9223372036854775808) ∧ ((((decide (0 ≤ l ∧ l ≤ (((gW P x : Nat) : Int) - 1))) = true) → SW G (j + 17) mX9_moves 54 [some (vr (49)), some (vi (((x : Nat) : Int))), some (vi (k)), some (vi (l)), some (vi (0)), none, none] [] (S nw nx g, 78 + gn, c_1) B0 post) ∧ (((decide (0 ≤ l ∧ l ≤ (((gW P x : Nat) : Int) - 1))) = false) → post (some (vi ((-2)))) (S nw nx g, 78 + gn, c_1))))))))))) ∧ (((decide (0 ≤ ((x : Nat) : Int) ∧ ((x : Nat) : Int) < (gN P : Int))) = false) → post (some (vi ((-2)))) (S nw nx g, 78 + gn, c)))) :
    SW G (j + 17) mX9_moves 0 [some (vr (49)), some (vi (((x : Nat) : Int))), some (vi (k)), some (vi (l)), none, none, none] [] (S nw nx g, 78 + gn, c) B0 post := by
  refine sw_aload_n (dX9_moves_0.at 0 rfl) rfl rfl ?_
  refine sw_iload_n (dX9_moves_0.at 1 rfl) rfl rfl ?_
  refine sw_callV (B' := B0) (As := [vi (((x : Nat) : Int))]) (mc := 0) (ms := 0) (dX9_moves_0.at 2 rfl) lk_X9_251 (S_lt 49 (by decide)) (S_49 nw nx g) rfl rfl (Nat.le_of_ble_eq_true rfl) rfl (Nat.le_refl _) (Nat.le_refl _) ?_
  refine c_X9_isElement (x := ((x : Nat) : Int)) (j := j + 15) hM hV hv.1 ?_
  replace hv := hv.2
  refine sw_if_ne (tgt := 11) (dX9_moves_0.at 3 rfl) (by decide) (bz_rng _) (fun q => ?_) (fun q => ?_)
  · replace hv := hv.1 (bz_1 q)
    refine sw_aload_n (dX9_moves_0.at 6 rfl) rfl rfl ?_
    refine sw_iload_n (dX9_moves_0.at 7 rfl) rfl rfl ?_
    refine sw_callV (B' := B0) (As := [vi (((x : Nat) : Int))]) (mc := 0) (ms := 0) (dX9_moves_0.at 8 rfl) lk_X9_267 (S_lt 49 (by decide)) (S_49 nw nx g) rfl rfl (Nat.le_of_ble_eq_true rfl) rfl (Nat.le_refl _) (Nat.le_refl _) ?_
    refine c_X9_laysAllRows (x := x) (j := j + 0) hM hV hC hS hv.1 (fun c_1 h_1 => ?_)
    replace hv := hv.2 c_1 h_1
    refine sw_iload_n (dX9_moves_0.at 9 rfl) rfl rfl ?_
    refine sw_i2l (dX9_moves_0.at 10 rfl) hv.1 ?_
    replace hv := hv.2
    refine sw_lconst (z := 0) (dX9_moves_0.at 11 rfl) (by decide) ?_
    refine sw_aload_n (dX9_moves_0.at 12 rfl) rfl rfl ?_
    refine sw_getIE (w := ((gW P x : Nat) : Int)) (dX9_moves_0.at 13 rfl) fp_X9_261 (S_lt 49 (by decide)) (S_49 nw nx g) rfl h_1.2.1 ?_
    refine sw_iconst (dX9_moves_0.at 14 rfl) ?_
    refine sw_isub (dX9_moves_0.at 15 rfl) ?_
    refine sw_i2l (dX9_moves_0.at 16 rfl) hv.1 ?_
    replace hv := hv.2
    refine sw_callS (post' := post) (B' := B0) (As := [vl (k), vl (0), vl (((gW P x : Nat) : Int) - 1)]) (mc := 0) (ms := 0) (dX9_moves_0.at 17 rfl) lk_X9_104 rfl rfl (Nat.le_of_ble_eq_true rfl) rfl (Nat.le_refl _) (Nat.le_refl _) ?_
    refine c_X9_in (u := k) (lo := 0) (hi := (((gW P x : Nat) : Int) - 1)) (j := j + 16) hv.1 hv.2.1 hv.2.2.1 ?_
    replace hv := hv.2.2.2
    refine sw_if_eq (tgt := 48) (dX9_moves_0.at 18 rfl) (by decide) (bz_rng _) (fun q => ?_) (fun q => ?_)
    · replace hv := hv.1 (bz_0 q)
      refine sw_bipush (dX9_moves_0.at 29 rfl) (by decide) ?_
      exact sw_iret (dX9_moves_0.at 30 rfl) rfl (Nat.le_refl _) (Nat.le_refl _) hv
    · replace hv := hv.2 (bz_n0 q)
      refine sw_iload_n (dX9_moves_0.at 19 rfl) rfl rfl ?_
      refine sw_i2l (dX9_moves_0.at 20 rfl) hv.1 ?_
      replace hv := hv.2
      refine sw_lconst (z := 0) (dX9_moves_0.at 21 rfl) (by decide) ?_
      refine sw_aload_n (dX9_moves_0.at 22 rfl) rfl rfl ?_
      refine sw_getIE (w := ((gW P x : Nat) : Int)) (dX9_moves_0.at 23 rfl) fp_X9_261 (S_lt 49 (by decide)) (S_49 nw nx g) rfl h_1.2.1 ?_
      refine sw_iconst (dX9_moves_0.at 24 rfl) ?_
      refine sw_isub (dX9_moves_0.at 25 rfl) ?_
      refine sw_i2l (dX9_moves_0.at 26 rfl) hv.1 ?_
      replace hv := hv.2
      refine sw_callS (post' := post) (B' := B0) (As := [vl (l), vl (0), vl (((gW P x : Nat) : Int) - 1)]) (mc := 0) (ms := 0) (dX9_moves_0.at 27 rfl) lk_X9_104 rfl rfl (Nat.le_of_ble_eq_true rfl) rfl (Nat.le_refl _) (Nat.le_refl _) ?_
      refine c_X9_in (u := l) (lo := 0) (hi := (((gW P x : Nat) : Int) - 1)) (j := j + 16) hv.1 hv.2.1 hv.2.2.1 ?_
      replace hv := hv.2.2.2
      refine sw_if_ne (tgt := 51) (dX9_moves_0.at 28 rfl) (by decide) (bz_rng _) (fun q => ?_) (fun q => ?_)
      · replace hv := hv.1 (bz_1 q)
        refine sw_iconst (dX9_moves_0.at 31 rfl) ?_
        refine sw_istore (lo' := [some (vr (49)), some (vi (((x : Nat) : Int))), some (vi (k)), some (vi (l)), some (vi (0)), none, none]) (dX9_moves_0.at 32 rfl) (by decide) rfl ?_
        exact hv
      · replace hv := hv.2 (bz_n1 q)
        refine sw_bipush (dX9_moves_0.at 29 rfl) (by decide) ?_
        exact sw_iret (dX9_moves_0.at 30 rfl) rfl (Nat.le_refl _) (Nat.le_refl _) hv
  · replace hv := hv.2 (bz_n1 q)
    refine sw_bipush (dX9_moves_0.at 4 rfl) (by decide) ?_
    exact sw_iret (dX9_moves_0.at 5 rfl) rfl (Nat.le_refl _) (Nat.le_refl _) hv

set_option maxHeartbeats 2000000 in
set_option maxRecDepth 20000 in
theorem g_X9_moves_0 {G : GG} {j nw nx gn : Nat} {g : Nat → Sh} {c : Nat → Nat → Int} {post : Option AV → AM → Prop} {x : Int} {k : Int} {l : Int} {P : GD} (hM : ML c P) (hV : GV P) (hC : GC P) (hS : hSp P) (hmv : hMv P)  (hv : (-2147483648 ≤ x ∧ x < 2147483648) ∧ ((((decide (0 ≤ x ∧ x < (gN P : Int))) = true) → SW G (j + 17) mX9_moves 11 [some (vr (49)), some (vi (x)), some (vi (k)), some (vi (l)), none, none, none] [] (S nw nx g, 78 + gn, c) B0 post) ∧ (((decide (0 ≤ x ∧ x < (gN P : Int))) = false) → post (some (vi ((-2)))) (S nw nx g, 78 + gn, c)))) :
    SW G (j + 17) mX9_moves 0 [some (vr (49)), some (vi (x)), some (vi (k)), some (vi (l)), none, none, none] [] (S nw nx g, 78 + gn, c) B0 post := by
  refine sw_aload_n (dX9_moves_0.at 0 rfl) rfl rfl ?_
  refine sw_iload_n (dX9_moves_0.at 1 rfl) rfl rfl ?_
  refine sw_callV (B' := B0) (As := [vi (x)]) (mc := 0) (ms := 0) (dX9_moves_0.at 2 rfl) lk_X9_251 (S_lt 49 (by decide)) (S_49 nw nx g) rfl rfl (Nat.le_of_ble_eq_true rfl) rfl (Nat.le_refl _) (Nat.le_refl _) ?_
  refine c_X9_isElement (x := x) (j := j + 15) hM hV hv.1 ?_
  replace hv := hv.2
  refine sw_if_ne (tgt := 11) (dX9_moves_0.at 3 rfl) (by decide) (bz_rng _) (fun q => ?_) (fun q => ?_)
  · replace hv := hv.1 (bz_1 q)
    exact hv
  · replace hv := hv.2 (bz_n1 q)
    refine sw_bipush (dX9_moves_0.at 4 rfl) (by decide) ?_
    exact sw_iret (dX9_moves_0.at 5 rfl) rfl (Nat.le_refl _) (Nat.le_refl _) hv

theorem mvF {G : GG} {j nw nx gn : Nat} {g : Nat → Sh} {c : Nat → Nat → Int} {post : Option AV → AM → Prop} {P : GD} {x k l : Nat} {d : Nat → Nat → Int} (hM : ML c P) (hV : GV P) (hmv : hMv P) (hx : x < gN P) (hk : k < gW P x) (hl : l < gW P x) (h : SC c d ∧ RWS P x d) (K : ∀ c2 : Nat → Nat → Int, SC c c2 → post (some (vi ((dMv P x k l : Nat) : Int))) (S nw nx g, 78 + gn, c2)) : SW G (j + 17) mX9_moves 54 [some (vr (49)), some (vi (((x : Nat) : Int))), some (vi (((k : Nat) : Int))), some (vi (((l : Nat) : Int))), some (vi (0)), none, none] [] (S nw nx g, 78 + gn, d) B0 post := by
  have h1 := mv_run (G := G) (j := j) (nw := nw) (nx := nx) (gn := gn) (g := g) (ML_SC hM h.1) hV h.2 hx hmv hk hl (d 63) (fun F => K _ (SC_wr h.1 (by decide)))
  rw [wr_self] at h1
  exact h1
set_option maxHeartbeats 4000000 in
theorem c_X9_moves {G : GG} {j nw nx gn : Nat} {g : Nat → Sh} {c : Nat → Nat → Int} {post : Option AV → AM → Prop} {P : GD} {x k l : Int} (hM : ML c P) (hV : GV P) (hC : GC P) (hS : hSp P) (hmv : hMv P) (p1 : -2147483648 ≤ x ∧ x < 2147483648) (p2 : -2147483648 ≤ k ∧ k < 2147483648) (p3 : -2147483648 ≤ l ∧ l < 2147483648) (K : ∀ c2 : Nat → Nat → Int, SC c c2 → post (some (vi (q_moves P x k l))) (S nw nx g, 78 + gn, c2)) : SM G (j + 18) mX9_moves [vr 49, vi x, vi k, vi l] (S nw nx g, 78 + gn, c) 0 0 post := by
  refine sm_of wX9_moves rfl (Nat.le_of_ble_eq_true rfl) ?_
  have hN60 := GV_N hV
  by_cases hx : 0 ≤ x ∧ x < (gN P : Int)
  · obtain ⟨x, rfl⟩ : ∃ n : Nat, x = (n : Int) := ⟨x.toNat, by omega⟩
    have hx2 : x < gN P := by omega
    have w9 := (hV.2.2.1 x hx2).2.2.2.2.2.2.2.1
    by_cases hv : (0 ≤ k ∧ k < (gW P x : Int)) ∧ 0 ≤ l ∧ l < (gW P x : Int)
    · obtain ⟨k, rfl⟩ : ∃ n : Nat, k = (n : Int) := ⟨k.toNat, by omega⟩
      obtain ⟨l, rfl⟩ : ∃ n : Nat, l = (n : Int) := ⟨l.toNat, by omega⟩
      have e : q_moves P ((x : Nat) : Int) ((k : Nat) : Int) ((l : Nat) : Int) = ((dMv P x k l : Nat) : Int) := by
        rw [q_moves, if_pos ⟨hx, by simp only [Int.toNat_natCast]; exact hv⟩]; simp only [Int.toNat_natCast]
      rw [e] at K
      refine g_X9_moves_0n hM hV hC hS hmv ?_
      refine ⟨?_, ⟨fun q => ⟨?_, fun c_1 h_1 => ⟨?_, ⟨?_, ⟨?_, ?_, ?_, ⟨fun q => ?_, fun q => ⟨?_, ⟨?_, ⟨?_, ?_, ?_, ⟨fun q => ?_, fun q => ?_⟩⟩⟩⟩⟩⟩⟩⟩⟩, fun q => ?_⟩⟩
      all_goals first | omega | assumption | (exfalso; simp only [decide_eq_true_eq, decide_eq_false_iff_not] at *; omega) | exact mvF hM hV hmv hx2 (by omega) (by omega) h_1 K
    · have e : q_moves P ((x : Nat) : Int) k l = -2 := by
        rw [q_moves, if_neg (fun h => hv (by simp only [Int.toNat_natCast] at h; exact h.2))]
      rw [e] at K
      refine g_X9_moves_0x hM hV hC hS hmv ?_
      refine ⟨?_, ⟨fun q => ⟨?_, fun c_1 h_1 => ⟨?_, ⟨?_, ⟨?_, ?_, ?_, ⟨fun q => ?_, fun q => ⟨?_, ⟨?_, ⟨?_, ?_, ?_, ⟨fun q => ?_, fun q => ?_⟩⟩⟩⟩⟩⟩⟩⟩⟩, fun q => ?_⟩⟩
      all_goals first | omega | assumption | exact K _ h_1.1 | (exfalso; simp only [decide_eq_true_eq, decide_eq_false_iff_not] at *; omega)
  · have e : q_moves P x k l = -2 := by rw [q_moves, if_neg (fun h => hx h.1)]
    rw [e] at K
    refine g_X9_moves_0 hM hV hC hS hmv ?_
    refine ⟨?_, ⟨fun q => ?_, fun q => ?_⟩⟩
    all_goals first | omega | assumption | exact K _ SC_rf | (exfalso; simp only [decide_eq_true_eq, decide_eq_false_iff_not] at *; omega)

