set_option maxHeartbeats 2000000 in
set_option maxRecDepth 20000 in
theorem g_X5_moved_64 {G : GG} {j nw nx gn : Nat} {g : Nat → Sh} {c : Nat → Nat → Int} {post : Option AV → AM → Prop} {e : Nat} {r : Nat} {i : Nat} (he : e = 21 ∨ e = 35) {P : GD} {z : Nat} {one : Nat} {oth : Nat} {tt : Nat} {a : Nat} {y : Nat} (hE : EL c e P) (hV : GV P) (hSz : c 11 4 = ((z : Nat) : Int)) (hz : z ≤ 13)  (hv : (y < 2147483648) ∧ (i + tt < 2147483648) ∧ (((i + tt ≤ y) → post (some (vl (((a : Nat) : Int)))) (S nw nx g, 78 + gn, c)) ∧ ((¬ (i + tt ≤ y)) → (i ≤ y) ∧ (((y - i) &&& 1 < 2147483648) ∧ ((((y - i) &&& 1 ≠ 0) → (r < 2 ^ 62) ∧ (y < z) ∧ (z ≤ 20) ∧ ((r / 8 ^ (z - 1 - y) % 8 < 2147483648) ∧ (oth < 2147483648) ∧ (((r / 8 ^ (z - 1 - y) % 8 = oth) → (one ^^^ oth < 2147483648) ∧ ((1 ≤ z) ∧ ((y ≤ z - 1) ∧ ((3 * ((z - 1) - y) < 64) ∧ (SW G (j + 1) mX5_moved 64 [some (vr (11)), some (vr (e)), some (vl (((r : Nat) : Int))), none, some (vi (((i : Nat) : Int))), some (vi (((one : Nat) : Int))), some (vi (((oth : Nat) : Int))), some (vi (((tt : Nat) : Int))), some (vl (((a ^^^ ((one ^^^ oth) * 2 ^ (3 * ((z - 1) - y))) : Nat) : Int))), none, some (vi (((y + 1 : Nat) : Int))), none] [] (S nw nx g, 78 + gn, c) B0 post))))) ∧ ((¬ (r / 8 ^ (z - 1 - y) % 8 = oth)) → post (some (vl (((r : Nat) : Int)))) (S nw nx g, 78 + gn, c))))) ∧ (((y - i) &&& 1 = 0) → (r < 2 ^ 62) ∧ (y < z) ∧ (z ≤ 20) ∧ ((r / 8 ^ (z - 1 - y) % 8 < 2147483648) ∧ (one < 2147483648) ∧ (((r / 8 ^ (z - 1 - y) % 8 = one) → (one ^^^ oth < 2147483648) ∧ ((1 ≤ z) ∧ ((y ≤ z - 1) ∧ ((3 * ((z - 1) - y) < 64) ∧ (SW G (j + 1) mX5_moved 64 [some (vr (11)), some (vr (e)), some (vl (((r : Nat) : Int))), none, some (vi (((i : Nat) : Int))), some (vi (((one : Nat) : Int))), some (vi (((oth : Nat) : Int))), some (vi (((tt : Nat) : Int))), some (vl (((a ^^^ ((one ^^^ oth) * 2 ^ (3 * ((z - 1) - y))) : Nat) : Int))), none, some (vi (((y + 1 : Nat) : Int))), none] [] (S nw nx g, 78 + gn, c) B0 post))))) ∧ ((¬ (r / 8 ^ (z - 1 - y) % 8 = one)) → post (some (vl (((r : Nat) : Int)))) (S nw nx g, 78 + gn, c)))))))))) :
    SW G (j + 1) mX5_moved 64 [some (vr (11)), some (vr (e)), some (vl (((r : Nat) : Int))), none, some (vi (((i : Nat) : Int))), some (vi (((one : Nat) : Int))), some (vi (((oth : Nat) : Int))), some (vi (((tt : Nat) : Int))), some (vl (((a : Nat) : Int))), none, some (vi (((y : Nat) : Int))), none] [] (S nw nx g, 78 + gn, c) B0 post := by
  refine sw_iload (dX5_moved_0.at 34 rfl) rfl ?_
  refine sw_iload (dX5_moved_0.at 35 rfl) rfl ?_
  refine sw_iload (dX5_moved_0.at 36 rfl) rfl ?_
  refine sw_iadd (dX5_moved_0.at 37 rfl) ?_
  refine sw_topI (y := ((i + tt : Nat) : Int)) (by first | rfl | (congr 1)) ?_
  refine sw_icmpN_ge y (i + tt) (tgt := 139) (dX5_moved_0.at 38 rfl) (by decide) hv.1 hv.2.1 (fun q => ?_) (fun q => ?_)
  · replace hv := hv.2.2.1 q
    refine sw_lload (dX5_moved_1.at 26 rfl) rfl ?_
    exact sw_lret (dX5_moved_1.at 27 rfl) rfl (Nat.le_refl _) (Nat.le_refl _) hv
  · replace hv := hv.2.2.2 q
    refine sw_iload (dX5_moved_0.at 39 rfl) rfl ?_
    refine sw_iload (dX5_moved_0.at 40 rfl) rfl ?_
    refine sw_isub (dX5_moved_0.at 41 rfl) ?_
    refine sw_topI (y := ((y - i : Nat) : Int)) (congrArg _ (Int.ofNat_sub hv.1).symm) ?_
    replace hv := hv.2
    refine sw_iconst (dX5_moved_0.at 42 rfl) ?_
    refine sw_andN (y - i) 1 (dX5_moved_0.at 43 rfl) ?_
    refine sw_ifN_ne ((y - i) &&& 1) (tgt := 89) (dX5_moved_0.at 44 rfl) (by decide) hv.1 (fun q => ?_) (fun q => ?_)
    · replace hv := hv.2.1 q
      refine sw_iload (dX5_moved_0.at 47 rfl) rfl ?_
      refine sw_istore (lo' := [some (vr (11)), some (vr (e)), some (vl (((r : Nat) : Int))), none, some (vi (((i : Nat) : Int))), some (vi (((one : Nat) : Int))), some (vi (((oth : Nat) : Int))), some (vi (((tt : Nat) : Int))), some (vl (((a : Nat) : Int))), none, some (vi (((y : Nat) : Int))), some (vi (((oth : Nat) : Int)))]) (dX5_moved_0.at 48 rfl) (by decide) rfl ?_
      refine sw_lload_n (dX5_moved_0.at 49 rfl) rfl rfl ?_
      refine sw_aload_n (dX5_moved_1.at 0 rfl) rfl rfl ?_
      refine sw_getIE (w := ((z : Nat) : Int)) (dX5_moved_1.at 1 rfl) fp_X5_48 (S_lt 11 (by decide)) (S_11 nw nx g) rfl hSz ?_
      refine sw_iload (dX5_moved_1.at 2 rfl) rfl ?_
      refine sw_callN (B' := B0) (As := [vl (((r : Nat) : Int)), vi (((z : Nat) : Int)), vi (((y : Nat) : Int))]) (mc := 0) (ms := 0) (dX5_moved_1.at 3 rfl) lk_X5_63 rfl rfl (Nat.le_of_ble_eq_true rfl) rfl (Nat.le_refl _) (Nat.le_refl _) ?_
      refine c_X8_letterOfRow (r := r) (z := z) (i := y) (j := j + 0) hv.1 hv.2.1 hv.2.2.1 ?_
      replace hv := hv.2.2.2
      refine sw_iload (dX5_moved_1.at 4 rfl) rfl ?_
      refine sw_icmpN_eq (r / 8 ^ (z - 1 - y) % 8) oth (tgt := 110) (dX5_moved_1.at 5 rfl) (by decide) hv.1 hv.2.1 (fun q => ?_) (fun q => ?_)
      · replace hv := hv.2.2.1 q
        refine sw_lload (dX5_moved_1.at 8 rfl) rfl ?_
        refine sw_iload (dX5_moved_1.at 9 rfl) rfl ?_
        refine sw_iload (dX5_moved_1.at 10 rfl) rfl ?_
        refine sw_xorN one oth (dX5_moved_1.at 11 rfl) ?_
        refine sw_i2l (dX5_moved_1.at 12 rfl) (nrng hv.1) ?_
        replace hv := hv.2
        refine sw_iconst (dX5_moved_1.at 13 rfl) ?_
        refine sw_aload_n (dX5_moved_1.at 14 rfl) rfl rfl ?_
        refine sw_getIE (w := ((z : Nat) : Int)) (dX5_moved_1.at 15 rfl) fp_X5_48 (S_lt 11 (by decide)) (S_11 nw nx g) rfl hSz ?_
        refine sw_iconst (dX5_moved_1.at 16 rfl) ?_
        refine sw_isub (dX5_moved_1.at 17 rfl) ?_
        refine sw_topI (y := ((z - 1 : Nat) : Int)) (congrArg _ (Int.ofNat_sub hv.1).symm) ?_
        replace hv := hv.2
        refine sw_iload (dX5_moved_1.at 18 rfl) rfl ?_
        refine sw_isub (dX5_moved_1.at 19 rfl) ?_
        refine sw_topI (y := (((z - 1) - y : Nat) : Int)) (congrArg _ (Int.ofNat_sub hv.1).symm) ?_
        replace hv := hv.2
        refine sw_imul (dX5_moved_1.at 20 rfl) ?_
        refine sw_topI (y := ((3 * ((z - 1) - y) : Nat) : Int)) (by first | rfl | (congr 1)) ?_
        refine sw_lshlN (one ^^^ oth) (3 * ((z - 1) - y)) (dX5_moved_1.at 21 rfl) hv.1 ?_
        replace hv := hv.2
        refine sw_lxorN a ((one ^^^ oth) * 2 ^ (3 * ((z - 1) - y))) (dX5_moved_1.at 22 rfl) ?_
        refine sw_lstore (lo' := [some (vr (11)), some (vr (e)), some (vl (((r : Nat) : Int))), none, some (vi (((i : Nat) : Int))), some (vi (((one : Nat) : Int))), some (vi (((oth : Nat) : Int))), some (vi (((tt : Nat) : Int))), some (vl (((a ^^^ ((one ^^^ oth) * 2 ^ (3 * ((z - 1) - y))) : Nat) : Int))), none, some (vi (((y : Nat) : Int))), some (vi (((oth : Nat) : Int)))]) (dX5_moved_1.at 23 rfl) (by decide) rfl ?_
        refine sw_iinc (lo' := [some (vr (11)), some (vr (e)), some (vl (((r : Nat) : Int))), none, some (vi (((i : Nat) : Int))), some (vi (((one : Nat) : Int))), some (vi (((oth : Nat) : Int))), some (vi (((tt : Nat) : Int))), some (vl (((a ^^^ ((one ^^^ oth) * 2 ^ (3 * ((z - 1) - y))) : Nat) : Int))), none, some (vi (((y + 1 : Nat) : Int))), some (vi (((oth : Nat) : Int)))]) (dX5_moved_1.at 24 rfl) rfl (by decide) rfl ?_
        refine sw_goto (tgt := 64) (dX5_moved_1.at 25 rfl) (by decide) ?_
        exact sw_mask (bs := [true, true, true, false, true, true, true, true, true, false, true, false]) hv
      · replace hv := hv.2.2.2 q
        refine sw_lload_n (dX5_moved_1.at 6 rfl) rfl rfl ?_
        exact sw_lret (dX5_moved_1.at 7 rfl) rfl (Nat.le_refl _) (Nat.le_refl _) hv
    · replace hv := hv.2.2 q
      refine sw_iload (dX5_moved_0.at 45 rfl) rfl ?_
      refine sw_goto (tgt := 91) (dX5_moved_0.at 46 rfl) (by decide) ?_
      refine sw_istore (lo' := [some (vr (11)), some (vr (e)), some (vl (((r : Nat) : Int))), none, some (vi (((i : Nat) : Int))), some (vi (((one : Nat) : Int))), some (vi (((oth : Nat) : Int))), some (vi (((tt : Nat) : Int))), some (vl (((a : Nat) : Int))), none, some (vi (((y : Nat) : Int))), some (vi (((one : Nat) : Int)))]) (dX5_moved_0.at 48 rfl) (by decide) rfl ?_
      refine sw_lload_n (dX5_moved_0.at 49 rfl) rfl rfl ?_
      refine sw_aload_n (dX5_moved_1.at 0 rfl) rfl rfl ?_
      refine sw_getIE (w := ((z : Nat) : Int)) (dX5_moved_1.at 1 rfl) fp_X5_48 (S_lt 11 (by decide)) (S_11 nw nx g) rfl hSz ?_
      refine sw_iload (dX5_moved_1.at 2 rfl) rfl ?_
      refine sw_callN (B' := B0) (As := [vl (((r : Nat) : Int)), vi (((z : Nat) : Int)), vi (((y : Nat) : Int))]) (mc := 0) (ms := 0) (dX5_moved_1.at 3 rfl) lk_X5_63 rfl rfl (Nat.le_of_ble_eq_true rfl) rfl (Nat.le_refl _) (Nat.le_refl _) ?_
      refine c_X8_letterOfRow (r := r) (z := z) (i := y) (j := j + 0) hv.1 hv.2.1 hv.2.2.1 ?_
      replace hv := hv.2.2.2
      refine sw_iload (dX5_moved_1.at 4 rfl) rfl ?_
      refine sw_icmpN_eq (r / 8 ^ (z - 1 - y) % 8) one (tgt := 110) (dX5_moved_1.at 5 rfl) (by decide) hv.1 hv.2.1 (fun q => ?_) (fun q => ?_)
      · replace hv := hv.2.2.1 q
        refine sw_lload (dX5_moved_1.at 8 rfl) rfl ?_
        refine sw_iload (dX5_moved_1.at 9 rfl) rfl ?_
        refine sw_iload (dX5_moved_1.at 10 rfl) rfl ?_
        refine sw_xorN one oth (dX5_moved_1.at 11 rfl) ?_
        refine sw_i2l (dX5_moved_1.at 12 rfl) (nrng hv.1) ?_
        replace hv := hv.2
        refine sw_iconst (dX5_moved_1.at 13 rfl) ?_
        refine sw_aload_n (dX5_moved_1.at 14 rfl) rfl rfl ?_
        refine sw_getIE (w := ((z : Nat) : Int)) (dX5_moved_1.at 15 rfl) fp_X5_48 (S_lt 11 (by decide)) (S_11 nw nx g) rfl hSz ?_
        refine sw_iconst (dX5_moved_1.at 16 rfl) ?_
        refine sw_isub (dX5_moved_1.at 17 rfl) ?_
        refine sw_topI (y := ((z - 1 : Nat) : Int)) (congrArg _ (Int.ofNat_sub hv.1).symm) ?_
        replace hv := hv.2
        refine sw_iload (dX5_moved_1.at 18 rfl) rfl ?_
        refine sw_isub (dX5_moved_1.at 19 rfl) ?_
        refine sw_topI (y := (((z - 1) - y : Nat) : Int)) (congrArg _ (Int.ofNat_sub hv.1).symm) ?_
        replace hv := hv.2
        refine sw_imul (dX5_moved_1.at 20 rfl) ?_
        refine sw_topI (y := ((3 * ((z - 1) - y) : Nat) : Int)) (by first | rfl | (congr 1)) ?_
        refine sw_lshlN (one ^^^ oth) (3 * ((z - 1) - y)) (dX5_moved_1.at 21 rfl) hv.1 ?_
        replace hv := hv.2
        refine sw_lxorN a ((one ^^^ oth) * 2 ^ (3 * ((z - 1) - y))) (dX5_moved_1.at 22 rfl) ?_
        refine sw_lstore (lo' := [some (vr (11)), some (vr (e)), some (vl (((r : Nat) : Int))), none, some (vi (((i : Nat) : Int))), some (vi (((one : Nat) : Int))), some (vi (((oth : Nat) : Int))), some (vi (((tt : Nat) : Int))), some (vl (((a ^^^ ((one ^^^ oth) * 2 ^ (3 * ((z - 1) - y))) : Nat) : Int))), none, some (vi (((y : Nat) : Int))), some (vi (((one : Nat) : Int)))]) (dX5_moved_1.at 23 rfl) (by decide) rfl ?_
        refine sw_iinc (lo' := [some (vr (11)), some (vr (e)), some (vl (((r : Nat) : Int))), none, some (vi (((i : Nat) : Int))), some (vi (((one : Nat) : Int))), some (vi (((oth : Nat) : Int))), some (vi (((tt : Nat) : Int))), some (vl (((a ^^^ ((one ^^^ oth) * 2 ^ (3 * ((z - 1) - y))) : Nat) : Int))), none, some (vi (((y + 1 : Nat) : Int))), some (vi (((one : Nat) : Int)))]) (dX5_moved_1.at 24 rfl) rfl (by decide) rfl ?_
        refine sw_goto (tgt := 64) (dX5_moved_1.at 25 rfl) (by decide) ?_
        exact sw_mask (bs := [true, true, true, false, true, true, true, true, true, false, true, false]) hv
      · replace hv := hv.2.2.2 q
        refine sw_lload_n (dX5_moved_1.at 6 rfl) rfl rfl ?_
        exact sw_lret (dX5_moved_1.at 7 rfl) rfl (Nat.le_refl _) (Nat.le_refl _) hv

set_option maxHeartbeats 2000000 in
set_option maxRecDepth 20000 in
theorem g_X5_moved_0 {G : GG} {j nw nx gn : Nat} {g : Nat → Sh} {c : Nat → Nat → Int} {post : Option AV → AM → Prop} {e : Nat} {r : Nat} {i : Nat} (he : e = 21 ∨ e = 35) {P : GD} {z : Nat} (hE : EL c e P) (hV : GV P) (hSz : c 11 4 = ((z : Nat) : Int)) (hz : z ≤ 13)  (hv : (r < 2 ^ 62) ∧ (i < z) ∧ (z ≤ 20) ∧ ((r < 2 ^ 62) ∧ ((i + 1) < z) ∧ (z ≤ 20) ∧ (((r / 8 ^ (z - 1 - i) % 8) < gR P) ∧ ((r / 8 ^ (z - 1 - (i + 1)) % 8) < gR P) ∧ ((r / 8 ^ (z - 1 - i) % 8 < 2147483648) ∧ (r / 8 ^ (z - 1 - (i + 1)) % 8 < 2147483648) ∧ (((r / 8 ^ (z - 1 - i) % 8 = r / 8 ^ (z - 1 - (i + 1)) % 8) → post (some (vl (((r : Nat) : Int)))) (S nw nx g, 78 + gn, c)) ∧ ((¬ (r / 8 ^ (z - 1 - i) % 8 = r / 8 ^ (z - 1 - (i + 1)) % 8)) → (i + (gBd P (r / 8 ^ (z - 1 - i) % 8) (r / 8 ^ (z - 1 - (i + 1)) % 8)) < 2147483648) ∧ (z < 2147483648) ∧ (((i + (gBd P (r / 8 ^ (z - 1 - i) % 8) (r / 8 ^ (z - 1 - (i + 1)) % 8)) ≤ z) → SW G (j + 1) mX5_moved 64 [some (vr (11)), some (vr (e)), some (vl (((r : Nat) : Int))), none, some (vi (((i : Nat) : Int))), some (vi (((r / 8 ^ (z - 1 - i) % 8 : Nat) : Int))), some (vi (((r / 8 ^ (z - 1 - (i + 1)) % 8 : Nat) : Int))), some (vi (((gBd P (r / 8 ^ (z - 1 - i) % 8) (r / 8 ^ (z - 1 - (i + 1)) % 8) : Nat) : Int))), some (vl (((r : Nat) : Int))), none, some (vi (((i : Nat) : Int))), none] [] (S nw nx g, 78 + gn, c) B0 post) ∧ ((¬ (i + (gBd P (r / 8 ^ (z - 1 - i) % 8) (r / 8 ^ (z - 1 - (i + 1)) % 8)) ≤ z)) → post (some (vl (((r : Nat) : Int)))) (S nw nx g, 78 + gn, c))))))))) :
    SW G (j + 1) mX5_moved 0 [some (vr (11)), some (vr (e)), some (vl (((r : Nat) : Int))), none, some (vi (((i : Nat) : Int))), none, none, none, none, none, none, none] [] (S nw nx g, 78 + gn, c) B0 post := by
  refine sw_lload_n (dX5_moved_0.at 0 rfl) rfl rfl ?_
  refine sw_aload_n (dX5_moved_0.at 1 rfl) rfl rfl ?_
  refine sw_getIE (w := ((z : Nat) : Int)) (dX5_moved_0.at 2 rfl) fp_X5_48 (S_lt 11 (by decide)) (S_11 nw nx g) rfl hSz ?_
  refine sw_iload (dX5_moved_0.at 3 rfl) rfl ?_
  refine sw_callN (B' := B0) (As := [vl (((r : Nat) : Int)), vi (((z : Nat) : Int)), vi (((i : Nat) : Int))]) (mc := 0) (ms := 0) (dX5_moved_0.at 4 rfl) lk_X5_63 rfl rfl (Nat.le_of_ble_eq_true rfl) rfl (Nat.le_refl _) (Nat.le_refl _) ?_
  refine c_X8_letterOfRow (r := r) (z := z) (i := i) (j := j + 0) hv.1 hv.2.1 hv.2.2.1 ?_
  replace hv := hv.2.2.2
  refine sw_istore (lo' := [some (vr (11)), some (vr (e)), some (vl (((r : Nat) : Int))), none, some (vi (((i : Nat) : Int))), some (vi (((r / 8 ^ (z - 1 - i) % 8 : Nat) : Int))), none, none, none, none, none, none]) (dX5_moved_0.at 5 rfl) (by decide) rfl ?_
  refine sw_lload_n (dX5_moved_0.at 6 rfl) rfl rfl ?_
  refine sw_aload_n (dX5_moved_0.at 7 rfl) rfl rfl ?_
  refine sw_getIE (w := ((z : Nat) : Int)) (dX5_moved_0.at 8 rfl) fp_X5_48 (S_lt 11 (by decide)) (S_11 nw nx g) rfl hSz ?_
  refine sw_iload (dX5_moved_0.at 9 rfl) rfl ?_
  refine sw_iconst (dX5_moved_0.at 10 rfl) ?_
  refine sw_iadd (dX5_moved_0.at 11 rfl) ?_
  refine sw_topI (y := ((i + 1 : Nat) : Int)) (by first | rfl | (congr 1)) ?_
  refine sw_callN (B' := B0) (As := [vl (((r : Nat) : Int)), vi (((z : Nat) : Int)), vi (((i + 1 : Nat) : Int))]) (mc := 0) (ms := 0) (dX5_moved_0.at 12 rfl) lk_X5_63 rfl rfl (Nat.le_of_ble_eq_true rfl) rfl (Nat.le_refl _) (Nat.le_refl _) ?_
  refine c_X8_letterOfRow (r := r) (z := z) (i := (i + 1)) (j := j + 0) hv.1 hv.2.1 hv.2.2.1 ?_
  replace hv := hv.2.2.2
  refine sw_istore (lo' := [some (vr (11)), some (vr (e)), some (vl (((r : Nat) : Int))), none, some (vi (((i : Nat) : Int))), some (vi (((r / 8 ^ (z - 1 - i) % 8 : Nat) : Int))), some (vi (((r / 8 ^ (z - 1 - (i + 1)) % 8 : Nat) : Int))), none, none, none, none, none]) (dX5_moved_0.at 13 rfl) (by decide) rfl ?_
  refine sw_aload_n (dX5_moved_0.at 14 rfl) rfl rfl ?_
  refine sw_iload (dX5_moved_0.at 15 rfl) rfl ?_
  refine sw_iload (dX5_moved_0.at 16 rfl) rfl ?_
  refine sw_callV (B' := B0) (As := [vi (((r / 8 ^ (z - 1 - i) % 8 : Nat) : Int)), vi (((r / 8 ^ (z - 1 - (i + 1)) % 8 : Nat) : Int))]) (mc := 0) (ms := 0) (dX5_moved_0.at 17 rfl) lk_X5_67 (S_e_lt he) (S_e he) rfl rfl (Nat.le_of_ble_eq_true rfl) rfl (Nat.le_refl _) (Nat.le_refl _) ?_
  refine c_X1_turns (e := e) (s := (r / 8 ^ (z - 1 - i) % 8)) (t := (r / 8 ^ (z - 1 - (i + 1)) % 8)) (j := j + 0) he hE hV hv.1 hv.2.1 ?_
  replace hv := hv.2.2
  refine sw_istore (lo' := [some (vr (11)), some (vr (e)), some (vl (((r : Nat) : Int))), none, some (vi (((i : Nat) : Int))), some (vi (((r / 8 ^ (z - 1 - i) % 8 : Nat) : Int))), some (vi (((r / 8 ^ (z - 1 - (i + 1)) % 8 : Nat) : Int))), some (vi (((gBd P (r / 8 ^ (z - 1 - i) % 8) (r / 8 ^ (z - 1 - (i + 1)) % 8) : Nat) : Int))), none, none, none, none]) (dX5_moved_0.at 18 rfl) (by decide) rfl ?_
  refine sw_iload (dX5_moved_0.at 19 rfl) rfl ?_
  refine sw_iload (dX5_moved_0.at 20 rfl) rfl ?_
  refine sw_icmpN_eq (r / 8 ^ (z - 1 - i) % 8) (r / 8 ^ (z - 1 - (i + 1)) % 8) (tgt := 55) (dX5_moved_0.at 21 rfl) (by decide) hv.1 hv.2.1 (fun q => ?_) (fun q => ?_)
  · replace hv := hv.2.2.1 q
    refine sw_lload_n (dX5_moved_0.at 28 rfl) rfl rfl ?_
    exact sw_lret (dX5_moved_0.at 29 rfl) rfl (Nat.le_refl _) (Nat.le_refl _) hv
  · replace hv := hv.2.2.2 q
    refine sw_iload (dX5_moved_0.at 22 rfl) rfl ?_
    refine sw_iload (dX5_moved_0.at 23 rfl) rfl ?_
    refine sw_iadd (dX5_moved_0.at 24 rfl) ?_
    refine sw_topI (y := ((i + (gBd P (r / 8 ^ (z - 1 - i) % 8) (r / 8 ^ (z - 1 - (i + 1)) % 8)) : Nat) : Int)) (by first | rfl | (congr 1)) ?_
    refine sw_aload_n (dX5_moved_0.at 25 rfl) rfl rfl ?_
    refine sw_getIE (w := ((z : Nat) : Int)) (dX5_moved_0.at 26 rfl) fp_X5_48 (S_lt 11 (by decide)) (S_11 nw nx g) rfl hSz ?_
    refine sw_icmpN_le (i + (gBd P (r / 8 ^ (z - 1 - i) % 8) (r / 8 ^ (z - 1 - (i + 1)) % 8))) z (tgt := 57) (dX5_moved_0.at 27 rfl) (by decide) hv.1 hv.2.1 (fun q => ?_) (fun q => ?_)
    · replace hv := hv.2.2.1 q
      refine sw_lload_n (dX5_moved_0.at 30 rfl) rfl rfl ?_
      refine sw_lstore (lo' := [some (vr (11)), some (vr (e)), some (vl (((r : Nat) : Int))), none, some (vi (((i : Nat) : Int))), some (vi (((r / 8 ^ (z - 1 - i) % 8 : Nat) : Int))), some (vi (((r / 8 ^ (z - 1 - (i + 1)) % 8 : Nat) : Int))), some (vi (((gBd P (r / 8 ^ (z - 1 - i) % 8) (r / 8 ^ (z - 1 - (i + 1)) % 8) : Nat) : Int))), some (vl (((r : Nat) : Int))), none, none, none]) (dX5_moved_0.at 31 rfl) (by decide) rfl ?_
      refine sw_iload (dX5_moved_0.at 32 rfl) rfl ?_
      refine sw_istore (lo' := [some (vr (11)), some (vr (e)), some (vl (((r : Nat) : Int))), none, some (vi (((i : Nat) : Int))), some (vi (((r / 8 ^ (z - 1 - i) % 8 : Nat) : Int))), some (vi (((r / 8 ^ (z - 1 - (i + 1)) % 8 : Nat) : Int))), some (vi (((gBd P (r / 8 ^ (z - 1 - i) % 8) (r / 8 ^ (z - 1 - (i + 1)) % 8) : Nat) : Int))), some (vl (((r : Nat) : Int))), none, some (vi (((i : Nat) : Int))), none]) (dX5_moved_0.at 33 rfl) (by decide) rfl ?_
      exact hv
    · replace hv := hv.2.2.2 q
      refine sw_lload_n (dX5_moved_0.at 28 rfl) rfl rfl ?_
      exact sw_lret (dX5_moved_0.at 29 rfl) rfl (Nat.le_refl _) (Nat.le_refl _) hv

theorem p8_62 {r z : Nat} (h : r < 8 ^ z) (hz : z ≤ 13) : r < 2 ^ 62 := by
  have h1 : 8 ^ z ≤ 8 ^ 13 := Nat.pow_le_pow_right (by decide) hz
  have h2 : 8 ^ 13 ≤ 2 ^ 62 := by decide
  exact Nat.lt_of_lt_of_le h (Nat.le_trans h1 h2)
set_option maxHeartbeats 4000000 in
theorem lp_X5_moved {G : GG} {j nw nx gn : Nat} {g : Nat → Sh} {c : Nat → Nat → Int} {post : Option AV → AM → Prop} {P : GD} {e r i z one oth tt : Nat} (he : e = 21 ∨ e = 35) (hE : EL c e P) (hV : GV P) (hSz : c 11 4 = ((z : Nat) : Int)) (hz : z ≤ 13) (hr : r < 2 ^ 62) (h1 : one < 8) (h2 : oth < 8) (ht : i + tt ≤ z) : ∀ (f q a : Nat), q + f = i + tt → i ≤ q → post (some (vl ((mdL r z i one oth f q a : Nat) : Int))) (S nw nx g, 78 + gn, c) → SW G (j + 1) mX5_moved 64 [some (vr (11)), some (vr (e)), some (vl (((r : Nat) : Int))), none, some (vi (((i : Nat) : Int))), some (vi (((one : Nat) : Int))), some (vi (((oth : Nat) : Int))), some (vi (((tt : Nat) : Int))), some (vl (((a : Nat) : Int))), none, some (vi (((q : Nat) : Int))), none] [] (S nw nx g, 78 + gn, c) B0 post := by
  have hx : one ^^^ oth < 8 := Nat.xor_lt_two_pow (n := 3) h1 h2
  have ed : ∀ q, r / 8 ^ (z - 1 - q) % 8 = dg r z q := fun q => rfl
  intro f
  induction f with
  | zero =>
    intro q a hq hi K
    rw [mdL] at K
    refine g_X5_moved_64 he hE hV hSz hz ?_
    refine ⟨?_, ?_, ⟨fun q => ?_, fun q => ⟨?_, ⟨?_, ⟨fun q => ⟨?_, ?_, ?_, ⟨?_, ?_, ⟨fun q => ⟨?_, ⟨?_, ⟨?_, ⟨?_, ?_⟩⟩⟩⟩, fun q => ?_⟩⟩⟩, fun q => ⟨?_, ?_, ?_, ⟨?_, ?_, ⟨fun q => ⟨?_, ⟨?_, ⟨?_, ⟨?_, ?_⟩⟩⟩⟩, fun q => ?_⟩⟩⟩⟩⟩⟩⟩⟩
    all_goals first | omega | exact K | (exfalso; omega)
  | succ f ih =>
    intro q a hq hi K
    have dl := dg_lt r z q
    have e1 : (q - i) &&& 1 = (q - i) % 2 := Nat.and_one_is_mod _
    rw [mdL] at K
    have KT : dg r z q = (if (q - i) % 2 = 0 then one else oth) → _ := fun h => ih (q + 1) _ (by omega) (by omega) (by rw [if_pos h] at K; exact K)
    have KF : ¬ dg r z q = (if (q - i) % 2 = 0 then one else oth) → post (some (vl ((r : Nat) : Int))) (S nw nx g, 78 + gn, c) := fun h => by rw [if_neg h] at K; exact K
    refine g_X5_moved_64 he hE hV hSz hz ?_
    simp only [ed, e1]
    by_cases e0 : (q - i) % 2 = 0
    · rw [if_pos e0] at KT KF
      refine ⟨?_, ?_, ⟨fun q => ?_, fun q => ⟨?_, ⟨?_, ⟨fun q => ⟨?_, ?_, ?_, ⟨?_, ?_, ⟨fun q => ⟨?_, ⟨?_, ⟨?_, ⟨?_, ?_⟩⟩⟩⟩, fun q => ?_⟩⟩⟩, fun q => ⟨?_, ?_, ?_, ⟨?_, ?_, ⟨fun q => ⟨?_, ⟨?_, ⟨?_, ⟨?_, ?_⟩⟩⟩⟩, fun q => ?_⟩⟩⟩⟩⟩⟩⟩⟩
      all_goals first | omega | exact KT (by assumption) | exact KF (by assumption) | (exfalso; omega)
    · rw [if_neg e0] at KT KF
      refine ⟨?_, ?_, ⟨fun q => ?_, fun q => ⟨?_, ⟨?_, ⟨fun q => ⟨?_, ?_, ?_, ⟨?_, ?_, ⟨fun q => ⟨?_, ⟨?_, ⟨?_, ⟨?_, ?_⟩⟩⟩⟩, fun q => ?_⟩⟩⟩, fun q => ⟨?_, ?_, ?_, ⟨?_, ?_, ⟨fun q => ⟨?_, ⟨?_, ⟨?_, ⟨?_, ?_⟩⟩⟩⟩, fun q => ?_⟩⟩⟩⟩⟩⟩⟩⟩
      all_goals first | omega | exact KT (by assumption) | exact KF (by assumption) | (exfalso; omega)

set_option maxHeartbeats 2000000 in
theorem c_X5_moved {G : GG} {j nw nx gn : Nat} {g : Nat → Sh} {c : Nat → Nat → Int} {post : Option AV → AM → Prop} {P : GD} {z : Nat} {e : Nat} {r : Nat} {i : Nat} (he : e = 21 ∨ e = 35) (hE : EL c e P) (hV : GV P) (hSz : c 11 4 = ((z : Nat) : Int)) (hz : z ≤ 13) (p1 : r < 8 ^ z) (p2 : i + 1 < z) (p3 : dg r z i < gR P) (p4 : dg r z (i + 1) < gR P) (K : post (some (vl (((mvd P r z i : Nat) : Int)))) (S nw nx g, 78 + gn, c)) : SM G (j + 2) mX5_moved [vr (11), vr (e), vl (((r : Nat) : Int)), vi (((i : Nat) : Int))] (S nw nx g, 78 + gn, c) 0 0 post := by
  refine sm_of wX5_moved rfl (Nat.le_of_ble_eq_true rfl) ?_
  have r62 := p8_62 p1 hz
  have b1 := gBd_le hV p3 p4
  have g5 := GV_R hV
  have ed : ∀ q, r / 8 ^ (z - 1 - q) % 8 = dg r z q := fun q => rfl
  rw [mvd] at K
  refine g_X5_moved_0 he hE hV hSz hz ?_
  simp only [ed]
  refine ⟨?_, ?_, ?_, ⟨?_, ?_, ?_, ⟨?_, ?_, ⟨?_, ?_, ⟨fun q => ?_, fun q => ⟨?_, ?_, ⟨fun q => ?_, fun q => ?_⟩⟩⟩⟩⟩⟩⟩
  all_goals first | omega | assumption | (rw [if_pos (by omega)] at K; exact K) | (rw [if_neg (by omega)] at K; exact lp_X5_moved he hE hV hSz hz r62 (dg_lt _ _ _) (dg_lt _ _ _) (by omega) _ i r (by omega) (Nat.le_refl _) K) | (exfalso; omega)

