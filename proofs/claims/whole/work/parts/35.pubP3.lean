def pdF (P : GD) (T : PT) (s w z : Nat) : Int := if (gF P w).testBit s then (if z = w then 2 else 0) else if z = gX P (s + 1) w then 1 else if z = w ∨ (gF P z).testBit s = false then 0 else muT P T z w
def q_product (P : GD) (T : PT) (s w z : Int) : Int := if (0 ≤ s ∧ s < (gR P : Int)) ∧ (0 ≤ w ∧ w < (gN P : Int)) ∧ 0 ≤ z ∧ z < (gN P : Int) then pdF P T s.toNat w.toNat z.toNat else (-2)
set_option maxHeartbeats 2000000 in
set_option maxRecDepth 20000 in
theorem g_X8_product_0n {G : GG} {j nw nx gn : Nat} {g : Nat → Sh} {c : Nat → Nat → Int} {post : Option AV → AM → Prop} {s : Nat} {w : Nat} {z : Nat} {P : GD} {T : PT} (hnw : nw = 21 ∨ nw = 35) (hE : EL c nw P) (hV : GV P) (hT : HT P T) (hR : PR P T c) (hL : ∀ s, s < gR P → s + 1 < gN P)  (hv : (-2147483648 ≤ ((s : Nat) : Int) ∧ ((s : Nat) : Int) < 2147483648) ∧ ((((decide (0 ≤ ((s : Nat) : Int) ∧ ((s : Nat) : Int) < (gR P : Int))) = false) → post (some (vi ((-2)))) (S nw nx g, 78 + gn, c)) ∧ (((decide (0 ≤ ((s : Nat) : Int) ∧ ((s : Nat) : Int) < (gR P : Int))) = true) → (-2147483648 ≤ ((w : Nat) : Int) ∧ ((w : Nat) : Int) < 2147483648) ∧ (-2147483648 ≤ ((z : Nat) : Int) ∧ ((z : Nat) : Int) < 2147483648) ∧ ((((decide ((0 ≤ ((w : Nat) : Int) ∧ ((w : Nat) : Int) < (gN P : Int)) ∧ 0 ≤ ((z : Nat) : Int) ∧ ((z : Nat) : Int) < (gN P : Int))) = true) → (w < gN P) ∧ ((gF P w < 2147483648) ∧ (((gF P w) < 9223372036854775808) ∧ (s < 64) ∧ (((((gF P w).testBit s) = false) → ((s + 1) < gN P) ∧ (w < gN P) ∧ ((z < 2147483648) ∧ (gX P (s + 1) w < 2147483648) ∧ (((z ≠ gX P (s + 1) w) → (z < 2147483648) ∧ (w < 2147483648) ∧ (((z = w) → post (some (vi (0))) (S nw nx g, 78 + gn, c)) ∧ ((¬ (z = w)) → (z < gN P) ∧ ((gF P z < 2147483648) ∧ (((gF P z) < 9223372036854775808) ∧ (s < 64) ∧ (((((gF P z).testBit s) = true) → (PR P T c) ∧ (∀ c_1 : Nat → Nat → Int, ((∀ a, a ≠ 5 → a ≠ 6 → c_1 a = c a) ∧ c_1 5 1 = 1 ∧ AT P T (gN P) (c_1 6)) → (z < gN P) ∧ (w < gN P) ∧ (post (some (vi (muG P (c_1 6) z w))) (S nw nx g, 78 + gn, c_1)))) ∧ ((((gF P z).testBit s) = false) → post (some (vi (0))) (S nw nx g, 78 + gn, c)))))))) ∧ ((z = gX P (s + 1) w) → post (some (vi (1))) (S nw nx g, 78 + gn, c))))) ∧ ((((gF P w).testBit s) = true) → (z < 2147483648) ∧ (w < 2147483648) ∧ (((z ≠ w) → post (some (vi (0))) (S nw nx g, 78 + gn, c)) ∧ ((z = w) → post (some (vi (2))) (S nw nx g, 78 + gn, c)))))))) ∧ (((decide ((0 ≤ ((w : Nat) : Int) ∧ ((w : Nat) : Int) < (gN P : Int)) ∧ 0 ≤ ((z : Nat) : Int) ∧ ((z : Nat) : Int) < (gN P : Int))) = false) → post (some (vi ((-2)))) (S nw nx g, 78 + gn, c)))))) :
    SW G (j + 5) mX8_product 0 [some (vr (0)), some (vi (((s : Nat) : Int))), some (vi (((w : Nat) : Int))), some (vi (((z : Nat) : Int)))] [] (S nw nx g, 78 + gn, c) B0 post := by
  refine sw_aload_n (dX8_product_0.at 0 rfl) rfl rfl ?_
  refine sw_iload_n (dX8_product_0.at 1 rfl) rfl rfl ?_
  refine sw_callV (B' := B0) (As := [vi (((s : Nat) : Int))]) (mc := 0) (ms := 0) (dX8_product_0.at 2 rfl) lk_X8_122 (S_lt 0 (by decide)) (S_0 nw nx g) rfl rfl (Nat.le_of_ble_eq_true rfl) rfl (Nat.le_refl _) (Nat.le_refl _) ?_
  refine c_X8_isLetter (x := ((s : Nat) : Int)) (j := j + 4) hnw hE hV hv.1 ?_
  replace hv := hv.2
  refine sw_if_eq (tgt := 17) (dX8_product_0.at 3 rfl) (by decide) (bz_rng _) (fun q => ?_) (fun q => ?_)
  · replace hv := hv.1 (bz_0 q)
    refine sw_bipush (dX8_product_0.at 9 rfl) (by decide) ?_
    exact sw_iret (dX8_product_0.at 10 rfl) rfl (Nat.le_refl _) (Nat.le_refl _) hv
  · replace hv := hv.2 (bz_n0 q)
    refine sw_aload_n (dX8_product_0.at 4 rfl) rfl rfl ?_
    refine sw_iload_n (dX8_product_0.at 5 rfl) rfl rfl ?_
    refine sw_iload_n (dX8_product_0.at 6 rfl) rfl rfl ?_
    refine sw_callV (B' := B0) (As := [vi (((w : Nat) : Int)), vi (((z : Nat) : Int))]) (mc := 0) (ms := 0) (dX8_product_0.at 7 rfl) lk_X8_157 (S_lt 0 (by decide)) (S_0 nw nx g) rfl rfl (Nat.le_of_ble_eq_true rfl) rfl (Nat.le_refl _) (Nat.le_refl _) ?_
    refine c_X8_arePair (x := ((w : Nat) : Int)) (y := ((z : Nat) : Int)) (j := j + 3) hnw hE hV hv.1 hv.2.1 ?_
    replace hv := hv.2.2
    refine sw_if_ne (tgt := 20) (dX8_product_0.at 8 rfl) (by decide) (bz_rng _) (fun q => ?_) (fun q => ?_)
    · replace hv := hv.1 (bz_1 q)
      refine sw_aload_n (dX8_product_0.at 11 rfl) rfl rfl ?_
      refine sw_getR (dX8_product_0.at 12 rfl) fp_X8_65 (S_lt 0 (by decide)) (S_0 nw nx g) rfl rfl ?_
      refine sw_getR (dX8_product_0.at 13 rfl) fp_X8_255 (S_e_lt hnw) (S_e hnw) rfl rfl ?_
      refine sw_iload_n (dX8_product_0.at 14 rfl) rfl rfl ?_
      refine sw_ialdN w (w := ((gF P w : Nat) : Int)) (dX8_product_0.at 15 rfl) (S_ek_lt hnw (by decide)) (S_e_8 hnw) (by decide) (GV_lt hV hv.1) (EL_F hE hv.1) ?_
      replace hv := hv.2
      refine sw_i2l (dX8_product_0.at 16 rfl) (nrng hv.1) ?_
      replace hv := hv.2
      refine sw_iload_n (dX8_product_0.at 17 rfl) rfl rfl ?_
      refine sw_callS (post' := post) (B' := B0) (As := [vl (((gF P w : Nat) : Int)), vi (((s : Nat) : Int))]) (mc := 0) (ms := 0) (dX8_product_0.at 18 rfl) lk_X8_185 rfl rfl (Nat.le_of_ble_eq_true rfl) rfl (Nat.le_refl _) (Nat.le_refl _) ?_
      refine c_X8_hasBit (s := (gF P w)) (i := s) (j := j + 4) hv.1 hv.2.1 ?_
      replace hv := hv.2.2
      refine sw_if_eq (tgt := 48) (dX8_product_0.at 19 rfl) (by decide) (bz_rng _) (fun q => ?_) (fun q => ?_)
      · replace hv := hv.1 (bz_0 q)
        refine sw_iload_n (dX8_product_0.at 27 rfl) rfl rfl ?_
        refine sw_aload_n (dX8_product_0.at 28 rfl) rfl rfl ?_
        refine sw_getR (dX8_product_0.at 29 rfl) fp_X8_65 (S_lt 0 (by decide)) (S_0 nw nx g) rfl rfl ?_
        refine sw_iload_n (dX8_product_0.at 30 rfl) rfl rfl ?_
        refine sw_iconst (dX8_product_0.at 31 rfl) ?_
        refine sw_iadd (dX8_product_0.at 32 rfl) ?_
        refine sw_topI (y := ((s + 1 : Nat) : Int)) (by first | rfl | (congr 1)) ?_
        refine sw_iload_n (dX8_product_0.at 33 rfl) rfl rfl ?_
        refine sw_callV (B' := B0) (As := [vi (((s + 1 : Nat) : Int)), vi (((w : Nat) : Int))]) (mc := 0) (ms := 0) (dX8_product_0.at 34 rfl) lk_X8_161 (S_e_lt hnw) (S_e hnw) rfl rfl (Nat.le_of_ble_eq_true rfl) rfl (Nat.le_refl _) (Nat.le_refl _) ?_
        refine c_X1_mulP (e := nw) (x := (s + 1)) (y := w) (j := j + 4) hnw hE hV hv.1 hv.2.1 ?_
        replace hv := hv.2.2
        refine sw_icmpN_ne z (gX P (s + 1) w) (tgt := 65) (dX8_product_0.at 35 rfl) (by decide) hv.1 hv.2.1 (fun q => ?_) (fun q => ?_)
        · replace hv := hv.2.2.1 q
          refine sw_iload_n (dX8_product_0.at 38 rfl) rfl rfl ?_
          refine sw_iload_n (dX8_product_0.at 39 rfl) rfl rfl ?_
          refine sw_icmpN_eq z w (tgt := 87) (dX8_product_0.at 40 rfl) (by decide) hv.1 hv.2.1 (fun q => ?_) (fun q => ?_)
          · replace hv := hv.2.2.1 q
            refine sw_iconst (dX8_product_1.at 0 rfl) ?_
            exact sw_iret (dX8_product_1.at 1 rfl) rfl (Nat.le_refl _) (Nat.le_refl _) hv
          · replace hv := hv.2.2.2 q
            refine sw_aload_n (dX8_product_0.at 41 rfl) rfl rfl ?_
            refine sw_getR (dX8_product_0.at 42 rfl) fp_X8_65 (S_lt 0 (by decide)) (S_0 nw nx g) rfl rfl ?_
            refine sw_getR (dX8_product_0.at 43 rfl) fp_X8_255 (S_e_lt hnw) (S_e hnw) rfl rfl ?_
            refine sw_iload_n (dX8_product_0.at 44 rfl) rfl rfl ?_
            refine sw_ialdN z (w := ((gF P z : Nat) : Int)) (dX8_product_0.at 45 rfl) (S_ek_lt hnw (by decide)) (S_e_8 hnw) (by decide) (GV_lt hV hv.1) (EL_F hE hv.1) ?_
            replace hv := hv.2
            refine sw_i2l (dX8_product_0.at 46 rfl) (nrng hv.1) ?_
            replace hv := hv.2
            refine sw_iload_n (dX8_product_0.at 47 rfl) rfl rfl ?_
            refine sw_callS (post' := post) (B' := B0) (As := [vl (((gF P z : Nat) : Int)), vi (((s : Nat) : Int))]) (mc := 0) (ms := 0) (dX8_product_0.at 48 rfl) lk_X8_185 rfl rfl (Nat.le_of_ble_eq_true rfl) rfl (Nat.le_refl _) (Nat.le_refl _) ?_
            refine c_X8_hasBit (s := (gF P z)) (i := s) (j := j + 4) hv.1 hv.2.1 ?_
            replace hv := hv.2.2
            refine sw_if_ne (tgt := 89) (dX8_product_0.at 49 rfl) (by decide) (bz_rng _) (fun q => ?_) (fun q => ?_)
            · replace hv := hv.1 (bz_1 q)
              refine sw_aload_n (dX8_product_1.at 2 rfl) rfl rfl ?_
              refine sw_getR (dX8_product_1.at 3 rfl) fp_X8_26 (S_lt 0 (by decide)) (S_0 nw nx g) rfl rfl ?_
              refine sw_aload_n (dX8_product_1.at 4 rfl) rfl rfl ?_
              refine sw_getR (dX8_product_1.at 5 rfl) fp_X8_65 (S_lt 0 (by decide)) (S_0 nw nx g) rfl rfl ?_
              refine sw_callV (B' := B0) (As := [vr (nw)]) (mc := 0) (ms := 0) (dX8_product_1.at 6 rfl) lk_X8_204 (S_lt 5 (by decide)) (S_5 nw nx g) rfl rfl (Nat.le_of_ble_eq_true rfl) rfl (Nat.le_refl _) (Nat.le_refl _) ?_
              refine c_X4_prepare (e := nw) (j := j + 0) hnw hE hV hT hv.1 (fun c_1 h_1 => ?_)
              replace hv := hv.2 c_1 h_1
              refine sw_aload_n (dX8_product_1.at 7 rfl) rfl rfl ?_
              refine sw_getR (dX8_product_1.at 8 rfl) fp_X8_26 (S_lt 0 (by decide)) (S_0 nw nx g) rfl rfl ?_
              refine sw_aload_n (dX8_product_1.at 9 rfl) rfl rfl ?_
              refine sw_getR (dX8_product_1.at 10 rfl) fp_X8_65 (S_lt 0 (by decide)) (S_0 nw nx g) rfl rfl ?_
              refine sw_iload_n (dX8_product_1.at 11 rfl) rfl rfl ?_
              refine sw_iload_n (dX8_product_1.at 12 rfl) rfl rfl ?_
              refine sw_callV (B' := B0) (As := [vr (nw), vi (((z : Nat) : Int)), vi (((w : Nat) : Int))]) (mc := 0) (ms := 0) (dX8_product_1.at 13 rfl) lk_X8_214 (S_lt 5 (by decide)) (S_5 nw nx g) rfl rfl (Nat.le_of_ble_eq_true rfl) rfl (Nat.le_refl _) (Nat.le_refl _) ?_
              refine c_X4_middle (e := nw) (v := z) (w := w) (j := j + 3) hnw (EL_same hE (fun q hq => h_1.1 _ (by omega) (by omega))) hV hv.1 hv.2.1 ?_
              replace hv := hv.2.2
              exact sw_iret (dX8_product_1.at 14 rfl) rfl (Nat.le_refl _) (Nat.le_refl _) hv
            · replace hv := hv.2 (bz_n1 q)
              refine sw_iconst (dX8_product_1.at 0 rfl) ?_
              exact sw_iret (dX8_product_1.at 1 rfl) rfl (Nat.le_refl _) (Nat.le_refl _) hv
        · replace hv := hv.2.2.2 q
          refine sw_iconst (dX8_product_0.at 36 rfl) ?_
          exact sw_iret (dX8_product_0.at 37 rfl) rfl (Nat.le_refl _) (Nat.le_refl _) hv
      · replace hv := hv.2 (bz_n0 q)
        refine sw_iload_n (dX8_product_0.at 20 rfl) rfl rfl ?_
        refine sw_iload_n (dX8_product_0.at 21 rfl) rfl rfl ?_
        refine sw_icmpN_ne z w (tgt := 46) (dX8_product_0.at 22 rfl) (by decide) hv.1 hv.2.1 (fun q => ?_) (fun q => ?_)
        · replace hv := hv.2.2.1 q
          refine sw_iconst (dX8_product_0.at 25 rfl) ?_
          exact sw_iret (dX8_product_0.at 26 rfl) rfl (Nat.le_refl _) (Nat.le_refl _) hv
        · replace hv := hv.2.2.2 q
          refine sw_iconst (dX8_product_0.at 23 rfl) ?_
          refine sw_goto (tgt := 47) (dX8_product_0.at 24 rfl) (by decide) ?_
          exact sw_iret (dX8_product_0.at 26 rfl) rfl (Nat.le_refl _) (Nat.le_refl _) hv
    · replace hv := hv.2 (bz_n1 q)
      refine sw_bipush (dX8_product_0.at 9 rfl) (by decide) ?_
      exact sw_iret (dX8_product_0.at 10 rfl) rfl (Nat.le_refl _) (Nat.le_refl _) hv

set_option maxHeartbeats 2000000 in
set_option maxRecDepth 20000 in
theorem g_X8_product_0 {G : GG} {j nw nx gn : Nat} {g : Nat → Sh} {c : Nat → Nat → Int} {post : Option AV → AM → Prop} {s : Int} {w : Int} {z : Int} {P : GD} {T : PT} (hnw : nw = 21 ∨ nw = 35) (hE : EL c nw P) (hV : GV P) (hT : HT P T) (hR : PR P T c) (hL : ∀ s, s < gR P → s + 1 < gN P)  (hv : (-2147483648 ≤ s ∧ s < 2147483648) ∧ ((((decide (0 ≤ s ∧ s < (gR P : Int))) = false) → post (some (vi ((-2)))) (S nw nx g, 78 + gn, c)) ∧ (((decide (0 ≤ s ∧ s < (gR P : Int))) = true) → (-2147483648 ≤ w ∧ w < 2147483648) ∧ (-2147483648 ≤ z ∧ z < 2147483648) ∧ ((((decide ((0 ≤ w ∧ w < (gN P : Int)) ∧ 0 ≤ z ∧ z < (gN P : Int))) = true) → SW G (j + 5) mX8_product 28 [some (vr (0)), some (vi (s)), some (vi (w)), some (vi (z))] [vi (w), vr (nw + 8)] (S nw nx g, 78 + gn, c) B0 post) ∧ (((decide ((0 ≤ w ∧ w < (gN P : Int)) ∧ 0 ≤ z ∧ z < (gN P : Int))) = false) → post (some (vi ((-2)))) (S nw nx g, 78 + gn, c)))))) :
    SW G (j + 5) mX8_product 0 [some (vr (0)), some (vi (s)), some (vi (w)), some (vi (z))] [] (S nw nx g, 78 + gn, c) B0 post := by
  refine sw_aload_n (dX8_product_0.at 0 rfl) rfl rfl ?_
  refine sw_iload_n (dX8_product_0.at 1 rfl) rfl rfl ?_
  refine sw_callV (B' := B0) (As := [vi (s)]) (mc := 0) (ms := 0) (dX8_product_0.at 2 rfl) lk_X8_122 (S_lt 0 (by decide)) (S_0 nw nx g) rfl rfl (Nat.le_of_ble_eq_true rfl) rfl (Nat.le_refl _) (Nat.le_refl _) ?_
  refine c_X8_isLetter (x := s) (j := j + 4) hnw hE hV hv.1 ?_
  replace hv := hv.2
  refine sw_if_eq (tgt := 17) (dX8_product_0.at 3 rfl) (by decide) (bz_rng _) (fun q => ?_) (fun q => ?_)
  · replace hv := hv.1 (bz_0 q)
    refine sw_bipush (dX8_product_0.at 9 rfl) (by decide) ?_
    exact sw_iret (dX8_product_0.at 10 rfl) rfl (Nat.le_refl _) (Nat.le_refl _) hv
  · replace hv := hv.2 (bz_n0 q)
    refine sw_aload_n (dX8_product_0.at 4 rfl) rfl rfl ?_
    refine sw_iload_n (dX8_product_0.at 5 rfl) rfl rfl ?_
    refine sw_iload_n (dX8_product_0.at 6 rfl) rfl rfl ?_
    refine sw_callV (B' := B0) (As := [vi (w), vi (z)]) (mc := 0) (ms := 0) (dX8_product_0.at 7 rfl) lk_X8_157 (S_lt 0 (by decide)) (S_0 nw nx g) rfl rfl (Nat.le_of_ble_eq_true rfl) rfl (Nat.le_refl _) (Nat.le_refl _) ?_
    refine c_X8_arePair (x := w) (y := z) (j := j + 3) hnw hE hV hv.1 hv.2.1 ?_
    replace hv := hv.2.2
    refine sw_if_ne (tgt := 20) (dX8_product_0.at 8 rfl) (by decide) (bz_rng _) (fun q => ?_) (fun q => ?_)
    · replace hv := hv.1 (bz_1 q)
      refine sw_aload_n (dX8_product_0.at 11 rfl) rfl rfl ?_
      refine sw_getR (dX8_product_0.at 12 rfl) fp_X8_65 (S_lt 0 (by decide)) (S_0 nw nx g) rfl rfl ?_
      refine sw_getR (dX8_product_0.at 13 rfl) fp_X8_255 (S_e_lt hnw) (S_e hnw) rfl rfl ?_
      refine sw_iload_n (dX8_product_0.at 14 rfl) rfl rfl ?_
      exact hv
    · replace hv := hv.2 (bz_n1 q)
      refine sw_bipush (dX8_product_0.at 9 rfl) (by decide) ?_
      exact sw_iret (dX8_product_0.at 10 rfl) rfl (Nat.le_refl _) (Nat.le_refl _) hv

set_option maxHeartbeats 4000000 in
theorem c_X8_product {G : GG} {j nw nx gn : Nat} {g : Nat → Sh} {c : Nat → Nat → Int} {post : Option AV → AM → Prop} {P : GD} {T : PT} {s w z : Int} (hnw : nw = 21 ∨ nw = 35) (hE : EL c nw P) (hV : GV P) (hT : HT P T) (hR : PR P T c) (hL : ∀ s, s < gR P → s + 1 < gN P) (p1 : -2147483648 ≤ s ∧ s < 2147483648) (p2 : -2147483648 ≤ w ∧ w < 2147483648) (p3 : -2147483648 ≤ z ∧ z < 2147483648) (K : ∀ c2 : Nat → Nat → Int, ((∀ a, a ≠ 5 → a ≠ 6 → c2 a = c a) ∧ PR P T c2) → post (some (vi (q_product P T s w z))) (S nw nx g, 78 + gn, c2)) : SM G (j + 6) mX8_product [vr (0), vi (s), vi (w), vi (z)] (S nw nx g, 78 + gn, c) 0 0 post := by
  refine sm_of wX8_product rfl (Nat.le_of_ble_eq_true rfl) ?_
  have hN60 := GV_N hV
  have hR5 := GV_R hV
  by_cases hv : (0 ≤ s ∧ s < (gR P : Int)) ∧ (0 ≤ w ∧ w < (gN P : Int)) ∧ 0 ≤ z ∧ z < (gN P : Int)
  · obtain ⟨s, rfl⟩ : ∃ n : Nat, s = (n : Int) := ⟨s.toNat, by omega⟩
    obtain ⟨w, rfl⟩ : ∃ n : Nat, w = (n : Int) := ⟨w.toNat, by omega⟩
    obtain ⟨z, rfl⟩ : ∃ n : Nat, z = (n : Int) := ⟨z.toNat, by omega⟩
    have e : q_product P T ((s : Nat) : Int) ((w : Nat) : Int) ((z : Nat) : Int) = pdF P T s w z := by
      rw [q_product, if_pos hv]
      simp only [Int.toNat_natCast]
    rw [e] at K
    have hw0 : w < gN P := by omega
    have hz0 : z < gN P := by omega
    have fw := (hV.2.2.1 w hw0).2.2.2.2.1
    have fz := (hV.2.2.1 z hz0).2.2.2.2.1
    have hs0 : s < gR P := by omega
    have hs1 := hL s hs0
    have fX := hV.2.2.2.2.1 (s + 1) w hs1 hw0
    have K0 := K c ⟨fun _ _ _ => rfl, hR⟩
    rw [pdF] at K0
    refine g_X8_product_0n hnw hE hV hT hR hL ?_
    refine ⟨?_, ⟨fun q => ?_, fun q => ⟨?_, ?_, ⟨fun q => ⟨?_, ⟨?_, ⟨?_, ?_, ⟨fun q => ⟨?_, ?_, ⟨?_, ?_, ⟨fun q => ⟨?_, ?_, ⟨fun q => ?_, fun q => ⟨?_, ⟨?_, ⟨?_, ?_, ⟨fun q => ⟨?_, fun c_1 h_1 => ⟨?_, ?_, ?_⟩⟩, fun q => ?_⟩⟩⟩⟩⟩⟩, fun q => ?_⟩⟩⟩, fun q => ⟨?_, ?_, ⟨fun q => ?_, fun q => ?_⟩⟩⟩⟩⟩⟩, fun q => ?_⟩⟩⟩⟩
    all_goals first | omega | assumption | (exfalso; simp only [decide_eq_true_eq, decide_eq_false_iff_not] at *; omega) | (have K2 := K c_1 ⟨h_1.1, Or.inr h_1.2⟩; rw [pdF] at K2; simp only [*, Bool.false_eq_true, if_true, if_false, eq_self, or_false, false_or, or_self, or_true, true_or, reduceCtorEq] at K2; rw [muG_T hV h_1.2.2 (by omega) (by omega)]; exact K2) | (rw [if_neg (by rw [‹(gF P w).testBit s = false›]; decide), if_neg (by assumption), if_pos (Or.inl (by assumption))] at K0; exact K0) | (simp only [*, Bool.false_eq_true, if_true, if_false, eq_self, or_false, false_or, or_self, or_true, true_or, reduceCtorEq] at K0; exact K0)
  · have e : q_product P T s w z = (-2) := by rw [q_product, if_neg hv]
    rw [e] at K
    refine g_X8_product_0 hnw hE hV hT hR hL ?_
    have K := K c ⟨fun _ _ _ => rfl, hR⟩
    refine ⟨?_, ⟨fun q => ?_, fun q => ⟨?_, ?_, ⟨fun q => ?_, fun q => ?_⟩⟩⟩⟩
    all_goals first | exact K | omega | assumption | (exfalso; simp only [decide_eq_true_eq, decide_eq_false_iff_not] at *; omega)

