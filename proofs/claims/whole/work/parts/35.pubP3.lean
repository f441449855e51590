def pdF (P : GD) (T : PT) (s w z : Nat) : Int := if (gF P w).testBit s then (if z = w then 2 else 0) else if z = gX P (s + 1) w then 1 else if z = w ∨ (gF P z).testBit s = false then 0 else muT P T z w
def q_product (P : GD) (T : PT) (s w z : Int) : Int := if (0 ≤ s ∧ s < (gR P : Int)) ∧ (0 ≤ w ∧ w < (gN P : Int)) ∧ 0 ≤ z ∧ z < (gN P : Int) then pdF P T s.toNat w.toNat z.toNat else (-2)
set_option maxHeartbeats 2000000 in
set_option maxRecDepth 20000 in
theorem g_X8_product_0n {G : GG} {j nw nx gn : Nat} {g : Nat → Sh} {c : Nat → Nat → Int} {post : Option AV → AM → Prop} {s : Nat} {w : Nat} {z : Nat} {P : GD} {T : PT} (hnw : nw = 21 ∨ nw = 35) (hE : EL c nw P) (hV : GV P) (hT : HT P T) (hR : PR P T c) (hL : ∀ s, s < gR P → s + 1 < gN P)  (hv : (-2147483648 ≤ ((s : Nat) : Int) ∧ ((s : Nat) : Int) < 2147483648) ∧ ((((decide (0 ≤ ((s : Nat) : Int) ∧ ((s : Nat) : Int) < (gR P : Int))) = false) → post (some (vi ((-2)))) (S nw nx g, 78 + gn, c)) ∧ (((decide (0 ≤ ((s : Nat) : Int) ∧ ((s : Nat) : Int) < (gR P : Int))) = true) → (-2147483648 ≤ ((w : Nat) : Int) ∧ ((w : Nat) : Int) < 2147483648) ∧ (-2147483648 ≤ ((z : Nat) : Int) ∧ ((z : Nat) : Int) < 2147483648) ∧ ((((decide ((0 ≤ ((w : Nat) : Int) ∧ ((w : Nat) : Int) < (gN P : Int)) ∧ 0 ≤ ((z : Nat) : Int) ∧ ((z : Nat) : Int) < (gN P : Int))) = true) → (w < gN P) ∧ ((gF P w < 2147483648) ∧ (((gF P w) < 9223372036854775808) ∧ (s < 64) ∧ (((((gF P w).testBit s) = false) → ((s + 1) < gN P) ∧ (w < gN P) ∧ ((z < 2147483648) ∧ (gX P (s + 1) w < 2147483648) ∧ (((z ≠ gX P (s + 1) w) → (z < 2147483648) ∧ (w < 2147483648) ∧ (((z = w) → post (some (vi (0))) (S nw nx g, 78 + gn, c)) ∧ ((¬ (z = w)) → (z < gN P) ∧ ((gF P z < 2147483648) ∧ (((gF P z) < 9223372036854775808) ∧ (s < 64) ∧ (((((gF P z).testBit s) = true) → (PR P T c) ∧ (∀ c_1 : Nat → Nat → Int, ((∀ a, a ≠ 5 → a ≠ 6 → c_1 a = c a) ∧ c_1 5 1 = 1 ∧ AT P T (gN P) (c_1 6)) → (z < gN P) ∧ (w < gN P) ∧ (post (some (vi (muG P (c_1 6) z w))) (S nw nx g, 78 + gn, c_1)))) ∧ ((((gF P z).testBit s) = false) → post (some (vi (0))) (S nw nx g, 78 + gn, c)))))))) ∧ ((z = gX P (s + 1) w) → post (some (vi (1))) (S nw nx g, 78 + gn, c))))) ∧ ((((gF P w).testBit s) = true) → (z < 2147483648) ∧ (w < 2147483648) ∧ (((z ≠ w) → post (some (vi (0))) (S nw nx g, 78 + gn, c)) ∧ ((z = w) → post (some (vi (2))) (S nw nx g, 78 + gn, c)))))))) ∧ (((decide ((0 ≤ ((w : Nat) : Int) ∧ ((w : Nat) : Int) < (gN P : Int)) ∧ 0 ≤ ((z : Nat) : Int) ∧ ((z : Nat) : Int) < (gN P : Int))) = false) → post (some (vi ((-2)))) (S nw nx g, 78 + gn, c)))))) :
    SW G (j + 5) mX8_product 0 [some (vr (0)), some (vi (((s : Nat) : Int))), some (vi (((w : Nat) : Int))), some (vi (((z : Nat) : Int)))] [] (S nw nx g, 78 + gn, c) B0 post := by
  refine sw_aload_n (dX8_product_0.at 0 rfl) rfl rfl ?_
  refine sw_iload_n (dX8_product_0.at 1 rfl) rfl rfl ?_
  refine sw_callV (B' := B0) (As := [vi (((s : Nat) : Int))]) (mc := 0) (ms := 0) (dX8_product_0.at 2 rfl) lk_X8_122 (S_lt 0 (by decide)) (S_0 nw nx g) rfl rfl (Nat.le_of_ble_eq_true rfl) rfl (Nat.le_refl _) (Nat.le_refl _) ?_
  refine c_X8_isLetter (x := ((s : Nat) : Int)) (j := j + 4) hnw hE hV hv.1 ?_
  replace hv := hv.2
  refine sw_if_eq (tgt := 17) (dX8_product_0.at 3 rfl) (by decide) (bz_rng _) (fun q => ?_) (fun q => ?_)
  · replace hv := hv.1 (bz_0 q)
    refine sw_bipush (dX8_product_0.at 9 rfl) (by decide) ?_
    exact sw_iret (dX8_product_0.at 10 rfl) rfl (Nat.le_refl _) (Nat.le_refl _) hv
  · replace hv := hv.2 (bz_n0 q)
    refine sw_aload_n (dX8_product_0.at 4 rfl) rfl rfl ?_
    refine sw_iload_n (dX8_product_0.at 5 rfl) rfl rfl ?_
    refine sw_iload_n (dX8_product_0.at 6 rfl) rfl rfl ?_
    refine sw_callV (B' := B0) (As := [vi (((w : Nat) : Int)), vi (((z : Nat) : Int))]) (mc := 0) (ms := 0) (dX8_product_0.at 7 rfl) lk_X8_157 (S_lt 0 (by decide)) (S_0 nw nx g) rfl rfl (Nat.le_of_ble_eq_true rfl) rfl (Nat.le_refl _) (Nat.le_refl _) ?_
    refine c_X8_arePair (x := ((w : Nat) : Int)) (y := ((z : Nat) : Int)) (j := j + 3) hnw hE hV hv.1 hv.2.1 ?_
    replace hv := hv.2.2
    refine sw_if_ne (tgt := 20) (dX8_product_0.at 8 rfl) (by decide) (bz_rng _) (fun q => ?_) (fun q => ?_)
    · replace hv := hv.1 (bz_1 q)
      refine sw_aload_n (dX8_product_0.at 11 rfl) rfl rfl ?_
      refine sw_getR (dX8_product_0.at 12 rfl) fp_X8_65 (S_lt 0 (by decide)) (S_0 nw nx g) rfl rfl ?_
      refine sw_getR (dX8_product_0.at 13 rfl) fp_X8_255 (S_e_lt hnw) (S_e hnw) rfl rfl ?_
      refine sw_iload_n (dX8_product_0.at 14 rfl) rfl rfl ?_
      refine sw_ialdN w (w := ((gF P w : Nat) : Int)) (dX8_product_0.at 15 rfl) (S_ek_lt hnw (by decide)) (S_e_8 hnw) (by decide) (GV_lt hV hv.1) (EL_F hE hv.1) ?_
      replace hv := hv.2
      refine sw_i2l (dX8_product_0.at 16 rfl) (nrng hv.1) ?_
      replace hv := hv.2
      refine sw_iload_n (dX8_product_0.at 17 rfl) rfl rfl ?_
      refine sw_callS (post' := post) (B' := B0) (As := [vl (((gF P w : Nat) : Int)), vi (((s : Nat) : Int))]) (mc := 0) (ms := 0) (dX8_product_0.at 18 rfl) lk_X8_185 rfl rfl (Nat.le_of_ble_eq_true rfl) rfl (Nat.le_refl _) (Nat.le_refl _) ?_
      refine c_X8_hasBit (s := (gF P w)) (i := s) (j := j + 4) hv.1 hv.2.1 ?_
      replace hv := hv.2.2
      refine sw_if_eq (tgt := 48) (dX8_product_0.at 19 rfl) (by decide) (bz_rng _) (fun q => ?_) (fun q => ?_)
      · replace hv := hv.1 (bz_0 q)
        refine sw_iload_n (dX8_product_0.at 27 rfl) rfl rfl ?_
        refine sw_aload_n (dX8_product_0.at 28 rfl) rfl rfl ?_
        refine sw_getR (dX8_product_0.at 29 rfl) fp_X8_65 (S_lt 0 (by decide)) (S_0 nw nx g) rfl rfl ?_
        refine sw_iload_n (dX8_product_0.at 30 rfl) rfl rfl ?_
        refine sw_iconst (dX8_product_0.at 31 rfl) ?_
        refine sw_iadd (dX8_product_0.at 32 rfl) ?_
        refine sw_topI (y := ((s + 1 : Nat) : Int)) (by first | rfl | (congr 1)) ?_
        refine sw_iload_n (dX8_product_0.at 33 rfl) rfl rfl ?_
        refine sw_callV (B' := B0) (As := [vi (((s + 1 : Nat) : Int)), vi (((w : Nat) : Int))]) (mc := 0) (ms := 0) (dX8_product_0.at 34 rfl) lk_X8_161 (S_e_lt hnw) (S_e hnw) rfl rfl (Nat.le_of_ble_eq_true rfl) rfl (Nat.le_refl _) (Nat.le_refl _) ?_
        refine c_X1_mulP (e := nw) (x := (s + 1)) (y := w) (j := j + 4) hnw hE hV hv.1 hv.2.1 ?_
        replace hv := hv.2.2
        refine sw_icmpN_ne z (gX P (s + 1) w) (tgt := 65) (dX8_product_0.at 35 rfl) (by decide) hv.1 hv.2.1 (fun q => ?_) (fun q => ?_)
        · replace hv := hv.2.2.1 q
          refine sw_iload_n (dX8_product_0.at 38 rfl) rfl rfl ?_
          refine sw_iload_n (dX8_product_0.at 39 rfl) rfl rfl ?_
          refine sw_icmpN_eq z w (tgt := 87) (dX8_product_0.at 40 rfl) (by decide) hv.1 hv.2.1 (fun q => ?_) (fun q => ?_)
          · replace hv := hv.2.2.1 q
            refine sw_iconst (dX8_product_1.at 0 rfl) ?_
            exact sw_iret (dX8_product_1.at 1 rfl) rfl (Nat.le_refl _) (Nat.le_refl _) hv
          · replace hv := hv.2.2.2 q
            refine sw_aload_n (dX8_product_0.at 41 rfl) rfl rfl ?_
            refine sw_getR (dX8_product_0.at 42 rfl) fp_X8_65 (S_lt 0 (by decide)) (S_0 nw nx g) rfl rfl ?_
            refine sw_getR (dX8_product_0.at 43 rfl) fp_X8_255 (S_e_lt hnw) (S_e hnw) rfl rfl ?_
            refine sw_iload_n (dX8_product_0.at 44 rfl) rfl rfl ?_
            refine sw_ialdN z (w := ((gF P z : Nat) : Int)) (dX8_product_0.at 45 rfl) (S_ek_lt hnw (by decide)) (S_e_8 hnw) (by decide) (GV_lt hV hv.1) (EL_F hE hv.1) ?_
            replace hv := hv.2
            refine sw_i2l (dX8_product_0.at 46 rfl) (nrng hv.1) ?_
            replace hv := hv.2
            refine sw_iload_n (dX8_product_0.at 47 rfl) rfl rfl ?_
            refine sw_callS (post' := post) (B' := B0) (As := [vl (((gF P z : Nat) : Int)), vi (((s : Nat) : Int))]) (mc := 0) (ms := 0) (dX8_product_0.at 48 rfl) lk_X8_185 rfl rfl (Nat.le_of_ble_eq_true rfl) rfl (Nat.le_refl _) (Nat.le_refl _) ?_
            refine c_X8_hasBit (s := (gF P z)) (i := s) (j := j + 4) hv.1 hv.2.1 ?_
            replace hv := hv.2.2
            refine sw_if_ne (tgt := 89) (dX8_product_0.at 49 rfl) (by decide) (bz_rng _) (fun q => ?_) (fun q => ?_)
            · replace hv := hv.1 (bz_1 q)
              refine sw_aload_n (dX8_product_1.at 2 rfl) rfl rfl ?_
              refine sw_getR (dX8_product_1.at 3 rfl) fp_X8_26 (S_lt 0 (by decide)) (S_0 nw nx g) rfl rfl ?_
              refine sw_aload_n (dX8_product_1.at 4 rfl) rfl rfl ?_
              refine sw_getR (dX8_product_1.at 5 rfl) fp_X8_65 (S_lt 0 (by decide)) (S_0 nw nx g) rfl rfl ?_
              refine sw_callV (B' := B0) (As := [vr (nw)]) (mc := 0) (ms := 0) (dX8_product_1.at 6 rfl) lk_X8_204 (S_lt 5 (by decide)) (S_5 nw nx g) rfl rfl (Nat.le_of_ble_eq_true rfl) rfl (Nat.le_refl _) (Nat.le_refl _) ?_
              refine c_X4_prepare (e := nw) (j := j + 0) hnw hE hV hT hv.1 (fun c_1 h_1 => ?_)
              replace hv := hv.2 c_1 h_1
              refine sw_aload_n (dX8_product_1.at 7 rfl) rfl rfl ?_
              refine sw_getR (dX8_product_1.at 8 rfl) fp_X8_26 (S_lt 0 (by decide)) (S_0 nw nx g) rfl rfl ?_
              refine sw_aload_n (dX8_product_1.at 9 rfl) rfl rfl ?_
              refine sw_getR (dX8_product_1.at 10 rfl) fp_X8_65 (S_lt 0 (by decide)) (S_0 nw nx g) rfl rfl ?_
              refine sw_iload_n (dX8_product_1.at 11 rfl) rfl rfl ?_
              refine sw_iload_n (dX8_product_1.at 12 rfl) rfl rfl ?_
              refine sw_callV (B' := B0) (As := [vr (nw), vi (((z : Nat) : Int)), vi (((w : Nat) : Int))]) (mc := 0) (ms := 0) (dX8_product_1.at 13 rfl) lk_X8_214 (S_lt 5 (by decide)) (S_5 nw nx g) rfl rfl (Nat.le_of_ble_eq_true rfl) rfl (Nat.le_refl _) (Nat.le_refl _) ?_
              refine c_X4_middle (e := nw) (v := z) (w := w) (j := j + 3) hnw (EL_same hE (fun q hq => h_1.1 _ (by omega) (by omega))) hV hv.1 hv.2.1 ?_
              replace hv := hv.2.2
              exact sw_iret (dX8_product_1.at 14 rfl) rfl (Nat.le_refl _) (Nat.le_refl _) hv
            · replace hv := hv.2 (bz_n1 q)
              refine sw_iconst (dX8_product_1.at 0 rfl) ?_
              exact sw_iret (dX8_product_1.at 1 rfl) rfl (Nat.le_refl _) (Nat.le_refl _) hv
        · replace hv := hv.2.2.2 q
          refine sw_iconst (dX8_product_0.at 36 rfl) ?_
          exact sw_iret (dX8_product_0.at 37 rfl) rfl (Nat.le_refl _) (Nat.le_refl _) hv
      · replace hv := hv.2 (bz_n0 q)
        refine sw_iload_n (dX8_product_0.at 20 rfl) rfl rfl ?_
        refine sw_iload_n (dX8_product_0.at 21 rfl) rfl rfl ?_
        refine sw_icmpN_ne z w (tgt := 46) (dX8_product_0.at 22 rfl) (by decide) hv.1 hv.2.1 (fun q => ?_) (fun q => ?_)
        · replace hv := hv.2.2.1 q
          refine sw_iconst (dX8_product_0.at 25 rfl) ?_
          exact sw_iret (dX8_product_0.at 26 rfl) rfl (Nat.le_refl _) (Nat.le_refl _) hv
        · replace hv := hv.2.2.2 q
          refine sw_iconst (dX8_product_0.at 23 rfl) ?_
          refine sw_goto (tgt := 47) (dX8_product_0.at 24 rfl) (by decide) ?_
          exact sw_iret (dX8_product_0.at 26 rfl) rfl (Nat.le_refl _) (Nat.le_refl _) hv
    · replace hv := hv.2 (bz_n1 q)
      refine sw_bipush (dX8_product_0.at 9 rfl) (by decide) ?_
      exact sw_iret (dX8_product_0.at 10 rfl) rfl (Nat.le_refl _) (Nat.le_refl _) hv

set_option maxHeartbeats 2000000 in
set_option maxRecDepth 20000 in
theorem g_X8_product_0 {G : GG} {j nw nx gn : Nat} {g : Nat → Sh} {c : Nat → Nat → Int} {post : Option AV → AM → Prop} {s : Int} {w : Int} {z : Int} {P : GD} {T : PT} (hnw : nw = 21 ∨ nw = 35) (hE : EL c nw P) (hV : GV P) (hT : HT P T) (hR : PR P T c) (hL : ∀ s, s < gR P → s + 1 < gN P)  (hv : (-2147483648 ≤ s ∧ s < 2147483648) ∧ ((((decide (0 ≤ s ∧ s < (gR P : Int))) = false) → post (some (vi ((-2)))) (S nw nx g, 78 + gn, c)) ∧ (((decide (0 ≤ s ∧ s < (gR P : Int))) = true) → (-2147483648 ≤ w ∧ w < 2147483648) ∧ (-2147483648 ≤ z ∧ z < 2147483648) ∧ ((((decide ((0 ≤ w ∧ w < (gN P : Int)) ∧ 0 ≤ z ∧ z < (gN P : Int))) = true) → SW G (j + 5) mX8_product 28 [some (vr (0)), some (vi (s)), some (vi (w)), some (vi (z))] [vi (w), vr (nw + 8)] (S nw nx g, 78 + gn, c) B0 post) ∧ (((decide ((0 ≤ w ∧ w < (gN P : Int)) ∧ 0 ≤ z ∧ z < (gN P : Int))) = false) → post (some (vi ((-2)))) (S nw nx g, 78 + gn, c)))))) :
    SW G (j + 5) mX8_product 0 [some (vr (0)), some (vi (s)), some (vi (w)), some (vi (z))] [] (S nw nx g, 78 + gn, c) B0 post := by
  refine sw_aload_n (dX8_product_0.at 0 rfl) rfl rfl ?_
  refine sw_iload_n (dX8_product_0.at 1 rfl) rfl rfl ?_
  refine sw_callV (B' := B0) (As := [vi (s)]) (mc := 0) (ms := 0) (dX8_product_0.at 2 rfl) lk_X8_122 (S_lt 0 (by decide)) (S_0 nw nx g) rfl rfl (Nat.le_of_ble_eq_true rfl) rfl (Nat.le_refl _) (Nat.le_refl _) ?_
  refine c_X8_isLetter (x := s) (j := j + 4) hnw hE hV hv.1 ?_
  replace hv := hv.2
  refine sw_if_eq (tgt := 17) (dX8_product_0.at 3 rfl) (by decide) (bz_rng _) (fun q => ?_) (fun q => ?_)
  · replace hv := hv.1 (bz_0 q)
    refine sw_bipush (dX8_product_0.at 9 rfl) (by decide) ?_
    exact sw_iret (dX8_product_0.at 10 rfl) rfl (Nat.le_refl _) (Nat.le_refl _) hv
  · replace hv := hv.2 (bz_n0 q)
    refine sw_aload_n (dX8_product_0.at 4 rfl) rfl rfl ?_
    refine sw_iload_n (dX8_product_0.at 5 rfl) rfl rfl ?_
    refine sw_iload_n (dX8_product_0.at 6 rfl) rfl rfl ?_
    refine sw_callV (B' := B0) (As := [vi (w), vi (z)]) (mc := 0) (ms := 0) (dX8_product_0.at 7 rfl) lk_X8_157 (S_lt 0 (by decide)) (S_0 nw nx g) rfl rfl (Nat.le_of_ble_eq_true rfl) rfl (Nat.le_refl _) (Nat.le_refl _) ?_
    refine c_X8_arePair (x := w) (y := z) (j := j + 3) hnw hE hV hv.1 hv.2.1 ?_
    replace hv := hv.2.2
    refine sw_if_ne (tgt := 20) (dX8_product_0.at 8 rfl) (by decide) (bz_rng _) (fun q => ?_) (fun q => ?_)
    · replace hv := hv.1 (bz_1 q)
      refine sw_aload_n (dX8_product_0.at 11 rfl) rfl rfl ?_
      refine sw_getR (dX8_product_0.at 12 rfl) fp_X8_65 (S_lt 0 (by decide)) (S_0 nw nx g) rfl rfl ?_
      refine sw_getR (dX8_product_0.at 13 rfl) fp_X8_255 (S_e_lt hnw) (S_e hnw) rfl rfl ?_
      refine sw_iload_n (dX8_product_0.at 14 rfl) rfl rfl ?_
      exact hv
    · replace hv := hv.2 (bz_n1 q)
      refine sw_bipush (dX8_product_0.at 9 rfl) (by decide) ?_
      exact sw_iret (dX8_product_0.at 10 rfl) rfl (Nat.le_refl _) (Nat.le_refl _) hv

set_option maxHeartbeats 4000000 in
theorem c_X8_product {G : GG} {j nw nx gn : Nat} {g : Nat → Sh} {c : Nat → Nat → Int} {post : Option AV → AM → Prop} {P : GD} {T : PT} {s w z : Int} (hnw : nw = 21 ∨ nw = 35) (hE : EL c nw P) (hV : GV P) (hT : HT P T) (hR : PR P T c) (hL : ∀ s, s < gR P → s + 1 < gN P) (p1 : -2147483648 ≤ s ∧ s < 2147483648) (p2 : -2147483648 ≤ w ∧ w < 2147483648) (p3 : -2147483648 ≤ z ∧ z < 2147483648) (K : ∀ c2 : Nat → Nat → Int, ((∀ a, a ≠ 5 → a ≠ 6 → c2 a = c a) ∧ PR P T c2) → post (some (vi (q_product P T s w z))) (S nw nx g, 78 + gn, c2)) : SM G (j + 6) mX8_product [vr (0), vi (s), vi (w), vi (z)] (S nw nx g, 78 + gn, c) 0 0 post := by
  refine sm_of wX8_product rfl (Nat.le_of_ble_eq_true rfl) ?_
  have hN60 := GV_N hV
  have hR5 := GV_R hV
  by_cases hv : (0 ≤ s ∧ s < (gR P : Int)) ∧ (0 ≤ w ∧ w < (gN P : Int)) ∧ 0 ≤ z ∧ z < (gN P : Int)
  · obtain ⟨s, rfl⟩ : ∃ n : Nat, s = (n : Int) := ⟨s.toNat, by omega⟩
    obtain ⟨w, rfl⟩ : ∃ n : Nat, w = (n : Int) := ⟨w.toNat, by omega⟩
    obtain ⟨z, rfl⟩ : ∃ n : Nat, z = (n : Int) := ⟨z.toNat, by omega⟩
    have e : q_product P T ((s : Nat) : Int) ((w : Nat) : Int) ((z : Nat) : Int) = pdF P T s w z := by
      rw [q_product, if_pos hv]
      simp only [Int.toNat_natCast]
    rw [e] at K
    have hw0 : w < gN P := by omega
    have hz0 : z < gN P := by omega
    have fw := (hV.2.2.1 w hw0).2.2.2.2.1
    have fz := (hV.2.2.1 z hz0).2.2.2.2.1
    have hs0 : s < gR P := by omega
    have hs1 := hL s hs0
    have fX := hV.2.2.2.2.1 (s + 1) w hs1 hw0
    have K0 := K c ⟨fun _ _ _ => rfl, hR⟩
    rw [pdF] at K0
    refine g_X8_product_0n hnw hE hV hT hR hL ?_
    refine ⟨?_, ⟨fun q => ?_, fun q => ⟨?_, ?_, ⟨fun q => ⟨?_, ⟨?_, ⟨?_, ?_, ⟨fun q => ⟨?_, ?_, ⟨?_, ?_, ⟨fun q => ⟨?_, ?_, ⟨fun q => ?_, fun q => ⟨?_, ⟨?_, ⟨?_, ?_, ⟨fun q => ⟨?_, fun c_1 h_1 => ⟨?_, ?_, ?_⟩⟩, fun q => ?_⟩⟩⟩⟩⟩⟩, fun q => ?_⟩⟩⟩, fun q => ⟨?_, ?_, ⟨fun q => ?_, fun q => ?_⟩⟩⟩⟩⟩⟩, fun q => ?_⟩⟩⟩⟩
    all_goals first | omega | assumption | (exfalso; simp only [decide_eq_true_eq, decide_eq_false_iff_not] at *; omega) | (have K2 := K c_1 ⟨h_1.1, Or.inr h_1.2⟩; rw [pdF] at K2; simp only [*, Bool.false_eq_true, if_true, if_false, eq_self, or_false, false_or, or_self, or_true, true_or, reduceCtorEq] at K2; rw [muG_T hV h_1.2.2 (by omega) (by omega)]; exact K2) | (rw [if_neg (by rw [‹(gF P w).testBit s = false›]; decide), if_neg (by assumption), if_pos (Or.inl (by assumption))] at K0; exact K0) | (simp only [*, Bool.false_eq_true, if_true, if_false, eq_self, or_false, false_or, or_self, or_true, true_or, reduceCtorEq] at K0; exact K0)
  · have e : q_product P T s w z = (-2) := by rw [q_product, if_neg hv]
    rw [e] at K
    refine g_X8_product_0 hnw hE hV hT hR hL ?_
    have K := K c ⟨fun _ _ _ => rfl, hR⟩
    refine ⟨?_, ⟨fun q => ?_, fun q => ⟨?_, ?_, ⟨fun q => ?_, fun q => ?_⟩⟩⟩⟩
    all_goals first | exact K | omega | assumption | (exfalso; simp only [decide_eq_true_eq, decide_eq_false_iff_not] at *; omega)

set_option maxHeartbeats 2000000 in
theorem c_X8_pn {G : GG} {j nw nx gn : Nat} {g : Nat → Sh} {c : Nat → Nat → Int} {post : Option AV → AM → Prop} {P : GD} {T : PT} {x : Nat} {y : Nat} {k : Nat} (hnw : nw = 21 ∨ nw = 35) (hE : EL c nw P) (hV : GV P) (hT : HT P T) (hR : PR P T c) (p1 : x < gN P) (p2 : y < gN P) (p3 : k < 2147483648) (K : ∀ c2 : Nat → Nat → Int, ((∀ a, a ≠ 5 → a ≠ 6 → c2 a = c a) ∧ PR P T c2) → post (some (vi ((if k < 8 then T x y k else 0)))) (S nw nx g, 78 + gn, c2)) : SM G (j + 6) mX8_p [vr (0), vi (((x : Nat) : Int)), vi (((y : Nat) : Int)), vi (((k : Nat) : Int))] (S nw nx g, 78 + gn, c) 0 0 post := by
  refine sm_of wX8_p rfl (Nat.le_of_ble_eq_true rfl) ?_
  have h60 := GV_N hV
  refine (g_X8_p_0n hnw hE hV hT hR ?_)
  refine ⟨?_, ?_, ⟨fun q => ?_, fun q => ⟨?_, ⟨fun q => ⟨?_, fun c_1 h_1 => ⟨?_, ?_, ?_, ?_⟩⟩, fun q => ?_⟩⟩⟩⟩
  all_goals first | omega | assumption | (exfalso; simp only [decide_eq_true_eq, decide_eq_false_iff_not] at *; omega) | (have K2 := K c_1 ⟨h_1.1, Or.inr h_1.2⟩; have e9 : (if k < 8 then c_1 6 ((x * 60 + y) * 8 + k) else 0) = (if k < 8 then T x y k else 0) := (by split <;> first | rfl | exact h_1.2.2 x y k (by omega) (by omega) (by assumption)); rw [e9]; exact K2)

def q_q (P : GD) (T : PT) (x y k : Int) : Int := if ((0 ≤ x ∧ x < (gN P : Int)) ∧ 0 ≤ y ∧ y < (gN P : Int)) ∧ 0 ≤ k then if k.toNat < 8 then T (gX P (gN P - 1) y.toNat) (gX P (gN P - 1) x.toNat) k.toNat else 0 else (-1000000)
set_option maxHeartbeats 2000000 in
set_option maxRecDepth 20000 in
theorem g_X8_q_0n {G : GG} {j nw nx gn : Nat} {g : Nat → Sh} {c : Nat → Nat → Int} {post : Option AV → AM → Prop} {x : Nat} {y : Nat} {k : Nat} {P : GD} {T : PT} (hnw : nw = 21 ∨ nw = 35) (hE : EL c nw P) (hV : GV P) (hT : HT P T) (hR : PR P T c)  (hv : (-2147483648 ≤ ((x : Nat) : Int) ∧ ((x : Nat) : Int) < 2147483648) ∧ (-2147483648 ≤ ((y : Nat) : Int) ∧ ((y : Nat) : Int) < 2147483648) ∧ ((((decide ((0 ≤ ((x : Nat) : Int) ∧ ((x : Nat) : Int) < (gN P : Int)) ∧ 0 ≤ ((y : Nat) : Int) ∧ ((y : Nat) : Int) < (gN P : Int))) = false) → post (some (vi ((-1000000)))) (S nw nx g, 78 + gn, c)) ∧ (((decide ((0 ≤ ((x : Nat) : Int) ∧ ((x : Nat) : Int) < (gN P : Int)) ∧ 0 ≤ ((y : Nat) : Int) ∧ ((y : Nat) : Int) < (gN P : Int))) = true) → (k < 2147483648) ∧ (((0 ≤ ((k : Nat) : Int)) → (1 ≤ gN P) ∧ ((((gN P) - 1) < gN P) ∧ (y < gN P) ∧ ((((gN P) - 1) < gN P) ∧ (x < gN P) ∧ (((gX P ((gN P) - 1) y) < gN P) ∧ ((gX P ((gN P) - 1) x) < gN P) ∧ (k < 2147483648) ∧ (∀ c_1 : Nat → Nat → Int, ((∀ a, a ≠ 5 → a ≠ 6 → c_1 a = c a) ∧ PR P T c_1) → post (some (vi ((if k < 8 then T (gX P ((gN P) - 1) y) (gX P ((gN P) - 1) x) k else 0)))) (S nw nx g, 78 + gn, c_1)))))) ∧ ((¬ (0 ≤ ((k : Nat) : Int))) → post (some (vi ((-1000000)))) (S nw nx g, 78 + gn, c)))))) :
    SW G (j + 6) mX8_q 0 [some (vr (0)), some (vi (((x : Nat) : Int))), some (vi (((y : Nat) : Int))), some (vi (((k : Nat) : Int))), none] [] (S nw nx g, 78 + gn, c) B0 post := by
  refine sw_aload_n (dX8_q.at 0 rfl) rfl rfl ?_
  refine sw_iload_n (dX8_q.at 1 rfl) rfl rfl ?_
  refine sw_iload_n (dX8_q.at 2 rfl) rfl rfl ?_
  refine sw_callV (B' := B0) (As := [vi (((x : Nat) : Int)), vi (((y : Nat) : Int))]) (mc := 0) (ms := 0) (dX8_q.at 3 rfl) lk_X8_157 (S_lt 0 (by decide)) (S_0 nw nx g) rfl rfl (Nat.le_of_ble_eq_true rfl) rfl (Nat.le_refl _) (Nat.le_refl _) ?_
  refine c_X8_arePair (x := ((x : Nat) : Int)) (y := ((y : Nat) : Int)) (j := j + 4) hnw hE hV hv.1 hv.2.1 ?_
  replace hv := hv.2.2
  refine sw_if_eq (tgt := 13) (dX8_q.at 4 rfl) (by decide) (bz_rng _) (fun q => ?_) (fun q => ?_)
  · replace hv := hv.1 (bz_0 q)
    refine sw_ldc (z := (-1000000)) (dX8_q.at 7 rfl) kc_X8_196 (by decide) ?_
    exact sw_iret (dX8_q.at 8 rfl) rfl (Nat.le_refl _) (Nat.le_refl _) hv
  · replace hv := hv.2 (bz_n0 q)
    refine sw_iload_n (dX8_q.at 5 rfl) rfl rfl ?_
    refine sw_if_ge (tgt := 16) (dX8_q.at 6 rfl) (by decide) (nrng hv.1) (fun q => ?_) (fun q => ?_)
    · replace hv := hv.2.1 q
      refine sw_aload_n (dX8_q.at 9 rfl) rfl rfl ?_
      refine sw_getR (dX8_q.at 10 rfl) fp_X8_65 (S_lt 0 (by decide)) (S_0 nw nx g) rfl rfl ?_
      refine sw_getIE (w := ((gN P : Nat) : Int)) (dX8_q.at 11 rfl) fp_X8_103 (S_e_lt hnw) (S_e hnw) rfl (EL_N hE) ?_
      refine sw_iconst (dX8_q.at 12 rfl) ?_
      refine sw_isub (dX8_q.at 13 rfl) ?_
      refine sw_topI (y := (((gN P) - 1 : Nat) : Int)) (congrArg _ (Int.ofNat_sub hv.1).symm) ?_
      replace hv := hv.2
      refine sw_istore (lo' := [some (vr (0)), some (vi (((x : Nat) : Int))), some (vi (((y : Nat) : Int))), some (vi (((k : Nat) : Int))), some (vi ((((gN P) - 1 : Nat) : Int)))]) (dX8_q.at 14 rfl) (by decide) rfl ?_
      refine sw_aload_n (dX8_q.at 15 rfl) rfl rfl ?_
      refine sw_aload_n (dX8_q.at 16 rfl) rfl rfl ?_
      refine sw_getR (dX8_q.at 17 rfl) fp_X8_65 (S_lt 0 (by decide)) (S_0 nw nx g) rfl rfl ?_
      refine sw_iload (dX8_q.at 18 rfl) rfl ?_
      refine sw_iload_n (dX8_q.at 19 rfl) rfl rfl ?_
      refine sw_callV (B' := B0) (As := [vi ((((gN P) - 1 : Nat) : Int)), vi (((y : Nat) : Int))]) (mc := 0) (ms := 0) (dX8_q.at 20 rfl) lk_X8_161 (S_e_lt hnw) (S_e hnw) rfl rfl (Nat.le_of_ble_eq_true rfl) rfl (Nat.le_refl _) (Nat.le_refl _) ?_
      refine c_X1_mulP (e := nw) (x := ((gN P) - 1)) (y := y) (j := j + 5) hnw hE hV hv.1 hv.2.1 ?_
      replace hv := hv.2.2
      refine sw_aload_n (dX8_q.at 21 rfl) rfl rfl ?_
      refine sw_getR (dX8_q.at 22 rfl) fp_X8_65 (S_lt 0 (by decide)) (S_0 nw nx g) rfl rfl ?_
      refine sw_iload (dX8_q.at 23 rfl) rfl ?_
      refine sw_iload_n (dX8_q.at 24 rfl) rfl rfl ?_
      refine sw_callV (B' := B0) (As := [vi ((((gN P) - 1 : Nat) : Int)), vi (((x : Nat) : Int))]) (mc := 0) (ms := 0) (dX8_q.at 25 rfl) lk_X8_161 (S_e_lt hnw) (S_e hnw) rfl rfl (Nat.le_of_ble_eq_true rfl) rfl (Nat.le_refl _) (Nat.le_refl _) ?_
      refine c_X1_mulP (e := nw) (x := ((gN P) - 1)) (y := x) (j := j + 5) hnw hE hV hv.1 hv.2.1 ?_
      replace hv := hv.2.2
      refine sw_iload_n (dX8_q.at 26 rfl) rfl rfl ?_
      refine sw_callV (B' := B0) (As := [vi (((gX P ((gN P) - 1) y : Nat) : Int)), vi (((gX P ((gN P) - 1) x : Nat) : Int)), vi (((k : Nat) : Int))]) (mc := 0) (ms := 0) (dX8_q.at 27 rfl) lk_X8_219 (S_lt 0 (by decide)) (S_0 nw nx g) rfl rfl (Nat.le_of_ble_eq_true rfl) rfl (Nat.le_refl _) (Nat.le_refl _) ?_
      refine c_X8_pn (x := (gX P ((gN P) - 1) y)) (y := (gX P ((gN P) - 1) x)) (k := k) (j := j + 0) hnw hE hV hT hR hv.1 hv.2.1 hv.2.2.1 (fun c_1 h_1 => ?_)
      replace hv := hv.2.2.2 c_1 h_1
      exact sw_iret (dX8_q.at 28 rfl) rfl (Nat.le_refl _) (Nat.le_refl _) hv
    · replace hv := hv.2.2 q
      refine sw_ldc (z := (-1000000)) (dX8_q.at 7 rfl) kc_X8_196 (by decide) ?_
      exact sw_iret (dX8_q.at 8 rfl) rfl (Nat.le_refl _) (Nat.le_refl _) hv

set_option maxHeartbeats 2000000 in
set_option maxRecDepth 20000 in
theorem g_X8_q_0 {G : GG} {j nw nx gn : Nat} {g : Nat → Sh} {c : Nat → Nat → Int} {post : Option AV → AM → Prop} {x : Int} {y : Int} {k : Int} {P : GD} {T : PT} (hnw : nw = 21 ∨ nw = 35) (hE : EL c nw P) (hV : GV P) (hT : HT P T) (hR : PR P T c)  (hv : (-2147483648 ≤ x ∧ x < 2147483648) ∧ (-2147483648 ≤ y ∧ y < 2147483648) ∧ ((((decide ((0 ≤ x ∧ x < (gN P : Int)) ∧ 0 ≤ y ∧ y < (gN P : Int))) = false) → post (some (vi ((-1000000)))) (S nw nx g, 78 + gn, c)) ∧ (((decide ((0 ≤ x ∧ x < (gN P : Int)) ∧ 0 ≤ y ∧ y < (gN P : Int))) = true) → (-2147483648 ≤ k ∧ k < 2147483648) ∧ (((0 ≤ k) → SW G (j + 6) mX8_q 35 [some (vr (0)), some (vi (x)), some (vi (y)), some (vi (k)), some (vi (((gN P : Nat) : Int) - 1))] [vi (y), vi (((gN P : Nat) : Int) - 1), vr (nw), vr (0)] (S nw nx g, 78 + gn, c) B0 post) ∧ ((¬ (0 ≤ k)) → post (some (vi ((-1000000)))) (S nw nx g, 78 + gn, c)))))) :
    SW G (j + 6) mX8_q 0 [some (vr (0)), some (vi (x)), some (vi (y)), some (vi (k)), none] [] (S nw nx g, 78 + gn, c) B0 post := by
  refine sw_aload_n (dX8_q.at 0 rfl) rfl rfl ?_
  refine sw_iload_n (dX8_q.at 1 rfl) rfl rfl ?_
  refine sw_iload_n (dX8_q.at 2 rfl) rfl rfl ?_
  refine sw_callV (B' := B0) (As := [vi (x), vi (y)]) (mc := 0) (ms := 0) (dX8_q.at 3 rfl) lk_X8_157 (S_lt 0 (by decide)) (S_0 nw nx g) rfl rfl (Nat.le_of_ble_eq_true rfl) rfl (Nat.le_refl _) (Nat.le_refl _) ?_
  refine c_X8_arePair (x := x) (y := y) (j := j + 4) hnw hE hV hv.1 hv.2.1 ?_
  replace hv := hv.2.2
  refine sw_if_eq (tgt := 13) (dX8_q.at 4 rfl) (by decide) (bz_rng _) (fun q => ?_) (fun q => ?_)
  · replace hv := hv.1 (bz_0 q)
    refine sw_ldc (z := (-1000000)) (dX8_q.at 7 rfl) kc_X8_196 (by decide) ?_
    exact sw_iret (dX8_q.at 8 rfl) rfl (Nat.le_refl _) (Nat.le_refl _) hv
  · replace hv := hv.2 (bz_n0 q)
    refine sw_iload_n (dX8_q.at 5 rfl) rfl rfl ?_
    refine sw_if_ge (tgt := 16) (dX8_q.at 6 rfl) (by decide) hv.1 (fun q => ?_) (fun q => ?_)
    · replace hv := hv.2.1 q
      refine sw_aload_n (dX8_q.at 9 rfl) rfl rfl ?_
      refine sw_getR (dX8_q.at 10 rfl) fp_X8_65 (S_lt 0 (by decide)) (S_0 nw nx g) rfl rfl ?_
      refine sw_getIE (w := ((gN P : Nat) : Int)) (dX8_q.at 11 rfl) fp_X8_103 (S_e_lt hnw) (S_e hnw) rfl (EL_N hE) ?_
      refine sw_iconst (dX8_q.at 12 rfl) ?_
      refine sw_isub (dX8_q.at 13 rfl) ?_
      refine sw_istore (lo' := [some (vr (0)), some (vi (x)), some (vi (y)), some (vi (k)), some (vi (((gN P : Nat) : Int) - 1))]) (dX8_q.at 14 rfl) (by decide) rfl ?_
      refine sw_aload_n (dX8_q.at 15 rfl) rfl rfl ?_
      refine sw_aload_n (dX8_q.at 16 rfl) rfl rfl ?_
      refine sw_getR (dX8_q.at 17 rfl) fp_X8_65 (S_lt 0 (by decide)) (S_0 nw nx g) rfl rfl ?_
      refine sw_iload (dX8_q.at 18 rfl) rfl ?_
      refine sw_iload_n (dX8_q.at 19 rfl) rfl rfl ?_
      exact hv
    · replace hv := hv.2.2 q
      refine sw_ldc (z := (-1000000)) (dX8_q.at 7 rfl) kc_X8_196 (by decide) ?_
      exact sw_iret (dX8_q.at 8 rfl) rfl (Nat.le_refl _) (Nat.le_refl _) hv

set_option maxHeartbeats 4000000 in
theorem c_X8_q {G : GG} {j nw nx gn : Nat} {g : Nat → Sh} {c : Nat → Nat → Int} {post : Option AV → AM → Prop} {P : GD} {T : PT} {x y k : Int} (hnw : nw = 21 ∨ nw = 35) (hE : EL c nw P) (hV : GV P) (hT : HT P T) (hR : PR P T c) (p1 : -2147483648 ≤ x ∧ x < 2147483648) (p2 : -2147483648 ≤ y ∧ y < 2147483648) (p3 : -2147483648 ≤ k ∧ k < 2147483648) (K : ∀ c2 : Nat → Nat → Int, ((∀ a, a ≠ 5 → a ≠ 6 → c2 a = c a) ∧ PR P T c2) → post (some (vi (q_q P T x y k))) (S nw nx g, 78 + gn, c2)) : SM G (j + 7) mX8_q [vr (0), vi (x), vi (y), vi (k)] (S nw nx g, 78 + gn, c) 0 0 post := by
  refine sm_of wX8_q rfl (Nat.le_of_ble_eq_true rfl) ?_
  have hN60 := GV_N hV
  have hR5 := GV_R hV
  by_cases hv : ((0 ≤ x ∧ x < (gN P : Int)) ∧ 0 ≤ y ∧ y < (gN P : Int)) ∧ 0 ≤ k
  · obtain ⟨x, rfl⟩ : ∃ n : Nat, x = (n : Int) := ⟨x.toNat, by omega⟩
    obtain ⟨y, rfl⟩ : ∃ n : Nat, y = (n : Int) := ⟨y.toNat, by omega⟩
    obtain ⟨k, rfl⟩ : ∃ n : Nat, k = (n : Int) := ⟨k.toNat, by omega⟩
    have e : q_q P T ((x : Nat) : Int) ((y : Nat) : Int) ((k : Nat) : Int) = if k < 8 then T (gX P (gN P - 1) y) (gX P (gN P - 1) x) k else 0 := by
      rw [q_q, if_pos hv]
      simp only [Int.toNat_natCast]
    rw [e] at K
    have f1 := hV.2.2.2.2.1 (gN P - 1) x (by omega) (by omega)
    have f2 := hV.2.2.2.2.1 (gN P - 1) y (by omega) (by omega)
    refine g_X8_q_0n hnw hE hV hT hR ?_
    refine ⟨?_, ?_, ⟨fun q => ?_, fun q => ⟨?_, ⟨fun q => ⟨?_, ⟨?_, ?_, ⟨?_, ?_, ⟨?_, ?_, ?_, fun c_1 h_1 => ?_⟩⟩⟩⟩, fun q => ?_⟩⟩⟩⟩
    all_goals first | omega | assumption | (exfalso; simp only [decide_eq_true_eq, decide_eq_false_iff_not] at *; omega) | exact K c_1 h_1
  · have e : q_q P T x y k = (-1000000) := by rw [q_q, if_neg hv]
    rw [e] at K
    refine g_X8_q_0 hnw hE hV hT hR ?_
    have K := K c ⟨fun _ _ _ => rfl, hR⟩
    refine ⟨?_, ?_, ⟨fun q => ?_, fun q => ⟨?_, ⟨fun q => ?_, fun q => ?_⟩⟩⟩⟩
    all_goals first | exact K | omega | assumption | (exfalso; simp only [decide_eq_true_eq, decide_eq_false_iff_not] at *; omega)

