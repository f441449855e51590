def rwF (P : GD) (x : Nat) : Nat → Nat → Nat → Nat
  | 0, _, a => a
  | k + 1, s, a => rwF P x k (s + 1) (if (gE P x).testBit s then a + gW P (gS P x s) else a)
/-- what is reckoned of the class's rows -/
def FQ (P : GD) : Prop :=
  (gI P 0 = 0 ∧ ∀ x, 0 < x → x < gN P → 0 < gI P x ∧ ∀ y, 0 < y → y < gN P → (gX P x y = 0 ↔ y = gI P x)) ∧
  (gW P 0 = 1 ∧ ∀ x, 0 < x → x < gN P → rwF P x (gR P) 0 0 = gW P x) ∧
  (gD P 0 = 1 ∧ ∀ x, 0 < x → x < gN P → gD P x = gD P (gH P x) ||| gAll P (gD P (gH P x)) (gA P x) (gN P)) ∧
  (∀ x, x < gN P → gF P x < 2 ^ gR P ∧ gE P x < 2 ^ gR P) ∧
  (gO P 0 = 0 ∧ (∀ x i, x < gN P → i < gM P → gO P (gX P (gT P i) x) ≤ gO P x + 1) ∧ ∀ y, 0 < y → y < gN P → ∃ x i, x < gN P ∧ i < gM P ∧ gX P (gT P i) x = y ∧ gO P x + 1 = gO P y)
theorem bitsU_eq {p : Nat → Bool} {n v : Nat} (hv : v < 2 ^ n) (h : ∀ i, i < n → v.testBit i = p i) : bitsU p n = v := by
  refine Nat.eq_of_testBit_eq (fun i => ?_)
  rw [bitsU_bit]
  by_cases e : i < n
  · rw [decide_eq_true e, Bool.true_and, h i e]
  · rw [decide_eq_false e, Bool.false_and]
    have : v < 2 ^ i := Nat.lt_of_lt_of_le hv (Nat.pow_le_pow_right (by decide) (by omega))
    exact (Nat.testBit_lt_two_pow this).symm

set_option maxHeartbeats 2000000 in
set_option maxRecDepth 20000 in
theorem g_X1_fillProducts_0 {G : GG} {j nw nx gn : Nat} {g : Nat → Sh} {c : Nat → Nat → Int} {post : Option AV → AM → Prop} {e : Nat} (he : e = 21 ∨ e = 35) {P : GD} {be : Nat → Nat} {le : Nat → Nat} {hd : Nat → Nat} {ls : Nat → Nat} {st : Nat → Int} {pr : Nat → Nat} {iv : Nat → Nat} {fa : Nat → Nat} {eb : Nat → Nat} {ml : Nat → Nat} {mf : Nat → Int} {rw : Nat → Nat} {dn : Nat → Nat} {mm : Nat} (hle : ∀ x, x < gN P → le x = gL P x) (hhd : ∀ x, x < gN P → hd x = gH P x) (hls : ∀ x, x < gN P → ls x = gA P x) (hst : ∀ x s, x < gN P → s < gR P → st (x * 5 + s) = ((gS P x s : Nat) : Int)) (hV : GV P) (hC : GC P)  (hv : SW G (j + 1) mX1_fillProducts 2 [some (vr (e)), some (vi (0)), none] [] (S nw nx g, 78 + gn, (em c e be le hd ls st pr iv fa eb ml mf rw dn (gR P) (gN P) mm)) B0 post) :
    SW G (j + 1) mX1_fillProducts 0 [some (vr (e)), none, none] [] (S nw nx g, 78 + gn, (em c e be le hd ls st pr iv fa eb ml mf rw dn (gR P) (gN P) mm)) B0 post := by
  refine sw_iconst (dX1_fillProducts.at 0 rfl) ?_
  refine sw_istore_n (lo' := [some (vr (e)), some (vi (0)), none]) (dX1_fillProducts.at 1 rfl) rfl (by decide) rfl ?_
  exact hv

set_option maxHeartbeats 2000000 in
set_option maxRecDepth 20000 in
theorem g_X1_fillProducts_2 {G : GG} {j nw nx gn : Nat} {g : Nat → Sh} {c : Nat → Nat → Int} {post : Option AV → AM → Prop} {e : Nat} (he : e = 21 ∨ e = 35) {P : GD} {be : Nat → Nat} {le : Nat → Nat} {hd : Nat → Nat} {ls : Nat → Nat} {st : Nat → Int} {pr : Nat → Nat} {iv : Nat → Nat} {fa : Nat → Nat} {eb : Nat → Nat} {ml : Nat → Nat} {mf : Nat → Int} {rw : Nat → Nat} {dn : Nat → Nat} {mm : Nat} {xx : Nat} (hle : ∀ x, x < gN P → le x = gL P x) (hhd : ∀ x, x < gN P → hd x = gH P x) (hls : ∀ x, x < gN P → ls x = gA P x) (hst : ∀ x s, x < gN P → s < gR P → st (x * 5 + s) = ((gS P x s : Nat) : Int)) (hV : GV P) (hC : GC P)  (hv : (xx < 2147483648) ∧ (gN P < 2147483648) ∧ (((gN P ≤ xx) → post none (S nw nx g, 78 + gn, (em c e be le hd ls st pr (uN iv 0 0) fa eb ml mf rw dn (gR P) (gN P) mm))) ∧ ((¬ (gN P ≤ xx)) → (xx * 60 < 3600) ∧ (SW G (j + 1) mX1_fillProducts 22 [some (vr (e)), some (vi (((xx : Nat) : Int))), some (vi (1))] [] (S nw nx g, 78 + gn, (em c e be le hd ls st (uN pr (xx * 60) xx) iv fa eb ml mf rw dn (gR P) (gN P) mm)) B0 post)))) :
    SW G (j + 1) mX1_fillProducts 2 [some (vr (e)), some (vi (((xx : Nat) : Int))), none] [] (S nw nx g, 78 + gn, (em c e be le hd ls st pr iv fa eb ml mf rw dn (gR P) (gN P) mm)) B0 post := by
  refine sw_iload_n (dX1_fillProducts.at 2 rfl) rfl rfl ?_
  refine sw_aload_n (dX1_fillProducts.at 3 rfl) rfl rfl ?_
  refine sw_getIE (w := ((gN P : Nat) : Int)) (dX1_fillProducts.at 4 rfl) fp_X1_59 (S_e_lt he) (S_e he) rfl em_f14 ?_
  refine sw_icmpN_ge xx (gN P) (tgt := 90) (dX1_fillProducts.at 5 rfl) (by decide) hv.1 hv.2.1 (fun q => ?_) (fun q => ?_)
  · replace hv := hv.2.2.1 q
    refine sw_aload_n (dX1_fillProducts.at 54 rfl) rfl rfl ?_
    refine sw_getR (dX1_fillProducts.at 55 rfl) fp_X1_30 (S_e_lt he) (S_e he) rfl rfl ?_
    refine sw_iconst (dX1_fillProducts.at 56 rfl) ?_
    refine sw_iconst (dX1_fillProducts.at 57 rfl) ?_
    refine sw_iastN 0 (dX1_fillProducts.at 58 rfl) (S_ek_lt he (by decide)) (S_e_7 he) (by decide) (by decide) ?_
    refine SW.cg (M' := (S nw nx g, 78 + gn, (em c e be le hd ls st pr (uN iv 0 0) fa eb ml mf rw dn (gR P) (gN P) mm))) (congrArg (fun m => (S nw nx g, 78 + gn, m)) em_w7) ?_
    exact sw_vret (dX1_fillProducts.at 59 rfl) rfl (Nat.le_refl _) (Nat.le_refl _) hv
  · replace hv := hv.2.2.2 q
    refine sw_aload_n (dX1_fillProducts.at 6 rfl) rfl rfl ?_
    refine sw_getR (dX1_fillProducts.at 7 rfl) fp_X1_27 (S_e_lt he) (S_e he) rfl rfl ?_
    refine sw_iload_n (dX1_fillProducts.at 8 rfl) rfl rfl ?_
    refine sw_bipush (dX1_fillProducts.at 9 rfl) (by decide) ?_
    refine sw_imul (dX1_fillProducts.at 10 rfl) ?_
    refine sw_topI (y := ((xx * 60 : Nat) : Int)) (by first | rfl | (congr 1)) ?_
    refine sw_iload_n (dX1_fillProducts.at 11 rfl) rfl rfl ?_
    refine sw_iastN (xx * 60) (dX1_fillProducts.at 12 rfl) (S_ek_lt he (by decide)) (S_e_6 he) (by decide) hv.1 ?_
    refine SW.cg (M' := (S nw nx g, 78 + gn, (em c e be le hd ls st (uN pr (xx * 60) xx) iv fa eb ml mf rw dn (gR P) (gN P) mm))) (congrArg (fun m => (S nw nx g, 78 + gn, m)) em_w6) ?_
    replace hv := hv.2
    refine sw_iconst (dX1_fillProducts.at 13 rfl) ?_
    refine sw_istore_n (lo' := [some (vr (e)), some (vi (((xx : Nat) : Int))), some (vi (1))]) (dX1_fillProducts.at 14 rfl) rfl (by decide) rfl ?_
    exact hv

set_option maxHeartbeats 2000000 in
set_option maxRecDepth 20000 in
theorem g_X1_fillProducts_22 {G : GG} {j nw nx gn : Nat} {g : Nat → Sh} {c : Nat → Nat → Int} {post : Option AV → AM → Prop} {e : Nat} (he : e = 21 ∨ e = 35) {P : GD} {be : Nat → Nat} {le : Nat → Nat} {hd : Nat → Nat} {ls : Nat → Nat} {st : Nat → Int} {pr : Nat → Nat} {iv : Nat → Nat} {fa : Nat → Nat} {eb : Nat → Nat} {ml : Nat → Nat} {mf : Nat → Int} {rw : Nat → Nat} {dn : Nat → Nat} {mm : Nat} {xx : Nat} {yy : Nat} (hle : ∀ x, x < gN P → le x = gL P x) (hhd : ∀ x, x < gN P → hd x = gH P x) (hls : ∀ x, x < gN P → ls x = gA P x) (hst : ∀ x s, x < gN P → s < gR P → st (x * 5 + s) = ((gS P x s : Nat) : Int)) (hV : GV P) (hC : GC P)  (hv : (yy < 2147483648) ∧ (gN P < 2147483648) ∧ (((gN P ≤ yy) → SW G (j + 1) mX1_fillProducts 2 [some (vr (e)), some (vi (((xx + 1 : Nat) : Int))), none] [] (S nw nx g, 78 + gn, (em c e be le hd ls st pr iv fa eb ml mf rw dn (gR P) (gN P) mm)) B0 post) ∧ ((¬ (gN P ≤ yy)) → (yy < gN P) ∧ (yy < 60) ∧ ((xx < 60) ∧ (gH P yy < 60) ∧ ((yy < gN P) ∧ (yy < 60) ∧ ((pr (xx * 60 + (gH P yy)) < gN P) ∧ (gA P yy < gR P) ∧ (((xx * 60) + yy < 3600) ∧ ((xx < 60) ∧ (yy < 60) ∧ (((uN pr ((xx * 60) + yy) (gS P (pr (xx * 60 + (gH P yy))) (gA P yy))) (xx * 60 + yy) < 2147483648) ∧ ((((uN pr ((xx * 60) + yy) (gS P (pr (xx * 60 + (gH P yy))) (gA P yy))) (xx * 60 + yy) ≠ 0) → SW G (j + 1) mX1_fillProducts 22 [some (vr (e)), some (vi (((xx : Nat) : Int))), some (vi (((yy + 1 : Nat) : Int)))] [] (S nw nx g, 78 + gn, (em c e be le hd ls st (uN pr ((xx * 60) + yy) (gS P (pr (xx * 60 + (gH P yy))) (gA P yy))) iv fa eb ml mf rw dn (gR P) (gN P) mm)) B0 post) ∧ (((uN pr ((xx * 60) + yy) (gS P (pr (xx * 60 + (gH P yy))) (gA P yy))) (xx * 60 + yy) = 0) → (xx < 60) ∧ (SW G (j + 1) mX1_fillProducts 22 [some (vr (e)), some (vi (((xx : Nat) : Int))), some (vi (((yy + 1 : Nat) : Int)))] [] (S nw nx g, 78 + gn, (em c e be le hd ls st (uN pr ((xx * 60) + yy) (gS P (pr (xx * 60 + (gH P yy))) (gA P yy))) (uN iv xx yy) fa eb ml mf rw dn (gR P) (gN P) mm)) B0 post)))))))))))) :
    SW G (j + 1) mX1_fillProducts 22 [some (vr (e)), some (vi (((xx : Nat) : Int))), some (vi (((yy : Nat) : Int)))] [] (S nw nx g, 78 + gn, (em c e be le hd ls st pr iv fa eb ml mf rw dn (gR P) (gN P) mm)) B0 post := by
  refine sw_iload_n (dX1_fillProducts.at 15 rfl) rfl rfl ?_
  refine sw_aload_n (dX1_fillProducts.at 16 rfl) rfl rfl ?_
  refine sw_getIE (w := ((gN P : Nat) : Int)) (dX1_fillProducts.at 17 rfl) fp_X1_59 (S_e_lt he) (S_e he) rfl em_f14 ?_
  refine sw_icmpN_ge yy (gN P) (tgt := 84) (dX1_fillProducts.at 18 rfl) (by decide) hv.1 hv.2.1 (fun q => ?_) (fun q => ?_)
  · replace hv := hv.2.2.1 q
    refine sw_iinc (lo' := [some (vr (e)), some (vi (((xx + 1 : Nat) : Int))), some (vi (((yy : Nat) : Int)))]) (dX1_fillProducts.at 52 rfl) rfl (by decide) rfl ?_
    refine sw_goto (tgt := 2) (dX1_fillProducts.at 53 rfl) (by decide) ?_
    exact sw_mask (bs := [true, true, false]) hv
  · replace hv := hv.2.2.2 q
    refine sw_aload_n (dX1_fillProducts.at 19 rfl) rfl rfl ?_
    refine sw_getR (dX1_fillProducts.at 20 rfl) fp_X1_27 (S_e_lt he) (S_e he) rfl rfl ?_
    refine sw_iload_n (dX1_fillProducts.at 21 rfl) rfl rfl ?_
    refine sw_bipush (dX1_fillProducts.at 22 rfl) (by decide) ?_
    refine sw_imul (dX1_fillProducts.at 23 rfl) ?_
    refine sw_topI (y := ((xx * 60 : Nat) : Int)) (by first | rfl | (congr 1)) ?_
    refine sw_iload_n (dX1_fillProducts.at 24 rfl) rfl rfl ?_
    refine sw_iadd (dX1_fillProducts.at 25 rfl) ?_
    refine sw_topI (y := (((xx * 60) + yy : Nat) : Int)) (by first | rfl | (congr 1)) ?_
    refine sw_aload_n (dX1_fillProducts.at 26 rfl) rfl rfl ?_
    refine sw_aload_n (dX1_fillProducts.at 27 rfl) rfl rfl ?_
    refine sw_iload_n (dX1_fillProducts.at 28 rfl) rfl rfl ?_
    refine sw_aload_n (dX1_fillProducts.at 29 rfl) rfl rfl ?_
    refine sw_getR (dX1_fillProducts.at 30 rfl) fp_X1_18 (S_e_lt he) (S_e he) rfl rfl ?_
    refine sw_iload_n (dX1_fillProducts.at 31 rfl) rfl rfl ?_
    refine sw_ialdN yy (w := ((gH P yy : Nat) : Int)) (dX1_fillProducts.at 32 rfl) (S_ek_lt he (by decide)) (S_e_3 he) (by decide) hv.2.1 (em_r3.trans (congrArg Int.ofNat (hhd _ hv.1))) ?_
    replace hv := hv.2.2
    refine sw_callV (B' := B0) (As := [vi (((xx : Nat) : Int)), vi (((gH P yy : Nat) : Int))]) (mc := 0) (ms := 0) (dX1_fillProducts.at 33 rfl) lk_X1_110 (S_e_lt he) (S_e he) rfl rfl (Nat.le_of_ble_eq_true rfl) rfl (Nat.le_refl _) (Nat.le_refl _) ?_
    refine c_X1_mulE (x := xx) (y := (gH P yy)) (j := j + 0) he hv.1 hv.2.1 ?_
    replace hv := hv.2.2
    refine sw_aload_n (dX1_fillProducts.at 34 rfl) rfl rfl ?_
    refine sw_getR (dX1_fillProducts.at 35 rfl) fp_X1_21 (S_e_lt he) (S_e he) rfl rfl ?_
    refine sw_iload_n (dX1_fillProducts.at 36 rfl) rfl rfl ?_
    refine sw_ialdN yy (w := ((gA P yy : Nat) : Int)) (dX1_fillProducts.at 37 rfl) (S_ek_lt he (by decide)) (S_e_4 he) (by decide) hv.2.1 (em_r4.trans (congrArg Int.ofNat (hls _ hv.1))) ?_
    replace hv := hv.2.2
    refine sw_callV (B' := B0) (As := [vi (((pr (xx * 60 + (gH P yy)) : Nat) : Int)), vi (((gA P yy : Nat) : Int))]) (mc := 0) (ms := 0) (dX1_fillProducts.at 38 rfl) lk_X1_92 (S_e_lt he) (S_e he) rfl rfl (Nat.le_of_ble_eq_true rfl) rfl (Nat.le_refl _) (Nat.le_refl _) ?_
    refine c_X1_byN (x := (pr (xx * 60 + (gH P yy)))) (s := (gA P yy)) (j := j + 0) he hst hV hv.1 hv.2.1 ?_
    replace hv := hv.2.2
    refine sw_iastN ((xx * 60) + yy) (dX1_fillProducts.at 39 rfl) (S_ek_lt he (by decide)) (S_e_6 he) (by decide) hv.1 ?_
    refine SW.cg (M' := (S nw nx g, 78 + gn, (em c e be le hd ls st (uN pr ((xx * 60) + yy) (gS P (pr (xx * 60 + (gH P yy))) (gA P yy))) iv fa eb ml mf rw dn (gR P) (gN P) mm))) (congrArg (fun m => (S nw nx g, 78 + gn, m)) em_w6) ?_
    replace hv := hv.2
    refine sw_aload_n (dX1_fillProducts.at 40 rfl) rfl rfl ?_
    refine sw_iload_n (dX1_fillProducts.at 41 rfl) rfl rfl ?_
    refine sw_iload_n (dX1_fillProducts.at 42 rfl) rfl rfl ?_
    refine sw_callV (B' := B0) (As := [vi (((xx : Nat) : Int)), vi (((yy : Nat) : Int))]) (mc := 0) (ms := 0) (dX1_fillProducts.at 43 rfl) lk_X1_110 (S_e_lt he) (S_e he) rfl rfl (Nat.le_of_ble_eq_true rfl) rfl (Nat.le_refl _) (Nat.le_refl _) ?_
    refine c_X1_mulE (x := xx) (y := yy) (j := j + 0) he hv.1 hv.2.1 ?_
    replace hv := hv.2.2
    refine sw_ifN_ne ((uN pr ((xx * 60) + yy) (gS P (pr (xx * 60 + (gH P yy))) (gA P yy))) (xx * 60 + yy)) (tgt := 78) (dX1_fillProducts.at 44 rfl) (by decide) hv.1 (fun q => ?_) (fun q => ?_)
    · replace hv := hv.2.1 q
      refine sw_iinc (lo' := [some (vr (e)), some (vi (((xx : Nat) : Int))), some (vi (((yy + 1 : Nat) : Int)))]) (dX1_fillProducts.at 50 rfl) rfl (by decide) rfl ?_
      refine sw_goto (tgt := 22) (dX1_fillProducts.at 51 rfl) (by decide) ?_
      exact hv
    · replace hv := hv.2.2 q
      refine sw_aload_n (dX1_fillProducts.at 45 rfl) rfl rfl ?_
      refine sw_getR (dX1_fillProducts.at 46 rfl) fp_X1_30 (S_e_lt he) (S_e he) rfl rfl ?_
      refine sw_iload_n (dX1_fillProducts.at 47 rfl) rfl rfl ?_
      refine sw_iload_n (dX1_fillProducts.at 48 rfl) rfl rfl ?_
      refine sw_iastN xx (dX1_fillProducts.at 49 rfl) (S_ek_lt he (by decide)) (S_e_7 he) (by decide) hv.1 ?_
      refine SW.cg (M' := (S nw nx g, 78 + gn, (em c e be le hd ls st (uN pr ((xx * 60) + yy) (gS P (pr (xx * 60 + (gH P yy))) (gA P yy))) (uN iv xx yy) fa eb ml mf rw dn (gR P) (gN P) mm))) (congrArg (fun m => (S nw nx g, 78 + gn, m)) em_w7) ?_
      replace hv := hv.2
      refine sw_iinc (lo' := [some (vr (e)), some (vi (((xx : Nat) : Int))), some (vi (((yy + 1 : Nat) : Int)))]) (dX1_fillProducts.at 50 rfl) rfl (by decide) rfl ?_
      refine sw_goto (tgt := 22) (dX1_fillProducts.at 51 rfl) (by decide) ?_
      exact hv

set_option maxHeartbeats 8000000 in
theorem c_X1_fillProducts {G : GG} {j nw nx gn : Nat} {g : Nat → Sh} {c : Nat → Nat → Int} {post : Option AV → AM → Prop} {e : Nat} {P : GD} {be : Nat → Nat} {le : Nat → Nat} {hd : Nat → Nat} {ls : Nat → Nat} {st : Nat → Int} {pr : Nat → Nat} {iv : Nat → Nat} {fa : Nat → Nat} {eb : Nat → Nat} {ml : Nat → Nat} {mf : Nat → Int} {rw : Nat → Nat} {dn : Nat → Nat} {mm : Nat} (he : e = 21 ∨ e = 35) (hle : ∀ x, x < gN P → le x = gL P x) (hhd : ∀ x, x < gN P → hd x = gH P x) (hls : ∀ x, x < gN P → ls x = gA P x) (hst : ∀ x s, x < gN P → s < gR P → st (x * 5 + s) = ((gS P x s : Nat) : Int)) (hV : GV P) (hC : GC P) (hP : FQ P) (h0 : 0 < gN P) (K : ∀ pr iv : Nat → Nat, (∀ x y, x < gN P → y < gN P → pr (x * 60 + y) = gX P x y) → (∀ x, x < gN P → iv x = gI P x) → post none (S nw nx g, 78 + gn, (em c e be le hd ls st pr iv fa eb ml mf rw dn (gR P) (gN P) mm))) : SM G (j + 2) mX1_fillProducts [vr (e)] (S nw nx g, 78 + gn, (em c e be le hd ls st pr iv fa eb ml mf rw dn (gR P) (gN P) mm)) 0 0 post := by
  have hN := GV_N hV
  have L : ∀ (t xx : Nat) (pr iv : Nat → Nat), xx + t = gN P → (∀ a b, b < gN P → a < xx → pr (a * 60 + b) = gX P a b) → (∀ a, 0 < a → a < xx → iv a = gI P a) → SW G (j + 1) mX1_fillProducts 2 [some (vr (e)), some (vi (((xx : Nat) : Int))), none] [] (S nw nx g, 78 + gn, (em c e be le hd ls st pr iv fa eb ml mf rw dn (gR P) (gN P) mm)) B0 post := by
    intro t
    induction t with
    | zero =>
      intro xx pr iv hx h1 h2
      refine g_X1_fillProducts_2 he hle hhd hls hst hV hC ?_
      refine ⟨?_, ?_, ⟨fun q => ?_, fun q => ⟨?_, ?_⟩⟩⟩
      all_goals first | omega | (exfalso; omega) | skip
      refine K _ _ (fun x y a b => h1 x y b (by omega)) (fun x a => ?_)
      by_cases e : x = 0
      · rw [e, uN, if_pos rfl]; exact hP.1.1.symm
      · rw [uN, if_neg e]; exact h2 x (by omega) (by omega)
    | succ t ih =>
      intro xx pr iv hx h1 h2
      have L22 : ∀ (u yy : Nat) (pr iv : Nat → Nat), yy + u = gN P → 0 < yy → (∀ a b, b < gN P → (a < xx ∨ (a = xx ∧ b < yy)) → pr (a * 60 + b) = gX P a b) → (∀ a, 0 < a → (a < xx ∨ (a = xx ∧ gI P a < yy)) → iv a = gI P a) → SW G (j + 1) mX1_fillProducts 22 [some (vr (e)), some (vi (((xx : Nat) : Int))), some (vi (((yy : Nat) : Int)))] [] (S nw nx g, 78 + gn, (em c e be le hd ls st pr iv fa eb ml mf rw dn (gR P) (gN P) mm)) B0 post := by
        intro u
        induction u with
        | zero =>
          intro yy pr iv hy y0 h1 h2
          have hi := (hV.2.2.1 xx (by omega)).2.2.2.1
          refine g_X1_fillProducts_22 he hle hhd hls hst hV hC ?_
          refine ⟨?_, ?_, ⟨fun q => ?_, fun q => ⟨?_, ?_, ⟨?_, ?_, ⟨?_, ?_, ⟨?_, ?_, ⟨?_, ⟨?_, ?_, ⟨?_, ⟨fun q => ?_, fun q => ⟨?_, ?_⟩⟩⟩⟩⟩⟩⟩⟩⟩⟩⟩
          all_goals first | omega | (exfalso; omega) | exact ih _ _ _ (by omega) (fun a b p q => h1 a b p (by omega)) (fun a p q => h2 a p (by by_cases e : a = xx; (subst e; exact Or.inr ⟨rfl, by omega⟩); exact Or.inl (by omega)))
        | succ u ihu =>
          intro yy pr iv hy y0 h1 h2
          have f1 := hV.2.2.1 yy (by omega)
          have f2 := hC.2.1.2 yy y0 (by omega)
          have f3 := h1 xx (gH P yy) (by omega) (Or.inr ⟨rfl, f2.2⟩)
          have f4 := hV.2.2.2.2.1 xx (gH P yy) (by omega) (by omega)
          have f5 := hC.2.2.1.2 xx yy (by omega) y0 (by omega)
          have f6 := hV.2.2.2.2.1 xx yy (by omega) (by omega)
          have hpr : ∀ a b, b < gN P → (a < xx ∨ (a = xx ∧ b < yy + 1)) → uN pr (xx * 60 + yy) (gX P xx yy) (a * 60 + b) = gX P a b := by
            intro a b p q
            by_cases e : a = xx ∧ b = yy
            · rw [e.1, e.2, uN, if_pos rfl]
            · rw [uN, if_neg (by omega)]; exact h1 a b p (by omega)
          have hself : uN pr (xx * 60 + yy) (gX P xx yy) (xx * 60 + yy) = gX P xx yy := by rw [uN, if_pos rfl]
          refine g_X1_fillProducts_22 he hle hhd hls hst hV hC ?_
          rw [f3, ← f5, hself]
          refine ⟨?_, ?_, ⟨fun q => ?_, fun q => ⟨?_, ?_, ⟨?_, ?_, ⟨?_, ?_, ⟨?_, ?_, ⟨?_, ⟨?_, ?_, ⟨?_, ⟨fun q => ?_, fun q => ⟨?_, ?_⟩⟩⟩⟩⟩⟩⟩⟩⟩⟩⟩
          all_goals first | omega | (exfalso; omega) | skip
          · rename_i q9
            refine ihu _ _ _ (by omega) (by omega) hpr (fun a p r => ?_)
            by_cases e : a = xx ∧ gI P a = yy
            · exfalso
              have := (hP.1.2 a p (by omega)).2 yy y0 (by omega)
              rw [e.1] at this
              have e3 := this.mpr (by rw [← e.1]; exact e.2.symm)
              omega
            · exact h2 a p (by omega)
          · refine ihu _ _ _ (by omega) (by omega) hpr (fun a p r => ?_)
            by_cases e : a = xx
            · subst e
              have := (hP.1.2 a p (by omega)).2 yy y0 (by omega)
              have e3 := this.mp (by omega)
              rw [uN, if_pos rfl]; exact e3
            · rw [uN, if_neg e]; exact h2 a p (by omega)
      have hz := hC.2.2.1.1 xx (by omega)
      refine g_X1_fillProducts_2 he hle hhd hls hst hV hC ?_
      refine ⟨?_, ?_, ⟨fun q => ?_, fun q => ⟨?_, ?_⟩⟩⟩
      all_goals first | omega | (exfalso; omega) | skip
      refine L22 (gN P - 1) 1 _ _ (by omega) (by omega) (fun a b p q => ?_) (fun a p q => ?_)
      · by_cases e : a = xx
        · have eb : b = 0 := by omega
          subst e; subst eb
          rw [uN, if_pos (by omega)]; exact hz.symm
        · rw [uN, if_neg (by omega)]; exact h1 a b p (by omega)
      · refine h2 a p ?_
        rcases q with q | q
        · exact q
        · have := (hP.1.2 a p (by omega)).1
          omega
  refine sm_of wX1_fillProducts rfl (Nat.le_of_ble_eq_true rfl) ?_
  refine g_X1_fillProducts_0 he hle hhd hls hst hV hC ?_
  exact L (gN P) 0 pr iv (by omega) (fun a b _ q => absurd q (by omega)) (fun a _ q => absurd q (by omega))

